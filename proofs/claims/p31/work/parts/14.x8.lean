set_option maxRecDepth 20000 in
theorem ggX8_init_Jx4a65c_init_da8c8 : GoodIn wsX8_init wsJx4a65c_init_da8c8 := goodIn_r _ [16, 17, 18, 19, 20, 21, 22, 23, 24, 25, 26, 27, 28, 2, 3, 35, 36, 37] (by decide +kernel) (by decide +kernel)
set_option maxRecDepth 20000 in
theorem gX8_init_Jx4a65c_init_da8c8 : GoodIn wsX8_init (wsJx4a65c_init_da8c8) := ggX8_init_Jx4a65c_init_da8c8
theorem dX8_init_0 : decode cX8_init 0 = .ok (.aload_n 0, 1) := by decide +kernel
theorem dX8_init_1 : decode cX8_init 1 = .ok (.invokespecial 1, 3) := by decide +kernel
theorem dX8_init_4 : decode cX8_init 4 = .ok (.aload_n 0, 1) := by decide +kernel
theorem dX8_init_5 : decode cX8_init 5 = .ok (.bipush 48, 2) := by decide +kernel
theorem dX8_init_7 : decode cX8_init 7 = .ok (.newarray .int, 2) := by decide +kernel
theorem dX8_init_9 : decode cX8_init 9 = .ok (.putfield 9, 3) := by decide +kernel
theorem dX8_init_12 : decode cX8_init 12 = .ok (.iconst 0, 1) := by decide +kernel
theorem dX8_init_13 : decode cX8_init 13 = .ok (.istore_n 1, 1) := by decide +kernel
theorem dX8_init_14 : decode cX8_init 14 = .ok (.iload_n 1, 1) := by decide +kernel
theorem dX8_init_15 : decode cX8_init 15 = .ok (.aload_n 0, 1) := by decide +kernel
theorem dX8_init_16 : decode cX8_init 16 = .ok (.getfield 9, 3) := by decide +kernel
theorem dX8_init_19 : decode cX8_init 19 = .ok (.arraylength, 1) := by decide +kernel
theorem dX8_init_20 : decode cX8_init 20 = .ok (.if_icmp .ge 16, 3) := by decide +kernel
theorem dX8_init_23 : decode cX8_init 23 = .ok (.aload_n 0, 1) := by decide +kernel
theorem dX8_init_24 : decode cX8_init 24 = .ok (.getfield 9, 3) := by decide +kernel
theorem dX8_init_27 : decode cX8_init 27 = .ok (.iload_n 1, 1) := by decide +kernel
theorem dX8_init_28 : decode cX8_init 28 = .ok (.iconst (-1), 1) := by decide +kernel
theorem dX8_init_29 : decode cX8_init 29 = .ok (.iastore, 1) := by decide +kernel
theorem dX8_init_30 : decode cX8_init 30 = .ok (.iinc 1 1, 3) := by decide +kernel
theorem dX8_init_33 : decode cX8_init 33 = .ok (.goto (-19), 3) := by decide +kernel
theorem dX8_init_36 : decode cX8_init 36 = .ok (.aload_n 0, 1) := by decide +kernel
theorem dX8_init_37 : decode cX8_init 37 = .ok (.new 13, 3) := by decide +kernel
theorem dX8_init_40 : decode cX8_init 40 = .ok (.dup, 1) := by decide +kernel
theorem dX8_init_41 : decode cX8_init 41 = .ok (.invokespecial 15, 3) := by decide +kernel
theorem dX8_init_44 : decode cX8_init 44 = .ok (.putfield 16, 3) := by decide +kernel
theorem dX8_init_47 : decode cX8_init 47 = .ok (.aload_n 0, 1) := by decide +kernel
theorem dX8_init_48 : decode cX8_init 48 = .ok (.new 13, 3) := by decide +kernel
theorem dX8_init_51 : decode cX8_init 51 = .ok (.dup, 1) := by decide +kernel
theorem dX8_init_52 : decode cX8_init 52 = .ok (.invokespecial 15, 3) := by decide +kernel
theorem dX8_init_55 : decode cX8_init 55 = .ok (.putfield 20, 3) := by decide +kernel
theorem dX8_init_58 : decode cX8_init 58 = .ok (.aload_n 0, 1) := by decide +kernel
theorem dX8_init_59 : decode cX8_init 59 = .ok (.new 13, 3) := by decide +kernel
theorem dX8_init_62 : decode cX8_init 62 = .ok (.dup, 1) := by decide +kernel
theorem dX8_init_63 : decode cX8_init 63 = .ok (.invokespecial 15, 3) := by decide +kernel
theorem dX8_init_66 : decode cX8_init 66 = .ok (.putfield 23, 3) := by decide +kernel
theorem dX8_init_69 : decode cX8_init 69 = .ok (.aload_n 0, 1) := by decide +kernel
theorem dX8_init_70 : decode cX8_init 70 = .ok (.new 13, 3) := by decide +kernel
theorem dX8_init_73 : decode cX8_init 73 = .ok (.dup, 1) := by decide +kernel
theorem dX8_init_74 : decode cX8_init 74 = .ok (.invokespecial 15, 3) := by decide +kernel
theorem dX8_init_77 : decode cX8_init 77 = .ok (.putfield 26, 3) := by decide +kernel
theorem dX8_init_80 : decode cX8_init 80 = .ok (.aload_n 0, 1) := by decide +kernel
theorem dX8_init_81 : decode cX8_init 81 = .ok (.iconst 0, 1) := by decide +kernel
theorem dX8_init_82 : decode cX8_init 82 = .ok (.putfield 29, 3) := by decide +kernel
theorem dX8_init_85 : decode cX8_init 85 = .ok (.return_, 1) := by decide +kernel
set_option maxRecDepth 20000 in
theorem ggX8_addTender_X8_isOutside : GoodIn wsX8_addTender wsX8_isOutside := goodIn_r _ [13] (by decide +kernel) (by decide +kernel)
set_option maxRecDepth 20000 in
theorem gX8_addTender_X8_isOutside : GoodIn wsX8_addTender (va_wsS RX8 33 yX8_isOutside wsX8_isOutside) := goodIn_app (goodIn_of _ (by decide +kernel)) ggX8_addTender_X8_isOutside
set_option maxRecDepth 20000 in
theorem ggX8_addTender_Jx4a65c_size_8abf5 : GoodIn wsX8_addTender wsJx4a65c_size_8abf5 := goodIn_r _ [18, 19, 113, 114, 115] (by decide +kernel) (by decide +kernel)
set_option maxRecDepth 20000 in
theorem gX8_addTender_Jx4a65c_size_8abf5 : GoodIn wsX8_addTender (wsV RX8 40 RJx4a65c yJx4a65c_size_8abf5 wsJx4a65c_size_8abf5) := goodIn_app (goodIn_of _ (by decide +kernel)) ggX8_addTender_Jx4a65c_size_8abf5
set_option maxRecDepth 20000 in
theorem ggX8_addTender_X7_init : GoodIn wsX8_addTender wsX7_init := goodIn_r _ [22, 23, 24, 25, 26, 27, 17, 28, 29, 30, 31, 32, 33, 34, 35, 36, 37, 38, 39, 40, 41, 42, 43, 44, 45, 46, 47, 48, 113, 114, 115, 107, 108, 109, 110, 111, 112] (by decide +kernel) (by decide +kernel)
set_option maxRecDepth 20000 in
theorem gX8_addTender_X7_init : GoodIn wsX8_addTender (wsX7_init) := ggX8_addTender_X7_init
set_option maxRecDepth 20000 in
theorem ggX8_addTender_Jx4a65c_add_9ea2d : GoodIn wsX8_addTender wsJx4a65c_add_9ea2d := goodIn_r _ [52, 53, 54, 38, 19, 55, 56, 57, 17, 58, 59, 60, 61, 62, 63, 64, 65, 66, 37, 67, 68, 69, 70, 71, 72, 73, 74, 75, 76, 77, 78, 79, 80, 81, 82, 83, 84, 85, 86, 87, 88, 89, 90, 91, 92, 93, 94, 95, 96, 97, 98, 99, 100, 113, 114, 115] (by decide +kernel) (by decide +kernel)
set_option maxRecDepth 20000 in
theorem gX8_addTender_Jx4a65c_add_9ea2d : GoodIn wsX8_addTender (wsV RX8 52 RJx4a65c yJx4a65c_add_9ea2d wsJx4a65c_add_9ea2d) := goodIn_app (goodIn_of _ (by decide +kernel)) ggX8_addTender_Jx4a65c_add_9ea2d
theorem dX8_addTender_0 : decode cX8_addTender 0 = .ok (.iload_n 1, 1) := by decide +kernel
theorem dX8_addTender_1 : decode cX8_addTender 1 = .ok (.iconst 1, 1) := by decide +kernel
theorem dX8_addTender_2 : decode cX8_addTender 2 = .ok (.sipush 1000, 3) := by decide +kernel
theorem dX8_addTender_5 : decode cX8_addTender 5 = .ok (.invokestatic 33, 3) := by decide +kernel
theorem dX8_addTender_8 : decode cX8_addTender 8 = .ok (.ifCond .ne 42, 3) := by decide +kernel
theorem dX8_addTender_11 : decode cX8_addTender 11 = .ok (.iload_n 1, 1) := by decide +kernel
theorem dX8_addTender_12 : decode cX8_addTender 12 = .ok (.aload_n 0, 1) := by decide +kernel
theorem dX8_addTender_13 : decode cX8_addTender 13 = .ok (.getfield 29, 3) := by decide +kernel
theorem dX8_addTender_16 : decode cX8_addTender 16 = .ok (.if_icmp .le 34, 3) := by decide +kernel
theorem dX8_addTender_19 : decode cX8_addTender 19 = .ok (.iload_n 2, 1) := by decide +kernel
theorem dX8_addTender_20 : decode cX8_addTender 20 = .ok (.iconst 0, 1) := by decide +kernel
theorem dX8_addTender_21 : decode cX8_addTender 21 = .ok (.bipush 63, 2) := by decide +kernel
theorem dX8_addTender_23 : decode cX8_addTender 23 = .ok (.invokestatic 33, 3) := by decide +kernel
theorem dX8_addTender_26 : decode cX8_addTender 26 = .ok (.ifCond .ne 24, 3) := by decide +kernel
theorem dX8_addTender_29 : decode cX8_addTender 29 = .ok (.iload_n 3, 1) := by decide +kernel
theorem dX8_addTender_30 : decode cX8_addTender 30 = .ok (.iconst 0, 1) := by decide +kernel
theorem dX8_addTender_31 : decode cX8_addTender 31 = .ok (.bipush 100, 2) := by decide +kernel
theorem dX8_addTender_33 : decode cX8_addTender 33 = .ok (.invokestatic 33, 3) := by decide +kernel
theorem dX8_addTender_36 : decode cX8_addTender 36 = .ok (.ifCond .ne 14, 3) := by decide +kernel
theorem dX8_addTender_39 : decode cX8_addTender 39 = .ok (.iload 4, 2) := by decide +kernel
theorem dX8_addTender_41 : decode cX8_addTender 41 = .ok (.iconst 0, 1) := by decide +kernel
theorem dX8_addTender_42 : decode cX8_addTender 42 = .ok (.bipush 30, 2) := by decide +kernel
theorem dX8_addTender_44 : decode cX8_addTender 44 = .ok (.invokestatic 33, 3) := by decide +kernel
theorem dX8_addTender_47 : decode cX8_addTender 47 = .ok (.ifCond .eq 11, 3) := by decide +kernel
theorem dX8_addTender_50 : decode cX8_addTender 50 = .ok (.new 37, 3) := by decide +kernel
theorem dX8_addTender_53 : decode cX8_addTender 53 = .ok (.dup, 1) := by decide +kernel
theorem dX8_addTender_54 : decode cX8_addTender 54 = .ok (.invokespecial 39, 3) := by decide +kernel
theorem dX8_addTender_57 : decode cX8_addTender 57 = .ok (.athrow, 1) := by decide +kernel
theorem dX8_addTender_58 : decode cX8_addTender 58 = .ok (.aload_n 0, 1) := by decide +kernel
theorem dX8_addTender_59 : decode cX8_addTender 59 = .ok (.getfield 16, 3) := by decide +kernel
theorem dX8_addTender_62 : decode cX8_addTender 62 = .ok (.invokevirtual 40, 3) := by decide +kernel
theorem dX8_addTender_65 : decode cX8_addTender 65 = .ok (.istore 5, 2) := by decide +kernel
theorem dX8_addTender_67 : decode cX8_addTender 67 = .ok (.iload 5, 2) := by decide +kernel
theorem dX8_addTender_69 : decode cX8_addTender 69 = .ok (.bipush 6, 2) := by decide +kernel
theorem dX8_addTender_71 : decode cX8_addTender 71 = .ok (.if_icmp .lt 11, 3) := by decide +kernel
theorem dX8_addTender_74 : decode cX8_addTender 74 = .ok (.new 44, 3) := by decide +kernel
theorem dX8_addTender_77 : decode cX8_addTender 77 = .ok (.dup, 1) := by decide +kernel
theorem dX8_addTender_78 : decode cX8_addTender 78 = .ok (.invokespecial 46, 3) := by decide +kernel
theorem dX8_addTender_81 : decode cX8_addTender 81 = .ok (.athrow, 1) := by decide +kernel
theorem dX8_addTender_82 : decode cX8_addTender 82 = .ok (.aload_n 0, 1) := by decide +kernel
theorem dX8_addTender_83 : decode cX8_addTender 83 = .ok (.getfield 16, 3) := by decide +kernel
theorem dX8_addTender_86 : decode cX8_addTender 86 = .ok (.new 47, 3) := by decide +kernel
theorem dX8_addTender_89 : decode cX8_addTender 89 = .ok (.dup, 1) := by decide +kernel
theorem dX8_addTender_90 : decode cX8_addTender 90 = .ok (.iload 5, 2) := by decide +kernel
theorem dX8_addTender_92 : decode cX8_addTender 92 = .ok (.iload_n 1, 1) := by decide +kernel
theorem dX8_addTender_93 : decode cX8_addTender 93 = .ok (.iload_n 2, 1) := by decide +kernel
theorem dX8_addTender_94 : decode cX8_addTender 94 = .ok (.iload_n 3, 1) := by decide +kernel
theorem dX8_addTender_95 : decode cX8_addTender 95 = .ok (.iload 4, 2) := by decide +kernel
theorem dX8_addTender_97 : decode cX8_addTender 97 = .ok (.invokespecial 49, 3) := by decide +kernel
theorem dX8_addTender_100 : decode cX8_addTender 100 = .ok (.invokevirtual 52, 3) := by decide +kernel
theorem dX8_addTender_103 : decode cX8_addTender 103 = .ok (.pop, 1) := by decide +kernel
theorem dX8_addTender_104 : decode cX8_addTender 104 = .ok (.iload 5, 2) := by decide +kernel
theorem dX8_addTender_106 : decode cX8_addTender 106 = .ok (.ireturn, 1) := by decide +kernel
set_option maxRecDepth 20000 in
theorem ggX8_addLot_X8_tenderAt : GoodIn wsX8_addLot wsX8_tenderAt := goodIn_ca (goodIn_r _ [13, 14, 15, 16, 17, 18, 19, 20, 21, 22, 23, 24, 25, 26, 27, 28, 29, 30, 31, 32, 33, 34, 35, 36, 37, 38, 39, 40, 140, 141, 142, 143, 144, 145, 146, 147, 148] (by decide +kernel) (by decide +kernel)) (goodIn_sub (fun _ h => List.mem_cons_of_mem _ (List.mem_append_right _ h)) (by decide +kernel))
set_option maxRecDepth 20000 in
theorem gX8_addLot_X8_tenderAt : GoodIn wsX8_addLot (wsV RX8 56 RX8 yX8_tenderAt wsX8_tenderAt) := goodIn_app (goodIn_of _ (by decide +kernel)) ggX8_addLot_X8_tenderAt
set_option maxRecDepth 20000 in
theorem ggX8_addLot_X8_isOutside : GoodIn wsX8_addLot wsX8_isOutside := goodIn_r _ [43] (by decide +kernel) (by decide +kernel)
set_option maxRecDepth 20000 in
theorem gX8_addLot_X8_isOutside : GoodIn wsX8_addLot (va_wsS RX8 33 yX8_isOutside wsX8_isOutside) := goodIn_app (goodIn_of _ (by decide +kernel)) ggX8_addLot_X8_isOutside
set_option maxRecDepth 20000 in
theorem ggX8_addLot_Jx4a65c_size_8abf5 : GoodIn wsX8_addLot wsJx4a65c_size_8abf5 := goodIn_r _ [22, 23, 146, 147, 148] (by decide +kernel) (by decide +kernel)
set_option maxRecDepth 20000 in
theorem gX8_addLot_Jx4a65c_size_8abf5 : GoodIn wsX8_addLot (wsV RX8 40 RJx4a65c yJx4a65c_size_8abf5 wsJx4a65c_size_8abf5) := goodIn_app (goodIn_of _ (by decide +kernel)) ggX8_addLot_Jx4a65c_size_8abf5
set_option maxRecDepth 20000 in
theorem ggX8_addLot_X8_isOpened : GoodIn wsX8_addLot wsX8_isOpened := goodIn_r _ [47, 48, 49, 140, 141, 142, 143, 144, 145, 129, 130, 131, 132, 133, 134] (by decide +kernel) (by decide +kernel)
set_option maxRecDepth 20000 in
theorem gX8_addLot_X8_isOpened : GoodIn wsX8_addLot (wsV RX8 63 RX8 yX8_isOpened wsX8_isOpened) := goodIn_app (goodIn_of _ (by decide +kernel)) ggX8_addLot_X8_isOpened
set_option maxRecDepth 20000 in
theorem ggX8_addLot_X5_init : GoodIn wsX8_addLot wsX5_init := goodIn_r _ [52, 53, 54, 55, 56, 57, 21, 58, 59, 60, 61, 62, 63, 64, 65, 66, 40, 67, 68, 69, 70, 71, 72, 73, 74, 75, 76, 146, 147, 148, 135, 136, 137, 138, 139] (by decide +kernel) (by decide +kernel)
set_option maxRecDepth 20000 in
theorem gX8_addLot_X5_init : GoodIn wsX8_addLot (wsX5_init) := ggX8_addLot_X5_init
set_option maxRecDepth 20000 in
theorem ggX8_addLot_Jx4a65c_add_9ea2d : GoodIn wsX8_addLot wsJx4a65c_add_9ea2d := goodIn_r _ [80, 81, 82, 40, 23, 83, 84, 85, 21, 86, 87, 88, 89, 90, 91, 92, 93, 94, 66, 95, 96, 97, 98, 99, 100, 101, 102, 103, 104, 105, 106, 107, 108, 109, 110, 111, 112, 113, 114, 115, 116, 117, 118, 119, 120, 121, 122, 123, 124, 125, 126, 127, 128, 146, 147, 148] (by decide +kernel) (by decide +kernel)
set_option maxRecDepth 20000 in
theorem gX8_addLot_Jx4a65c_add_9ea2d : GoodIn wsX8_addLot (wsV RX8 52 RJx4a65c yJx4a65c_add_9ea2d wsJx4a65c_add_9ea2d) := goodIn_app (goodIn_of _ (by decide +kernel)) ggX8_addLot_Jx4a65c_add_9ea2d
theorem dX8_addLot_0 : decode cX8_addLot 0 = .ok (.aload_n 0, 1) := by decide +kernel
theorem dX8_addLot_1 : decode cX8_addLot 1 = .ok (.iload_n 1, 1) := by decide +kernel
theorem dX8_addLot_2 : decode cX8_addLot 2 = .ok (.invokevirtual 56, 3) := by decide +kernel
theorem dX8_addLot_5 : decode cX8_addLot 5 = .ok (.astore_n 3, 1) := by decide +kernel
theorem dX8_addLot_6 : decode cX8_addLot 6 = .ok (.iload_n 2, 1) := by decide +kernel
theorem dX8_addLot_7 : decode cX8_addLot 7 = .ok (.iconst 0, 1) := by decide +kernel
theorem dX8_addLot_8 : decode cX8_addLot 8 = .ok (.sipush 10000, 3) := by decide +kernel
theorem dX8_addLot_11 : decode cX8_addLot 11 = .ok (.invokestatic 33, 3) := by decide +kernel
theorem dX8_addLot_14 : decode cX8_addLot 14 = .ok (.ifCond .eq 11, 3) := by decide +kernel
theorem dX8_addLot_17 : decode cX8_addLot 17 = .ok (.new 37, 3) := by decide +kernel
theorem dX8_addLot_20 : decode cX8_addLot 20 = .ok (.dup, 1) := by decide +kernel
theorem dX8_addLot_21 : decode cX8_addLot 21 = .ok (.invokespecial 39, 3) := by decide +kernel
theorem dX8_addLot_24 : decode cX8_addLot 24 = .ok (.athrow, 1) := by decide +kernel
theorem dX8_addLot_25 : decode cX8_addLot 25 = .ok (.aload_n 3, 1) := by decide +kernel
theorem dX8_addLot_26 : decode cX8_addLot 26 = .ok (.getfield 60, 3) := by decide +kernel
theorem dX8_addLot_29 : decode cX8_addLot 29 = .ok (.invokevirtual 40, 3) := by decide +kernel
theorem dX8_addLot_32 : decode cX8_addLot 32 = .ok (.istore 4, 2) := by decide +kernel
theorem dX8_addLot_34 : decode cX8_addLot 34 = .ok (.iload 4, 2) := by decide +kernel
theorem dX8_addLot_36 : decode cX8_addLot 36 = .ok (.iconst 3, 1) := by decide +kernel
theorem dX8_addLot_37 : decode cX8_addLot 37 = .ok (.if_icmp .ge 11, 3) := by decide +kernel
theorem dX8_addLot_40 : decode cX8_addLot 40 = .ok (.aload_n 0, 1) := by decide +kernel
theorem dX8_addLot_41 : decode cX8_addLot 41 = .ok (.aload_n 3, 1) := by decide +kernel
theorem dX8_addLot_42 : decode cX8_addLot 42 = .ok (.invokevirtual 63, 3) := by decide +kernel
theorem dX8_addLot_45 : decode cX8_addLot 45 = .ok (.ifCond .eq 11, 3) := by decide +kernel
theorem dX8_addLot_48 : decode cX8_addLot 48 = .ok (.new 44, 3) := by decide +kernel
theorem dX8_addLot_51 : decode cX8_addLot 51 = .ok (.dup, 1) := by decide +kernel
theorem dX8_addLot_52 : decode cX8_addLot 52 = .ok (.invokespecial 46, 3) := by decide +kernel
theorem dX8_addLot_55 : decode cX8_addLot 55 = .ok (.athrow, 1) := by decide +kernel
theorem dX8_addLot_56 : decode cX8_addLot 56 = .ok (.aload_n 3, 1) := by decide +kernel
theorem dX8_addLot_57 : decode cX8_addLot 57 = .ok (.getfield 60, 3) := by decide +kernel
theorem dX8_addLot_60 : decode cX8_addLot 60 = .ok (.new 67, 3) := by decide +kernel
theorem dX8_addLot_63 : decode cX8_addLot 63 = .ok (.dup, 1) := by decide +kernel
theorem dX8_addLot_64 : decode cX8_addLot 64 = .ok (.aload_n 3, 1) := by decide +kernel
theorem dX8_addLot_65 : decode cX8_addLot 65 = .ok (.iload 4, 2) := by decide +kernel
theorem dX8_addLot_67 : decode cX8_addLot 67 = .ok (.iload_n 2, 1) := by decide +kernel
theorem dX8_addLot_68 : decode cX8_addLot 68 = .ok (.invokespecial 69, 3) := by decide +kernel
theorem dX8_addLot_71 : decode cX8_addLot 71 = .ok (.invokevirtual 52, 3) := by decide +kernel
theorem dX8_addLot_74 : decode cX8_addLot 74 = .ok (.pop, 1) := by decide +kernel
theorem dX8_addLot_75 : decode cX8_addLot 75 = .ok (.iload 4, 2) := by decide +kernel
theorem dX8_addLot_77 : decode cX8_addLot 77 = .ok (.ireturn, 1) := by decide +kernel
set_option maxRecDepth 20000 in
theorem ggX8_paper_X8_paperSlot : GoodIn wsX8_paper wsX8_paperSlot := goodIn_r _ [9, 10, 11, 8, 12] (by decide +kernel) (by decide +kernel)
set_option maxRecDepth 20000 in
theorem gX8_paper_X8_paperSlot : GoodIn wsX8_paper (va_wsS RX8 72 yX8_paperSlot wsX8_paperSlot) := goodIn_app (goodIn_of _ (by decide +kernel)) ggX8_paper_X8_paperSlot
set_option maxRecDepth 20000 in
theorem ggX8_paper_X8_isOutside : GoodIn wsX8_paper wsX8_isOutside := goodIn_r _ [12] (by decide +kernel) (by decide +kernel)
set_option maxRecDepth 20000 in
theorem gX8_paper_X8_isOutside : GoodIn wsX8_paper (va_wsS RX8 33 yX8_isOutside wsX8_isOutside) := goodIn_app (goodIn_of _ (by decide +kernel)) ggX8_paper_X8_isOutside
theorem dX8_paper_0 : decode cX8_paper 0 = .ok (.iload_n 1, 1) := by decide +kernel
theorem dX8_paper_1 : decode cX8_paper 1 = .ok (.iload_n 2, 1) := by decide +kernel
theorem dX8_paper_2 : decode cX8_paper 2 = .ok (.invokestatic 72, 3) := by decide +kernel
theorem dX8_paper_5 : decode cX8_paper 5 = .ok (.istore 4, 2) := by decide +kernel
theorem dX8_paper_7 : decode cX8_paper 7 = .ok (.iload 4, 2) := by decide +kernel
theorem dX8_paper_9 : decode cX8_paper 9 = .ok (.iconst (-1), 1) := by decide +kernel
theorem dX8_paper_10 : decode cX8_paper 10 = .ok (.if_icmp .ne 11, 3) := by decide +kernel
theorem dX8_paper_13 : decode cX8_paper 13 = .ok (.new 76, 3) := by decide +kernel
theorem dX8_paper_16 : decode cX8_paper 16 = .ok (.dup, 1) := by decide +kernel
theorem dX8_paper_17 : decode cX8_paper 17 = .ok (.invokespecial 78, 3) := by decide +kernel
theorem dX8_paper_20 : decode cX8_paper 20 = .ok (.athrow, 1) := by decide +kernel
theorem dX8_paper_21 : decode cX8_paper 21 = .ok (.iload_n 3, 1) := by decide +kernel
theorem dX8_paper_22 : decode cX8_paper 22 = .ok (.iconst (-1), 1) := by decide +kernel
theorem dX8_paper_23 : decode cX8_paper 23 = .ok (.sipush 2000, 3) := by decide +kernel
theorem dX8_paper_26 : decode cX8_paper 26 = .ok (.invokestatic 33, 3) := by decide +kernel
theorem dX8_paper_29 : decode cX8_paper 29 = .ok (.ifCond .eq 11, 3) := by decide +kernel
theorem dX8_paper_32 : decode cX8_paper 32 = .ok (.new 37, 3) := by decide +kernel
theorem dX8_paper_35 : decode cX8_paper 35 = .ok (.dup, 1) := by decide +kernel
theorem dX8_paper_36 : decode cX8_paper 36 = .ok (.invokespecial 39, 3) := by decide +kernel
theorem dX8_paper_39 : decode cX8_paper 39 = .ok (.athrow, 1) := by decide +kernel
theorem dX8_paper_40 : decode cX8_paper 40 = .ok (.aload_n 0, 1) := by decide +kernel
theorem dX8_paper_41 : decode cX8_paper 41 = .ok (.getfield 9, 3) := by decide +kernel
theorem dX8_paper_44 : decode cX8_paper 44 = .ok (.iload 4, 2) := by decide +kernel
theorem dX8_paper_46 : decode cX8_paper 46 = .ok (.iaload, 1) := by decide +kernel
theorem dX8_paper_47 : decode cX8_paper 47 = .ok (.istore 5, 2) := by decide +kernel
theorem dX8_paper_49 : decode cX8_paper 49 = .ok (.aload_n 0, 1) := by decide +kernel
theorem dX8_paper_50 : decode cX8_paper 50 = .ok (.getfield 9, 3) := by decide +kernel
theorem dX8_paper_53 : decode cX8_paper 53 = .ok (.iload 4, 2) := by decide +kernel
theorem dX8_paper_55 : decode cX8_paper 55 = .ok (.iload_n 3, 1) := by decide +kernel
theorem dX8_paper_56 : decode cX8_paper 56 = .ok (.iastore, 1) := by decide +kernel
theorem dX8_paper_57 : decode cX8_paper 57 = .ok (.iload 5, 2) := by decide +kernel
theorem dX8_paper_59 : decode cX8_paper 59 = .ok (.ireturn, 1) := by decide +kernel
set_option maxRecDepth 20000 in
theorem ggX8_bid_X8_checkBidder : GoodIn wsX8_bid wsX8_checkBidder := goodIn_ca (goodIn_r _ [14, 15, 16] (by decide +kernel) (by decide +kernel)) (goodIn_sub (fun _ h => List.mem_cons_of_mem _ (List.mem_append_right _ h)) (by decide +kernel))
set_option maxRecDepth 20000 in
theorem gX8_bid_X8_checkBidder : GoodIn wsX8_bid (va_wsS RX8 79 yX8_checkBidder wsX8_checkBidder) := goodIn_app (goodIn_of _ (by decide +kernel)) ggX8_bid_X8_checkBidder
set_option maxRecDepth 20000 in
theorem ggX8_bid_X8_lotAt : GoodIn wsX8_bid wsX8_lotAt := goodIn_ca (goodIn_r _ [20, 15, 16, 21, 22, 23, 24, 25, 13, 26, 27, 28, 29, 30, 31, 32, 33, 34, 35, 36, 37, 38, 39, 40, 41, 42, 43, 44, 45, 46, 47, 48, 49, 50, 51, 157, 158, 159, 160, 161, 162, 163, 164, 165, 166, 167, 168, 169, 170, 171] (by decide +kernel) (by decide +kernel)) (goodIn_sub (fun _ h => List.mem_cons_of_mem _ (List.mem_append_right _ h)) (by decide +kernel))
set_option maxRecDepth 20000 in
theorem gX8_bid_X8_lotAt : GoodIn wsX8_bid (wsV RX8 83 RX8 yX8_lotAt wsX8_lotAt) := goodIn_app (goodIn_of _ (by decide +kernel)) ggX8_bid_X8_lotAt
set_option maxRecDepth 20000 in
theorem ggX8_bid_X8_isOutside : GoodIn wsX8_bid wsX8_isOutside := goodIn_r _ [54] (by decide +kernel) (by decide +kernel)
set_option maxRecDepth 20000 in
theorem gX8_bid_X8_isOutside : GoodIn wsX8_bid (va_wsS RX8 33 yX8_isOutside wsX8_isOutside) := goodIn_app (goodIn_of _ (by decide +kernel)) ggX8_bid_X8_isOutside
set_option maxRecDepth 20000 in
theorem ggX8_bid_X8_isOpened : GoodIn wsX8_bid wsX8_isOpened := goodIn_r _ [58, 59, 60, 163, 164, 165, 166, 167, 168, 157, 158, 159, 160, 161, 162] (by decide +kernel) (by decide +kernel)
set_option maxRecDepth 20000 in
theorem gX8_bid_X8_isOpened : GoodIn wsX8_bid (wsV RX8 63 RX8 yX8_isOpened wsX8_isOpened) := goodIn_app (goodIn_of _ (by decide +kernel)) ggX8_bid_X8_isOpened
set_option maxRecDepth 20000 in
theorem ggX8_bid_X5_takeBack : GoodIn wsX8_bid wsX5_takeBack := goodIn_r _ [65, 66, 67, 68, 69, 30, 31, 32, 33, 34, 70, 36, 37, 38, 39, 40, 41, 42, 43, 44, 45, 46, 47, 48, 49, 50, 51, 71, 72, 73, 74, 75, 76, 77, 78, 79, 80, 81, 82, 83, 84, 146, 147, 148, 149, 150, 151, 152, 153, 154, 155, 156, 169, 170, 171] (by decide +kernel) (by decide +kernel)
set_option maxRecDepth 20000 in
theorem gX8_bid_X5_takeBack : GoodIn wsX8_bid (wsV RX8 92 RX5 yX5_takeBack wsX5_takeBack) := goodIn_app (goodIn_of _ (by decide +kernel)) ggX8_bid_X5_takeBack
set_option maxRecDepth 20000 in
theorem ggX8_bid_X1_init : GoodIn wsX8_bid wsX1_init := goodIn_r _ [87, 88, 89, 90, 91, 92, 93, 94, 95, 96, 97, 151, 152, 153, 154, 155, 156] (by decide +kernel) (by decide +kernel)
set_option maxRecDepth 20000 in
theorem gX8_bid_X1_init : GoodIn wsX8_bid (wsX1_init) := ggX8_bid_X1_init
set_option maxRecDepth 20000 in
theorem ggX8_bid_Jx4a65c_add_9ea2d : GoodIn wsX8_bid wsJx4a65c_add_9ea2d := goodIn_r _ [101, 79, 80, 51, 34, 102, 103, 104, 32, 105, 106, 107, 108, 109, 110, 111, 112, 113, 114, 115, 116, 117, 118, 119, 120, 121, 122, 123, 124, 125, 126, 127, 128, 129, 130, 131, 132, 133, 134, 135, 136, 137, 138, 139, 140, 141, 142, 143, 144, 145, 82, 83, 84, 169, 170, 171] (by decide +kernel) (by decide +kernel)
set_option maxRecDepth 20000 in
theorem gX8_bid_Jx4a65c_add_9ea2d : GoodIn wsX8_bid (wsV RX8 52 RJx4a65c yJx4a65c_add_9ea2d wsJx4a65c_add_9ea2d) := goodIn_app (goodIn_of _ (by decide +kernel)) ggX8_bid_Jx4a65c_add_9ea2d
set_option maxRecDepth 20000 in
theorem ggX8_bid_Jx4a65c_size_8abf5 : GoodIn wsX8_bid wsJx4a65c_size_8abf5 := goodIn_r _ [33, 34, 169, 170, 171] (by decide +kernel) (by decide +kernel)
set_option maxRecDepth 20000 in
theorem gX8_bid_Jx4a65c_size_8abf5 : GoodIn wsX8_bid (wsV RX8 40 RJx4a65c yJx4a65c_size_8abf5 wsJx4a65c_size_8abf5) := goodIn_app (goodIn_of _ (by decide +kernel)) ggX8_bid_Jx4a65c_size_8abf5
theorem dX8_bid_0 : decode cX8_bid 0 = .ok (.iload_n 1, 1) := by decide +kernel
theorem dX8_bid_1 : decode cX8_bid 1 = .ok (.invokestatic 79, 3) := by decide +kernel
theorem dX8_bid_4 : decode cX8_bid 4 = .ok (.aload_n 0, 1) := by decide +kernel
theorem dX8_bid_5 : decode cX8_bid 5 = .ok (.iload_n 2, 1) := by decide +kernel
theorem dX8_bid_6 : decode cX8_bid 6 = .ok (.iload_n 3, 1) := by decide +kernel
theorem dX8_bid_7 : decode cX8_bid 7 = .ok (.invokevirtual 83, 3) := by decide +kernel
theorem dX8_bid_10 : decode cX8_bid 10 = .ok (.astore 6, 2) := by decide +kernel
theorem dX8_bid_12 : decode cX8_bid 12 = .ok (.iload 4, 2) := by decide +kernel
theorem dX8_bid_14 : decode cX8_bid 14 = .ok (.iconst 1, 1) := by decide +kernel
theorem dX8_bid_15 : decode cX8_bid 15 = .ok (.ldc 87, 2) := by decide +kernel
theorem dX8_bid_17 : decode cX8_bid 17 = .ok (.invokestatic 33, 3) := by decide +kernel
theorem dX8_bid_20 : decode cX8_bid 20 = .ok (.ifCond .ne 14, 3) := by decide +kernel
theorem dX8_bid_23 : decode cX8_bid 23 = .ok (.iload 5, 2) := by decide +kernel
theorem dX8_bid_25 : decode cX8_bid 25 = .ok (.iconst 0, 1) := by decide +kernel
theorem dX8_bid_26 : decode cX8_bid 26 = .ok (.bipush 100, 2) := by decide +kernel
theorem dX8_bid_28 : decode cX8_bid 28 = .ok (.invokestatic 33, 3) := by decide +kernel
theorem dX8_bid_31 : decode cX8_bid 31 = .ok (.ifCond .eq 11, 3) := by decide +kernel
theorem dX8_bid_34 : decode cX8_bid 34 = .ok (.new 37, 3) := by decide +kernel
theorem dX8_bid_37 : decode cX8_bid 37 = .ok (.dup, 1) := by decide +kernel
theorem dX8_bid_38 : decode cX8_bid 38 = .ok (.invokespecial 39, 3) := by decide +kernel
theorem dX8_bid_41 : decode cX8_bid 41 = .ok (.athrow, 1) := by decide +kernel
theorem dX8_bid_42 : decode cX8_bid 42 = .ok (.aload_n 0, 1) := by decide +kernel
theorem dX8_bid_43 : decode cX8_bid 43 = .ok (.aload 6, 2) := by decide +kernel
theorem dX8_bid_45 : decode cX8_bid 45 = .ok (.getfield 88, 3) := by decide +kernel
theorem dX8_bid_48 : decode cX8_bid 48 = .ok (.invokevirtual 63, 3) := by decide +kernel
theorem dX8_bid_51 : decode cX8_bid 51 = .ok (.ifCond .eq 11, 3) := by decide +kernel
theorem dX8_bid_54 : decode cX8_bid 54 = .ok (.new 44, 3) := by decide +kernel
theorem dX8_bid_57 : decode cX8_bid 57 = .ok (.dup, 1) := by decide +kernel
theorem dX8_bid_58 : decode cX8_bid 58 = .ok (.invokespecial 46, 3) := by decide +kernel
theorem dX8_bid_61 : decode cX8_bid 61 = .ok (.athrow, 1) := by decide +kernel
theorem dX8_bid_62 : decode cX8_bid 62 = .ok (.aload 6, 2) := by decide +kernel
theorem dX8_bid_64 : decode cX8_bid 64 = .ok (.iload_n 1, 1) := by decide +kernel
theorem dX8_bid_65 : decode cX8_bid 65 = .ok (.invokevirtual 92, 3) := by decide +kernel
theorem dX8_bid_68 : decode cX8_bid 68 = .ok (.aload 6, 2) := by decide +kernel
theorem dX8_bid_70 : decode cX8_bid 70 = .ok (.getfield 95, 3) := by decide +kernel
theorem dX8_bid_73 : decode cX8_bid 73 = .ok (.new 98, 3) := by decide +kernel
theorem dX8_bid_76 : decode cX8_bid 76 = .ok (.dup, 1) := by decide +kernel
theorem dX8_bid_77 : decode cX8_bid 77 = .ok (.iload_n 1, 1) := by decide +kernel
theorem dX8_bid_78 : decode cX8_bid 78 = .ok (.iload 4, 2) := by decide +kernel
theorem dX8_bid_80 : decode cX8_bid 80 = .ok (.iload 5, 2) := by decide +kernel
theorem dX8_bid_82 : decode cX8_bid 82 = .ok (.invokespecial 100, 3) := by decide +kernel
theorem dX8_bid_85 : decode cX8_bid 85 = .ok (.invokevirtual 52, 3) := by decide +kernel
theorem dX8_bid_88 : decode cX8_bid 88 = .ok (.pop, 1) := by decide +kernel
theorem dX8_bid_89 : decode cX8_bid 89 = .ok (.aload 6, 2) := by decide +kernel
theorem dX8_bid_91 : decode cX8_bid 91 = .ok (.getfield 95, 3) := by decide +kernel
theorem dX8_bid_94 : decode cX8_bid 94 = .ok (.invokevirtual 40, 3) := by decide +kernel
theorem dX8_bid_97 : decode cX8_bid 97 = .ok (.ireturn, 1) := by decide +kernel
set_option maxRecDepth 20000 in
theorem ggX8_withdraw_X8_checkBidder : GoodIn wsX8_withdraw wsX8_checkBidder := goodIn_ca (goodIn_r _ [8, 9, 10] (by decide +kernel) (by decide +kernel)) (goodIn_sub (fun _ h => List.mem_cons_of_mem _ (List.mem_append_right _ h)) (by decide +kernel))
set_option maxRecDepth 20000 in
theorem gX8_withdraw_X8_checkBidder : GoodIn wsX8_withdraw (va_wsS RX8 79 yX8_checkBidder wsX8_checkBidder) := goodIn_app (goodIn_of _ (by decide +kernel)) ggX8_withdraw_X8_checkBidder
set_option maxRecDepth 20000 in
theorem ggX8_withdraw_X8_lotAt : GoodIn wsX8_withdraw wsX8_lotAt := goodIn_ca (goodIn_r _ [14, 9, 10, 15, 16, 17, 18, 19, 7, 20, 21, 22, 23, 24, 25, 26, 27, 28, 29, 30, 31, 32, 33, 34, 35, 36, 37, 38, 39, 40, 41, 42, 43, 44, 45, 91, 92, 93, 94, 95, 96, 97, 98, 99, 100, 101, 102, 103, 104, 105] (by decide +kernel) (by decide +kernel)) (goodIn_sub (fun _ h => List.mem_cons_of_mem _ (List.mem_append_right _ h)) (by decide +kernel))
set_option maxRecDepth 20000 in
theorem gX8_withdraw_X8_lotAt : GoodIn wsX8_withdraw (wsV RX8 83 RX8 yX8_lotAt wsX8_lotAt) := goodIn_app (goodIn_of _ (by decide +kernel)) ggX8_withdraw_X8_lotAt
set_option maxRecDepth 20000 in
theorem ggX8_withdraw_X5_bidOf : GoodIn wsX8_withdraw wsX5_bidOf := goodIn_r _ [50, 51, 52, 53, 54, 24, 25, 26, 27, 28, 55, 30, 31, 32, 33, 34, 35, 36, 37, 38, 39, 40, 41, 42, 43, 44, 45, 80, 81, 82, 83, 84, 85, 86, 87, 88, 89, 90, 103, 104, 105] (by decide +kernel) (by decide +kernel)
set_option maxRecDepth 20000 in
theorem gX8_withdraw_X5_bidOf : GoodIn wsX8_withdraw (wsV RX8 103 RX5 yX5_bidOf wsX5_bidOf) := goodIn_app (goodIn_of _ (by decide +kernel)) ggX8_withdraw_X5_bidOf
set_option maxRecDepth 20000 in
theorem ggX8_withdraw_X8_isOpened : GoodIn wsX8_withdraw wsX8_isOpened := goodIn_r _ [59, 60, 61, 97, 98, 99, 100, 101, 102, 91, 92, 93, 94, 95, 96] (by decide +kernel) (by decide +kernel)
set_option maxRecDepth 20000 in
theorem gX8_withdraw_X8_isOpened : GoodIn wsX8_withdraw (wsV RX8 63 RX8 yX8_isOpened wsX8_isOpened) := goodIn_app (goodIn_of _ (by decide +kernel)) ggX8_withdraw_X8_isOpened
set_option maxRecDepth 20000 in
theorem ggX8_withdraw_X5_takeBack : GoodIn wsX8_withdraw wsX5_takeBack := goodIn_r _ [65, 51, 52, 53, 54, 24, 25, 26, 27, 28, 55, 30, 31, 32, 33, 34, 35, 36, 37, 38, 39, 40, 41, 42, 43, 44, 45, 66, 67, 68, 69, 70, 71, 72, 73, 74, 75, 76, 77, 78, 79, 80, 81, 82, 83, 84, 85, 86, 87, 88, 89, 90, 103, 104, 105] (by decide +kernel) (by decide +kernel)
set_option maxRecDepth 20000 in
theorem gX8_withdraw_X5_takeBack : GoodIn wsX8_withdraw (wsV RX8 92 RX5 yX5_takeBack wsX5_takeBack) := goodIn_app (goodIn_of _ (by decide +kernel)) ggX8_withdraw_X5_takeBack
theorem dX8_withdraw_0 : decode cX8_withdraw 0 = .ok (.iload_n 1, 1) := by decide +kernel
theorem dX8_withdraw_1 : decode cX8_withdraw 1 = .ok (.invokestatic 79, 3) := by decide +kernel
theorem dX8_withdraw_4 : decode cX8_withdraw 4 = .ok (.aload_n 0, 1) := by decide +kernel
theorem dX8_withdraw_5 : decode cX8_withdraw 5 = .ok (.iload_n 2, 1) := by decide +kernel
theorem dX8_withdraw_6 : decode cX8_withdraw 6 = .ok (.iload_n 3, 1) := by decide +kernel
theorem dX8_withdraw_7 : decode cX8_withdraw 7 = .ok (.invokevirtual 83, 3) := by decide +kernel
theorem dX8_withdraw_10 : decode cX8_withdraw 10 = .ok (.astore 4, 2) := by decide +kernel
theorem dX8_withdraw_12 : decode cX8_withdraw 12 = .ok (.aload 4, 2) := by decide +kernel
theorem dX8_withdraw_14 : decode cX8_withdraw 14 = .ok (.iload_n 1, 1) := by decide +kernel
theorem dX8_withdraw_15 : decode cX8_withdraw 15 = .ok (.invokevirtual 103, 3) := by decide +kernel
theorem dX8_withdraw_18 : decode cX8_withdraw 18 = .ok (.astore 5, 2) := by decide +kernel
theorem dX8_withdraw_20 : decode cX8_withdraw 20 = .ok (.aload 5, 2) := by decide +kernel
theorem dX8_withdraw_22 : decode cX8_withdraw 22 = .ok (.ifnull 15, 3) := by decide +kernel
theorem dX8_withdraw_25 : decode cX8_withdraw 25 = .ok (.aload_n 0, 1) := by decide +kernel
theorem dX8_withdraw_26 : decode cX8_withdraw 26 = .ok (.aload 4, 2) := by decide +kernel
theorem dX8_withdraw_28 : decode cX8_withdraw 28 = .ok (.getfield 88, 3) := by decide +kernel
theorem dX8_withdraw_31 : decode cX8_withdraw 31 = .ok (.invokevirtual 63, 3) := by decide +kernel
theorem dX8_withdraw_34 : decode cX8_withdraw 34 = .ok (.ifCond .eq 11, 3) := by decide +kernel
theorem dX8_withdraw_37 : decode cX8_withdraw 37 = .ok (.new 44, 3) := by decide +kernel
theorem dX8_withdraw_40 : decode cX8_withdraw 40 = .ok (.dup, 1) := by decide +kernel
theorem dX8_withdraw_41 : decode cX8_withdraw 41 = .ok (.invokespecial 46, 3) := by decide +kernel
theorem dX8_withdraw_44 : decode cX8_withdraw 44 = .ok (.athrow, 1) := by decide +kernel
theorem dX8_withdraw_45 : decode cX8_withdraw 45 = .ok (.aload 4, 2) := by decide +kernel
theorem dX8_withdraw_47 : decode cX8_withdraw 47 = .ok (.iload_n 1, 1) := by decide +kernel
theorem dX8_withdraw_48 : decode cX8_withdraw 48 = .ok (.invokevirtual 92, 3) := by decide +kernel
theorem dX8_withdraw_51 : decode cX8_withdraw 51 = .ok (.aload 5, 2) := by decide +kernel
theorem dX8_withdraw_53 : decode cX8_withdraw 53 = .ok (.getfield 107, 3) := by decide +kernel
theorem dX8_withdraw_56 : decode cX8_withdraw 56 = .ok (.ireturn, 1) := by decide +kernel
set_option maxRecDepth 20000 in
theorem ggX8_pass_X8_isOutside : GoodIn wsX8_pass wsX8_isOutside := goodIn_r _ [9] (by decide +kernel) (by decide +kernel)
set_option maxRecDepth 20000 in
theorem gX8_pass_X8_isOutside : GoodIn wsX8_pass (va_wsS RX8 33 yX8_isOutside wsX8_isOutside) := goodIn_app (goodIn_of _ (by decide +kernel)) ggX8_pass_X8_isOutside
set_option maxRecDepth 20000 in
theorem ggX8_pass_X8_openTenders : GoodIn wsX8_pass wsX8_openTenders := goodIn_r _ [13, 14, 15, 16, 5, 17, 18, 19, 20, 21, 22, 23, 24, 25, 26, 27, 28, 29, 30, 31, 32, 33, 34, 35, 36, 37, 38, 39, 40, 41, 42, 8, 43, 44, 45, 46, 47, 48, 49, 50, 51, 52, 53, 54, 55, 56, 57, 6, 7, 9, 58, 59, 60, 61, 62, 63, 64, 65, 66, 214, 215, 216, 217, 218, 219, 220, 221, 222, 223, 224, 225, 226, 227, 228, 229, 230, 231, 232, 233, 234, 235, 236, 237, 238, 239] (by decide +kernel) (by decide +kernel)
set_option maxRecDepth 20000 in
theorem gX8_pass_X8_openTenders : GoodIn wsX8_pass (wsV RX8 110 RX8 yX8_openTenders wsX8_openTenders) := goodIn_app (goodIn_of _ (by decide +kernel)) ggX8_pass_X8_openTenders
set_option maxRecDepth 20000 in
theorem ggX8_pass_X8_lapseAwards : GoodIn wsX8_pass wsX8_lapseAwards := goodIn_r _ [70, 71, 72, 73, 5, 74, 75, 76, 77, 78, 79, 48, 17, 18, 19, 20, 21, 22, 23, 24, 25, 26, 27, 28, 29, 30, 31, 32, 33, 34, 35, 36, 37, 38, 39, 80, 81, 82, 8, 83, 84, 85, 86, 87, 88, 89, 90, 91, 92, 93, 94, 95, 96, 97, 98, 99, 100, 101, 102, 103, 104, 105, 106, 107, 108, 109, 110, 111, 112, 113, 114, 115, 116, 117, 118, 119, 120, 121, 122, 123, 124, 125, 126, 127, 128, 129, 130, 131, 132, 133, 134, 135, 136, 137, 138, 139, 140, 141, 142, 143, 144, 145, 146, 147, 148, 149, 150, 151, 152, 153, 154, 155, 156, 157, 158, 159, 160, 161, 162, 163, 164, 165, 166, 167, 168, 169, 170, 171, 172, 173, 174, 175, 176, 177, 178, 179, 180, 181, 182, 183, 184, 185, 186, 187, 188, 189, 190, 191, 192, 193, 194, 195, 196, 197, 198, 199, 200, 201, 202, 203, 204, 205, 206, 207, 208, 209, 210, 211, 212, 213, 214, 215, 216, 217, 218, 219, 240, 241, 242, 243, 244, 245, 246, 247, 248, 249, 234, 235, 236, 237, 238, 239, 226, 227, 228, 250, 251, 252, 253, 254, 255, 229, 230, 231, 232, 233, 220, 221, 222, 223, 224, 225] (by decide +kernel) (by decide +kernel)
set_option maxRecDepth 20000 in
theorem gX8_pass_X8_lapseAwards : GoodIn wsX8_pass (wsV RX8 113 RX8 yX8_lapseAwards wsX8_lapseAwards) := goodIn_app (goodIn_of _ (by decide +kernel)) ggX8_pass_X8_lapseAwards
theorem dX8_pass_0 : decode cX8_pass 0 = .ok (.iload_n 1, 1) := by decide +kernel
theorem dX8_pass_1 : decode cX8_pass 1 = .ok (.iconst 1, 1) := by decide +kernel
theorem dX8_pass_2 : decode cX8_pass 2 = .ok (.bipush 100, 2) := by decide +kernel
theorem dX8_pass_4 : decode cX8_pass 4 = .ok (.invokestatic 33, 3) := by decide +kernel
theorem dX8_pass_7 : decode cX8_pass 7 = .ok (.ifCond .eq 11, 3) := by decide +kernel
theorem dX8_pass_10 : decode cX8_pass 10 = .ok (.new 37, 3) := by decide +kernel
theorem dX8_pass_13 : decode cX8_pass 13 = .ok (.dup, 1) := by decide +kernel
theorem dX8_pass_14 : decode cX8_pass 14 = .ok (.invokespecial 39, 3) := by decide +kernel
theorem dX8_pass_17 : decode cX8_pass 17 = .ok (.athrow, 1) := by decide +kernel
theorem dX8_pass_18 : decode cX8_pass 18 = .ok (.aload_n 0, 1) := by decide +kernel
theorem dX8_pass_19 : decode cX8_pass 19 = .ok (.getfield 29, 3) := by decide +kernel
theorem dX8_pass_22 : decode cX8_pass 22 = .ok (.iload_n 1, 1) := by decide +kernel
theorem dX8_pass_23 : decode cX8_pass 23 = .ok (.iadd, 1) := by decide +kernel
theorem dX8_pass_24 : decode cX8_pass 24 = .ok (.sipush 2000, 3) := by decide +kernel
theorem dX8_pass_27 : decode cX8_pass 27 = .ok (.if_icmp .le 11, 3) := by decide +kernel
theorem dX8_pass_30 : decode cX8_pass 30 = .ok (.new 44, 3) := by decide +kernel
theorem dX8_pass_33 : decode cX8_pass 33 = .ok (.dup, 1) := by decide +kernel
theorem dX8_pass_34 : decode cX8_pass 34 = .ok (.invokespecial 46, 3) := by decide +kernel
theorem dX8_pass_37 : decode cX8_pass 37 = .ok (.athrow, 1) := by decide +kernel
theorem dX8_pass_38 : decode cX8_pass 38 = .ok (.iconst 0, 1) := by decide +kernel
theorem dX8_pass_39 : decode cX8_pass 39 = .ok (.istore_n 2, 1) := by decide +kernel
theorem dX8_pass_40 : decode cX8_pass 40 = .ok (.iconst 0, 1) := by decide +kernel
theorem dX8_pass_41 : decode cX8_pass 41 = .ok (.istore_n 3, 1) := by decide +kernel
theorem dX8_pass_42 : decode cX8_pass 42 = .ok (.iload_n 3, 1) := by decide +kernel
theorem dX8_pass_43 : decode cX8_pass 43 = .ok (.iload_n 1, 1) := by decide +kernel
theorem dX8_pass_44 : decode cX8_pass 44 = .ok (.if_icmp .ge 30, 3) := by decide +kernel
theorem dX8_pass_47 : decode cX8_pass 47 = .ok (.aload_n 0, 1) := by decide +kernel
theorem dX8_pass_48 : decode cX8_pass 48 = .ok (.dup, 1) := by decide +kernel
theorem dX8_pass_49 : decode cX8_pass 49 = .ok (.getfield 29, 3) := by decide +kernel
theorem dX8_pass_52 : decode cX8_pass 52 = .ok (.iconst 1, 1) := by decide +kernel
theorem dX8_pass_53 : decode cX8_pass 53 = .ok (.iadd, 1) := by decide +kernel
theorem dX8_pass_54 : decode cX8_pass 54 = .ok (.putfield 29, 3) := by decide +kernel
theorem dX8_pass_57 : decode cX8_pass 57 = .ok (.aload_n 0, 1) := by decide +kernel
theorem dX8_pass_58 : decode cX8_pass 58 = .ok (.invokevirtual 110, 3) := by decide +kernel
theorem dX8_pass_61 : decode cX8_pass 61 = .ok (.iload_n 2, 1) := by decide +kernel
theorem dX8_pass_62 : decode cX8_pass 62 = .ok (.aload_n 0, 1) := by decide +kernel
theorem dX8_pass_63 : decode cX8_pass 63 = .ok (.invokevirtual 113, 3) := by decide +kernel
theorem dX8_pass_66 : decode cX8_pass 66 = .ok (.iadd, 1) := by decide +kernel
theorem dX8_pass_67 : decode cX8_pass 67 = .ok (.istore_n 2, 1) := by decide +kernel
theorem dX8_pass_68 : decode cX8_pass 68 = .ok (.iinc 3 1, 3) := by decide +kernel
theorem dX8_pass_71 : decode cX8_pass 71 = .ok (.goto (-29), 3) := by decide +kernel
theorem dX8_pass_74 : decode cX8_pass 74 = .ok (.iload_n 2, 1) := by decide +kernel
theorem dX8_pass_75 : decode cX8_pass 75 = .ok (.ireturn, 1) := by decide +kernel
theorem dX8_today_0 : decode cX8_today 0 = .ok (.aload_n 0, 1) := by decide +kernel
theorem dX8_today_1 : decode cX8_today 1 = .ok (.getfield 29, 3) := by decide +kernel
theorem dX8_today_4 : decode cX8_today 4 = .ok (.ireturn, 1) := by decide +kernel
set_option maxRecDepth 20000 in
theorem ggX8_isIn_X8_checkBidder : GoodIn wsX8_isIn wsX8_checkBidder := goodIn_ca (goodIn_r _ [6, 7, 8] (by decide +kernel) (by decide +kernel)) (goodIn_sub (fun _ h => List.mem_cons_of_mem _ (List.mem_append_right _ h)) (by decide +kernel))
set_option maxRecDepth 20000 in
theorem gX8_isIn_X8_checkBidder : GoodIn wsX8_isIn (va_wsS RX8 79 yX8_checkBidder wsX8_checkBidder) := goodIn_app (goodIn_of _ (by decide +kernel)) ggX8_isIn_X8_checkBidder
set_option maxRecDepth 20000 in
theorem ggX8_isIn_X8_lotAt : GoodIn wsX8_isIn wsX8_lotAt := goodIn_ca (goodIn_r _ [12, 7, 8, 13, 14, 15, 16, 17, 5, 18, 19, 20, 21, 22, 23, 24, 25, 26, 27, 28, 29, 30, 31, 32, 33, 34, 35, 36, 37, 38, 39, 40, 41, 42, 43, 60, 61, 62, 63, 64, 65, 66, 67, 68, 69, 70, 71, 72, 73, 74] (by decide +kernel) (by decide +kernel)) (goodIn_sub (fun _ h => List.mem_cons_of_mem _ (List.mem_append_right _ h)) (by decide +kernel))
set_option maxRecDepth 20000 in
theorem gX8_isIn_X8_lotAt : GoodIn wsX8_isIn (wsV RX8 83 RX8 yX8_lotAt wsX8_lotAt) := goodIn_app (goodIn_of _ (by decide +kernel)) ggX8_isIn_X8_lotAt
set_option maxRecDepth 20000 in
theorem ggX8_isIn_X5_bidOf : GoodIn wsX8_isIn wsX5_bidOf := goodIn_r _ [48, 49, 50, 51, 52, 22, 23, 24, 25, 26, 53, 28, 29, 30, 31, 32, 33, 34, 35, 36, 37, 38, 39, 40, 41, 42, 43, 75, 76, 77, 78, 79, 54, 55, 56, 57, 58, 59, 72, 73, 74] (by decide +kernel) (by decide +kernel)
set_option maxRecDepth 20000 in
theorem gX8_isIn_X5_bidOf : GoodIn wsX8_isIn (wsV RX8 103 RX5 yX5_bidOf wsX5_bidOf) := goodIn_app (goodIn_of _ (by decide +kernel)) ggX8_isIn_X5_bidOf
theorem dX8_isIn_0 : decode cX8_isIn 0 = .ok (.iload_n 1, 1) := by decide +kernel
theorem dX8_isIn_1 : decode cX8_isIn 1 = .ok (.invokestatic 79, 3) := by decide +kernel
theorem dX8_isIn_4 : decode cX8_isIn 4 = .ok (.aload_n 0, 1) := by decide +kernel
theorem dX8_isIn_5 : decode cX8_isIn 5 = .ok (.iload_n 2, 1) := by decide +kernel
theorem dX8_isIn_6 : decode cX8_isIn 6 = .ok (.iload_n 3, 1) := by decide +kernel
theorem dX8_isIn_7 : decode cX8_isIn 7 = .ok (.invokevirtual 83, 3) := by decide +kernel
theorem dX8_isIn_10 : decode cX8_isIn 10 = .ok (.iload_n 1, 1) := by decide +kernel
theorem dX8_isIn_11 : decode cX8_isIn 11 = .ok (.invokevirtual 103, 3) := by decide +kernel
theorem dX8_isIn_14 : decode cX8_isIn 14 = .ok (.astore 4, 2) := by decide +kernel
theorem dX8_isIn_16 : decode cX8_isIn 16 = .ok (.aload 4, 2) := by decide +kernel
theorem dX8_isIn_18 : decode cX8_isIn 18 = .ok (.ifnull 18, 3) := by decide +kernel
theorem dX8_isIn_21 : decode cX8_isIn 21 = .ok (.aload 4, 2) := by decide +kernel
theorem dX8_isIn_23 : decode cX8_isIn 23 = .ok (.getfield 116, 3) := by decide +kernel
theorem dX8_isIn_26 : decode cX8_isIn 26 = .ok (.getstatic 120, 3) := by decide +kernel
theorem dX8_isIn_29 : decode cX8_isIn 29 = .ok (.if_acmp .ne 7, 3) := by decide +kernel
theorem dX8_isIn_32 : decode cX8_isIn 32 = .ok (.iconst 1, 1) := by decide +kernel
theorem dX8_isIn_33 : decode cX8_isIn 33 = .ok (.goto 4, 3) := by decide +kernel
theorem dX8_isIn_36 : decode cX8_isIn 36 = .ok (.iconst 0, 1) := by decide +kernel
theorem dX8_isIn_37 : decode cX8_isIn 37 = .ok (.ireturn, 1) := by decide +kernel
set_option maxRecDepth 20000 in
theorem ggX8_score_X8_checkBidder : GoodIn wsX8_score wsX8_checkBidder := goodIn_ca (goodIn_r _ [6, 7, 8] (by decide +kernel) (by decide +kernel)) (goodIn_sub (fun _ h => List.mem_cons_of_mem _ (List.mem_append_right _ h)) (by decide +kernel))
set_option maxRecDepth 20000 in
theorem gX8_score_X8_checkBidder : GoodIn wsX8_score (va_wsS RX8 79 yX8_checkBidder wsX8_checkBidder) := goodIn_app (goodIn_of _ (by decide +kernel)) ggX8_score_X8_checkBidder
set_option maxRecDepth 20000 in
theorem ggX8_score_X8_lotAt : GoodIn wsX8_score wsX8_lotAt := goodIn_ca (goodIn_r _ [12, 7, 8, 13, 14, 15, 16, 17, 5, 18, 19, 20, 21, 22, 23, 24, 25, 26, 27, 28, 29, 30, 31, 32, 33, 34, 35, 36, 37, 38, 39, 40, 41, 42, 43, 70, 71, 72, 73, 74, 75, 76, 77, 78, 79, 80, 81, 82, 83, 84] (by decide +kernel) (by decide +kernel)) (goodIn_sub (fun _ h => List.mem_cons_of_mem _ (List.mem_append_right _ h)) (by decide +kernel))
set_option maxRecDepth 20000 in
theorem gX8_score_X8_lotAt : GoodIn wsX8_score (wsV RX8 83 RX8 yX8_lotAt wsX8_lotAt) := goodIn_app (goodIn_of _ (by decide +kernel)) ggX8_score_X8_lotAt
set_option maxRecDepth 20000 in
theorem ggX8_score_X5_bidOf : GoodIn wsX8_score wsX5_bidOf := goodIn_r _ [48, 49, 50, 51, 52, 22, 23, 24, 25, 26, 53, 28, 29, 30, 31, 32, 33, 34, 35, 36, 37, 38, 39, 40, 41, 42, 43, 85, 86, 87, 88, 89, 64, 65, 66, 67, 68, 69, 82, 83, 84] (by decide +kernel) (by decide +kernel)
set_option maxRecDepth 20000 in
theorem gX8_score_X5_bidOf : GoodIn wsX8_score (wsV RX8 103 RX5 yX5_bidOf wsX5_bidOf) := goodIn_app (goodIn_of _ (by decide +kernel)) ggX8_score_X5_bidOf
set_option maxRecDepth 20000 in
theorem ggX8_score_X5_scoreOf : GoodIn wsX8_score wsX5_scoreOf := goodIn_r _ [57, 58, 49, 50, 59, 60, 61, 62, 63, 52, 22, 23, 24, 25, 26, 53, 28, 29, 30, 31, 32, 33, 34, 35, 36, 37, 38, 39, 40, 41, 42, 43, 64, 65, 66, 67, 68, 69, 85, 86, 87, 88, 89, 70, 71, 72, 73, 74, 75, 82, 83, 84] (by decide +kernel) (by decide +kernel)
set_option maxRecDepth 20000 in
theorem gX8_score_X5_scoreOf : GoodIn wsX8_score (wsV RX8 125 RX5 yX5_scoreOf wsX5_scoreOf) := goodIn_app (goodIn_of _ (by decide +kernel)) ggX8_score_X5_scoreOf
theorem dX8_score_0 : decode cX8_score 0 = .ok (.iload_n 1, 1) := by decide +kernel
theorem dX8_score_1 : decode cX8_score 1 = .ok (.invokestatic 79, 3) := by decide +kernel
theorem dX8_score_4 : decode cX8_score 4 = .ok (.aload_n 0, 1) := by decide +kernel
theorem dX8_score_5 : decode cX8_score 5 = .ok (.iload_n 2, 1) := by decide +kernel
theorem dX8_score_6 : decode cX8_score 6 = .ok (.iload_n 3, 1) := by decide +kernel
theorem dX8_score_7 : decode cX8_score 7 = .ok (.invokevirtual 83, 3) := by decide +kernel
theorem dX8_score_10 : decode cX8_score 10 = .ok (.astore 4, 2) := by decide +kernel
theorem dX8_score_12 : decode cX8_score 12 = .ok (.aload 4, 2) := by decide +kernel
theorem dX8_score_14 : decode cX8_score 14 = .ok (.iload_n 1, 1) := by decide +kernel
theorem dX8_score_15 : decode cX8_score 15 = .ok (.invokevirtual 103, 3) := by decide +kernel
theorem dX8_score_18 : decode cX8_score 18 = .ok (.astore 5, 2) := by decide +kernel
theorem dX8_score_20 : decode cX8_score 20 = .ok (.aload 5, 2) := by decide +kernel
theorem dX8_score_22 : decode cX8_score 22 = .ok (.ifnull 14, 3) := by decide +kernel
theorem dX8_score_25 : decode cX8_score 25 = .ok (.aload 5, 2) := by decide +kernel
theorem dX8_score_27 : decode cX8_score 27 = .ok (.getfield 116, 3) := by decide +kernel
theorem dX8_score_30 : decode cX8_score 30 = .ok (.getstatic 120, 3) := by decide +kernel
theorem dX8_score_33 : decode cX8_score 33 = .ok (.if_acmp .eq 5, 3) := by decide +kernel
theorem dX8_score_36 : decode cX8_score 36 = .ok (.iconst (-1), 1) := by decide +kernel
theorem dX8_score_37 : decode cX8_score 37 = .ok (.ireturn, 1) := by decide +kernel
theorem dX8_score_38 : decode cX8_score 38 = .ok (.aload 4, 2) := by decide +kernel
theorem dX8_score_40 : decode cX8_score 40 = .ok (.aload 5, 2) := by decide +kernel
theorem dX8_score_42 : decode cX8_score 42 = .ok (.invokevirtual 125, 3) := by decide +kernel
theorem dX8_score_45 : decode cX8_score 45 = .ok (.ireturn, 1) := by decide +kernel
set_option maxRecDepth 20000 in
theorem ggX8_ranked_X8_lotAt : GoodIn wsX8_ranked wsX8_lotAt := goodIn_ca (goodIn_r _ [7, 8, 9, 10, 11, 12, 13, 14, 6, 15, 16, 17, 18, 19, 20, 21, 22, 23, 24, 25, 26, 27, 28, 29, 30, 31, 32, 33, 34, 35, 36, 37, 38, 39, 40, 68, 69, 70, 71, 72, 73, 74, 75, 76, 77, 78, 79, 80, 81, 82] (by decide +kernel) (by decide +kernel)) (goodIn_sub (fun _ h => List.mem_cons_of_mem _ (List.mem_append_right _ h)) (by decide +kernel))
set_option maxRecDepth 20000 in
theorem gX8_ranked_X8_lotAt : GoodIn wsX8_ranked (wsV RX8 83 RX8 yX8_lotAt wsX8_lotAt) := goodIn_app (goodIn_of _ (by decide +kernel)) ggX8_ranked_X8_lotAt
set_option maxRecDepth 20000 in
theorem ggX8_ranked_X5_bidAtPlace : GoodIn wsX8_ranked wsX5_bidAtPlace := goodIn_r _ [45, 46, 47, 48, 49, 50, 19, 20, 21, 22, 23, 51, 25, 26, 27, 28, 29, 30, 31, 32, 33, 34, 35, 36, 37, 38, 39, 40, 52, 53, 54, 44, 55, 56, 57, 58, 59, 60, 61, 62, 63, 83, 84, 85, 86, 87, 88, 89, 90, 91, 92, 93, 80, 81, 82, 68, 69, 70, 71, 72, 73] (by decide +kernel) (by decide +kernel)
set_option maxRecDepth 20000 in
theorem gX8_ranked_X5_bidAtPlace : GoodIn wsX8_ranked (wsV RX8 129 RX5 yX5_bidAtPlace wsX5_bidAtPlace) := goodIn_app (goodIn_of _ (by decide +kernel)) ggX8_ranked_X5_bidAtPlace
set_option maxRecDepth 20000 in
theorem ggX8_ranked_X8_bidderOf : GoodIn wsX8_ranked wsX8_bidderOf := goodIn_r _ [66, 67, 88, 89, 90, 91, 92, 93] (by decide +kernel) (by decide +kernel)
set_option maxRecDepth 20000 in
theorem gX8_ranked_X8_bidderOf : GoodIn wsX8_ranked (va_wsS RX8 132 yX8_bidderOf wsX8_bidderOf) := goodIn_app (goodIn_of _ (by decide +kernel)) ggX8_ranked_X8_bidderOf
theorem dX8_ranked_0 : decode cX8_ranked 0 = .ok (.aload_n 0, 1) := by decide +kernel
theorem dX8_ranked_1 : decode cX8_ranked 1 = .ok (.iload_n 1, 1) := by decide +kernel
theorem dX8_ranked_2 : decode cX8_ranked 2 = .ok (.iload_n 2, 1) := by decide +kernel
theorem dX8_ranked_3 : decode cX8_ranked 3 = .ok (.invokevirtual 83, 3) := by decide +kernel
theorem dX8_ranked_6 : decode cX8_ranked 6 = .ok (.astore 4, 2) := by decide +kernel
theorem dX8_ranked_8 : decode cX8_ranked 8 = .ok (.iload_n 3, 1) := by decide +kernel
theorem dX8_ranked_9 : decode cX8_ranked 9 = .ok (.ifCond .ge 11, 3) := by decide +kernel
theorem dX8_ranked_12 : decode cX8_ranked 12 = .ok (.new 37, 3) := by decide +kernel
theorem dX8_ranked_15 : decode cX8_ranked 15 = .ok (.dup, 1) := by decide +kernel
theorem dX8_ranked_16 : decode cX8_ranked 16 = .ok (.invokespecial 39, 3) := by decide +kernel
theorem dX8_ranked_19 : decode cX8_ranked 19 = .ok (.athrow, 1) := by decide +kernel
theorem dX8_ranked_20 : decode cX8_ranked 20 = .ok (.aload 4, 2) := by decide +kernel
theorem dX8_ranked_22 : decode cX8_ranked 22 = .ok (.iload_n 3, 1) := by decide +kernel
theorem dX8_ranked_23 : decode cX8_ranked 23 = .ok (.invokevirtual 129, 3) := by decide +kernel
theorem dX8_ranked_26 : decode cX8_ranked 26 = .ok (.invokestatic 132, 3) := by decide +kernel
theorem dX8_ranked_29 : decode cX8_ranked 29 = .ok (.ireturn, 1) := by decide +kernel
set_option maxRecDepth 20000 in
theorem ggX8_award_X8_lotAt : GoodIn wsX8_award wsX8_lotAt := goodIn_ca (goodIn_r _ [9, 10, 11, 12, 13, 14, 15, 16, 8, 17, 18, 19, 20, 21, 22, 23, 24, 25, 26, 27, 28, 29, 30, 31, 32, 33, 34, 35, 36, 37, 38, 39, 40, 41, 42, 161, 162, 163, 164, 165, 166, 155, 156, 157, 158, 159, 160, 167, 168, 169] (by decide +kernel) (by decide +kernel)) (goodIn_sub (fun _ h => List.mem_cons_of_mem _ (List.mem_append_right _ h)) (by decide +kernel))
set_option maxRecDepth 20000 in
theorem gX8_award_X8_lotAt : GoodIn wsX8_award (wsV RX8 83 RX8 yX8_lotAt wsX8_lotAt) := goodIn_app (goodIn_of _ (by decide +kernel)) ggX8_award_X8_lotAt
set_option maxRecDepth 20000 in
theorem ggX8_award_X8_isOpened : GoodIn wsX8_award wsX8_isOpened := goodIn_r _ [46, 47, 48, 155, 156, 157, 158, 159, 160, 161, 162, 163, 164, 165, 166] (by decide +kernel) (by decide +kernel)
set_option maxRecDepth 20000 in
theorem gX8_award_X8_isOpened : GoodIn wsX8_award (wsV RX8 63 RX8 yX8_isOpened wsX8_isOpened) := goodIn_app (goodIn_of _ (by decide +kernel)) ggX8_award_X8_isOpened
set_option maxRecDepth 20000 in
theorem ggX8_award_X8_standingAward : GoodIn wsX8_award wsX8_standingAward := goodIn_r _ [52, 4, 53, 54, 55, 20, 21, 22, 23, 24, 25, 26, 27, 28, 29, 30, 31, 32, 33, 34, 35, 36, 37, 38, 39, 40, 41, 42, 155, 156, 157, 158, 159, 160, 170, 171, 172, 173, 174, 175, 176, 167, 168, 169] (by decide +kernel) (by decide +kernel)
set_option maxRecDepth 20000 in
theorem gX8_award_X8_standingAward : GoodIn wsX8_award (wsV RX8 135 RX8 yX8_standingAward wsX8_standingAward) := goodIn_app (goodIn_of _ (by decide +kernel)) ggX8_award_X8_standingAward
set_option maxRecDepth 20000 in
theorem ggX8_award_X5_bidAtPlace : GoodIn wsX8_award wsX5_bidAtPlace := goodIn_r _ [60, 61, 62, 63, 64, 65, 21, 22, 23, 24, 25, 66, 27, 28, 29, 30, 31, 32, 33, 34, 35, 36, 37, 38, 39, 40, 41, 42, 67, 68, 69, 59, 70, 71, 72, 73, 74, 75, 76, 77, 78, 150, 151, 152, 153, 154, 177, 178, 179, 180, 181, 182, 167, 168, 169, 161, 162, 163, 164, 165, 166] (by decide +kernel) (by decide +kernel)
set_option maxRecDepth 20000 in
theorem gX8_award_X5_bidAtPlace : GoodIn wsX8_award (wsV RX8 129 RX5 yX5_bidAtPlace wsX5_bidAtPlace) := goodIn_app (goodIn_of _ (by decide +kernel)) ggX8_award_X5_bidAtPlace
set_option maxRecDepth 20000 in
theorem ggX8_award_Jx4a65c_size_8abf5 : GoodIn wsX8_award wsJx4a65c_size_8abf5 := goodIn_r _ [24, 25, 167, 168, 169] (by decide +kernel) (by decide +kernel)
set_option maxRecDepth 20000 in
theorem gX8_award_Jx4a65c_size_8abf5 : GoodIn wsX8_award (wsV RX8 40 RJx4a65c yJx4a65c_size_8abf5 wsJx4a65c_size_8abf5) := goodIn_app (goodIn_of _ (by decide +kernel)) ggX8_award_Jx4a65c_size_8abf5
set_option maxRecDepth 20000 in
theorem ggX8_award_X8_awardToBest : GoodIn wsX8_award wsX8_awardToBest := goodIn_r _ [82, 4, 83, 84, 85, 47, 3, 86, 56, 57, 58, 59, 60, 61, 62, 63, 64, 65, 21, 22, 23, 24, 25, 66, 27, 28, 29, 30, 31, 32, 33, 34, 35, 36, 37, 38, 39, 40, 41, 42, 67, 68, 69, 70, 71, 72, 73, 74, 75, 76, 77, 78, 20, 87, 88, 89, 90, 91, 92, 93, 94, 95, 96, 97, 98, 99, 100, 101, 102, 103, 104, 105, 106, 107, 108, 109, 110, 111, 112, 113, 114, 115, 116, 117, 118, 119, 120, 121, 122, 123, 124, 125, 126, 127, 128, 129, 130, 131, 132, 133, 134, 135, 136, 137, 138, 139, 140, 141, 142, 143, 144, 145, 146, 147, 148, 149, 155, 156, 157, 158, 159, 160, 170, 171, 172, 173, 174, 175, 176, 150, 151, 152, 153, 154, 161, 162, 163, 164, 165, 166, 177, 178, 179, 180, 181, 182, 167, 168, 169] (by decide +kernel) (by decide +kernel)
set_option maxRecDepth 20000 in
theorem gX8_award_X8_awardToBest : GoodIn wsX8_award (wsV RX8 139 RX8 yX8_awardToBest wsX8_awardToBest) := goodIn_app (goodIn_of _ (by decide +kernel)) ggX8_award_X8_awardToBest
theorem dX8_award_0 : decode cX8_award 0 = .ok (.aload_n 0, 1) := by decide +kernel
theorem dX8_award_1 : decode cX8_award 1 = .ok (.iload_n 1, 1) := by decide +kernel
theorem dX8_award_2 : decode cX8_award 2 = .ok (.iload_n 2, 1) := by decide +kernel
theorem dX8_award_3 : decode cX8_award 3 = .ok (.invokevirtual 83, 3) := by decide +kernel
theorem dX8_award_6 : decode cX8_award 6 = .ok (.astore_n 3, 1) := by decide +kernel
theorem dX8_award_7 : decode cX8_award 7 = .ok (.aload_n 0, 1) := by decide +kernel
theorem dX8_award_8 : decode cX8_award 8 = .ok (.aload_n 3, 1) := by decide +kernel
theorem dX8_award_9 : decode cX8_award 9 = .ok (.getfield 88, 3) := by decide +kernel
theorem dX8_award_12 : decode cX8_award 12 = .ok (.invokevirtual 63, 3) := by decide +kernel
theorem dX8_award_15 : decode cX8_award 15 = .ok (.ifCond .eq 31, 3) := by decide +kernel
theorem dX8_award_18 : decode cX8_award 18 = .ok (.aload_n 0, 1) := by decide +kernel
theorem dX8_award_19 : decode cX8_award 19 = .ok (.aload_n 3, 1) := by decide +kernel
theorem dX8_award_20 : decode cX8_award 20 = .ok (.invokevirtual 135, 3) := by decide +kernel
theorem dX8_award_23 : decode cX8_award 23 = .ok (.ifnonnull 23, 3) := by decide +kernel
theorem dX8_award_26 : decode cX8_award 26 = .ok (.aload_n 3, 1) := by decide +kernel
theorem dX8_award_27 : decode cX8_award 27 = .ok (.iconst 0, 1) := by decide +kernel
theorem dX8_award_28 : decode cX8_award 28 = .ok (.invokevirtual 129, 3) := by decide +kernel
theorem dX8_award_31 : decode cX8_award 31 = .ok (.ifnull 15, 3) := by decide +kernel
theorem dX8_award_34 : decode cX8_award 34 = .ok (.aload_n 0, 1) := by decide +kernel
theorem dX8_award_35 : decode cX8_award 35 = .ok (.getfield 20, 3) := by decide +kernel
theorem dX8_award_38 : decode cX8_award 38 = .ok (.invokevirtual 40, 3) := by decide +kernel
theorem dX8_award_41 : decode cX8_award 41 = .ok (.bipush 60, 2) := by decide +kernel
theorem dX8_award_43 : decode cX8_award 43 = .ok (.if_icmp .lt 11, 3) := by decide +kernel
theorem dX8_award_46 : decode cX8_award 46 = .ok (.new 44, 3) := by decide +kernel
theorem dX8_award_49 : decode cX8_award 49 = .ok (.dup, 1) := by decide +kernel
theorem dX8_award_50 : decode cX8_award 50 = .ok (.invokespecial 46, 3) := by decide +kernel
theorem dX8_award_53 : decode cX8_award 53 = .ok (.athrow, 1) := by decide +kernel
theorem dX8_award_54 : decode cX8_award 54 = .ok (.aload_n 0, 1) := by decide +kernel
theorem dX8_award_55 : decode cX8_award 55 = .ok (.aload_n 3, 1) := by decide +kernel
theorem dX8_award_56 : decode cX8_award 56 = .ok (.invokevirtual 139, 3) := by decide +kernel
theorem dX8_award_59 : decode cX8_award 59 = .ok (.ireturn, 1) := by decide +kernel
set_option maxRecDepth 20000 in
theorem ggX8_awardOf_X8_lotAt : GoodIn wsX8_awardOf wsX8_lotAt := goodIn_ca (goodIn_r _ [6, 7, 8, 9, 10, 11, 12, 13, 5, 14, 15, 16, 17, 18, 19, 20, 21, 22, 23, 24, 25, 26, 27, 28, 29, 30, 31, 32, 33, 34, 35, 36, 37, 38, 39, 55, 56, 57, 58, 59, 60, 61, 62, 63, 64, 65, 66, 67, 68, 69] (by decide +kernel) (by decide +kernel)) (goodIn_sub (fun _ h => List.mem_cons_of_mem _ (List.mem_append_right _ h)) (by decide +kernel))
set_option maxRecDepth 20000 in
theorem gX8_awardOf_X8_lotAt : GoodIn wsX8_awardOf (wsV RX8 83 RX8 yX8_lotAt wsX8_lotAt) := goodIn_app (goodIn_of _ (by decide +kernel)) ggX8_awardOf_X8_lotAt
set_option maxRecDepth 20000 in
theorem ggX8_awardOf_X8_standingAward : GoodIn wsX8_awardOf wsX8_standingAward := goodIn_r _ [43, 44, 45, 46, 47, 17, 18, 19, 20, 21, 22, 23, 24, 25, 26, 27, 28, 29, 30, 31, 32, 33, 34, 35, 36, 37, 38, 39, 61, 62, 63, 64, 65, 66, 48, 49, 50, 51, 52, 53, 54, 67, 68, 69] (by decide +kernel) (by decide +kernel)
set_option maxRecDepth 20000 in
theorem gX8_awardOf_X8_standingAward : GoodIn wsX8_awardOf (wsV RX8 135 RX8 yX8_standingAward wsX8_standingAward) := goodIn_app (goodIn_of _ (by decide +kernel)) ggX8_awardOf_X8_standingAward
theorem dX8_awardOf_0 : decode cX8_awardOf 0 = .ok (.aload_n 0, 1) := by decide +kernel
theorem dX8_awardOf_1 : decode cX8_awardOf 1 = .ok (.aload_n 0, 1) := by decide +kernel
theorem dX8_awardOf_2 : decode cX8_awardOf 2 = .ok (.iload_n 1, 1) := by decide +kernel
theorem dX8_awardOf_3 : decode cX8_awardOf 3 = .ok (.iload_n 2, 1) := by decide +kernel
theorem dX8_awardOf_4 : decode cX8_awardOf 4 = .ok (.invokevirtual 83, 3) := by decide +kernel
theorem dX8_awardOf_7 : decode cX8_awardOf 7 = .ok (.invokevirtual 135, 3) := by decide +kernel
theorem dX8_awardOf_10 : decode cX8_awardOf 10 = .ok (.astore_n 3, 1) := by decide +kernel
theorem dX8_awardOf_11 : decode cX8_awardOf 11 = .ok (.aload_n 3, 1) := by decide +kernel
theorem dX8_awardOf_12 : decode cX8_awardOf 12 = .ok (.ifnonnull 7, 3) := by decide +kernel
theorem dX8_awardOf_15 : decode cX8_awardOf 15 = .ok (.iconst (-1), 1) := by decide +kernel
theorem dX8_awardOf_16 : decode cX8_awardOf 16 = .ok (.goto 7, 3) := by decide +kernel
theorem dX8_awardOf_19 : decode cX8_awardOf 19 = .ok (.aload_n 3, 1) := by decide +kernel
theorem dX8_awardOf_20 : decode cX8_awardOf 20 = .ok (.getfield 143, 3) := by decide +kernel
theorem dX8_awardOf_23 : decode cX8_awardOf 23 = .ok (.ireturn, 1) := by decide +kernel
set_option maxRecDepth 20000 in
theorem ggX8_winner_X8_awardAt : GoodIn wsX8_winner wsX8_awardAt := goodIn_ca (goodIn_r _ [7, 8, 9, 10, 11, 12, 13, 14, 15, 16, 17, 18, 19, 20, 21, 22, 23, 24, 25, 26, 27, 28, 29, 30, 31, 32, 33, 34, 48, 49, 50, 51, 52, 53, 54, 55, 56] (by decide +kernel) (by decide +kernel)) (goodIn_sub (fun _ h => List.mem_cons_of_mem _ (List.mem_append_right _ h)) (by decide +kernel))
set_option maxRecDepth 20000 in
theorem gX8_winner_X8_awardAt : GoodIn wsX8_winner (wsV RX8 148 RX8 yX8_awardAt wsX8_awardAt) := goodIn_app (goodIn_of _ (by decide +kernel)) ggX8_winner_X8_awardAt
theorem dX8_winner_0 : decode cX8_winner 0 = .ok (.aload_n 0, 1) := by decide +kernel
theorem dX8_winner_1 : decode cX8_winner 1 = .ok (.iload_n 1, 1) := by decide +kernel
theorem dX8_winner_2 : decode cX8_winner 2 = .ok (.invokevirtual 148, 3) := by decide +kernel
theorem dX8_winner_5 : decode cX8_winner 5 = .ok (.getfield 152, 3) := by decide +kernel
theorem dX8_winner_8 : decode cX8_winner 8 = .ok (.getfield 156, 3) := by decide +kernel
theorem dX8_winner_11 : decode cX8_winner 11 = .ok (.ireturn, 1) := by decide +kernel
set_option maxRecDepth 20000 in
theorem ggX8_isVoid_X8_awardAt : GoodIn wsX8_isVoid wsX8_awardAt := goodIn_ca (goodIn_r _ [6, 7, 8, 9, 10, 11, 12, 13, 14, 15, 16, 17, 18, 19, 20, 21, 22, 23, 24, 25, 26, 27, 28, 29, 30, 31, 32, 33, 41, 42, 43, 44, 45, 46, 47, 48, 49] (by decide +kernel) (by decide +kernel)) (goodIn_sub (fun _ h => List.mem_cons_of_mem _ (List.mem_append_right _ h)) (by decide +kernel))
set_option maxRecDepth 20000 in
theorem gX8_isVoid_X8_awardAt : GoodIn wsX8_isVoid (wsV RX8 148 RX8 yX8_awardAt wsX8_awardAt) := goodIn_app (goodIn_of _ (by decide +kernel)) ggX8_isVoid_X8_awardAt
theorem dX8_isVoid_0 : decode cX8_isVoid 0 = .ok (.aload_n 0, 1) := by decide +kernel
theorem dX8_isVoid_1 : decode cX8_isVoid 1 = .ok (.iload_n 1, 1) := by decide +kernel
theorem dX8_isVoid_2 : decode cX8_isVoid 2 = .ok (.invokevirtual 148, 3) := by decide +kernel
theorem dX8_isVoid_5 : decode cX8_isVoid 5 = .ok (.getfield 159, 3) := by decide +kernel
theorem dX8_isVoid_8 : decode cX8_isVoid 8 = .ok (.ireturn, 1) := by decide +kernel
set_option maxRecDepth 20000 in
theorem ggX8_isFinal_X8_awardAt : GoodIn wsX8_isFinal wsX8_awardAt := goodIn_ca (goodIn_r _ [5, 6, 7, 8, 9, 10, 11, 12, 13, 14, 15, 16, 17, 18, 19, 20, 21, 22, 23, 24, 25, 26, 27, 28, 29, 30, 31, 32, 48, 49, 50, 51, 52, 53, 54, 55, 56] (by decide +kernel) (by decide +kernel)) (goodIn_sub (fun _ h => List.mem_cons_of_mem _ (List.mem_append_right _ h)) (by decide +kernel))
set_option maxRecDepth 20000 in
theorem gX8_isFinal_X8_awardAt : GoodIn wsX8_isFinal (wsV RX8 148 RX8 yX8_awardAt wsX8_awardAt) := goodIn_app (goodIn_of _ (by decide +kernel)) ggX8_isFinal_X8_awardAt
set_option maxRecDepth 20000 in
theorem ggX8_isFinal_X8_hasBecomeFinal : GoodIn wsX8_isFinal wsX8_hasBecomeFinal := goodIn_r _ [36, 37, 38, 39, 40, 41, 42, 4, 43, 44, 45, 46, 47, 10, 11, 12, 13, 14, 15, 16, 17, 18, 19, 20, 21, 22, 23, 24, 25, 26, 27, 28, 29, 30, 31, 32, 57, 58, 59, 60, 61, 62, 63, 48, 49, 50, 51, 52, 53, 64, 65, 66, 67, 68, 69, 54, 55, 56] (by decide +kernel) (by decide +kernel)
set_option maxRecDepth 20000 in
theorem gX8_isFinal_X8_hasBecomeFinal : GoodIn wsX8_isFinal (wsV RX8 163 RX8 yX8_hasBecomeFinal wsX8_hasBecomeFinal) := goodIn_app (goodIn_of _ (by decide +kernel)) ggX8_isFinal_X8_hasBecomeFinal
theorem dX8_isFinal_0 : decode cX8_isFinal 0 = .ok (.aload_n 0, 1) := by decide +kernel
theorem dX8_isFinal_1 : decode cX8_isFinal 1 = .ok (.aload_n 0, 1) := by decide +kernel
theorem dX8_isFinal_2 : decode cX8_isFinal 2 = .ok (.iload_n 1, 1) := by decide +kernel
theorem dX8_isFinal_3 : decode cX8_isFinal 3 = .ok (.invokevirtual 148, 3) := by decide +kernel
theorem dX8_isFinal_6 : decode cX8_isFinal 6 = .ok (.invokevirtual 163, 3) := by decide +kernel
theorem dX8_isFinal_9 : decode cX8_isFinal 9 = .ok (.ireturn, 1) := by decide +kernel
set_option maxRecDepth 20000 in
theorem ggX8_winnerAnew_X8_lotAt : GoodIn wsX8_winnerAnew wsX8_lotAt := goodIn_ca (goodIn_r _ [6, 7, 8, 9, 10, 11, 12, 13, 5, 14, 15, 16, 17, 18, 19, 20, 21, 22, 23, 24, 25, 26, 27, 28, 29, 30, 31, 32, 33, 34, 35, 36, 37, 38, 39, 193, 194, 195, 196, 197, 198, 199, 200, 201, 202, 203, 204, 205, 206, 207] (by decide +kernel) (by decide +kernel)) (goodIn_sub (fun _ h => List.mem_cons_of_mem _ (List.mem_append_right _ h)) (by decide +kernel))
set_option maxRecDepth 20000 in
theorem gX8_winnerAnew_X8_lotAt : GoodIn wsX8_winnerAnew (wsV RX8 83 RX8 yX8_lotAt wsX8_lotAt) := goodIn_app (goodIn_of _ (by decide +kernel)) ggX8_winnerAnew_X8_lotAt
set_option maxRecDepth 20000 in
theorem ggX8_winnerAnew_X8_isOpened : GoodIn wsX8_winnerAnew wsX8_isOpened := goodIn_r _ [43, 44, 45, 199, 200, 201, 202, 203, 204, 193, 194, 195, 196, 197, 198] (by decide +kernel) (by decide +kernel)
set_option maxRecDepth 20000 in
theorem gX8_winnerAnew_X8_isOpened : GoodIn wsX8_winnerAnew (wsV RX8 63 RX8 yX8_isOpened wsX8_isOpened) := goodIn_app (goodIn_of _ (by decide +kernel)) ggX8_winnerAnew_X8_isOpened
set_option maxRecDepth 20000 in
theorem ggX8_winnerAnew_X5_followedAnew : GoodIn wsX8_winnerAnew wsX5_followedAnew := goodIn_r _ [50, 51, 52, 49, 53, 54, 55, 56, 57, 58, 59, 60, 61, 62, 63, 64, 65, 66, 67, 20, 68, 69, 70, 71, 39, 72, 73, 74, 75, 76, 77, 78, 79, 80, 81, 82, 18, 19, 21, 22, 83, 24, 25, 26, 27, 28, 29, 30, 31, 32, 33, 34, 35, 36, 37, 38, 84, 85, 86, 87, 88, 89, 90, 91, 92, 93, 94, 95, 96, 97, 98, 99, 100, 101, 102, 103, 104, 105, 106, 107, 108, 109, 110, 111, 112, 113, 114, 115, 116, 117, 118, 119, 120, 121, 122, 123, 124, 125, 126, 127, 128, 129, 130, 131, 132, 133, 134, 135, 136, 137, 138, 139, 140, 141, 142, 143, 144, 145, 146, 147, 148, 149, 150, 151, 152, 153, 154, 155, 156, 157, 158, 159, 160, 161, 162, 163, 164, 165, 166, 167, 168, 169, 188, 189, 190, 191, 192, 205, 206, 207, 208, 209, 210, 211, 212, 213, 214, 215, 216] (by decide +kernel) (by decide +kernel)
set_option maxRecDepth 20000 in
theorem gX8_winnerAnew_X5_followedAnew : GoodIn wsX8_winnerAnew (wsV RX8 167 RX5 yX5_followedAnew wsX5_followedAnew) := goodIn_app (goodIn_of _ (by decide +kernel)) ggX8_winnerAnew_X5_followedAnew
set_option maxRecDepth 20000 in
theorem ggX8_winnerAnew_X5_bidAtPlace : GoodIn wsX8_winnerAnew wsX5_bidAtPlace := goodIn_r _ [173, 56, 57, 163, 162, 82, 18, 19, 20, 21, 22, 83, 24, 25, 26, 27, 28, 29, 30, 31, 32, 33, 34, 35, 36, 37, 38, 39, 174, 175, 176, 49, 177, 178, 179, 180, 181, 182, 53, 183, 161, 188, 189, 190, 191, 192, 208, 209, 210, 211, 212, 213, 205, 206, 207, 193, 194, 195, 196, 197, 198] (by decide +kernel) (by decide +kernel)
set_option maxRecDepth 20000 in
theorem gX8_winnerAnew_X5_bidAtPlace : GoodIn wsX8_winnerAnew (wsV RX8 129 RX5 yX5_bidAtPlace wsX5_bidAtPlace) := goodIn_app (goodIn_of _ (by decide +kernel)) ggX8_winnerAnew_X5_bidAtPlace
set_option maxRecDepth 20000 in
theorem ggX8_winnerAnew_X8_bidderOf : GoodIn wsX8_winnerAnew wsX8_bidderOf := goodIn_r _ [186, 187, 208, 209, 210, 211, 212, 213] (by decide +kernel) (by decide +kernel)
set_option maxRecDepth 20000 in
theorem gX8_winnerAnew_X8_bidderOf : GoodIn wsX8_winnerAnew (va_wsS RX8 132 yX8_bidderOf wsX8_bidderOf) := goodIn_app (goodIn_of _ (by decide +kernel)) ggX8_winnerAnew_X8_bidderOf
theorem dX8_winnerAnew_0 : decode cX8_winnerAnew 0 = .ok (.aload_n 0, 1) := by decide +kernel
theorem dX8_winnerAnew_1 : decode cX8_winnerAnew 1 = .ok (.iload_n 1, 1) := by decide +kernel
theorem dX8_winnerAnew_2 : decode cX8_winnerAnew 2 = .ok (.iload_n 2, 1) := by decide +kernel
theorem dX8_winnerAnew_3 : decode cX8_winnerAnew 3 = .ok (.invokevirtual 83, 3) := by decide +kernel
theorem dX8_winnerAnew_6 : decode cX8_winnerAnew 6 = .ok (.astore_n 3, 1) := by decide +kernel
theorem dX8_winnerAnew_7 : decode cX8_winnerAnew 7 = .ok (.aload_n 0, 1) := by decide +kernel
theorem dX8_winnerAnew_8 : decode cX8_winnerAnew 8 = .ok (.aload_n 3, 1) := by decide +kernel
theorem dX8_winnerAnew_9 : decode cX8_winnerAnew 9 = .ok (.getfield 88, 3) := by decide +kernel
theorem dX8_winnerAnew_12 : decode cX8_winnerAnew 12 = .ok (.invokevirtual 63, 3) := by decide +kernel
theorem dX8_winnerAnew_15 : decode cX8_winnerAnew 15 = .ok (.ifCond .ne 5, 3) := by decide +kernel
theorem dX8_winnerAnew_18 : decode cX8_winnerAnew 18 = .ok (.iconst (-1), 1) := by decide +kernel
theorem dX8_winnerAnew_19 : decode cX8_winnerAnew 19 = .ok (.ireturn, 1) := by decide +kernel
theorem dX8_winnerAnew_20 : decode cX8_winnerAnew 20 = .ok (.aload_n 3, 1) := by decide +kernel
theorem dX8_winnerAnew_21 : decode cX8_winnerAnew 21 = .ok (.invokevirtual 167, 3) := by decide +kernel
theorem dX8_winnerAnew_24 : decode cX8_winnerAnew 24 = .ok (.iconst 0, 1) := by decide +kernel
theorem dX8_winnerAnew_25 : decode cX8_winnerAnew 25 = .ok (.invokevirtual 129, 3) := by decide +kernel
theorem dX8_winnerAnew_28 : decode cX8_winnerAnew 28 = .ok (.invokestatic 132, 3) := by decide +kernel
theorem dX8_winnerAnew_31 : decode cX8_winnerAnew 31 = .ok (.ireturn, 1) := by decide +kernel
set_option maxRecDepth 20000 in
theorem ggX8_line_X8_awardAt : GoodIn wsX8_line wsX8_awardAt := goodIn_ca (goodIn_r _ [5, 6, 7, 8, 9, 10, 11, 12, 13, 14, 15, 16, 17, 18, 19, 20, 21, 22, 23, 24, 25, 26, 27, 28, 29, 30, 31, 32, 227, 228, 229, 230, 231, 232, 233, 234, 235] (by decide +kernel) (by decide +kernel)) (goodIn_sub (fun _ h => List.mem_cons_of_mem _ (List.mem_append_right _ h)) (by decide +kernel))
set_option maxRecDepth 20000 in
theorem gX8_line_X8_awardAt : GoodIn wsX8_line (wsV RX8 148 RX8 yX8_awardAt wsX8_awardAt) := goodIn_app (goodIn_of _ (by decide +kernel)) ggX8_line_X8_awardAt
set_option maxRecDepth 20000 in
theorem ggX8_line_X8_lineOf : GoodIn wsX8_line wsX8_lineOf := goodIn_r _ [36, 37, 38, 39, 40, 41, 42, 43, 44, 45, 46, 47, 48, 49, 50, 51, 52, 53, 54, 55, 56, 57, 58, 59, 60, 61, 62, 63, 64, 65, 66, 67, 68, 69, 70, 71, 72, 73, 74, 75, 76, 77, 78, 79, 80, 81, 82, 83, 84, 85, 86, 87, 88, 89, 90, 91, 92, 93, 94, 95, 96, 97, 98, 99, 100, 101, 102, 103, 104, 105, 106, 107, 108, 109, 110, 111, 112, 113, 114, 115, 116, 117, 118, 119, 120, 121, 122, 123, 124, 125, 126, 127, 128, 129, 130, 131, 132, 133, 134, 135, 136, 137, 138, 139, 140, 141, 142, 143, 144, 145, 146, 147, 148, 149, 150, 151, 152, 153, 26, 154, 155, 156, 157, 158, 159, 160, 161, 162, 163, 164, 165, 166, 167, 168, 169, 170, 25, 27, 171, 172, 173, 174, 175, 176, 177, 178, 179, 180, 181, 182, 183, 184, 185, 186, 187, 188, 189, 190, 191, 192, 193, 194, 195, 196, 197, 198, 199, 200, 201, 202, 203, 204, 205, 206, 207, 4, 208, 209, 210, 211, 212, 213, 214, 215, 216, 217, 218, 10, 11, 12, 13, 14, 15, 16, 17, 18, 19, 20, 21, 22, 23, 24, 28, 29, 30, 31, 32, 236, 237, 238, 239, 240, 241, 242, 243, 244, 245, 246, 247, 248, 249, 250, 251, 252, 253, 254, 255, 256, 257, 258, 259, 260, 261, 262, 263, 227, 228, 229, 230, 231, 232, 264, 265, 266, 267, 268, 269, 233, 234, 235] (by decide +kernel) (by decide +kernel)
set_option maxRecDepth 20000 in
theorem gX8_line_X8_lineOf : GoodIn wsX8_line (wsV RX8 171 RX8 yX8_lineOf wsX8_lineOf) := goodIn_app (goodIn_of _ (by decide +kernel)) ggX8_line_X8_lineOf
set_option maxRecDepth 20000 in
theorem ggX8_line_J4_length_8abf5 : GoodIn wsX8_line wsJ4_length_8abf5 := goodIn_r _ [222, 223, 224, 77, 225, 54, 226, 80, 236, 237, 238, 239] (by decide +kernel) (by decide +kernel)
set_option maxRecDepth 20000 in
theorem gX8_line_J4_length_8abf5 : GoodIn wsX8_line (wsV RX8 175 RJ4 yJ4_length_8abf5 wsJ4_length_8abf5) := goodIn_app (goodIn_of _ (by decide +kernel)) ggX8_line_J4_length_8abf5
theorem dX8_line_0 : decode cX8_line 0 = .ok (.aload_n 0, 1) := by decide +kernel
theorem dX8_line_1 : decode cX8_line 1 = .ok (.aload_n 0, 1) := by decide +kernel
theorem dX8_line_2 : decode cX8_line 2 = .ok (.iload_n 1, 1) := by decide +kernel
theorem dX8_line_3 : decode cX8_line 3 = .ok (.invokevirtual 148, 3) := by decide +kernel
theorem dX8_line_6 : decode cX8_line 6 = .ok (.invokevirtual 171, 3) := by decide +kernel
theorem dX8_line_9 : decode cX8_line 9 = .ok (.invokevirtual 175, 3) := by decide +kernel
theorem dX8_line_12 : decode cX8_line 12 = .ok (.ireturn, 1) := by decide +kernel
set_option maxRecDepth 20000 in
theorem ggX8_lineChar_X8_awardAt : GoodIn wsX8_lineChar wsX8_awardAt := goodIn_ca (goodIn_r _ [7, 1, 2, 8, 9, 10, 11, 12, 13, 14, 15, 16, 17, 18, 19, 20, 21, 22, 23, 24, 25, 26, 27, 28, 29, 30, 31, 32, 240, 241, 242, 243, 244, 245, 246, 247, 248] (by decide +kernel) (by decide +kernel)) (goodIn_sub (fun _ h => List.mem_cons_of_mem _ (List.mem_append_right _ h)) (by decide +kernel))
set_option maxRecDepth 20000 in
theorem gX8_lineChar_X8_awardAt : GoodIn wsX8_lineChar (wsV RX8 148 RX8 yX8_awardAt wsX8_awardAt) := goodIn_app (goodIn_of _ (by decide +kernel)) ggX8_lineChar_X8_awardAt
set_option maxRecDepth 20000 in
theorem ggX8_lineChar_X8_lineOf : GoodIn wsX8_lineChar wsX8_lineOf := goodIn_r _ [36, 37, 38, 39, 40, 41, 42, 43, 44, 45, 46, 47, 48, 49, 50, 51, 52, 53, 54, 55, 56, 57, 58, 59, 60, 61, 62, 63, 64, 65, 66, 67, 68, 69, 70, 71, 72, 73, 74, 75, 76, 77, 78, 79, 80, 81, 82, 83, 84, 85, 86, 87, 88, 89, 90, 91, 92, 93, 94, 95, 96, 97, 98, 99, 100, 101, 102, 103, 104, 105, 106, 107, 108, 109, 110, 111, 112, 113, 114, 115, 116, 117, 118, 119, 120, 121, 122, 123, 124, 125, 126, 127, 128, 129, 130, 131, 132, 133, 134, 135, 136, 137, 138, 139, 140, 141, 142, 143, 144, 145, 146, 147, 148, 149, 150, 151, 152, 153, 26, 154, 155, 156, 157, 158, 159, 160, 161, 162, 163, 164, 165, 166, 167, 168, 169, 170, 25, 27, 171, 172, 173, 174, 175, 176, 177, 178, 179, 180, 181, 182, 183, 184, 185, 186, 187, 188, 189, 190, 191, 192, 193, 194, 195, 196, 197, 198, 199, 200, 201, 202, 203, 204, 205, 206, 207, 6, 208, 209, 210, 211, 212, 213, 214, 215, 216, 217, 218, 10, 11, 12, 13, 14, 15, 16, 17, 18, 19, 20, 21, 22, 23, 24, 28, 29, 30, 31, 32, 249, 250, 251, 252, 253, 254, 255, 256, 257, 258, 259, 260, 261, 262, 263, 264, 265, 266, 267, 268, 269, 270, 271, 272, 273, 274, 275, 276, 240, 241, 242, 243, 244, 245, 277, 278, 279, 280, 281, 282, 246, 247, 248] (by decide +kernel) (by decide +kernel)
set_option maxRecDepth 20000 in
theorem gX8_lineChar_X8_lineOf : GoodIn wsX8_lineChar (wsV RX8 171 RX8 yX8_lineOf wsX8_lineOf) := goodIn_app (goodIn_of _ (by decide +kernel)) ggX8_lineChar_X8_lineOf
set_option maxRecDepth 20000 in
theorem ggX8_lineChar_J4_length_8abf5 : GoodIn wsX8_lineChar wsJ4_length_8abf5 := goodIn_r _ [222, 223, 224, 77, 225, 54, 226, 80, 249, 250, 251, 252] (by decide +kernel) (by decide +kernel)
set_option maxRecDepth 20000 in
theorem gX8_lineChar_J4_length_8abf5 : GoodIn wsX8_lineChar (wsV RX8 175 RJ4 yJ4_length_8abf5 wsJ4_length_8abf5) := goodIn_app (goodIn_of _ (by decide +kernel)) ggX8_lineChar_J4_length_8abf5
set_option maxRecDepth 20000 in
theorem ggX8_lineChar_J4_charAt_5068e : GoodIn wsX8_lineChar wsJ4_charAt_5068e := goodIn_r _ [230, 231, 232, 77, 233, 54, 234, 62, 61, 80, 235, 115, 98, 116, 236, 168, 149, 169, 151, 170, 25, 26, 27, 237, 238, 65, 239, 158, 159, 160, 144, 145, 146, 249, 250, 251, 252] (by decide +kernel) (by decide +kernel)
set_option maxRecDepth 20000 in
theorem gX8_lineChar_J4_charAt_5068e : GoodIn wsX8_lineChar (wsV RX8 180 RJ4 yJ4_charAt_5068e wsJ4_charAt_5068e) := goodIn_app (goodIn_of _ (by decide +kernel)) ggX8_lineChar_J4_charAt_5068e
theorem dX8_lineChar_0 : decode cX8_lineChar 0 = .ok (.aload_n 0, 1) := by decide +kernel
theorem dX8_lineChar_1 : decode cX8_lineChar 1 = .ok (.aload_n 0, 1) := by decide +kernel
theorem dX8_lineChar_2 : decode cX8_lineChar 2 = .ok (.iload_n 1, 1) := by decide +kernel
theorem dX8_lineChar_3 : decode cX8_lineChar 3 = .ok (.invokevirtual 148, 3) := by decide +kernel
theorem dX8_lineChar_6 : decode cX8_lineChar 6 = .ok (.invokevirtual 171, 3) := by decide +kernel
theorem dX8_lineChar_9 : decode cX8_lineChar 9 = .ok (.astore_n 3, 1) := by decide +kernel
theorem dX8_lineChar_10 : decode cX8_lineChar 10 = .ok (.iload_n 2, 1) := by decide +kernel
theorem dX8_lineChar_11 : decode cX8_lineChar 11 = .ok (.ifCond .lt 11, 3) := by decide +kernel
theorem dX8_lineChar_14 : decode cX8_lineChar 14 = .ok (.iload_n 2, 1) := by decide +kernel
theorem dX8_lineChar_15 : decode cX8_lineChar 15 = .ok (.aload_n 3, 1) := by decide +kernel
theorem dX8_lineChar_16 : decode cX8_lineChar 16 = .ok (.invokevirtual 175, 3) := by decide +kernel
theorem dX8_lineChar_19 : decode cX8_lineChar 19 = .ok (.if_icmp .lt 11, 3) := by decide +kernel
theorem dX8_lineChar_22 : decode cX8_lineChar 22 = .ok (.new 76, 3) := by decide +kernel
theorem dX8_lineChar_25 : decode cX8_lineChar 25 = .ok (.dup, 1) := by decide +kernel
theorem dX8_lineChar_26 : decode cX8_lineChar 26 = .ok (.invokespecial 78, 3) := by decide +kernel
theorem dX8_lineChar_29 : decode cX8_lineChar 29 = .ok (.athrow, 1) := by decide +kernel
theorem dX8_lineChar_30 : decode cX8_lineChar 30 = .ok (.aload_n 3, 1) := by decide +kernel
theorem dX8_lineChar_31 : decode cX8_lineChar 31 = .ok (.iload_n 2, 1) := by decide +kernel
theorem dX8_lineChar_32 : decode cX8_lineChar 32 = .ok (.invokevirtual 180, 3) := by decide +kernel
theorem dX8_lineChar_35 : decode cX8_lineChar 35 = .ok (.ireturn, 1) := by decide +kernel
set_option maxRecDepth 20000 in
theorem ggX8_complain_X8_checkBidder : GoodIn wsX8_complain wsX8_checkBidder := goodIn_ca (goodIn_r _ [15, 16, 17] (by decide +kernel) (by decide +kernel)) (goodIn_sub (fun _ h => List.mem_cons_of_mem _ (List.mem_append_right _ h)) (by decide +kernel))
set_option maxRecDepth 20000 in
theorem gX8_complain_X8_checkBidder : GoodIn wsX8_complain (va_wsS RX8 79 yX8_checkBidder wsX8_checkBidder) := goodIn_app (goodIn_of _ (by decide +kernel)) ggX8_complain_X8_checkBidder
set_option maxRecDepth 20000 in
theorem ggX8_complain_X8_awardAt : GoodIn wsX8_complain wsX8_awardAt := goodIn_ca (goodIn_r _ [21, 16, 17, 22, 23, 24, 25, 26, 27, 28, 29, 30, 31, 32, 33, 34, 35, 36, 37, 38, 39, 40, 41, 42, 43, 44, 45, 46, 139, 140, 141, 142, 143, 144, 158, 159, 160] (by decide +kernel) (by decide +kernel)) (goodIn_sub (fun _ h => List.mem_cons_of_mem _ (List.mem_append_right _ h)) (by decide +kernel))
set_option maxRecDepth 20000 in
theorem gX8_complain_X8_awardAt : GoodIn wsX8_complain (wsV RX8 148 RX8 yX8_awardAt wsX8_awardAt) := goodIn_app (goodIn_of _ (by decide +kernel)) ggX8_complain_X8_awardAt
set_option maxRecDepth 20000 in
theorem ggX8_complain_X8_isOutside : GoodIn wsX8_complain wsX8_isOutside := goodIn_r _ [49] (by decide +kernel) (by decide +kernel)
set_option maxRecDepth 20000 in
theorem gX8_complain_X8_isOutside : GoodIn wsX8_complain (va_wsS RX8 33 yX8_isOutside wsX8_isOutside) := goodIn_app (goodIn_of _ (by decide +kernel)) ggX8_complain_X8_isOutside
set_option maxRecDepth 20000 in
theorem ggX8_complain_Jx4a65c_size_8abf5 : GoodIn wsX8_complain wsJx4a65c_size_8abf5 := goodIn_r _ [28, 29, 158, 159, 160] (by decide +kernel) (by decide +kernel)
set_option maxRecDepth 20000 in
theorem gX8_complain_Jx4a65c_size_8abf5 : GoodIn wsX8_complain (wsV RX8 40 RJx4a65c yJx4a65c_size_8abf5 wsJx4a65c_size_8abf5) := goodIn_app (goodIn_of _ (by decide +kernel)) ggX8_complain_Jx4a65c_size_8abf5
set_option maxRecDepth 20000 in
theorem ggX8_complain_X8_mayComplain : GoodIn wsX8_complain wsX8_mayComplain := goodIn_r _ [53, 54, 55, 56, 57, 58, 59, 60, 61, 62, 63, 64, 65, 66, 67, 25, 26, 27, 28, 29, 68, 31, 32, 33, 34, 35, 36, 37, 38, 39, 40, 41, 42, 43, 44, 45, 46, 69, 70, 71, 14, 72, 5, 73, 74, 75, 24, 30, 145, 146, 147, 148, 149, 150, 151, 161, 162, 163, 164, 165, 166, 167, 168, 169, 170, 171, 158, 159, 160, 139, 140, 141, 142, 143, 144, 152, 153, 154, 155, 156, 157] (by decide +kernel) (by decide +kernel)
set_option maxRecDepth 20000 in
theorem gX8_complain_X8_mayComplain : GoodIn wsX8_complain (wsV RX8 187 RX8 yX8_mayComplain wsX8_mayComplain) := goodIn_app (goodIn_of _ (by decide +kernel)) ggX8_complain_X8_mayComplain
set_option maxRecDepth 20000 in
theorem ggX8_complain_X3_init : GoodIn wsX8_complain wsX3_init := goodIn_r _ [78, 79, 80, 81, 82, 83, 84, 85, 152, 153, 154, 155, 156, 157] (by decide +kernel) (by decide +kernel)
set_option maxRecDepth 20000 in
theorem gX8_complain_X3_init : GoodIn wsX8_complain (wsX3_init) := ggX8_complain_X3_init
set_option maxRecDepth 20000 in
theorem ggX8_complain_Jx4a65c_add_9ea2d : GoodIn wsX8_complain wsJx4a65c_add_9ea2d := goodIn_r _ [89, 90, 91, 46, 29, 92, 93, 94, 27, 95, 96, 97, 98, 99, 100, 101, 102, 103, 104, 105, 106, 107, 108, 109, 110, 111, 112, 113, 114, 115, 116, 117, 118, 119, 120, 121, 122, 123, 124, 125, 126, 127, 128, 129, 130, 131, 132, 133, 134, 135, 136, 137, 138, 158, 159, 160] (by decide +kernel) (by decide +kernel)
set_option maxRecDepth 20000 in
theorem gX8_complain_Jx4a65c_add_9ea2d : GoodIn wsX8_complain (wsV RX8 52 RJx4a65c yJx4a65c_add_9ea2d wsJx4a65c_add_9ea2d) := goodIn_app (goodIn_of _ (by decide +kernel)) ggX8_complain_Jx4a65c_add_9ea2d
theorem dX8_complain_0 : decode cX8_complain 0 = .ok (.iload_n 1, 1) := by decide +kernel
theorem dX8_complain_1 : decode cX8_complain 1 = .ok (.invokestatic 79, 3) := by decide +kernel
theorem dX8_complain_4 : decode cX8_complain 4 = .ok (.aload_n 0, 1) := by decide +kernel
theorem dX8_complain_5 : decode cX8_complain 5 = .ok (.iload_n 2, 1) := by decide +kernel
theorem dX8_complain_6 : decode cX8_complain 6 = .ok (.invokevirtual 148, 3) := by decide +kernel
theorem dX8_complain_9 : decode cX8_complain 9 = .ok (.astore 4, 2) := by decide +kernel
theorem dX8_complain_11 : decode cX8_complain 11 = .ok (.iload_n 3, 1) := by decide +kernel
theorem dX8_complain_12 : decode cX8_complain 12 = .ok (.iconst 0, 1) := by decide +kernel
theorem dX8_complain_13 : decode cX8_complain 13 = .ok (.iconst 2, 1) := by decide +kernel
theorem dX8_complain_14 : decode cX8_complain 14 = .ok (.invokestatic 33, 3) := by decide +kernel
theorem dX8_complain_17 : decode cX8_complain 17 = .ok (.ifCond .eq 11, 3) := by decide +kernel
theorem dX8_complain_20 : decode cX8_complain 20 = .ok (.new 37, 3) := by decide +kernel
theorem dX8_complain_23 : decode cX8_complain 23 = .ok (.dup, 1) := by decide +kernel
theorem dX8_complain_24 : decode cX8_complain 24 = .ok (.invokespecial 39, 3) := by decide +kernel
theorem dX8_complain_27 : decode cX8_complain 27 = .ok (.athrow, 1) := by decide +kernel
theorem dX8_complain_28 : decode cX8_complain 28 = .ok (.aload_n 0, 1) := by decide +kernel
theorem dX8_complain_29 : decode cX8_complain 29 = .ok (.getfield 23, 3) := by decide +kernel
theorem dX8_complain_32 : decode cX8_complain 32 = .ok (.invokevirtual 40, 3) := by decide +kernel
theorem dX8_complain_35 : decode cX8_complain 35 = .ok (.istore 5, 2) := by decide +kernel
theorem dX8_complain_37 : decode cX8_complain 37 = .ok (.aload 4, 2) := by decide +kernel
theorem dX8_complain_39 : decode cX8_complain 39 = .ok (.getfield 159, 3) := by decide +kernel
theorem dX8_complain_42 : decode cX8_complain 42 = .ok (.ifCond .ne 33, 3) := by decide +kernel
theorem dX8_complain_45 : decode cX8_complain 45 = .ok (.aload_n 0, 1) := by decide +kernel
theorem dX8_complain_46 : decode cX8_complain 46 = .ok (.getfield 29, 3) := by decide +kernel
theorem dX8_complain_49 : decode cX8_complain 49 = .ok (.aload 4, 2) := by decide +kernel
theorem dX8_complain_51 : decode cX8_complain 51 = .ok (.getfield 184, 3) := by decide +kernel
theorem dX8_complain_54 : decode cX8_complain 54 = .ok (.if_icmp .ge 21, 3) := by decide +kernel
theorem dX8_complain_57 : decode cX8_complain 57 = .ok (.aload_n 0, 1) := by decide +kernel
theorem dX8_complain_58 : decode cX8_complain 58 = .ok (.iload_n 1, 1) := by decide +kernel
theorem dX8_complain_59 : decode cX8_complain 59 = .ok (.aload 4, 2) := by decide +kernel
theorem dX8_complain_61 : decode cX8_complain 61 = .ok (.iload_n 3, 1) := by decide +kernel
theorem dX8_complain_62 : decode cX8_complain 62 = .ok (.invokevirtual 187, 3) := by decide +kernel
theorem dX8_complain_65 : decode cX8_complain 65 = .ok (.ifCond .eq 10, 3) := by decide +kernel
theorem dX8_complain_68 : decode cX8_complain 68 = .ok (.iload 5, 2) := by decide +kernel
theorem dX8_complain_70 : decode cX8_complain 70 = .ok (.bipush 60, 2) := by decide +kernel
theorem dX8_complain_72 : decode cX8_complain 72 = .ok (.if_icmp .lt 11, 3) := by decide +kernel
theorem dX8_complain_75 : decode cX8_complain 75 = .ok (.new 44, 3) := by decide +kernel
theorem dX8_complain_78 : decode cX8_complain 78 = .ok (.dup, 1) := by decide +kernel
theorem dX8_complain_79 : decode cX8_complain 79 = .ok (.invokespecial 46, 3) := by decide +kernel
theorem dX8_complain_82 : decode cX8_complain 82 = .ok (.athrow, 1) := by decide +kernel
theorem dX8_complain_83 : decode cX8_complain 83 = .ok (.aload_n 0, 1) := by decide +kernel
theorem dX8_complain_84 : decode cX8_complain 84 = .ok (.getfield 23, 3) := by decide +kernel
theorem dX8_complain_87 : decode cX8_complain 87 = .ok (.new 191, 3) := by decide +kernel
theorem dX8_complain_90 : decode cX8_complain 90 = .ok (.dup, 1) := by decide +kernel
theorem dX8_complain_91 : decode cX8_complain 91 = .ok (.iload_n 1, 1) := by decide +kernel
theorem dX8_complain_92 : decode cX8_complain 92 = .ok (.aload 4, 2) := by decide +kernel
theorem dX8_complain_94 : decode cX8_complain 94 = .ok (.iload_n 3, 1) := by decide +kernel
theorem dX8_complain_95 : decode cX8_complain 95 = .ok (.invokespecial 193, 3) := by decide +kernel
theorem dX8_complain_98 : decode cX8_complain 98 = .ok (.invokevirtual 52, 3) := by decide +kernel
theorem dX8_complain_101 : decode cX8_complain 101 = .ok (.pop, 1) := by decide +kernel
theorem dX8_complain_102 : decode cX8_complain 102 = .ok (.iload 5, 2) := by decide +kernel
theorem dX8_complain_104 : decode cX8_complain 104 = .ok (.ireturn, 1) := by decide +kernel
set_option maxRecDepth 20000 in
theorem ggX8_rule_X8_complaintAt : GoodIn wsX8_rule wsX8_complaintAt := goodIn_ca (goodIn_r _ [13, 14, 15, 16, 17, 18, 19, 20, 21, 22, 23, 24, 25, 26, 27, 28, 29, 30, 31, 32, 33, 34, 35, 36, 37, 38, 39, 40, 184, 185, 186, 187, 188, 189, 190, 191, 192] (by decide +kernel) (by decide +kernel)) (goodIn_sub (fun _ h => List.mem_cons_of_mem _ (List.mem_append_right _ h)) (by decide +kernel))
set_option maxRecDepth 20000 in
theorem gX8_rule_X8_complaintAt : GoodIn wsX8_rule (wsV RX8 196 RX8 yX8_complaintAt wsX8_complaintAt) := goodIn_app (goodIn_of _ (by decide +kernel)) ggX8_rule_X8_complaintAt
set_option maxRecDepth 20000 in
theorem ggX8_rule_X8_isOutside : GoodIn wsX8_rule wsX8_isOutside := goodIn_r _ [43] (by decide +kernel) (by decide +kernel)
set_option maxRecDepth 20000 in
theorem gX8_rule_X8_isOutside : GoodIn wsX8_rule (va_wsS RX8 33 yX8_isOutside wsX8_isOutside) := goodIn_app (goodIn_of _ (by decide +kernel)) ggX8_rule_X8_isOutside
set_option maxRecDepth 20000 in
theorem ggX8_rule_Jx4a65c_size_8abf5 : GoodIn wsX8_rule wsJx4a65c_size_8abf5 := goodIn_r _ [22, 23, 190, 191, 192] (by decide +kernel) (by decide +kernel)
set_option maxRecDepth 20000 in
theorem gX8_rule_Jx4a65c_size_8abf5 : GoodIn wsX8_rule (wsV RX8 40 RJx4a65c yJx4a65c_size_8abf5 wsJx4a65c_size_8abf5) := goodIn_app (goodIn_of _ (by decide +kernel)) ggX8_rule_Jx4a65c_size_8abf5
set_option maxRecDepth 20000 in
theorem ggX8_rule_X8_uphold : GoodIn wsX8_rule wsX8_uphold := goodIn_r _ [47, 48, 5, 16, 17, 49, 50, 51, 52, 53, 54, 55, 18, 19, 20, 21, 22, 23, 24, 25, 26, 27, 28, 29, 30, 31, 32, 33, 34, 35, 36, 37, 38, 39, 40, 56, 57, 58, 59, 60, 61, 62, 63, 64, 65, 66, 67, 12, 68, 69, 70, 71, 72, 73, 74, 75, 76, 77, 78, 79, 80, 81, 82, 83, 84, 85, 86, 87, 88, 89, 90, 91, 92, 93, 94, 95, 96, 97, 98, 99, 100, 101, 102, 103, 104, 105, 106, 107, 108, 109, 110, 111, 112, 113, 114, 115, 116, 117, 118, 119, 120, 121, 122, 123, 124, 125, 126, 127, 128, 129, 130, 131, 132, 133, 134, 135, 136, 137, 138, 139, 140, 141, 142, 143, 144, 145, 146, 147, 148, 149, 6, 150, 151, 152, 7, 153, 154, 155, 156, 157, 158, 159, 160, 161, 162, 163, 164, 165, 166, 167, 168, 169, 170, 171, 172, 173, 174, 175, 176, 177, 178, 179, 180, 181, 182, 183, 184, 185, 186, 187, 188, 189, 193, 194, 195, 196, 197, 198, 199, 200, 201, 202, 203, 204, 205, 206, 207, 208, 190, 191, 192, 209, 210, 211, 212, 213, 214, 215, 216, 217, 218, 219] (by decide +kernel) (by decide +kernel)
set_option maxRecDepth 20000 in
theorem gX8_rule_X8_uphold : GoodIn wsX8_rule (wsV RX8 203 RX8 yX8_uphold wsX8_uphold) := goodIn_app (goodIn_of _ (by decide +kernel)) ggX8_rule_X8_uphold
theorem dX8_rule_0 : decode cX8_rule 0 = .ok (.aload_n 0, 1) := by decide +kernel
theorem dX8_rule_1 : decode cX8_rule 1 = .ok (.iload_n 1, 1) := by decide +kernel
theorem dX8_rule_2 : decode cX8_rule 2 = .ok (.invokevirtual 196, 3) := by decide +kernel
theorem dX8_rule_5 : decode cX8_rule 5 = .ok (.astore 4, 2) := by decide +kernel
theorem dX8_rule_7 : decode cX8_rule 7 = .ok (.iload_n 3, 1) := by decide +kernel
theorem dX8_rule_8 : decode cX8_rule 8 = .ok (.iconst 0, 1) := by decide +kernel
theorem dX8_rule_9 : decode cX8_rule 9 = .ok (.bipush 100, 2) := by decide +kernel
theorem dX8_rule_11 : decode cX8_rule 11 = .ok (.invokestatic 33, 3) := by decide +kernel
theorem dX8_rule_14 : decode cX8_rule 14 = .ok (.ifCond .eq 11, 3) := by decide +kernel
theorem dX8_rule_17 : decode cX8_rule 17 = .ok (.new 37, 3) := by decide +kernel
theorem dX8_rule_20 : decode cX8_rule 20 = .ok (.dup, 1) := by decide +kernel
theorem dX8_rule_21 : decode cX8_rule 21 = .ok (.invokespecial 39, 3) := by decide +kernel
theorem dX8_rule_24 : decode cX8_rule 24 = .ok (.athrow, 1) := by decide +kernel
theorem dX8_rule_25 : decode cX8_rule 25 = .ok (.aload 4, 2) := by decide +kernel
theorem dX8_rule_27 : decode cX8_rule 27 = .ok (.getfield 200, 3) := by decide +kernel
theorem dX8_rule_30 : decode cX8_rule 30 = .ok (.ifCond .ne 19, 3) := by decide +kernel
theorem dX8_rule_33 : decode cX8_rule 33 = .ok (.iload_n 2, 1) := by decide +kernel
theorem dX8_rule_34 : decode cX8_rule 34 = .ok (.ifCond .eq 23, 3) := by decide +kernel
theorem dX8_rule_37 : decode cX8_rule 37 = .ok (.aload_n 0, 1) := by decide +kernel
theorem dX8_rule_38 : decode cX8_rule 38 = .ok (.getfield 20, 3) := by decide +kernel
theorem dX8_rule_41 : decode cX8_rule 41 = .ok (.invokevirtual 40, 3) := by decide +kernel
theorem dX8_rule_44 : decode cX8_rule 44 = .ok (.bipush 60, 2) := by decide +kernel
theorem dX8_rule_46 : decode cX8_rule 46 = .ok (.if_icmp .lt 11, 3) := by decide +kernel
theorem dX8_rule_49 : decode cX8_rule 49 = .ok (.new 44, 3) := by decide +kernel
theorem dX8_rule_52 : decode cX8_rule 52 = .ok (.dup, 1) := by decide +kernel
theorem dX8_rule_53 : decode cX8_rule 53 = .ok (.invokespecial 46, 3) := by decide +kernel
theorem dX8_rule_56 : decode cX8_rule 56 = .ok (.athrow, 1) := by decide +kernel
theorem dX8_rule_57 : decode cX8_rule 57 = .ok (.iload_n 2, 1) := by decide +kernel
theorem dX8_rule_58 : decode cX8_rule 58 = .ok (.ifCond .eq 11, 3) := by decide +kernel
theorem dX8_rule_61 : decode cX8_rule 61 = .ok (.aload_n 0, 1) := by decide +kernel
theorem dX8_rule_62 : decode cX8_rule 62 = .ok (.aload 4, 2) := by decide +kernel
theorem dX8_rule_64 : decode cX8_rule 64 = .ok (.iload_n 3, 1) := by decide +kernel
theorem dX8_rule_65 : decode cX8_rule 65 = .ok (.invokevirtual 203, 3) := by decide +kernel
theorem dX8_rule_68 : decode cX8_rule 68 = .ok (.ireturn, 1) := by decide +kernel
theorem dX8_rule_69 : decode cX8_rule 69 = .ok (.aload 4, 2) := by decide +kernel
theorem dX8_rule_71 : decode cX8_rule 71 = .ok (.iconst 2, 1) := by decide +kernel
theorem dX8_rule_72 : decode cX8_rule 72 = .ok (.putfield 200, 3) := by decide +kernel
theorem dX8_rule_75 : decode cX8_rule 75 = .ok (.aload 4, 2) := by decide +kernel
theorem dX8_rule_77 : decode cX8_rule 77 = .ok (.aload_n 0, 1) := by decide +kernel
theorem dX8_rule_78 : decode cX8_rule 78 = .ok (.getfield 29, 3) := by decide +kernel
theorem dX8_rule_81 : decode cX8_rule 81 = .ok (.putfield 207, 3) := by decide +kernel
theorem dX8_rule_84 : decode cX8_rule 84 = .ok (.iconst (-1), 1) := by decide +kernel
theorem dX8_rule_85 : decode cX8_rule 85 = .ok (.ireturn, 1) := by decide +kernel
set_option maxRecDepth 20000 in
theorem ggX8_appeal_X8_complaintAt : GoodIn wsX8_appeal wsX8_complaintAt := goodIn_ca (goodIn_r _ [13, 14, 15, 16, 17, 18, 19, 20, 21, 22, 23, 24, 25, 26, 27, 28, 29, 30, 31, 32, 33, 34, 35, 36, 37, 38, 39, 40, 51, 52, 53, 54, 55, 56, 64, 65, 66] (by decide +kernel) (by decide +kernel)) (goodIn_sub (fun _ h => List.mem_cons_of_mem _ (List.mem_append_right _ h)) (by decide +kernel))
set_option maxRecDepth 20000 in
theorem gX8_appeal_X8_complaintAt : GoodIn wsX8_appeal (wsV RX8 196 RX8 yX8_complaintAt wsX8_complaintAt) := goodIn_app (goodIn_of _ (by decide +kernel)) ggX8_appeal_X8_complaintAt
set_option maxRecDepth 20000 in
theorem ggX8_appeal_X8_openAbout : GoodIn wsX8_appeal wsX8_openAbout := goodIn_r _ [44, 16, 17, 7, 3, 18, 19, 20, 21, 22, 23, 24, 25, 26, 27, 28, 29, 30, 31, 32, 33, 34, 35, 36, 37, 38, 39, 40, 51, 52, 53, 54, 55, 56, 45, 46, 47, 48, 49, 50, 64, 65, 66] (by decide +kernel) (by decide +kernel)
set_option maxRecDepth 20000 in
theorem gX8_appeal_X8_openAbout : GoodIn wsX8_appeal (wsV RX8 217 RX8 yX8_openAbout wsX8_openAbout) := goodIn_app (goodIn_of _ (by decide +kernel)) ggX8_appeal_X8_openAbout
theorem dX8_appeal_0 : decode cX8_appeal 0 = .ok (.aload_n 0, 1) := by decide +kernel
theorem dX8_appeal_1 : decode cX8_appeal 1 = .ok (.iload_n 1, 1) := by decide +kernel
theorem dX8_appeal_2 : decode cX8_appeal 2 = .ok (.invokevirtual 196, 3) := by decide +kernel
theorem dX8_appeal_5 : decode cX8_appeal 5 = .ok (.astore_n 2, 1) := by decide +kernel
theorem dX8_appeal_6 : decode cX8_appeal 6 = .ok (.aload_n 2, 1) := by decide +kernel
theorem dX8_appeal_7 : decode cX8_appeal 7 = .ok (.getfield 200, 3) := by decide +kernel
theorem dX8_appeal_10 : decode cX8_appeal 10 = .ok (.iconst 2, 1) := by decide +kernel
theorem dX8_appeal_11 : decode cX8_appeal 11 = .ok (.if_icmp .ne 34, 3) := by decide +kernel
theorem dX8_appeal_14 : decode cX8_appeal 14 = .ok (.aload_n 2, 1) := by decide +kernel
theorem dX8_appeal_15 : decode cX8_appeal 15 = .ok (.getfield 210, 3) := by decide +kernel
theorem dX8_appeal_18 : decode cX8_appeal 18 = .ok (.ifCond .ne 27, 3) := by decide +kernel
theorem dX8_appeal_21 : decode cX8_appeal 21 = .ok (.aload_n 0, 1) := by decide +kernel
theorem dX8_appeal_22 : decode cX8_appeal 22 = .ok (.getfield 29, 3) := by decide +kernel
theorem dX8_appeal_25 : decode cX8_appeal 25 = .ok (.aload_n 2, 1) := by decide +kernel
theorem dX8_appeal_26 : decode cX8_appeal 26 = .ok (.getfield 207, 3) := by decide +kernel
theorem dX8_appeal_29 : decode cX8_appeal 29 = .ok (.isub, 1) := by decide +kernel
theorem dX8_appeal_30 : decode cX8_appeal 30 = .ok (.bipush 10, 2) := by decide +kernel
theorem dX8_appeal_32 : decode cX8_appeal 32 = .ok (.if_icmp .gt 13, 3) := by decide +kernel
theorem dX8_appeal_35 : decode cX8_appeal 35 = .ok (.aload_n 2, 1) := by decide +kernel
theorem dX8_appeal_36 : decode cX8_appeal 36 = .ok (.getfield 213, 3) := by decide +kernel
theorem dX8_appeal_39 : decode cX8_appeal 39 = .ok (.getfield 159, 3) := by decide +kernel
theorem dX8_appeal_42 : decode cX8_appeal 42 = .ok (.ifCond .eq 11, 3) := by decide +kernel
theorem dX8_appeal_45 : decode cX8_appeal 45 = .ok (.new 44, 3) := by decide +kernel
theorem dX8_appeal_48 : decode cX8_appeal 48 = .ok (.dup, 1) := by decide +kernel
theorem dX8_appeal_49 : decode cX8_appeal 49 = .ok (.invokespecial 46, 3) := by decide +kernel
theorem dX8_appeal_52 : decode cX8_appeal 52 = .ok (.athrow, 1) := by decide +kernel
theorem dX8_appeal_53 : decode cX8_appeal 53 = .ok (.aload_n 2, 1) := by decide +kernel
theorem dX8_appeal_54 : decode cX8_appeal 54 = .ok (.iconst 0, 1) := by decide +kernel
theorem dX8_appeal_55 : decode cX8_appeal 55 = .ok (.putfield 200, 3) := by decide +kernel
theorem dX8_appeal_58 : decode cX8_appeal 58 = .ok (.aload_n 2, 1) := by decide +kernel
theorem dX8_appeal_59 : decode cX8_appeal 59 = .ok (.iconst 1, 1) := by decide +kernel
theorem dX8_appeal_60 : decode cX8_appeal 60 = .ok (.putfield 210, 3) := by decide +kernel
theorem dX8_appeal_63 : decode cX8_appeal 63 = .ok (.aload_n 0, 1) := by decide +kernel
theorem dX8_appeal_64 : decode cX8_appeal 64 = .ok (.aload_n 2, 1) := by decide +kernel
theorem dX8_appeal_65 : decode cX8_appeal 65 = .ok (.getfield 213, 3) := by decide +kernel
theorem dX8_appeal_68 : decode cX8_appeal 68 = .ok (.invokevirtual 217, 3) := by decide +kernel
theorem dX8_appeal_71 : decode cX8_appeal 71 = .ok (.ireturn, 1) := by decide +kernel
set_option maxRecDepth 20000 in
theorem ggX8_stateOf_X8_complaintAt : GoodIn wsX8_stateOf wsX8_complaintAt := goodIn_ca (goodIn_r _ [6, 7, 8, 9, 10, 11, 12, 13, 14, 15, 16, 17, 18, 19, 20, 21, 22, 23, 24, 25, 26, 27, 28, 29, 30, 31, 32, 33, 40, 41, 42, 43, 44, 45, 46, 47, 48] (by decide +kernel) (by decide +kernel)) (goodIn_sub (fun _ h => List.mem_cons_of_mem _ (List.mem_append_right _ h)) (by decide +kernel))
set_option maxRecDepth 20000 in
theorem gX8_stateOf_X8_complaintAt : GoodIn wsX8_stateOf (wsV RX8 196 RX8 yX8_complaintAt wsX8_complaintAt) := goodIn_app (goodIn_of _ (by decide +kernel)) ggX8_stateOf_X8_complaintAt
theorem dX8_stateOf_0 : decode cX8_stateOf 0 = .ok (.aload_n 0, 1) := by decide +kernel
theorem dX8_stateOf_1 : decode cX8_stateOf 1 = .ok (.iload_n 1, 1) := by decide +kernel
theorem dX8_stateOf_2 : decode cX8_stateOf 2 = .ok (.invokevirtual 196, 3) := by decide +kernel
theorem dX8_stateOf_5 : decode cX8_stateOf 5 = .ok (.getfield 200, 3) := by decide +kernel
theorem dX8_stateOf_8 : decode cX8_stateOf 8 = .ok (.ireturn, 1) := by decide +kernel
set_option maxRecDepth 20000 in
theorem ggX8_sign_X8_awardAt : GoodIn wsX8_sign wsX8_awardAt := goodIn_ca (goodIn_r _ [12, 13, 14, 15, 16, 17, 18, 19, 20, 21, 22, 23, 24, 25, 26, 27, 28, 29, 30, 31, 32, 33, 34, 35, 36, 37, 38, 39, 122, 123, 124, 125, 126, 127, 130, 131, 132] (by decide +kernel) (by decide +kernel)) (goodIn_sub (fun _ h => List.mem_cons_of_mem _ (List.mem_append_right _ h)) (by decide +kernel))
set_option maxRecDepth 20000 in
theorem gX8_sign_X8_awardAt : GoodIn wsX8_sign (wsV RX8 148 RX8 yX8_awardAt wsX8_awardAt) := goodIn_app (goodIn_of _ (by decide +kernel)) ggX8_sign_X8_awardAt
set_option maxRecDepth 20000 in
theorem ggX8_sign_X8_hasBecomeFinal : GoodIn wsX8_sign wsX8_hasBecomeFinal := goodIn_r _ [43, 44, 45, 46, 47, 48, 49, 11, 50, 51, 52, 53, 54, 17, 18, 19, 20, 21, 22, 23, 24, 25, 26, 27, 28, 29, 30, 31, 32, 33, 34, 35, 36, 37, 38, 39, 115, 116, 117, 118, 119, 120, 121, 122, 123, 124, 125, 126, 127, 133, 134, 135, 136, 137, 138, 130, 131, 132] (by decide +kernel) (by decide +kernel)
set_option maxRecDepth 20000 in
theorem gX8_sign_X8_hasBecomeFinal : GoodIn wsX8_sign (wsV RX8 163 RX8 yX8_hasBecomeFinal wsX8_hasBecomeFinal) := goodIn_app (goodIn_of _ (by decide +kernel)) ggX8_sign_X8_hasBecomeFinal
set_option maxRecDepth 20000 in
theorem ggX8_sign_Jx4a65c_size_8abf5 : GoodIn wsX8_sign wsJx4a65c_size_8abf5 := goodIn_r _ [21, 22, 130, 131, 132] (by decide +kernel) (by decide +kernel)
set_option maxRecDepth 20000 in
theorem gX8_sign_Jx4a65c_size_8abf5 : GoodIn wsX8_sign (wsV RX8 40 RJx4a65c yJx4a65c_size_8abf5 wsJx4a65c_size_8abf5) := goodIn_app (goodIn_of _ (by decide +kernel)) ggX8_sign_Jx4a65c_size_8abf5
set_option maxRecDepth 20000 in
theorem ggX8_sign_X4_init : GoodIn wsX8_sign wsX4_init := goodIn_r _ [57, 58, 59, 60, 61, 128, 129] (by decide +kernel) (by decide +kernel)
set_option maxRecDepth 20000 in
theorem gX8_sign_X4_init : GoodIn wsX8_sign (wsX4_init) := ggX8_sign_X4_init
set_option maxRecDepth 20000 in
theorem ggX8_sign_Jx4a65c_add_9ea2d : GoodIn wsX8_sign wsJx4a65c_add_9ea2d := goodIn_r _ [65, 66, 67, 39, 22, 68, 69, 70, 20, 71, 72, 73, 74, 75, 76, 77, 78, 79, 80, 81, 82, 83, 84, 85, 86, 87, 88, 89, 90, 91, 92, 93, 94, 95, 96, 97, 98, 99, 100, 101, 102, 103, 104, 105, 106, 107, 108, 109, 110, 111, 112, 113, 114, 130, 131, 132] (by decide +kernel) (by decide +kernel)
set_option maxRecDepth 20000 in
theorem gX8_sign_Jx4a65c_add_9ea2d : GoodIn wsX8_sign (wsV RX8 52 RJx4a65c yJx4a65c_add_9ea2d wsJx4a65c_add_9ea2d) := goodIn_app (goodIn_of _ (by decide +kernel)) ggX8_sign_Jx4a65c_add_9ea2d
theorem dX8_sign_0 : decode cX8_sign 0 = .ok (.aload_n 0, 1) := by decide +kernel
theorem dX8_sign_1 : decode cX8_sign 1 = .ok (.iload_n 1, 1) := by decide +kernel
theorem dX8_sign_2 : decode cX8_sign 2 = .ok (.invokevirtual 148, 3) := by decide +kernel
theorem dX8_sign_5 : decode cX8_sign 5 = .ok (.astore_n 2, 1) := by decide +kernel
theorem dX8_sign_6 : decode cX8_sign 6 = .ok (.aload_n 0, 1) := by decide +kernel
theorem dX8_sign_7 : decode cX8_sign 7 = .ok (.aload_n 2, 1) := by decide +kernel
theorem dX8_sign_8 : decode cX8_sign 8 = .ok (.invokevirtual 163, 3) := by decide +kernel
theorem dX8_sign_11 : decode cX8_sign 11 = .ok (.ifCond .eq 10, 3) := by decide +kernel
theorem dX8_sign_14 : decode cX8_sign 14 = .ok (.aload_n 2, 1) := by decide +kernel
theorem dX8_sign_15 : decode cX8_sign 15 = .ok (.getfield 221, 3) := by decide +kernel
theorem dX8_sign_18 : decode cX8_sign 18 = .ok (.ifCond .eq 11, 3) := by decide +kernel
theorem dX8_sign_21 : decode cX8_sign 21 = .ok (.new 44, 3) := by decide +kernel
theorem dX8_sign_24 : decode cX8_sign 24 = .ok (.dup, 1) := by decide +kernel
theorem dX8_sign_25 : decode cX8_sign 25 = .ok (.invokespecial 46, 3) := by decide +kernel
theorem dX8_sign_28 : decode cX8_sign 28 = .ok (.athrow, 1) := by decide +kernel
theorem dX8_sign_29 : decode cX8_sign 29 = .ok (.aload_n 2, 1) := by decide +kernel
theorem dX8_sign_30 : decode cX8_sign 30 = .ok (.iconst 1, 1) := by decide +kernel
theorem dX8_sign_31 : decode cX8_sign 31 = .ok (.putfield 221, 3) := by decide +kernel
theorem dX8_sign_34 : decode cX8_sign 34 = .ok (.aload_n 0, 1) := by decide +kernel
theorem dX8_sign_35 : decode cX8_sign 35 = .ok (.getfield 26, 3) := by decide +kernel
theorem dX8_sign_38 : decode cX8_sign 38 = .ok (.invokevirtual 40, 3) := by decide +kernel
theorem dX8_sign_41 : decode cX8_sign 41 = .ok (.istore_n 3, 1) := by decide +kernel
theorem dX8_sign_42 : decode cX8_sign 42 = .ok (.aload_n 0, 1) := by decide +kernel
theorem dX8_sign_43 : decode cX8_sign 43 = .ok (.getfield 26, 3) := by decide +kernel
theorem dX8_sign_46 : decode cX8_sign 46 = .ok (.new 224, 3) := by decide +kernel
theorem dX8_sign_49 : decode cX8_sign 49 = .ok (.dup, 1) := by decide +kernel
theorem dX8_sign_50 : decode cX8_sign 50 = .ok (.aload_n 2, 1) := by decide +kernel
theorem dX8_sign_51 : decode cX8_sign 51 = .ok (.invokespecial 226, 3) := by decide +kernel
theorem dX8_sign_54 : decode cX8_sign 54 = .ok (.invokevirtual 52, 3) := by decide +kernel
theorem dX8_sign_57 : decode cX8_sign 57 = .ok (.pop, 1) := by decide +kernel
theorem dX8_sign_58 : decode cX8_sign 58 = .ok (.iload_n 3, 1) := by decide +kernel
theorem dX8_sign_59 : decode cX8_sign 59 = .ok (.ireturn, 1) := by decide +kernel
set_option maxRecDepth 20000 in
theorem ggX8_call_X8_contractAt : GoodIn wsX8_call wsX8_contractAt := goodIn_ca (goodIn_r _ [15, 16, 17, 18, 19, 20, 21, 22, 23, 24, 25, 26, 27, 28, 29, 30, 31, 32, 33, 34, 35, 36, 37, 38, 39, 40, 41, 42, 69, 70, 71, 72, 73, 74, 75, 76, 77] (by decide +kernel) (by decide +kernel)) (goodIn_sub (fun _ h => List.mem_cons_of_mem _ (List.mem_append_right _ h)) (by decide +kernel))
set_option maxRecDepth 20000 in
theorem gX8_call_X8_contractAt : GoodIn wsX8_call (wsV RX8 229 RX8 yX8_contractAt wsX8_contractAt) := goodIn_app (goodIn_of _ (by decide +kernel)) ggX8_call_X8_contractAt
set_option maxRecDepth 20000 in
theorem ggX8_call_X8_isOutside : GoodIn wsX8_call wsX8_isOutside := goodIn_r _ [45] (by decide +kernel) (by decide +kernel)
set_option maxRecDepth 20000 in
theorem gX8_call_X8_isOutside : GoodIn wsX8_call (va_wsS RX8 33 yX8_isOutside wsX8_isOutside) := goodIn_app (goodIn_of _ (by decide +kernel)) ggX8_call_X8_isOutside
set_option maxRecDepth 20000 in
theorem ggX8_call_X8_openAbout : GoodIn wsX8_call wsX8_openAbout := goodIn_r _ [49, 50, 51, 52, 53, 20, 21, 22, 23, 24, 25, 26, 27, 28, 29, 30, 31, 32, 33, 34, 35, 36, 37, 38, 39, 40, 41, 42, 69, 70, 71, 72, 73, 74, 78, 79, 80, 81, 82, 83, 75, 76, 77] (by decide +kernel) (by decide +kernel)
set_option maxRecDepth 20000 in
theorem gX8_call_X8_openAbout : GoodIn wsX8_call (wsV RX8 217 RX8 yX8_openAbout wsX8_openAbout) := goodIn_app (goodIn_of _ (by decide +kernel)) ggX8_call_X8_openAbout
theorem dX8_call_0 : decode cX8_call 0 = .ok (.aload_n 0, 1) := by decide +kernel
theorem dX8_call_1 : decode cX8_call 1 = .ok (.iload_n 1, 1) := by decide +kernel
theorem dX8_call_2 : decode cX8_call 2 = .ok (.invokevirtual 229, 3) := by decide +kernel
theorem dX8_call_5 : decode cX8_call 5 = .ok (.astore_n 3, 1) := by decide +kernel
theorem dX8_call_6 : decode cX8_call 6 = .ok (.iload_n 2, 1) := by decide +kernel
theorem dX8_call_7 : decode cX8_call 7 = .ok (.iconst 1, 1) := by decide +kernel
theorem dX8_call_8 : decode cX8_call 8 = .ok (.ldc 87, 2) := by decide +kernel
theorem dX8_call_10 : decode cX8_call 10 = .ok (.invokestatic 33, 3) := by decide +kernel
theorem dX8_call_13 : decode cX8_call 13 = .ok (.ifCond .eq 11, 3) := by decide +kernel
theorem dX8_call_16 : decode cX8_call 16 = .ok (.new 37, 3) := by decide +kernel
theorem dX8_call_19 : decode cX8_call 19 = .ok (.dup, 1) := by decide +kernel
theorem dX8_call_20 : decode cX8_call 20 = .ok (.invokespecial 39, 3) := by decide +kernel
theorem dX8_call_23 : decode cX8_call 23 = .ok (.athrow, 1) := by decide +kernel
theorem dX8_call_24 : decode cX8_call 24 = .ok (.aload_n 3, 1) := by decide +kernel
theorem dX8_call_25 : decode cX8_call 25 = .ok (.getfield 233, 3) := by decide +kernel
theorem dX8_call_28 : decode cX8_call 28 = .ok (.getfield 159, 3) := by decide +kernel
theorem dX8_call_31 : decode cX8_call 31 = .ok (.ifCond .ne 33, 3) := by decide +kernel
theorem dX8_call_34 : decode cX8_call 34 = .ok (.aload_n 0, 1) := by decide +kernel
theorem dX8_call_35 : decode cX8_call 35 = .ok (.aload_n 3, 1) := by decide +kernel
theorem dX8_call_36 : decode cX8_call 36 = .ok (.getfield 233, 3) := by decide +kernel
theorem dX8_call_39 : decode cX8_call 39 = .ok (.invokevirtual 217, 3) := by decide +kernel
theorem dX8_call_42 : decode cX8_call 42 = .ok (.ifCond .gt 22, 3) := by decide +kernel
theorem dX8_call_45 : decode cX8_call 45 = .ok (.aload_n 3, 1) := by decide +kernel
theorem dX8_call_46 : decode cX8_call 46 = .ok (.getfield 234, 3) := by decide +kernel
theorem dX8_call_49 : decode cX8_call 49 = .ok (.iload_n 2, 1) := by decide +kernel
theorem dX8_call_50 : decode cX8_call 50 = .ok (.iadd, 1) := by decide +kernel
theorem dX8_call_51 : decode cX8_call 51 = .ok (.aload_n 3, 1) := by decide +kernel
theorem dX8_call_52 : decode cX8_call 52 = .ok (.getfield 233, 3) := by decide +kernel
theorem dX8_call_55 : decode cX8_call 55 = .ok (.getfield 152, 3) := by decide +kernel
theorem dX8_call_58 : decode cX8_call 58 = .ok (.getfield 107, 3) := by decide +kernel
theorem dX8_call_61 : decode cX8_call 61 = .ok (.if_icmp .le 11, 3) := by decide +kernel
theorem dX8_call_64 : decode cX8_call 64 = .ok (.new 44, 3) := by decide +kernel
theorem dX8_call_67 : decode cX8_call 67 = .ok (.dup, 1) := by decide +kernel
theorem dX8_call_68 : decode cX8_call 68 = .ok (.invokespecial 46, 3) := by decide +kernel
theorem dX8_call_71 : decode cX8_call 71 = .ok (.athrow, 1) := by decide +kernel
theorem dX8_call_72 : decode cX8_call 72 = .ok (.aload_n 3, 1) := by decide +kernel
theorem dX8_call_73 : decode cX8_call 73 = .ok (.dup, 1) := by decide +kernel
theorem dX8_call_74 : decode cX8_call 74 = .ok (.getfield 234, 3) := by decide +kernel
theorem dX8_call_77 : decode cX8_call 77 = .ok (.iload_n 2, 1) := by decide +kernel
theorem dX8_call_78 : decode cX8_call 78 = .ok (.iadd, 1) := by decide +kernel
theorem dX8_call_79 : decode cX8_call 79 = .ok (.putfield 234, 3) := by decide +kernel
theorem dX8_call_82 : decode cX8_call 82 = .ok (.aload_n 3, 1) := by decide +kernel
theorem dX8_call_83 : decode cX8_call 83 = .ok (.getfield 234, 3) := by decide +kernel
theorem dX8_call_86 : decode cX8_call 86 = .ok (.ireturn, 1) := by decide +kernel
set_option maxRecDepth 20000 in
theorem ggX8_running_X8_contractAt : GoodIn wsX8_running wsX8_contractAt := goodIn_ca (goodIn_r _ [7, 8, 9, 10, 11, 12, 13, 14, 15, 16, 17, 18, 19, 20, 21, 22, 23, 24, 25, 26, 27, 28, 29, 30, 31, 32, 33, 34, 52, 53, 54, 55, 56, 57, 58, 59, 60] (by decide +kernel) (by decide +kernel)) (goodIn_sub (fun _ h => List.mem_cons_of_mem _ (List.mem_append_right _ h)) (by decide +kernel))
set_option maxRecDepth 20000 in
theorem gX8_running_X8_contractAt : GoodIn wsX8_running (wsV RX8 229 RX8 yX8_contractAt wsX8_contractAt) := goodIn_app (goodIn_of _ (by decide +kernel)) ggX8_running_X8_contractAt
set_option maxRecDepth 20000 in
theorem ggX8_running_X8_openAbout : GoodIn wsX8_running wsX8_openAbout := goodIn_r _ [38, 39, 40, 41, 42, 12, 13, 14, 15, 16, 17, 18, 19, 20, 21, 22, 23, 24, 25, 26, 27, 28, 29, 30, 31, 32, 33, 34, 52, 53, 54, 55, 56, 57, 61, 62, 63, 64, 65, 66, 58, 59, 60] (by decide +kernel) (by decide +kernel)
set_option maxRecDepth 20000 in
theorem gX8_running_X8_openAbout : GoodIn wsX8_running (wsV RX8 217 RX8 yX8_openAbout wsX8_openAbout) := goodIn_app (goodIn_of _ (by decide +kernel)) ggX8_running_X8_openAbout
theorem dX8_running_0 : decode cX8_running 0 = .ok (.aload_n 0, 1) := by decide +kernel
theorem dX8_running_1 : decode cX8_running 1 = .ok (.iload_n 1, 1) := by decide +kernel
theorem dX8_running_2 : decode cX8_running 2 = .ok (.invokevirtual 229, 3) := by decide +kernel
theorem dX8_running_5 : decode cX8_running 5 = .ok (.astore_n 2, 1) := by decide +kernel
theorem dX8_running_6 : decode cX8_running 6 = .ok (.aload_n 2, 1) := by decide +kernel
theorem dX8_running_7 : decode cX8_running 7 = .ok (.getfield 233, 3) := by decide +kernel
theorem dX8_running_10 : decode cX8_running 10 = .ok (.getfield 159, 3) := by decide +kernel
theorem dX8_running_13 : decode cX8_running 13 = .ok (.ifCond .eq 5, 3) := by decide +kernel
theorem dX8_running_16 : decode cX8_running 16 = .ok (.iconst 0, 1) := by decide +kernel
theorem dX8_running_17 : decode cX8_running 17 = .ok (.ireturn, 1) := by decide +kernel
theorem dX8_running_18 : decode cX8_running 18 = .ok (.aload_n 0, 1) := by decide +kernel
theorem dX8_running_19 : decode cX8_running 19 = .ok (.aload_n 2, 1) := by decide +kernel
theorem dX8_running_20 : decode cX8_running 20 = .ok (.getfield 233, 3) := by decide +kernel
theorem dX8_running_23 : decode cX8_running 23 = .ok (.invokevirtual 217, 3) := by decide +kernel
theorem dX8_running_26 : decode cX8_running 26 = .ok (.ifCond .le 7, 3) := by decide +kernel
theorem dX8_running_29 : decode cX8_running 29 = .ok (.iconst 1, 1) := by decide +kernel
theorem dX8_running_30 : decode cX8_running 30 = .ok (.goto 4, 3) := by decide +kernel
theorem dX8_running_33 : decode cX8_running 33 = .ok (.iconst 2, 1) := by decide +kernel
theorem dX8_running_34 : decode cX8_running 34 = .ok (.ireturn, 1) := by decide +kernel
set_option maxRecDepth 20000 in
theorem ggX8_owes_X8_checkBidder : GoodIn wsX8_owes wsX8_checkBidder := goodIn_ca (goodIn_r _ [11, 12, 13] (by decide +kernel) (by decide +kernel)) (goodIn_sub (fun _ h => List.mem_cons_of_mem _ (List.mem_append_right _ h)) (by decide +kernel))
set_option maxRecDepth 20000 in
theorem gX8_owes_X8_checkBidder : GoodIn wsX8_owes (va_wsS RX8 79 yX8_checkBidder wsX8_checkBidder) := goodIn_app (goodIn_of _ (by decide +kernel)) ggX8_owes_X8_checkBidder
set_option maxRecDepth 20000 in
theorem ggX8_owes_Jx4a65c_size_8abf5 : GoodIn wsX8_owes wsJx4a65c_size_8abf5 := goodIn_r _ [18, 19, 58, 59, 60] (by decide +kernel) (by decide +kernel)
set_option maxRecDepth 20000 in
theorem gX8_owes_Jx4a65c_size_8abf5 : GoodIn wsX8_owes (wsV RX8 40 RJx4a65c yJx4a65c_size_8abf5 wsJx4a65c_size_8abf5) := goodIn_app (goodIn_of _ (by decide +kernel)) ggX8_owes_Jx4a65c_size_8abf5
set_option maxRecDepth 20000 in
theorem ggX8_owes_Jx4a65c_get_915e3 : GoodIn wsX8_owes wsJx4a65c_get_915e3 := goodIn_r _ [23, 19, 24, 25, 26, 27, 28, 29, 30, 31, 32, 33, 34, 17, 35, 36, 58, 59, 60] (by decide +kernel) (by decide +kernel)
set_option maxRecDepth 20000 in
theorem gX8_owes_Jx4a65c_get_915e3 : GoodIn wsX8_owes (wsV RX8 237 RJx4a65c yJx4a65c_get_915e3 wsJx4a65c_get_915e3) := goodIn_app (goodIn_of _ (by decide +kernel)) ggX8_owes_Jx4a65c_get_915e3
theorem dX8_owes_0 : decode cX8_owes 0 = .ok (.iload_n 1, 1) := by decide +kernel
theorem dX8_owes_1 : decode cX8_owes 1 = .ok (.invokestatic 79, 3) := by decide +kernel
theorem dX8_owes_4 : decode cX8_owes 4 = .ok (.iconst 0, 1) := by decide +kernel
theorem dX8_owes_5 : decode cX8_owes 5 = .ok (.istore_n 2, 1) := by decide +kernel
theorem dX8_owes_6 : decode cX8_owes 6 = .ok (.iconst 0, 1) := by decide +kernel
theorem dX8_owes_7 : decode cX8_owes 7 = .ok (.istore_n 3, 1) := by decide +kernel
theorem dX8_owes_8 : decode cX8_owes 8 = .ok (.iload_n 3, 1) := by decide +kernel
theorem dX8_owes_9 : decode cX8_owes 9 = .ok (.aload_n 0, 1) := by decide +kernel
theorem dX8_owes_10 : decode cX8_owes 10 = .ok (.getfield 26, 3) := by decide +kernel
theorem dX8_owes_13 : decode cX8_owes 13 = .ok (.invokevirtual 40, 3) := by decide +kernel
theorem dX8_owes_16 : decode cX8_owes 16 = .ok (.if_icmp .ge 56, 3) := by decide +kernel
theorem dX8_owes_19 : decode cX8_owes 19 = .ok (.aload_n 0, 1) := by decide +kernel
theorem dX8_owes_20 : decode cX8_owes 20 = .ok (.getfield 26, 3) := by decide +kernel
theorem dX8_owes_23 : decode cX8_owes 23 = .ok (.iload_n 3, 1) := by decide +kernel
theorem dX8_owes_24 : decode cX8_owes 24 = .ok (.invokevirtual 237, 3) := by decide +kernel
theorem dX8_owes_27 : decode cX8_owes 27 = .ok (.checkcast 224, 3) := by decide +kernel
theorem dX8_owes_30 : decode cX8_owes 30 = .ok (.astore 4, 2) := by decide +kernel
theorem dX8_owes_32 : decode cX8_owes 32 = .ok (.aload 4, 2) := by decide +kernel
theorem dX8_owes_34 : decode cX8_owes 34 = .ok (.getfield 233, 3) := by decide +kernel
theorem dX8_owes_37 : decode cX8_owes 37 = .ok (.getfield 159, 3) := by decide +kernel
theorem dX8_owes_40 : decode cX8_owes 40 = .ok (.ifCond .eq 26, 3) := by decide +kernel
theorem dX8_owes_43 : decode cX8_owes 43 = .ok (.aload 4, 2) := by decide +kernel
theorem dX8_owes_45 : decode cX8_owes 45 = .ok (.getfield 233, 3) := by decide +kernel
theorem dX8_owes_48 : decode cX8_owes 48 = .ok (.getfield 152, 3) := by decide +kernel
theorem dX8_owes_51 : decode cX8_owes 51 = .ok (.getfield 156, 3) := by decide +kernel
theorem dX8_owes_54 : decode cX8_owes 54 = .ok (.iload_n 1, 1) := by decide +kernel
theorem dX8_owes_55 : decode cX8_owes 55 = .ok (.if_icmp .ne 11, 3) := by decide +kernel
theorem dX8_owes_58 : decode cX8_owes 58 = .ok (.iload_n 2, 1) := by decide +kernel
theorem dX8_owes_59 : decode cX8_owes 59 = .ok (.aload 4, 2) := by decide +kernel
theorem dX8_owes_61 : decode cX8_owes 61 = .ok (.getfield 234, 3) := by decide +kernel
theorem dX8_owes_64 : decode cX8_owes 64 = .ok (.iadd, 1) := by decide +kernel
theorem dX8_owes_65 : decode cX8_owes 65 = .ok (.istore_n 2, 1) := by decide +kernel
theorem dX8_owes_66 : decode cX8_owes 66 = .ok (.iinc 3 1, 3) := by decide +kernel
theorem dX8_owes_69 : decode cX8_owes 69 = .ok (.goto (-61), 3) := by decide +kernel
theorem dX8_owes_72 : decode cX8_owes 72 = .ok (.iload_n 2, 1) := by decide +kernel
theorem dX8_owes_73 : decode cX8_owes 73 = .ok (.ireturn, 1) := by decide +kernel
set_option maxRecDepth 20000 in
theorem ggX8_held_X8_checkBidder : GoodIn wsX8_held wsX8_checkBidder := goodIn_ca (goodIn_r _ [9, 10, 11] (by decide +kernel) (by decide +kernel)) (goodIn_sub (fun _ h => List.mem_cons_of_mem _ (List.mem_append_right _ h)) (by decide +kernel))
set_option maxRecDepth 20000 in
theorem gX8_held_X8_checkBidder : GoodIn wsX8_held (va_wsS RX8 79 yX8_checkBidder wsX8_checkBidder) := goodIn_app (goodIn_of _ (by decide +kernel)) ggX8_held_X8_checkBidder
set_option maxRecDepth 20000 in
theorem ggX8_held_Jx4a65c_size_8abf5 : GoodIn wsX8_held wsJx4a65c_size_8abf5 := goodIn_r _ [16, 17, 78, 79, 80] (by decide +kernel) (by decide +kernel)
set_option maxRecDepth 20000 in
theorem gX8_held_Jx4a65c_size_8abf5 : GoodIn wsX8_held (wsV RX8 40 RJx4a65c yJx4a65c_size_8abf5 wsJx4a65c_size_8abf5) := goodIn_app (goodIn_of _ (by decide +kernel)) ggX8_held_Jx4a65c_size_8abf5
set_option maxRecDepth 20000 in
theorem ggX8_held_Jx4a65c_get_915e3 : GoodIn wsX8_held wsJx4a65c_get_915e3 := goodIn_r _ [21, 17, 22, 23, 24, 25, 26, 27, 28, 29, 30, 31, 32, 15, 33, 34, 78, 79, 80] (by decide +kernel) (by decide +kernel)
set_option maxRecDepth 20000 in
theorem gX8_held_Jx4a65c_get_915e3 : GoodIn wsX8_held (wsV RX8 237 RJx4a65c yJx4a65c_get_915e3 wsJx4a65c_get_915e3) := goodIn_app (goodIn_of _ (by decide +kernel)) ggX8_held_Jx4a65c_get_915e3
set_option maxRecDepth 20000 in
theorem ggX8_held_X8_holdsDeposit : GoodIn wsX8_held wsX8_holdsDeposit := goodIn_r _ [38, 39, 40, 41, 42, 43, 44, 45, 46, 47, 48, 49, 50, 51, 13, 14, 15, 16, 17, 52, 19, 20, 21, 22, 23, 24, 25, 26, 27, 28, 29, 30, 31, 32, 33, 34, 53, 54, 55, 8, 56, 57, 58, 59, 60, 12, 18, 81, 82, 83, 84, 85, 86, 87, 88, 89, 90, 91, 92, 93, 73, 74, 75, 76, 77, 78, 79, 80, 61, 62, 63, 64, 65, 66] (by decide +kernel) (by decide +kernel)
set_option maxRecDepth 20000 in
theorem gX8_held_X8_holdsDeposit : GoodIn wsX8_held (wsV RX8 241 RX8 yX8_holdsDeposit wsX8_holdsDeposit) := goodIn_app (goodIn_of _ (by decide +kernel)) ggX8_held_X8_holdsDeposit
theorem dX8_held_0 : decode cX8_held 0 = .ok (.iload_n 1, 1) := by decide +kernel
theorem dX8_held_1 : decode cX8_held 1 = .ok (.invokestatic 79, 3) := by decide +kernel
theorem dX8_held_4 : decode cX8_held 4 = .ok (.iconst 0, 1) := by decide +kernel
theorem dX8_held_5 : decode cX8_held 5 = .ok (.istore_n 2, 1) := by decide +kernel
theorem dX8_held_6 : decode cX8_held 6 = .ok (.iconst 0, 1) := by decide +kernel
theorem dX8_held_7 : decode cX8_held 7 = .ok (.istore_n 3, 1) := by decide +kernel
theorem dX8_held_8 : decode cX8_held 8 = .ok (.iload_n 3, 1) := by decide +kernel
theorem dX8_held_9 : decode cX8_held 9 = .ok (.aload_n 0, 1) := by decide +kernel
theorem dX8_held_10 : decode cX8_held 10 = .ok (.getfield 16, 3) := by decide +kernel
theorem dX8_held_13 : decode cX8_held 13 = .ok (.invokevirtual 40, 3) := by decide +kernel
theorem dX8_held_16 : decode cX8_held 16 = .ok (.if_icmp .ge 74, 3) := by decide +kernel
theorem dX8_held_19 : decode cX8_held 19 = .ok (.aload_n 0, 1) := by decide +kernel
theorem dX8_held_20 : decode cX8_held 20 = .ok (.getfield 16, 3) := by decide +kernel
theorem dX8_held_23 : decode cX8_held 23 = .ok (.iload_n 3, 1) := by decide +kernel
theorem dX8_held_24 : decode cX8_held 24 = .ok (.invokevirtual 237, 3) := by decide +kernel
theorem dX8_held_27 : decode cX8_held 27 = .ok (.checkcast 47, 3) := by decide +kernel
theorem dX8_held_30 : decode cX8_held 30 = .ok (.getfield 60, 3) := by decide +kernel
theorem dX8_held_33 : decode cX8_held 33 = .ok (.astore 4, 2) := by decide +kernel
theorem dX8_held_35 : decode cX8_held 35 = .ok (.iconst 0, 1) := by decide +kernel
theorem dX8_held_36 : decode cX8_held 36 = .ok (.istore 5, 2) := by decide +kernel
theorem dX8_held_38 : decode cX8_held 38 = .ok (.iload 5, 2) := by decide +kernel
theorem dX8_held_40 : decode cX8_held 40 = .ok (.aload 4, 2) := by decide +kernel
theorem dX8_held_42 : decode cX8_held 42 = .ok (.invokevirtual 40, 3) := by decide +kernel
theorem dX8_held_45 : decode cX8_held 45 = .ok (.if_icmp .ge 39, 3) := by decide +kernel
theorem dX8_held_48 : decode cX8_held 48 = .ok (.aload 4, 2) := by decide +kernel
theorem dX8_held_50 : decode cX8_held 50 = .ok (.iload 5, 2) := by decide +kernel
theorem dX8_held_52 : decode cX8_held 52 = .ok (.invokevirtual 237, 3) := by decide +kernel
theorem dX8_held_55 : decode cX8_held 55 = .ok (.checkcast 67, 3) := by decide +kernel
theorem dX8_held_58 : decode cX8_held 58 = .ok (.astore 6, 2) := by decide +kernel
theorem dX8_held_60 : decode cX8_held 60 = .ok (.aload_n 0, 1) := by decide +kernel
theorem dX8_held_61 : decode cX8_held 61 = .ok (.aload 6, 2) := by decide +kernel
theorem dX8_held_63 : decode cX8_held 63 = .ok (.iload_n 1, 1) := by decide +kernel
theorem dX8_held_64 : decode cX8_held 64 = .ok (.invokevirtual 241, 3) := by decide +kernel
theorem dX8_held_67 : decode cX8_held 67 = .ok (.ifCond .eq 11, 3) := by decide +kernel
theorem dX8_held_70 : decode cX8_held 70 = .ok (.iload_n 2, 1) := by decide +kernel
theorem dX8_held_71 : decode cX8_held 71 = .ok (.aload 6, 2) := by decide +kernel
theorem dX8_held_73 : decode cX8_held 73 = .ok (.getfield 245, 3) := by decide +kernel
theorem dX8_held_76 : decode cX8_held 76 = .ok (.iadd, 1) := by decide +kernel
theorem dX8_held_77 : decode cX8_held 77 = .ok (.istore_n 2, 1) := by decide +kernel
theorem dX8_held_78 : decode cX8_held 78 = .ok (.iinc 5 1, 3) := by decide +kernel
theorem dX8_held_81 : decode cX8_held 81 = .ok (.goto (-43), 3) := by decide +kernel
theorem dX8_held_84 : decode cX8_held 84 = .ok (.iinc 3 1, 3) := by decide +kernel
theorem dX8_held_87 : decode cX8_held 87 = .ok (.goto (-79), 3) := by decide +kernel
theorem dX8_held_90 : decode cX8_held 90 = .ok (.iload_n 2, 1) := by decide +kernel
theorem dX8_held_91 : decode cX8_held 91 = .ok (.ireturn, 1) := by decide +kernel
set_option maxRecDepth 20000 in
theorem ggX8_lost_X8_checkBidder : GoodIn wsX8_lost wsX8_checkBidder := goodIn_ca (goodIn_r _ [11, 12, 13] (by decide +kernel) (by decide +kernel)) (goodIn_sub (fun _ h => List.mem_cons_of_mem _ (List.mem_append_right _ h)) (by decide +kernel))
set_option maxRecDepth 20000 in
theorem gX8_lost_X8_checkBidder : GoodIn wsX8_lost (va_wsS RX8 79 yX8_checkBidder wsX8_checkBidder) := goodIn_app (goodIn_of _ (by decide +kernel)) ggX8_lost_X8_checkBidder
set_option maxRecDepth 20000 in
theorem ggX8_lost_Jx4a65c_size_8abf5 : GoodIn wsX8_lost wsJx4a65c_size_8abf5 := goodIn_r _ [18, 19, 61, 62, 63] (by decide +kernel) (by decide +kernel)
set_option maxRecDepth 20000 in
theorem gX8_lost_Jx4a65c_size_8abf5 : GoodIn wsX8_lost (wsV RX8 40 RJx4a65c yJx4a65c_size_8abf5 wsJx4a65c_size_8abf5) := goodIn_app (goodIn_of _ (by decide +kernel)) ggX8_lost_Jx4a65c_size_8abf5
set_option maxRecDepth 20000 in
theorem ggX8_lost_Jx4a65c_get_915e3 : GoodIn wsX8_lost wsJx4a65c_get_915e3 := goodIn_r _ [23, 19, 24, 25, 26, 27, 28, 29, 30, 31, 32, 33, 34, 17, 35, 36, 61, 62, 63] (by decide +kernel) (by decide +kernel)
set_option maxRecDepth 20000 in
theorem gX8_lost_Jx4a65c_get_915e3 : GoodIn wsX8_lost (wsV RX8 237 RJx4a65c yJx4a65c_get_915e3 wsJx4a65c_get_915e3) := goodIn_app (goodIn_of _ (by decide +kernel)) ggX8_lost_Jx4a65c_get_915e3
theorem dX8_lost_0 : decode cX8_lost 0 = .ok (.iload_n 1, 1) := by decide +kernel
theorem dX8_lost_1 : decode cX8_lost 1 = .ok (.invokestatic 79, 3) := by decide +kernel
theorem dX8_lost_4 : decode cX8_lost 4 = .ok (.iconst 0, 1) := by decide +kernel
theorem dX8_lost_5 : decode cX8_lost 5 = .ok (.istore_n 2, 1) := by decide +kernel
theorem dX8_lost_6 : decode cX8_lost 6 = .ok (.iconst 0, 1) := by decide +kernel
theorem dX8_lost_7 : decode cX8_lost 7 = .ok (.istore_n 3, 1) := by decide +kernel
theorem dX8_lost_8 : decode cX8_lost 8 = .ok (.iload_n 3, 1) := by decide +kernel
theorem dX8_lost_9 : decode cX8_lost 9 = .ok (.aload_n 0, 1) := by decide +kernel
theorem dX8_lost_10 : decode cX8_lost 10 = .ok (.getfield 20, 3) := by decide +kernel
theorem dX8_lost_13 : decode cX8_lost 13 = .ok (.invokevirtual 40, 3) := by decide +kernel
theorem dX8_lost_16 : decode cX8_lost 16 = .ok (.if_icmp .ge 53, 3) := by decide +kernel
theorem dX8_lost_19 : decode cX8_lost 19 = .ok (.aload_n 0, 1) := by decide +kernel
theorem dX8_lost_20 : decode cX8_lost 20 = .ok (.getfield 20, 3) := by decide +kernel
theorem dX8_lost_23 : decode cX8_lost 23 = .ok (.iload_n 3, 1) := by decide +kernel
theorem dX8_lost_24 : decode cX8_lost 24 = .ok (.invokevirtual 237, 3) := by decide +kernel
theorem dX8_lost_27 : decode cX8_lost 27 = .ok (.checkcast 144, 3) := by decide +kernel
theorem dX8_lost_30 : decode cX8_lost 30 = .ok (.astore 4, 2) := by decide +kernel
theorem dX8_lost_32 : decode cX8_lost 32 = .ok (.aload 4, 2) := by decide +kernel
theorem dX8_lost_34 : decode cX8_lost 34 = .ok (.getfield 248, 3) := by decide +kernel
theorem dX8_lost_37 : decode cX8_lost 37 = .ok (.ifCond .eq 26, 3) := by decide +kernel
theorem dX8_lost_40 : decode cX8_lost 40 = .ok (.aload 4, 2) := by decide +kernel
theorem dX8_lost_42 : decode cX8_lost 42 = .ok (.getfield 152, 3) := by decide +kernel
theorem dX8_lost_45 : decode cX8_lost 45 = .ok (.getfield 156, 3) := by decide +kernel
theorem dX8_lost_48 : decode cX8_lost 48 = .ok (.iload_n 1, 1) := by decide +kernel
theorem dX8_lost_49 : decode cX8_lost 49 = .ok (.if_icmp .ne 14, 3) := by decide +kernel
theorem dX8_lost_52 : decode cX8_lost 52 = .ok (.iload_n 2, 1) := by decide +kernel
theorem dX8_lost_53 : decode cX8_lost 53 = .ok (.aload 4, 2) := by decide +kernel
theorem dX8_lost_55 : decode cX8_lost 55 = .ok (.getfield 251, 3) := by decide +kernel
theorem dX8_lost_58 : decode cX8_lost 58 = .ok (.getfield 245, 3) := by decide +kernel
theorem dX8_lost_61 : decode cX8_lost 61 = .ok (.iadd, 1) := by decide +kernel
theorem dX8_lost_62 : decode cX8_lost 62 = .ok (.istore_n 2, 1) := by decide +kernel
theorem dX8_lost_63 : decode cX8_lost 63 = .ok (.iinc 3 1, 3) := by decide +kernel
theorem dX8_lost_66 : decode cX8_lost 66 = .ok (.goto (-58), 3) := by decide +kernel
theorem dX8_lost_69 : decode cX8_lost 69 = .ok (.iload_n 2, 1) := by decide +kernel
theorem dX8_lost_70 : decode cX8_lost 70 = .ok (.ireturn, 1) := by decide +kernel
theorem dX8_isOutside_0 : decode cX8_isOutside 0 = .ok (.iload_n 0, 1) := by decide +kernel
theorem dX8_isOutside_1 : decode cX8_isOutside 1 = .ok (.iload_n 1, 1) := by decide +kernel
theorem dX8_isOutside_2 : decode cX8_isOutside 2 = .ok (.if_icmp .lt 8, 3) := by decide +kernel
theorem dX8_isOutside_5 : decode cX8_isOutside 5 = .ok (.iload_n 0, 1) := by decide +kernel
theorem dX8_isOutside_6 : decode cX8_isOutside 6 = .ok (.iload_n 2, 1) := by decide +kernel
theorem dX8_isOutside_7 : decode cX8_isOutside 7 = .ok (.if_icmp .le 7, 3) := by decide +kernel
theorem dX8_isOutside_10 : decode cX8_isOutside 10 = .ok (.iconst 1, 1) := by decide +kernel
theorem dX8_isOutside_11 : decode cX8_isOutside 11 = .ok (.goto 4, 3) := by decide +kernel
theorem dX8_isOutside_14 : decode cX8_isOutside 14 = .ok (.iconst 0, 1) := by decide +kernel
theorem dX8_isOutside_15 : decode cX8_isOutside 15 = .ok (.ireturn, 1) := by decide +kernel
theorem dX8_checkBidder_0 : decode cX8_checkBidder 0 = .ok (.iload_n 0, 1) := by decide +kernel
theorem dX8_checkBidder_1 : decode cX8_checkBidder 1 = .ok (.ifCond .lt 9, 3) := by decide +kernel
theorem dX8_checkBidder_4 : decode cX8_checkBidder 4 = .ok (.iload_n 0, 1) := by decide +kernel
theorem dX8_checkBidder_5 : decode cX8_checkBidder 5 = .ok (.bipush 8, 2) := by decide +kernel
theorem dX8_checkBidder_7 : decode cX8_checkBidder 7 = .ok (.if_icmp .lt 11, 3) := by decide +kernel
theorem dX8_checkBidder_10 : decode cX8_checkBidder 10 = .ok (.new 76, 3) := by decide +kernel
theorem dX8_checkBidder_13 : decode cX8_checkBidder 13 = .ok (.dup, 1) := by decide +kernel
theorem dX8_checkBidder_14 : decode cX8_checkBidder 14 = .ok (.invokespecial 78, 3) := by decide +kernel
theorem dX8_checkBidder_17 : decode cX8_checkBidder 17 = .ok (.athrow, 1) := by decide +kernel
theorem dX8_checkBidder_18 : decode cX8_checkBidder 18 = .ok (.return_, 1) := by decide +kernel
set_option maxRecDepth 20000 in
theorem ggX8_tenderAt_Jx4a65c_size_8abf5 : GoodIn wsX8_tenderAt wsJx4a65c_size_8abf5 := goodIn_r _ [9, 10, 34, 35, 36] (by decide +kernel) (by decide +kernel)
set_option maxRecDepth 20000 in
theorem gX8_tenderAt_Jx4a65c_size_8abf5 : GoodIn wsX8_tenderAt (wsV RX8 40 RJx4a65c yJx4a65c_size_8abf5 wsJx4a65c_size_8abf5) := goodIn_app (goodIn_of _ (by decide +kernel)) ggX8_tenderAt_Jx4a65c_size_8abf5
set_option maxRecDepth 20000 in
theorem ggX8_tenderAt_Jx4a65c_get_915e3 : GoodIn wsX8_tenderAt wsJx4a65c_get_915e3 := goodIn_r _ [14, 10, 15, 16, 17, 18, 19, 20, 21, 22, 23, 24, 25, 8, 26, 27, 34, 35, 36] (by decide +kernel) (by decide +kernel)
set_option maxRecDepth 20000 in
theorem gX8_tenderAt_Jx4a65c_get_915e3 : GoodIn wsX8_tenderAt (wsV RX8 237 RJx4a65c yJx4a65c_get_915e3 wsJx4a65c_get_915e3) := goodIn_app (goodIn_of _ (by decide +kernel)) ggX8_tenderAt_Jx4a65c_get_915e3
theorem dX8_tenderAt_0 : decode cX8_tenderAt 0 = .ok (.iload_n 1, 1) := by decide +kernel
theorem dX8_tenderAt_1 : decode cX8_tenderAt 1 = .ok (.ifCond .lt 14, 3) := by decide +kernel
theorem dX8_tenderAt_4 : decode cX8_tenderAt 4 = .ok (.iload_n 1, 1) := by decide +kernel
theorem dX8_tenderAt_5 : decode cX8_tenderAt 5 = .ok (.aload_n 0, 1) := by decide +kernel
theorem dX8_tenderAt_6 : decode cX8_tenderAt 6 = .ok (.getfield 16, 3) := by decide +kernel
theorem dX8_tenderAt_9 : decode cX8_tenderAt 9 = .ok (.invokevirtual 40, 3) := by decide +kernel
theorem dX8_tenderAt_12 : decode cX8_tenderAt 12 = .ok (.if_icmp .lt 11, 3) := by decide +kernel
theorem dX8_tenderAt_15 : decode cX8_tenderAt 15 = .ok (.new 76, 3) := by decide +kernel
theorem dX8_tenderAt_18 : decode cX8_tenderAt 18 = .ok (.dup, 1) := by decide +kernel
theorem dX8_tenderAt_19 : decode cX8_tenderAt 19 = .ok (.invokespecial 78, 3) := by decide +kernel
theorem dX8_tenderAt_22 : decode cX8_tenderAt 22 = .ok (.athrow, 1) := by decide +kernel
theorem dX8_tenderAt_23 : decode cX8_tenderAt 23 = .ok (.aload_n 0, 1) := by decide +kernel
theorem dX8_tenderAt_24 : decode cX8_tenderAt 24 = .ok (.getfield 16, 3) := by decide +kernel
theorem dX8_tenderAt_27 : decode cX8_tenderAt 27 = .ok (.iload_n 1, 1) := by decide +kernel
theorem dX8_tenderAt_28 : decode cX8_tenderAt 28 = .ok (.invokevirtual 237, 3) := by decide +kernel
theorem dX8_tenderAt_31 : decode cX8_tenderAt 31 = .ok (.checkcast 47, 3) := by decide +kernel
theorem dX8_tenderAt_34 : decode cX8_tenderAt 34 = .ok (.areturn, 1) := by decide +kernel
set_option maxRecDepth 20000 in
theorem ggX8_lotAt_X8_tenderAt : GoodIn wsX8_lotAt wsX8_tenderAt := goodIn_ca (goodIn_r _ [9, 1, 2, 10, 11, 12, 13, 14, 15, 16, 17, 18, 19, 20, 21, 22, 23, 24, 25, 26, 27, 28, 29, 30, 31, 32, 33, 34, 41, 42, 43, 44, 45, 46, 47, 48, 49] (by decide +kernel) (by decide +kernel)) (goodIn_sub (fun _ h => List.mem_cons_of_mem _ (List.mem_append_right _ h)) (by decide +kernel))
set_option maxRecDepth 20000 in
theorem gX8_lotAt_X8_tenderAt : GoodIn wsX8_lotAt (wsV RX8 56 RX8 yX8_tenderAt wsX8_tenderAt) := goodIn_app (goodIn_of _ (by decide +kernel)) ggX8_lotAt_X8_tenderAt
set_option maxRecDepth 20000 in
theorem ggX8_lotAt_Jx4a65c_size_8abf5 : GoodIn wsX8_lotAt wsJx4a65c_size_8abf5 := goodIn_r _ [16, 17, 47, 48, 49] (by decide +kernel) (by decide +kernel)
set_option maxRecDepth 20000 in
theorem gX8_lotAt_Jx4a65c_size_8abf5 : GoodIn wsX8_lotAt (wsV RX8 40 RJx4a65c yJx4a65c_size_8abf5 wsJx4a65c_size_8abf5) := goodIn_app (goodIn_of _ (by decide +kernel)) ggX8_lotAt_Jx4a65c_size_8abf5
set_option maxRecDepth 20000 in
theorem ggX8_lotAt_Jx4a65c_get_915e3 : GoodIn wsX8_lotAt wsJx4a65c_get_915e3 := goodIn_r _ [21, 17, 22, 23, 24, 25, 26, 27, 28, 29, 30, 31, 32, 15, 33, 34, 47, 48, 49] (by decide +kernel) (by decide +kernel)
set_option maxRecDepth 20000 in
theorem gX8_lotAt_Jx4a65c_get_915e3 : GoodIn wsX8_lotAt (wsV RX8 237 RJx4a65c yJx4a65c_get_915e3 wsJx4a65c_get_915e3) := goodIn_app (goodIn_of _ (by decide +kernel)) ggX8_lotAt_Jx4a65c_get_915e3
theorem dX8_lotAt_0 : decode cX8_lotAt 0 = .ok (.aload_n 0, 1) := by decide +kernel
theorem dX8_lotAt_1 : decode cX8_lotAt 1 = .ok (.iload_n 1, 1) := by decide +kernel
theorem dX8_lotAt_2 : decode cX8_lotAt 2 = .ok (.invokevirtual 56, 3) := by decide +kernel
theorem dX8_lotAt_5 : decode cX8_lotAt 5 = .ok (.getfield 60, 3) := by decide +kernel
theorem dX8_lotAt_8 : decode cX8_lotAt 8 = .ok (.astore_n 3, 1) := by decide +kernel
theorem dX8_lotAt_9 : decode cX8_lotAt 9 = .ok (.iload_n 2, 1) := by decide +kernel
theorem dX8_lotAt_10 : decode cX8_lotAt 10 = .ok (.ifCond .lt 11, 3) := by decide +kernel
theorem dX8_lotAt_13 : decode cX8_lotAt 13 = .ok (.iload_n 2, 1) := by decide +kernel
theorem dX8_lotAt_14 : decode cX8_lotAt 14 = .ok (.aload_n 3, 1) := by decide +kernel
theorem dX8_lotAt_15 : decode cX8_lotAt 15 = .ok (.invokevirtual 40, 3) := by decide +kernel
theorem dX8_lotAt_18 : decode cX8_lotAt 18 = .ok (.if_icmp .lt 11, 3) := by decide +kernel
theorem dX8_lotAt_21 : decode cX8_lotAt 21 = .ok (.new 76, 3) := by decide +kernel
theorem dX8_lotAt_24 : decode cX8_lotAt 24 = .ok (.dup, 1) := by decide +kernel
theorem dX8_lotAt_25 : decode cX8_lotAt 25 = .ok (.invokespecial 78, 3) := by decide +kernel
theorem dX8_lotAt_28 : decode cX8_lotAt 28 = .ok (.athrow, 1) := by decide +kernel
theorem dX8_lotAt_29 : decode cX8_lotAt 29 = .ok (.aload_n 3, 1) := by decide +kernel
theorem dX8_lotAt_30 : decode cX8_lotAt 30 = .ok (.iload_n 2, 1) := by decide +kernel
theorem dX8_lotAt_31 : decode cX8_lotAt 31 = .ok (.invokevirtual 237, 3) := by decide +kernel
theorem dX8_lotAt_34 : decode cX8_lotAt 34 = .ok (.checkcast 67, 3) := by decide +kernel
theorem dX8_lotAt_37 : decode cX8_lotAt 37 = .ok (.areturn, 1) := by decide +kernel
set_option maxRecDepth 20000 in
theorem ggX8_awardAt_Jx4a65c_size_8abf5 : GoodIn wsX8_awardAt wsJx4a65c_size_8abf5 := goodIn_r _ [9, 10, 34, 35, 36] (by decide +kernel) (by decide +kernel)
set_option maxRecDepth 20000 in
theorem gX8_awardAt_Jx4a65c_size_8abf5 : GoodIn wsX8_awardAt (wsV RX8 40 RJx4a65c yJx4a65c_size_8abf5 wsJx4a65c_size_8abf5) := goodIn_app (goodIn_of _ (by decide +kernel)) ggX8_awardAt_Jx4a65c_size_8abf5
set_option maxRecDepth 20000 in
theorem ggX8_awardAt_Jx4a65c_get_915e3 : GoodIn wsX8_awardAt wsJx4a65c_get_915e3 := goodIn_r _ [14, 10, 15, 16, 17, 18, 19, 20, 21, 22, 23, 24, 25, 8, 26, 27, 34, 35, 36] (by decide +kernel) (by decide +kernel)
set_option maxRecDepth 20000 in
theorem gX8_awardAt_Jx4a65c_get_915e3 : GoodIn wsX8_awardAt (wsV RX8 237 RJx4a65c yJx4a65c_get_915e3 wsJx4a65c_get_915e3) := goodIn_app (goodIn_of _ (by decide +kernel)) ggX8_awardAt_Jx4a65c_get_915e3
theorem dX8_awardAt_0 : decode cX8_awardAt 0 = .ok (.iload_n 1, 1) := by decide +kernel
theorem dX8_awardAt_1 : decode cX8_awardAt 1 = .ok (.ifCond .lt 14, 3) := by decide +kernel
theorem dX8_awardAt_4 : decode cX8_awardAt 4 = .ok (.iload_n 1, 1) := by decide +kernel
theorem dX8_awardAt_5 : decode cX8_awardAt 5 = .ok (.aload_n 0, 1) := by decide +kernel
theorem dX8_awardAt_6 : decode cX8_awardAt 6 = .ok (.getfield 20, 3) := by decide +kernel
theorem dX8_awardAt_9 : decode cX8_awardAt 9 = .ok (.invokevirtual 40, 3) := by decide +kernel
theorem dX8_awardAt_12 : decode cX8_awardAt 12 = .ok (.if_icmp .lt 11, 3) := by decide +kernel
theorem dX8_awardAt_15 : decode cX8_awardAt 15 = .ok (.new 76, 3) := by decide +kernel
theorem dX8_awardAt_18 : decode cX8_awardAt 18 = .ok (.dup, 1) := by decide +kernel
theorem dX8_awardAt_19 : decode cX8_awardAt 19 = .ok (.invokespecial 78, 3) := by decide +kernel
theorem dX8_awardAt_22 : decode cX8_awardAt 22 = .ok (.athrow, 1) := by decide +kernel
theorem dX8_awardAt_23 : decode cX8_awardAt 23 = .ok (.aload_n 0, 1) := by decide +kernel
theorem dX8_awardAt_24 : decode cX8_awardAt 24 = .ok (.getfield 20, 3) := by decide +kernel
theorem dX8_awardAt_27 : decode cX8_awardAt 27 = .ok (.iload_n 1, 1) := by decide +kernel
theorem dX8_awardAt_28 : decode cX8_awardAt 28 = .ok (.invokevirtual 237, 3) := by decide +kernel
theorem dX8_awardAt_31 : decode cX8_awardAt 31 = .ok (.checkcast 144, 3) := by decide +kernel
theorem dX8_awardAt_34 : decode cX8_awardAt 34 = .ok (.areturn, 1) := by decide +kernel
set_option maxRecDepth 20000 in
theorem ggX8_complaintAt_Jx4a65c_size_8abf5 : GoodIn wsX8_complaintAt wsJx4a65c_size_8abf5 := goodIn_r _ [9, 10, 34, 35, 36] (by decide +kernel) (by decide +kernel)
set_option maxRecDepth 20000 in
theorem gX8_complaintAt_Jx4a65c_size_8abf5 : GoodIn wsX8_complaintAt (wsV RX8 40 RJx4a65c yJx4a65c_size_8abf5 wsJx4a65c_size_8abf5) := goodIn_app (goodIn_of _ (by decide +kernel)) ggX8_complaintAt_Jx4a65c_size_8abf5
set_option maxRecDepth 20000 in
theorem ggX8_complaintAt_Jx4a65c_get_915e3 : GoodIn wsX8_complaintAt wsJx4a65c_get_915e3 := goodIn_r _ [14, 10, 15, 16, 17, 18, 19, 20, 21, 22, 23, 24, 25, 8, 26, 27, 34, 35, 36] (by decide +kernel) (by decide +kernel)
set_option maxRecDepth 20000 in
theorem gX8_complaintAt_Jx4a65c_get_915e3 : GoodIn wsX8_complaintAt (wsV RX8 237 RJx4a65c yJx4a65c_get_915e3 wsJx4a65c_get_915e3) := goodIn_app (goodIn_of _ (by decide +kernel)) ggX8_complaintAt_Jx4a65c_get_915e3
theorem dX8_complaintAt_0 : decode cX8_complaintAt 0 = .ok (.iload_n 1, 1) := by decide +kernel
theorem dX8_complaintAt_1 : decode cX8_complaintAt 1 = .ok (.ifCond .lt 14, 3) := by decide +kernel
theorem dX8_complaintAt_4 : decode cX8_complaintAt 4 = .ok (.iload_n 1, 1) := by decide +kernel
theorem dX8_complaintAt_5 : decode cX8_complaintAt 5 = .ok (.aload_n 0, 1) := by decide +kernel
theorem dX8_complaintAt_6 : decode cX8_complaintAt 6 = .ok (.getfield 23, 3) := by decide +kernel
theorem dX8_complaintAt_9 : decode cX8_complaintAt 9 = .ok (.invokevirtual 40, 3) := by decide +kernel
theorem dX8_complaintAt_12 : decode cX8_complaintAt 12 = .ok (.if_icmp .lt 11, 3) := by decide +kernel
theorem dX8_complaintAt_15 : decode cX8_complaintAt 15 = .ok (.new 76, 3) := by decide +kernel
theorem dX8_complaintAt_18 : decode cX8_complaintAt 18 = .ok (.dup, 1) := by decide +kernel
theorem dX8_complaintAt_19 : decode cX8_complaintAt 19 = .ok (.invokespecial 78, 3) := by decide +kernel
theorem dX8_complaintAt_22 : decode cX8_complaintAt 22 = .ok (.athrow, 1) := by decide +kernel
theorem dX8_complaintAt_23 : decode cX8_complaintAt 23 = .ok (.aload_n 0, 1) := by decide +kernel
theorem dX8_complaintAt_24 : decode cX8_complaintAt 24 = .ok (.getfield 23, 3) := by decide +kernel
theorem dX8_complaintAt_27 : decode cX8_complaintAt 27 = .ok (.iload_n 1, 1) := by decide +kernel
theorem dX8_complaintAt_28 : decode cX8_complaintAt 28 = .ok (.invokevirtual 237, 3) := by decide +kernel
theorem dX8_complaintAt_31 : decode cX8_complaintAt 31 = .ok (.checkcast 191, 3) := by decide +kernel
theorem dX8_complaintAt_34 : decode cX8_complaintAt 34 = .ok (.areturn, 1) := by decide +kernel
set_option maxRecDepth 20000 in
theorem ggX8_contractAt_Jx4a65c_size_8abf5 : GoodIn wsX8_contractAt wsJx4a65c_size_8abf5 := goodIn_r _ [9, 10, 34, 35, 36] (by decide +kernel) (by decide +kernel)
set_option maxRecDepth 20000 in
theorem gX8_contractAt_Jx4a65c_size_8abf5 : GoodIn wsX8_contractAt (wsV RX8 40 RJx4a65c yJx4a65c_size_8abf5 wsJx4a65c_size_8abf5) := goodIn_app (goodIn_of _ (by decide +kernel)) ggX8_contractAt_Jx4a65c_size_8abf5
set_option maxRecDepth 20000 in
theorem ggX8_contractAt_Jx4a65c_get_915e3 : GoodIn wsX8_contractAt wsJx4a65c_get_915e3 := goodIn_r _ [14, 10, 15, 16, 17, 18, 19, 20, 21, 22, 23, 24, 25, 8, 26, 27, 34, 35, 36] (by decide +kernel) (by decide +kernel)
set_option maxRecDepth 20000 in
theorem gX8_contractAt_Jx4a65c_get_915e3 : GoodIn wsX8_contractAt (wsV RX8 237 RJx4a65c yJx4a65c_get_915e3 wsJx4a65c_get_915e3) := goodIn_app (goodIn_of _ (by decide +kernel)) ggX8_contractAt_Jx4a65c_get_915e3
theorem dX8_contractAt_0 : decode cX8_contractAt 0 = .ok (.iload_n 1, 1) := by decide +kernel
theorem dX8_contractAt_1 : decode cX8_contractAt 1 = .ok (.ifCond .lt 14, 3) := by decide +kernel
theorem dX8_contractAt_4 : decode cX8_contractAt 4 = .ok (.iload_n 1, 1) := by decide +kernel
theorem dX8_contractAt_5 : decode cX8_contractAt 5 = .ok (.aload_n 0, 1) := by decide +kernel
theorem dX8_contractAt_6 : decode cX8_contractAt 6 = .ok (.getfield 26, 3) := by decide +kernel
theorem dX8_contractAt_9 : decode cX8_contractAt 9 = .ok (.invokevirtual 40, 3) := by decide +kernel
theorem dX8_contractAt_12 : decode cX8_contractAt 12 = .ok (.if_icmp .lt 11, 3) := by decide +kernel
theorem dX8_contractAt_15 : decode cX8_contractAt 15 = .ok (.new 76, 3) := by decide +kernel
theorem dX8_contractAt_18 : decode cX8_contractAt 18 = .ok (.dup, 1) := by decide +kernel
theorem dX8_contractAt_19 : decode cX8_contractAt 19 = .ok (.invokespecial 78, 3) := by decide +kernel
theorem dX8_contractAt_22 : decode cX8_contractAt 22 = .ok (.athrow, 1) := by decide +kernel
theorem dX8_contractAt_23 : decode cX8_contractAt 23 = .ok (.aload_n 0, 1) := by decide +kernel
theorem dX8_contractAt_24 : decode cX8_contractAt 24 = .ok (.getfield 26, 3) := by decide +kernel
theorem dX8_contractAt_27 : decode cX8_contractAt 27 = .ok (.iload_n 1, 1) := by decide +kernel
theorem dX8_contractAt_28 : decode cX8_contractAt 28 = .ok (.invokevirtual 237, 3) := by decide +kernel
theorem dX8_contractAt_31 : decode cX8_contractAt 31 = .ok (.checkcast 224, 3) := by decide +kernel
theorem dX8_contractAt_34 : decode cX8_contractAt 34 = .ok (.areturn, 1) := by decide +kernel
theorem dX8_isOpened_0 : decode cX8_isOpened 0 = .ok (.aload_n 0, 1) := by decide +kernel
theorem dX8_isOpened_1 : decode cX8_isOpened 1 = .ok (.getfield 29, 3) := by decide +kernel
theorem dX8_isOpened_4 : decode cX8_isOpened 4 = .ok (.aload_n 1, 1) := by decide +kernel
theorem dX8_isOpened_5 : decode cX8_isOpened 5 = .ok (.getfield 255, 3) := by decide +kernel
theorem dX8_isOpened_8 : decode cX8_isOpened 8 = .ok (.if_icmp .lt 7, 3) := by decide +kernel
theorem dX8_isOpened_11 : decode cX8_isOpened 11 = .ok (.iconst 1, 1) := by decide +kernel
theorem dX8_isOpened_12 : decode cX8_isOpened 12 = .ok (.goto 4, 3) := by decide +kernel
theorem dX8_isOpened_15 : decode cX8_isOpened 15 = .ok (.iconst 0, 1) := by decide +kernel
theorem dX8_isOpened_16 : decode cX8_isOpened 16 = .ok (.ireturn, 1) := by decide +kernel
set_option maxRecDepth 20000 in
theorem ggX8_openTenders_Jx4a65c_size_8abf5 : GoodIn wsX8_openTenders wsJx4a65c_size_8abf5 := goodIn_r _ [9, 10, 71, 72, 73] (by decide +kernel) (by decide +kernel)
set_option maxRecDepth 20000 in
theorem gX8_openTenders_Jx4a65c_size_8abf5 : GoodIn wsX8_openTenders (wsV RX8 40 RJx4a65c yJx4a65c_size_8abf5 wsJx4a65c_size_8abf5) := goodIn_app (goodIn_of _ (by decide +kernel)) ggX8_openTenders_Jx4a65c_size_8abf5
set_option maxRecDepth 20000 in
theorem ggX8_openTenders_Jx4a65c_get_915e3 : GoodIn wsX8_openTenders wsJx4a65c_get_915e3 := goodIn_r _ [14, 10, 15, 16, 17, 18, 19, 20, 21, 22, 23, 24, 25, 8, 26, 27, 71, 72, 73] (by decide +kernel) (by decide +kernel)
set_option maxRecDepth 20000 in
theorem gX8_openTenders_Jx4a65c_get_915e3 : GoodIn wsX8_openTenders (wsV RX8 237 RJx4a65c yJx4a65c_get_915e3 wsJx4a65c_get_915e3) := goodIn_app (goodIn_of _ (by decide +kernel)) ggX8_openTenders_Jx4a65c_get_915e3
set_option maxRecDepth 20000 in
theorem ggX8_openTenders_X8_openLots : GoodIn wsX8_openTenders wsX8_openLots := goodIn_r _ [32, 33, 34, 35, 36, 37, 38, 5, 6, 7, 8, 9, 10, 11, 12, 13, 14, 15, 16, 17, 18, 19, 20, 21, 22, 23, 24, 25, 26, 27, 39, 40, 41, 31, 42, 43, 4, 44, 45, 46, 47, 48, 49, 50, 51, 52, 53, 54, 55, 56, 57, 58, 65, 66, 67, 68, 69, 70, 74, 75, 76, 77, 78, 79, 80, 81, 82, 83, 84, 71, 72, 73, 59, 60, 61, 62, 63, 64] (by decide +kernel) (by decide +kernel)
set_option maxRecDepth 20000 in
theorem gX8_openTenders_X8_openLots : GoodIn wsX8_openTenders (wsV RX8 258 RX8 yX8_openLots wsX8_openLots) := goodIn_app (goodIn_of _ (by decide +kernel)) ggX8_openTenders_X8_openLots
theorem dX8_openTenders_0 : decode cX8_openTenders 0 = .ok (.iconst 0, 1) := by decide +kernel
theorem dX8_openTenders_1 : decode cX8_openTenders 1 = .ok (.istore_n 1, 1) := by decide +kernel
theorem dX8_openTenders_2 : decode cX8_openTenders 2 = .ok (.iload_n 1, 1) := by decide +kernel
theorem dX8_openTenders_3 : decode cX8_openTenders 3 = .ok (.aload_n 0, 1) := by decide +kernel
theorem dX8_openTenders_4 : decode cX8_openTenders 4 = .ok (.getfield 16, 3) := by decide +kernel
theorem dX8_openTenders_7 : decode cX8_openTenders 7 = .ok (.invokevirtual 40, 3) := by decide +kernel
theorem dX8_openTenders_10 : decode cX8_openTenders 10 = .ok (.if_icmp .ge 37, 3) := by decide +kernel
theorem dX8_openTenders_13 : decode cX8_openTenders 13 = .ok (.aload_n 0, 1) := by decide +kernel
theorem dX8_openTenders_14 : decode cX8_openTenders 14 = .ok (.getfield 16, 3) := by decide +kernel
theorem dX8_openTenders_17 : decode cX8_openTenders 17 = .ok (.iload_n 1, 1) := by decide +kernel
theorem dX8_openTenders_18 : decode cX8_openTenders 18 = .ok (.invokevirtual 237, 3) := by decide +kernel
theorem dX8_openTenders_21 : decode cX8_openTenders 21 = .ok (.checkcast 47, 3) := by decide +kernel
theorem dX8_openTenders_24 : decode cX8_openTenders 24 = .ok (.astore_n 2, 1) := by decide +kernel
theorem dX8_openTenders_25 : decode cX8_openTenders 25 = .ok (.aload_n 2, 1) := by decide +kernel
theorem dX8_openTenders_26 : decode cX8_openTenders 26 = .ok (.getfield 255, 3) := by decide +kernel
theorem dX8_openTenders_29 : decode cX8_openTenders 29 = .ok (.aload_n 0, 1) := by decide +kernel
theorem dX8_openTenders_30 : decode cX8_openTenders 30 = .ok (.getfield 29, 3) := by decide +kernel
theorem dX8_openTenders_33 : decode cX8_openTenders 33 = .ok (.if_icmp .ne 8, 3) := by decide +kernel
theorem dX8_openTenders_36 : decode cX8_openTenders 36 = .ok (.aload_n 0, 1) := by decide +kernel
theorem dX8_openTenders_37 : decode cX8_openTenders 37 = .ok (.aload_n 2, 1) := by decide +kernel
theorem dX8_openTenders_38 : decode cX8_openTenders 38 = .ok (.invokevirtual 258, 3) := by decide +kernel
theorem dX8_openTenders_41 : decode cX8_openTenders 41 = .ok (.iinc 1 1, 3) := by decide +kernel
theorem dX8_openTenders_44 : decode cX8_openTenders 44 = .ok (.goto (-42), 3) := by decide +kernel
theorem dX8_openTenders_47 : decode cX8_openTenders 47 = .ok (.return_, 1) := by decide +kernel
set_option maxRecDepth 20000 in
theorem ggX8_openLots_Jx4a65c_size_8abf5 : GoodIn wsX8_openLots wsJx4a65c_size_8abf5 := goodIn_r _ [11, 12, 69, 70, 71] (by decide +kernel) (by decide +kernel)
set_option maxRecDepth 20000 in
theorem gX8_openLots_Jx4a65c_size_8abf5 : GoodIn wsX8_openLots (wsV RX8 40 RJx4a65c yJx4a65c_size_8abf5 wsJx4a65c_size_8abf5) := goodIn_app (goodIn_of _ (by decide +kernel)) ggX8_openLots_Jx4a65c_size_8abf5
set_option maxRecDepth 20000 in
theorem ggX8_openLots_Jx4a65c_get_915e3 : GoodIn wsX8_openLots wsJx4a65c_get_915e3 := goodIn_r _ [16, 12, 17, 18, 19, 20, 21, 22, 23, 24, 25, 26, 27, 10, 28, 29, 69, 70, 71] (by decide +kernel) (by decide +kernel)
set_option maxRecDepth 20000 in
theorem gX8_openLots_Jx4a65c_get_915e3 : GoodIn wsX8_openLots (wsV RX8 237 RJx4a65c yJx4a65c_get_915e3 wsJx4a65c_get_915e3) := goodIn_app (goodIn_of _ (by decide +kernel)) ggX8_openLots_Jx4a65c_get_915e3
set_option maxRecDepth 20000 in
theorem ggX8_openLots_X8_hasPapers : GoodIn wsX8_openLots wsX8_hasPapers := goodIn_r _ [34, 35, 36, 37, 38, 33, 39, 40, 41, 42, 72, 73, 74, 75, 76, 77] (by decide +kernel) (by decide +kernel)
set_option maxRecDepth 20000 in
theorem gX8_openLots_X8_hasPapers : GoodIn wsX8_openLots (wsV RX8 265 RX8 yX8_hasPapers wsX8_hasPapers) := goodIn_app (goodIn_of _ (by decide +kernel)) ggX8_openLots_X8_hasPapers
set_option maxRecDepth 20000 in
theorem ggX8_openLots_X1_open : GoodIn wsX8_openLots wsX1_open := goodIn_r _ [47, 48, 49, 50, 51, 63, 64, 65, 66, 67, 68] (by decide +kernel) (by decide +kernel)
set_option maxRecDepth 20000 in
theorem gX8_openLots_X1_open : GoodIn wsX8_openLots (wsV RX8 269 RX1 yX1_open wsX1_open) := goodIn_app (goodIn_of _ (by decide +kernel)) ggX8_openLots_X1_open
theorem dX8_openLots_0 : decode cX8_openLots 0 = .ok (.iconst 0, 1) := by decide +kernel
theorem dX8_openLots_1 : decode cX8_openLots 1 = .ok (.istore_n 2, 1) := by decide +kernel
theorem dX8_openLots_2 : decode cX8_openLots 2 = .ok (.iload_n 2, 1) := by decide +kernel
theorem dX8_openLots_3 : decode cX8_openLots 3 = .ok (.aload_n 1, 1) := by decide +kernel
theorem dX8_openLots_4 : decode cX8_openLots 4 = .ok (.getfield 60, 3) := by decide +kernel
theorem dX8_openLots_7 : decode cX8_openLots 7 = .ok (.invokevirtual 40, 3) := by decide +kernel
theorem dX8_openLots_10 : decode cX8_openLots 10 = .ok (.if_icmp .ge 71, 3) := by decide +kernel
theorem dX8_openLots_13 : decode cX8_openLots 13 = .ok (.aload_n 1, 1) := by decide +kernel
theorem dX8_openLots_14 : decode cX8_openLots 14 = .ok (.getfield 60, 3) := by decide +kernel
theorem dX8_openLots_17 : decode cX8_openLots 17 = .ok (.iload_n 2, 1) := by decide +kernel
theorem dX8_openLots_18 : decode cX8_openLots 18 = .ok (.invokevirtual 237, 3) := by decide +kernel
theorem dX8_openLots_21 : decode cX8_openLots 21 = .ok (.checkcast 67, 3) := by decide +kernel
theorem dX8_openLots_24 : decode cX8_openLots 24 = .ok (.getfield 95, 3) := by decide +kernel
theorem dX8_openLots_27 : decode cX8_openLots 27 = .ok (.astore_n 3, 1) := by decide +kernel
theorem dX8_openLots_28 : decode cX8_openLots 28 = .ok (.iconst 0, 1) := by decide +kernel
theorem dX8_openLots_29 : decode cX8_openLots 29 = .ok (.istore 4, 2) := by decide +kernel
theorem dX8_openLots_31 : decode cX8_openLots 31 = .ok (.iload 4, 2) := by decide +kernel
theorem dX8_openLots_33 : decode cX8_openLots 33 = .ok (.aload_n 3, 1) := by decide +kernel
theorem dX8_openLots_34 : decode cX8_openLots 34 = .ok (.invokevirtual 40, 3) := by decide +kernel
theorem dX8_openLots_37 : decode cX8_openLots 37 = .ok (.if_icmp .ge 38, 3) := by decide +kernel
theorem dX8_openLots_40 : decode cX8_openLots 40 = .ok (.aload_n 3, 1) := by decide +kernel
theorem dX8_openLots_41 : decode cX8_openLots 41 = .ok (.iload 4, 2) := by decide +kernel
theorem dX8_openLots_43 : decode cX8_openLots 43 = .ok (.invokevirtual 237, 3) := by decide +kernel
theorem dX8_openLots_46 : decode cX8_openLots 46 = .ok (.checkcast 98, 3) := by decide +kernel
theorem dX8_openLots_49 : decode cX8_openLots 49 = .ok (.astore 5, 2) := by decide +kernel
theorem dX8_openLots_51 : decode cX8_openLots 51 = .ok (.aload 5, 2) := by decide +kernel
theorem dX8_openLots_53 : decode cX8_openLots 53 = .ok (.aload_n 0, 1) := by decide +kernel
theorem dX8_openLots_54 : decode cX8_openLots 54 = .ok (.aload 5, 2) := by decide +kernel
theorem dX8_openLots_56 : decode cX8_openLots 56 = .ok (.getfield 156, 3) := by decide +kernel
theorem dX8_openLots_59 : decode cX8_openLots 59 = .ok (.aload_n 1, 1) := by decide +kernel
theorem dX8_openLots_60 : decode cX8_openLots 60 = .ok (.getfield 262, 3) := by decide +kernel
theorem dX8_openLots_63 : decode cX8_openLots 63 = .ok (.invokevirtual 265, 3) := by decide +kernel
theorem dX8_openLots_66 : decode cX8_openLots 66 = .ok (.invokevirtual 269, 3) := by decide +kernel
theorem dX8_openLots_69 : decode cX8_openLots 69 = .ok (.iinc 4 1, 3) := by decide +kernel
theorem dX8_openLots_72 : decode cX8_openLots 72 = .ok (.goto (-41), 3) := by decide +kernel
theorem dX8_openLots_75 : decode cX8_openLots 75 = .ok (.iinc 2 1, 3) := by decide +kernel
theorem dX8_openLots_78 : decode cX8_openLots 78 = .ok (.goto (-76), 3) := by decide +kernel
theorem dX8_openLots_81 : decode cX8_openLots 81 = .ok (.return_, 1) := by decide +kernel
set_option maxRecDepth 20000 in
theorem ggX8_hasPapers_X8_paperSlot : GoodIn wsX8_hasPapers wsX8_paperSlot := goodIn_r _ [6, 7, 8, 5, 9] (by decide +kernel) (by decide +kernel)
set_option maxRecDepth 20000 in
theorem gX8_hasPapers_X8_paperSlot : GoodIn wsX8_hasPapers (va_wsS RX8 72 yX8_paperSlot wsX8_paperSlot) := goodIn_app (goodIn_of _ (by decide +kernel)) ggX8_hasPapers_X8_paperSlot
theorem dX8_hasPapers_0 : decode cX8_hasPapers 0 = .ok (.iconst 0, 1) := by decide +kernel
theorem dX8_hasPapers_1 : decode cX8_hasPapers 1 = .ok (.istore_n 3, 1) := by decide +kernel
theorem dX8_hasPapers_2 : decode cX8_hasPapers 2 = .ok (.iload_n 3, 1) := by decide +kernel
theorem dX8_hasPapers_3 : decode cX8_hasPapers 3 = .ok (.bipush 6, 2) := by decide +kernel
theorem dX8_hasPapers_5 : decode cX8_hasPapers 5 = .ok (.if_icmp .ge 55, 3) := by decide +kernel
theorem dX8_hasPapers_8 : decode cX8_hasPapers 8 = .ok (.iload_n 1, 1) := by decide +kernel
theorem dX8_hasPapers_9 : decode cX8_hasPapers 9 = .ok (.iload_n 3, 1) := by decide +kernel
theorem dX8_hasPapers_10 : decode cX8_hasPapers 10 = .ok (.invokestatic 72, 3) := by decide +kernel
theorem dX8_hasPapers_13 : decode cX8_hasPapers 13 = .ok (.istore 4, 2) := by decide +kernel
theorem dX8_hasPapers_15 : decode cX8_hasPapers 15 = .ok (.iload 4, 2) := by decide +kernel
theorem dX8_hasPapers_17 : decode cX8_hasPapers 17 = .ok (.iconst (-1), 1) := by decide +kernel
theorem dX8_hasPapers_18 : decode cX8_hasPapers 18 = .ok (.if_icmp .ne 7, 3) := by decide +kernel
theorem dX8_hasPapers_21 : decode cX8_hasPapers 21 = .ok (.iconst (-1), 1) := by decide +kernel
theorem dX8_hasPapers_22 : decode cX8_hasPapers 22 = .ok (.goto 10, 3) := by decide +kernel
theorem dX8_hasPapers_25 : decode cX8_hasPapers 25 = .ok (.aload_n 0, 1) := by decide +kernel
theorem dX8_hasPapers_26 : decode cX8_hasPapers 26 = .ok (.getfield 9, 3) := by decide +kernel
theorem dX8_hasPapers_29 : decode cX8_hasPapers 29 = .ok (.iload 4, 2) := by decide +kernel
theorem dX8_hasPapers_31 : decode cX8_hasPapers 31 = .ok (.iaload, 1) := by decide +kernel
theorem dX8_hasPapers_32 : decode cX8_hasPapers 32 = .ok (.istore 5, 2) := by decide +kernel
theorem dX8_hasPapers_34 : decode cX8_hasPapers 34 = .ok (.iload_n 2, 1) := by decide +kernel
theorem dX8_hasPapers_35 : decode cX8_hasPapers 35 = .ok (.iload_n 3, 1) := by decide +kernel
theorem dX8_hasPapers_36 : decode cX8_hasPapers 36 = .ok (.ishr, 1) := by decide +kernel
theorem dX8_hasPapers_37 : decode cX8_hasPapers 37 = .ok (.iconst 1, 1) := by decide +kernel
theorem dX8_hasPapers_38 : decode cX8_hasPapers 38 = .ok (.iand, 1) := by decide +kernel
theorem dX8_hasPapers_39 : decode cX8_hasPapers 39 = .ok (.iconst 1, 1) := by decide +kernel
theorem dX8_hasPapers_40 : decode cX8_hasPapers 40 = .ok (.if_icmp .ne 14, 3) := by decide +kernel
theorem dX8_hasPapers_43 : decode cX8_hasPapers 43 = .ok (.iload 5, 2) := by decide +kernel
theorem dX8_hasPapers_45 : decode cX8_hasPapers 45 = .ok (.aload_n 0, 1) := by decide +kernel
theorem dX8_hasPapers_46 : decode cX8_hasPapers 46 = .ok (.getfield 29, 3) := by decide +kernel
theorem dX8_hasPapers_49 : decode cX8_hasPapers 49 = .ok (.if_icmp .ge 5, 3) := by decide +kernel
theorem dX8_hasPapers_52 : decode cX8_hasPapers 52 = .ok (.iconst 0, 1) := by decide +kernel
theorem dX8_hasPapers_53 : decode cX8_hasPapers 53 = .ok (.ireturn, 1) := by decide +kernel
theorem dX8_hasPapers_54 : decode cX8_hasPapers 54 = .ok (.iinc 3 1, 3) := by decide +kernel
theorem dX8_hasPapers_57 : decode cX8_hasPapers 57 = .ok (.goto (-55), 3) := by decide +kernel
theorem dX8_hasPapers_60 : decode cX8_hasPapers 60 = .ok (.iconst 1, 1) := by decide +kernel
theorem dX8_hasPapers_61 : decode cX8_hasPapers 61 = .ok (.ireturn, 1) := by decide +kernel
set_option maxRecDepth 20000 in
theorem ggX8_paperSlot_X8_isOutside : GoodIn wsX8_paperSlot wsX8_isOutside := goodIn_r _ [4] (by decide +kernel) (by decide +kernel)
set_option maxRecDepth 20000 in
theorem gX8_paperSlot_X8_isOutside : GoodIn wsX8_paperSlot (va_wsS RX8 33 yX8_isOutside wsX8_isOutside) := goodIn_app (goodIn_of _ (by decide +kernel)) ggX8_paperSlot_X8_isOutside
theorem dX8_paperSlot_0 : decode cX8_paperSlot 0 = .ok (.iload_n 0, 1) := by decide +kernel
theorem dX8_paperSlot_1 : decode cX8_paperSlot 1 = .ok (.iconst 0, 1) := by decide +kernel
theorem dX8_paperSlot_2 : decode cX8_paperSlot 2 = .ok (.bipush 7, 2) := by decide +kernel
theorem dX8_paperSlot_4 : decode cX8_paperSlot 4 = .ok (.invokestatic 33, 3) := by decide +kernel
theorem dX8_paperSlot_7 : decode cX8_paperSlot 7 = .ok (.ifCond .ne 12, 3) := by decide +kernel
theorem dX8_paperSlot_10 : decode cX8_paperSlot 10 = .ok (.iload_n 1, 1) := by decide +kernel
theorem dX8_paperSlot_11 : decode cX8_paperSlot 11 = .ok (.iconst 0, 1) := by decide +kernel
theorem dX8_paperSlot_12 : decode cX8_paperSlot 12 = .ok (.iconst 5, 1) := by decide +kernel
theorem dX8_paperSlot_13 : decode cX8_paperSlot 13 = .ok (.invokestatic 33, 3) := by decide +kernel
theorem dX8_paperSlot_16 : decode cX8_paperSlot 16 = .ok (.ifCond .eq 5, 3) := by decide +kernel
theorem dX8_paperSlot_19 : decode cX8_paperSlot 19 = .ok (.iconst (-1), 1) := by decide +kernel
theorem dX8_paperSlot_20 : decode cX8_paperSlot 20 = .ok (.ireturn, 1) := by decide +kernel
theorem dX8_paperSlot_21 : decode cX8_paperSlot 21 = .ok (.iload_n 0, 1) := by decide +kernel
theorem dX8_paperSlot_22 : decode cX8_paperSlot 22 = .ok (.bipush 6, 2) := by decide +kernel
theorem dX8_paperSlot_24 : decode cX8_paperSlot 24 = .ok (.imul, 1) := by decide +kernel
theorem dX8_paperSlot_25 : decode cX8_paperSlot 25 = .ok (.iload_n 1, 1) := by decide +kernel
theorem dX8_paperSlot_26 : decode cX8_paperSlot 26 = .ok (.iadd, 1) := by decide +kernel
theorem dX8_paperSlot_27 : decode cX8_paperSlot 27 = .ok (.ireturn, 1) := by decide +kernel
set_option maxRecDepth 20000 in
theorem ggX8_lapseAwards_Jx4a65c_size_8abf5 : GoodIn wsX8_lapseAwards wsJx4a65c_size_8abf5 := goodIn_r _ [16, 17, 192, 193, 194] (by decide +kernel) (by decide +kernel)
set_option maxRecDepth 20000 in
theorem gX8_lapseAwards_Jx4a65c_size_8abf5 : GoodIn wsX8_lapseAwards (wsV RX8 40 RJx4a65c yJx4a65c_size_8abf5 wsJx4a65c_size_8abf5) := goodIn_app (goodIn_of _ (by decide +kernel)) ggX8_lapseAwards_Jx4a65c_size_8abf5
set_option maxRecDepth 20000 in
theorem ggX8_lapseAwards_Jx4a65c_get_915e3 : GoodIn wsX8_lapseAwards wsJx4a65c_get_915e3 := goodIn_r _ [21, 17, 22, 23, 24, 25, 26, 27, 28, 29, 30, 31, 32, 15, 33, 34, 192, 193, 194] (by decide +kernel) (by decide +kernel)
set_option maxRecDepth 20000 in
theorem gX8_lapseAwards_Jx4a65c_get_915e3 : GoodIn wsX8_lapseAwards (wsV RX8 237 RJx4a65c yJx4a65c_get_915e3 wsJx4a65c_get_915e3) := goodIn_app (goodIn_of _ (by decide +kernel)) ggX8_lapseAwards_Jx4a65c_get_915e3
set_option maxRecDepth 20000 in
theorem ggX8_lapseAwards_X8_hasBecomeFinal : GoodIn wsX8_lapseAwards wsX8_hasBecomeFinal := goodIn_r _ [39, 40, 4, 5, 41, 42, 43, 38, 44, 45, 46, 47, 48, 12, 13, 14, 15, 16, 17, 18, 19, 20, 21, 22, 23, 24, 25, 26, 27, 28, 29, 30, 31, 32, 33, 34, 176, 177, 178, 179, 180, 181, 182, 170, 171, 172, 173, 174, 175, 195, 196, 197, 198, 199, 200, 192, 193, 194] (by decide +kernel) (by decide +kernel)
set_option maxRecDepth 20000 in
theorem gX8_lapseAwards_X8_hasBecomeFinal : GoodIn wsX8_lapseAwards (wsV RX8 163 RX8 yX8_hasBecomeFinal wsX8_hasBecomeFinal) := goodIn_app (goodIn_of _ (by decide +kernel)) ggX8_lapseAwards_X8_hasBecomeFinal
set_option maxRecDepth 20000 in
theorem ggX8_lapseAwards_X2_init : GoodIn wsX8_lapseAwards wsX2_init := goodIn_r _ [51, 52, 53, 54, 55, 56, 57, 183, 184, 185] (by decide +kernel) (by decide +kernel)
set_option maxRecDepth 20000 in
theorem gX8_lapseAwards_X2_init : GoodIn wsX8_lapseAwards (wsX2_init) := ggX8_lapseAwards_X2_init
set_option maxRecDepth 20000 in
theorem ggX8_lapseAwards_X8_sendBack : GoodIn wsX8_lapseAwards wsX8_sendBack := goodIn_r _ [61, 40, 62, 63, 64, 65, 66, 15, 67, 68, 69, 34, 17, 70, 71, 72, 73, 74, 75, 76, 77, 78, 79, 80, 81, 82, 83, 84, 85, 86, 87, 88, 89, 90, 91, 92, 93, 94, 95, 96, 97, 98, 99, 100, 101, 102, 103, 104, 105, 106, 107, 108, 109, 110, 111, 112, 113, 114, 115, 116, 117, 118, 119, 120, 121, 122, 123, 124, 125, 126, 127, 128, 129, 130, 131, 132, 133, 134, 135, 136, 13, 14, 16, 137, 19, 20, 21, 22, 23, 24, 25, 26, 27, 28, 29, 30, 31, 32, 33, 138, 139, 140, 38, 141, 1, 142, 143, 144, 4, 145, 146, 147, 148, 149, 150, 151, 152, 153, 154, 155, 156, 157, 158, 159, 160, 161, 12, 162, 163, 164, 165, 53, 54, 166, 167, 168, 169, 176, 177, 178, 179, 180, 181, 182, 201, 202, 203, 204, 205, 192, 193, 194, 183, 184, 185, 186, 187, 188, 189, 190, 191, 170, 171, 172, 173, 174, 175, 206, 207, 208, 209, 210, 211] (by decide +kernel) (by decide +kernel)
set_option maxRecDepth 20000 in
theorem gX8_lapseAwards_X8_sendBack : GoodIn wsX8_lapseAwards (wsV RX8 276 RX8 yX8_sendBack wsX8_sendBack) := goodIn_app (goodIn_of _ (by decide +kernel)) ggX8_lapseAwards_X8_sendBack
theorem dX8_lapseAwards_0 : decode cX8_lapseAwards 0 = .ok (.iconst 0, 1) := by decide +kernel
theorem dX8_lapseAwards_1 : decode cX8_lapseAwards 1 = .ok (.istore_n 1, 1) := by decide +kernel
theorem dX8_lapseAwards_2 : decode cX8_lapseAwards 2 = .ok (.aload_n 0, 1) := by decide +kernel
theorem dX8_lapseAwards_3 : decode cX8_lapseAwards 3 = .ok (.getfield 20, 3) := by decide +kernel
theorem dX8_lapseAwards_6 : decode cX8_lapseAwards 6 = .ok (.invokevirtual 40, 3) := by decide +kernel
theorem dX8_lapseAwards_9 : decode cX8_lapseAwards 9 = .ok (.istore_n 2, 1) := by decide +kernel
theorem dX8_lapseAwards_10 : decode cX8_lapseAwards 10 = .ok (.iconst 0, 1) := by decide +kernel
theorem dX8_lapseAwards_11 : decode cX8_lapseAwards 11 = .ok (.istore_n 3, 1) := by decide +kernel
theorem dX8_lapseAwards_12 : decode cX8_lapseAwards 12 = .ok (.iload_n 3, 1) := by decide +kernel
theorem dX8_lapseAwards_13 : decode cX8_lapseAwards 13 = .ok (.iload_n 2, 1) := by decide +kernel
theorem dX8_lapseAwards_14 : decode cX8_lapseAwards 14 = .ok (.if_icmp .ge 99, 3) := by decide +kernel
theorem dX8_lapseAwards_17 : decode cX8_lapseAwards 17 = .ok (.aload_n 0, 1) := by decide +kernel
theorem dX8_lapseAwards_18 : decode cX8_lapseAwards 18 = .ok (.getfield 20, 3) := by decide +kernel
theorem dX8_lapseAwards_21 : decode cX8_lapseAwards 21 = .ok (.invokevirtual 40, 3) := by decide +kernel
theorem dX8_lapseAwards_24 : decode cX8_lapseAwards 24 = .ok (.bipush 60, 2) := by decide +kernel
theorem dX8_lapseAwards_26 : decode cX8_lapseAwards 26 = .ok (.if_icmp .ge 87, 3) := by decide +kernel
theorem dX8_lapseAwards_29 : decode cX8_lapseAwards 29 = .ok (.aload_n 0, 1) := by decide +kernel
theorem dX8_lapseAwards_30 : decode cX8_lapseAwards 30 = .ok (.getfield 20, 3) := by decide +kernel
theorem dX8_lapseAwards_33 : decode cX8_lapseAwards 33 = .ok (.iload_n 3, 1) := by decide +kernel
theorem dX8_lapseAwards_34 : decode cX8_lapseAwards 34 = .ok (.invokevirtual 237, 3) := by decide +kernel
theorem dX8_lapseAwards_37 : decode cX8_lapseAwards 37 = .ok (.checkcast 144, 3) := by decide +kernel
theorem dX8_lapseAwards_40 : decode cX8_lapseAwards 40 = .ok (.astore 4, 2) := by decide +kernel
theorem dX8_lapseAwards_42 : decode cX8_lapseAwards 42 = .ok (.aload 4, 2) := by decide +kernel
theorem dX8_lapseAwards_44 : decode cX8_lapseAwards 44 = .ok (.getfield 221, 3) := by decide +kernel
theorem dX8_lapseAwards_47 : decode cX8_lapseAwards 47 = .ok (.ifCond .ne 60, 3) := by decide +kernel
theorem dX8_lapseAwards_50 : decode cX8_lapseAwards 50 = .ok (.aload_n 0, 1) := by decide +kernel
theorem dX8_lapseAwards_51 : decode cX8_lapseAwards 51 = .ok (.getfield 29, 3) := by decide +kernel
theorem dX8_lapseAwards_54 : decode cX8_lapseAwards 54 = .ok (.aload 4, 2) := by decide +kernel
theorem dX8_lapseAwards_56 : decode cX8_lapseAwards 56 = .ok (.getfield 184, 3) := by decide +kernel
theorem dX8_lapseAwards_59 : decode cX8_lapseAwards 59 = .ok (.bipush 30, 2) := by decide +kernel
theorem dX8_lapseAwards_61 : decode cX8_lapseAwards 61 = .ok (.iadd, 1) := by decide +kernel
theorem dX8_lapseAwards_62 : decode cX8_lapseAwards 62 = .ok (.if_icmp .lt 45, 3) := by decide +kernel
theorem dX8_lapseAwards_65 : decode cX8_lapseAwards 65 = .ok (.aload_n 0, 1) := by decide +kernel
theorem dX8_lapseAwards_66 : decode cX8_lapseAwards 66 = .ok (.aload 4, 2) := by decide +kernel
theorem dX8_lapseAwards_68 : decode cX8_lapseAwards 68 = .ok (.invokevirtual 163, 3) := by decide +kernel
theorem dX8_lapseAwards_71 : decode cX8_lapseAwards 71 = .ok (.ifCond .eq 36, 3) := by decide +kernel
theorem dX8_lapseAwards_74 : decode cX8_lapseAwards 74 = .ok (.aload 4, 2) := by decide +kernel
theorem dX8_lapseAwards_76 : decode cX8_lapseAwards 76 = .ok (.iconst 1, 1) := by decide +kernel
theorem dX8_lapseAwards_77 : decode cX8_lapseAwards 77 = .ok (.putfield 248, 3) := by decide +kernel
theorem dX8_lapseAwards_80 : decode cX8_lapseAwards 80 = .ok (.aload_n 0, 1) := by decide +kernel
theorem dX8_lapseAwards_81 : decode cX8_lapseAwards 81 = .ok (.aload 4, 2) := by decide +kernel
theorem dX8_lapseAwards_83 : decode cX8_lapseAwards 83 = .ok (.new 273, 3) := by decide +kernel
theorem dX8_lapseAwards_86 : decode cX8_lapseAwards 86 = .ok (.dup, 1) := by decide +kernel
theorem dX8_lapseAwards_87 : decode cX8_lapseAwards 87 = .ok (.iconst 0, 1) := by decide +kernel
theorem dX8_lapseAwards_88 : decode cX8_lapseAwards 88 = .ok (.aload 4, 2) := by decide +kernel
theorem dX8_lapseAwards_90 : decode cX8_lapseAwards 90 = .ok (.getfield 152, 3) := by decide +kernel
theorem dX8_lapseAwards_93 : decode cX8_lapseAwards 93 = .ok (.getfield 156, 3) := by decide +kernel
theorem dX8_lapseAwards_96 : decode cX8_lapseAwards 96 = .ok (.iconst 0, 1) := by decide +kernel
theorem dX8_lapseAwards_97 : decode cX8_lapseAwards 97 = .ok (.invokespecial 275, 3) := by decide +kernel
theorem dX8_lapseAwards_100 : decode cX8_lapseAwards 100 = .ok (.invokevirtual 276, 3) := by decide +kernel
theorem dX8_lapseAwards_103 : decode cX8_lapseAwards 103 = .ok (.pop, 1) := by decide +kernel
theorem dX8_lapseAwards_104 : decode cX8_lapseAwards 104 = .ok (.iinc 1 1, 3) := by decide +kernel
theorem dX8_lapseAwards_107 : decode cX8_lapseAwards 107 = .ok (.iinc 3 1, 3) := by decide +kernel
theorem dX8_lapseAwards_110 : decode cX8_lapseAwards 110 = .ok (.goto (-98), 3) := by decide +kernel
theorem dX8_lapseAwards_113 : decode cX8_lapseAwards 113 = .ok (.iload_n 1, 1) := by decide +kernel
theorem dX8_lapseAwards_114 : decode cX8_lapseAwards 114 = .ok (.ireturn, 1) := by decide +kernel
theorem dX8_bidderOf_0 : decode cX8_bidderOf 0 = .ok (.aload_n 0, 1) := by decide +kernel
theorem dX8_bidderOf_1 : decode cX8_bidderOf 1 = .ok (.ifnonnull 7, 3) := by decide +kernel
theorem dX8_bidderOf_4 : decode cX8_bidderOf 4 = .ok (.iconst (-1), 1) := by decide +kernel
theorem dX8_bidderOf_5 : decode cX8_bidderOf 5 = .ok (.goto 7, 3) := by decide +kernel
theorem dX8_bidderOf_8 : decode cX8_bidderOf 8 = .ok (.aload_n 0, 1) := by decide +kernel
theorem dX8_bidderOf_9 : decode cX8_bidderOf 9 = .ok (.getfield 156, 3) := by decide +kernel
theorem dX8_bidderOf_12 : decode cX8_bidderOf 12 = .ok (.ireturn, 1) := by decide +kernel
set_option maxRecDepth 20000 in
theorem ggX8_standingAward_Jx4a65c_size_8abf5 : GoodIn wsX8_standingAward wsJx4a65c_size_8abf5 := goodIn_r _ [9, 10, 41, 42, 43] (by decide +kernel) (by decide +kernel)
set_option maxRecDepth 20000 in
theorem gX8_standingAward_Jx4a65c_size_8abf5 : GoodIn wsX8_standingAward (wsV RX8 40 RJx4a65c yJx4a65c_size_8abf5 wsJx4a65c_size_8abf5) := goodIn_app (goodIn_of _ (by decide +kernel)) ggX8_standingAward_Jx4a65c_size_8abf5
set_option maxRecDepth 20000 in
theorem ggX8_standingAward_Jx4a65c_get_915e3 : GoodIn wsX8_standingAward wsJx4a65c_get_915e3 := goodIn_r _ [14, 10, 15, 16, 17, 18, 19, 20, 21, 22, 23, 24, 25, 8, 26, 27, 41, 42, 43] (by decide +kernel) (by decide +kernel)
set_option maxRecDepth 20000 in
theorem gX8_standingAward_Jx4a65c_get_915e3 : GoodIn wsX8_standingAward (wsV RX8 237 RJx4a65c yJx4a65c_get_915e3 wsJx4a65c_get_915e3) := goodIn_app (goodIn_of _ (by decide +kernel)) ggX8_standingAward_Jx4a65c_get_915e3
theorem dX8_standingAward_0 : decode cX8_standingAward 0 = .ok (.iconst 0, 1) := by decide +kernel
theorem dX8_standingAward_1 : decode cX8_standingAward 1 = .ok (.istore_n 2, 1) := by decide +kernel
theorem dX8_standingAward_2 : decode cX8_standingAward 2 = .ok (.iload_n 2, 1) := by decide +kernel
theorem dX8_standingAward_3 : decode cX8_standingAward 3 = .ok (.aload_n 0, 1) := by decide +kernel
theorem dX8_standingAward_4 : decode cX8_standingAward 4 = .ok (.getfield 20, 3) := by decide +kernel
theorem dX8_standingAward_7 : decode cX8_standingAward 7 = .ok (.invokevirtual 40, 3) := by decide +kernel
theorem dX8_standingAward_10 : decode cX8_standingAward 10 = .ok (.if_icmp .ge 38, 3) := by decide +kernel
theorem dX8_standingAward_13 : decode cX8_standingAward 13 = .ok (.aload_n 0, 1) := by decide +kernel
theorem dX8_standingAward_14 : decode cX8_standingAward 14 = .ok (.getfield 20, 3) := by decide +kernel
theorem dX8_standingAward_17 : decode cX8_standingAward 17 = .ok (.iload_n 2, 1) := by decide +kernel
theorem dX8_standingAward_18 : decode cX8_standingAward 18 = .ok (.invokevirtual 237, 3) := by decide +kernel
theorem dX8_standingAward_21 : decode cX8_standingAward 21 = .ok (.checkcast 144, 3) := by decide +kernel
theorem dX8_standingAward_24 : decode cX8_standingAward 24 = .ok (.astore_n 3, 1) := by decide +kernel
theorem dX8_standingAward_25 : decode cX8_standingAward 25 = .ok (.aload_n 3, 1) := by decide +kernel
theorem dX8_standingAward_26 : decode cX8_standingAward 26 = .ok (.getfield 251, 3) := by decide +kernel
theorem dX8_standingAward_29 : decode cX8_standingAward 29 = .ok (.aload_n 1, 1) := by decide +kernel
theorem dX8_standingAward_30 : decode cX8_standingAward 30 = .ok (.if_acmp .ne 12, 3) := by decide +kernel
theorem dX8_standingAward_33 : decode cX8_standingAward 33 = .ok (.aload_n 3, 1) := by decide +kernel
theorem dX8_standingAward_34 : decode cX8_standingAward 34 = .ok (.getfield 159, 3) := by decide +kernel
theorem dX8_standingAward_37 : decode cX8_standingAward 37 = .ok (.ifCond .ne 5, 3) := by decide +kernel
theorem dX8_standingAward_40 : decode cX8_standingAward 40 = .ok (.aload_n 3, 1) := by decide +kernel
theorem dX8_standingAward_41 : decode cX8_standingAward 41 = .ok (.areturn, 1) := by decide +kernel
theorem dX8_standingAward_42 : decode cX8_standingAward 42 = .ok (.iinc 2 1, 3) := by decide +kernel
theorem dX8_standingAward_45 : decode cX8_standingAward 45 = .ok (.goto (-43), 3) := by decide +kernel
theorem dX8_standingAward_48 : decode cX8_standingAward 48 = .ok (.aconst_null, 1) := by decide +kernel
theorem dX8_standingAward_49 : decode cX8_standingAward 49 = .ok (.areturn, 1) := by decide +kernel
set_option maxRecDepth 20000 in
theorem ggX8_hasBecomeFinal_X8_openAbout : GoodIn wsX8_hasBecomeFinal wsX8_openAbout := goodIn_r _ [8, 9, 10, 11, 12, 13, 14, 15, 16, 17, 18, 19, 20, 21, 22, 23, 24, 25, 26, 27, 28, 29, 30, 31, 32, 33, 34, 35, 43, 44, 45, 46, 47, 48, 49, 50, 51, 52, 53, 54, 55, 56, 57] (by decide +kernel) (by decide +kernel)
set_option maxRecDepth 20000 in
theorem gX8_hasBecomeFinal_X8_openAbout : GoodIn wsX8_hasBecomeFinal (wsV RX8 217 RX8 yX8_openAbout wsX8_openAbout) := goodIn_app (goodIn_of _ (by decide +kernel)) ggX8_hasBecomeFinal_X8_openAbout
theorem dX8_hasBecomeFinal_0 : decode cX8_hasBecomeFinal 0 = .ok (.aload_n 1, 1) := by decide +kernel
theorem dX8_hasBecomeFinal_1 : decode cX8_hasBecomeFinal 1 = .ok (.getfield 159, 3) := by decide +kernel
theorem dX8_hasBecomeFinal_4 : decode cX8_hasBecomeFinal 4 = .ok (.ifCond .ne 26, 3) := by decide +kernel
theorem dX8_hasBecomeFinal_7 : decode cX8_hasBecomeFinal 7 = .ok (.aload_n 0, 1) := by decide +kernel
theorem dX8_hasBecomeFinal_8 : decode cX8_hasBecomeFinal 8 = .ok (.getfield 29, 3) := by decide +kernel
theorem dX8_hasBecomeFinal_11 : decode cX8_hasBecomeFinal 11 = .ok (.aload_n 1, 1) := by decide +kernel
theorem dX8_hasBecomeFinal_12 : decode cX8_hasBecomeFinal 12 = .ok (.getfield 184, 3) := by decide +kernel
theorem dX8_hasBecomeFinal_15 : decode cX8_hasBecomeFinal 15 = .ok (.if_icmp .lt 15, 3) := by decide +kernel
theorem dX8_hasBecomeFinal_18 : decode cX8_hasBecomeFinal 18 = .ok (.aload_n 0, 1) := by decide +kernel
theorem dX8_hasBecomeFinal_19 : decode cX8_hasBecomeFinal 19 = .ok (.aload_n 1, 1) := by decide +kernel
theorem dX8_hasBecomeFinal_20 : decode cX8_hasBecomeFinal 20 = .ok (.invokevirtual 217, 3) := by decide +kernel
theorem dX8_hasBecomeFinal_23 : decode cX8_hasBecomeFinal 23 = .ok (.ifCond .ne 7, 3) := by decide +kernel
theorem dX8_hasBecomeFinal_26 : decode cX8_hasBecomeFinal 26 = .ok (.iconst 1, 1) := by decide +kernel
theorem dX8_hasBecomeFinal_27 : decode cX8_hasBecomeFinal 27 = .ok (.goto 4, 3) := by decide +kernel
theorem dX8_hasBecomeFinal_30 : decode cX8_hasBecomeFinal 30 = .ok (.iconst 0, 1) := by decide +kernel
theorem dX8_hasBecomeFinal_31 : decode cX8_hasBecomeFinal 31 = .ok (.ireturn, 1) := by decide +kernel
set_option maxRecDepth 20000 in
theorem ggX8_awardToBest_X5_bidAtPlace : GoodIn wsX8_awardToBest wsX5_bidAtPlace := goodIn_r _ [12, 13, 14, 15, 16, 17, 18, 19, 20, 21, 22, 23, 24, 25, 26, 27, 28, 29, 30, 31, 32, 33, 34, 35, 36, 37, 38, 39, 40, 41, 42, 11, 43, 44, 45, 46, 47, 48, 49, 50, 51, 129, 130, 131, 132, 133, 140, 141, 142, 143, 144, 145, 146, 147, 148, 134, 135, 136, 137, 138, 139] (by decide +kernel) (by decide +kernel)
set_option maxRecDepth 20000 in
theorem gX8_awardToBest_X5_bidAtPlace : GoodIn wsX8_awardToBest (wsV RX8 129 RX5 yX5_bidAtPlace wsX5_bidAtPlace) := goodIn_app (goodIn_of _ (by decide +kernel)) ggX8_awardToBest_X5_bidAtPlace
set_option maxRecDepth 20000 in
theorem ggX8_awardToBest_Jx4a65c_size_8abf5 : GoodIn wsX8_awardToBest wsJx4a65c_size_8abf5 := goodIn_r _ [21, 22, 146, 147, 148] (by decide +kernel) (by decide +kernel)
set_option maxRecDepth 20000 in
theorem gX8_awardToBest_Jx4a65c_size_8abf5 : GoodIn wsX8_awardToBest (wsV RX8 40 RJx4a65c yJx4a65c_size_8abf5 wsJx4a65c_size_8abf5) := goodIn_app (goodIn_of _ (by decide +kernel)) ggX8_awardToBest_Jx4a65c_size_8abf5
set_option maxRecDepth 20000 in
theorem ggX8_awardToBest_X0_init : GoodIn wsX8_awardToBest wsX0_init := goodIn_r _ [55, 56, 57, 58, 59, 60, 61, 62, 122, 123, 124, 125, 126, 127, 128] (by decide +kernel) (by decide +kernel)
set_option maxRecDepth 20000 in
theorem gX8_awardToBest_X0_init : GoodIn wsX8_awardToBest (wsX0_init) := ggX8_awardToBest_X0_init
set_option maxRecDepth 20000 in
theorem ggX8_awardToBest_Jx4a65c_add_9ea2d : GoodIn wsX8_awardToBest wsJx4a65c_add_9ea2d := goodIn_r _ [66, 67, 68, 39, 22, 69, 70, 71, 20, 72, 73, 74, 75, 76, 77, 78, 79, 80, 81, 82, 83, 84, 85, 86, 87, 88, 89, 90, 91, 92, 93, 94, 95, 96, 97, 98, 99, 100, 101, 102, 103, 104, 105, 106, 107, 108, 109, 110, 111, 112, 113, 114, 115, 146, 147, 148] (by decide +kernel) (by decide +kernel)
set_option maxRecDepth 20000 in
theorem gX8_awardToBest_Jx4a65c_add_9ea2d : GoodIn wsX8_awardToBest (wsV RX8 52 RJx4a65c yJx4a65c_add_9ea2d wsJx4a65c_add_9ea2d) := goodIn_app (goodIn_of _ (by decide +kernel)) ggX8_awardToBest_Jx4a65c_add_9ea2d
theorem dX8_awardToBest_0 : decode cX8_awardToBest 0 = .ok (.aload_n 1, 1) := by decide +kernel
theorem dX8_awardToBest_1 : decode cX8_awardToBest 1 = .ok (.iconst 0, 1) := by decide +kernel
theorem dX8_awardToBest_2 : decode cX8_awardToBest 2 = .ok (.invokevirtual 129, 3) := by decide +kernel
theorem dX8_awardToBest_5 : decode cX8_awardToBest 5 = .ok (.astore_n 2, 1) := by decide +kernel
theorem dX8_awardToBest_6 : decode cX8_awardToBest 6 = .ok (.aload_n 2, 1) := by decide +kernel
theorem dX8_awardToBest_7 : decode cX8_awardToBest 7 = .ok (.ifnonnull 5, 3) := by decide +kernel
theorem dX8_awardToBest_10 : decode cX8_awardToBest 10 = .ok (.iconst (-1), 1) := by decide +kernel
theorem dX8_awardToBest_11 : decode cX8_awardToBest 11 = .ok (.ireturn, 1) := by decide +kernel
theorem dX8_awardToBest_12 : decode cX8_awardToBest 12 = .ok (.aload_n 0, 1) := by decide +kernel
theorem dX8_awardToBest_13 : decode cX8_awardToBest 13 = .ok (.getfield 20, 3) := by decide +kernel
theorem dX8_awardToBest_16 : decode cX8_awardToBest 16 = .ok (.invokevirtual 40, 3) := by decide +kernel
theorem dX8_awardToBest_19 : decode cX8_awardToBest 19 = .ok (.istore_n 3, 1) := by decide +kernel
theorem dX8_awardToBest_20 : decode cX8_awardToBest 20 = .ok (.aload_n 0, 1) := by decide +kernel
theorem dX8_awardToBest_21 : decode cX8_awardToBest 21 = .ok (.getfield 20, 3) := by decide +kernel
theorem dX8_awardToBest_24 : decode cX8_awardToBest 24 = .ok (.new 144, 3) := by decide +kernel
theorem dX8_awardToBest_27 : decode cX8_awardToBest 27 = .ok (.dup, 1) := by decide +kernel
theorem dX8_awardToBest_28 : decode cX8_awardToBest 28 = .ok (.iload_n 3, 1) := by decide +kernel
theorem dX8_awardToBest_29 : decode cX8_awardToBest 29 = .ok (.aload_n 1, 1) := by decide +kernel
theorem dX8_awardToBest_30 : decode cX8_awardToBest 30 = .ok (.aload_n 2, 1) := by decide +kernel
theorem dX8_awardToBest_31 : decode cX8_awardToBest 31 = .ok (.aload_n 0, 1) := by decide +kernel
theorem dX8_awardToBest_32 : decode cX8_awardToBest 32 = .ok (.getfield 29, 3) := by decide +kernel
theorem dX8_awardToBest_35 : decode cX8_awardToBest 35 = .ok (.aload_n 1, 1) := by decide +kernel
theorem dX8_awardToBest_36 : decode cX8_awardToBest 36 = .ok (.getfield 88, 3) := by decide +kernel
theorem dX8_awardToBest_39 : decode cX8_awardToBest 39 = .ok (.getfield 280, 3) := by decide +kernel
theorem dX8_awardToBest_42 : decode cX8_awardToBest 42 = .ok (.iadd, 1) := by decide +kernel
theorem dX8_awardToBest_43 : decode cX8_awardToBest 43 = .ok (.invokespecial 283, 3) := by decide +kernel
theorem dX8_awardToBest_46 : decode cX8_awardToBest 46 = .ok (.invokevirtual 52, 3) := by decide +kernel
theorem dX8_awardToBest_49 : decode cX8_awardToBest 49 = .ok (.pop, 1) := by decide +kernel
theorem dX8_awardToBest_50 : decode cX8_awardToBest 50 = .ok (.iload_n 3, 1) := by decide +kernel
theorem dX8_awardToBest_51 : decode cX8_awardToBest 51 = .ok (.ireturn, 1) := by decide +kernel
set_option maxRecDepth 20000 in
theorem ggX8_sendBack_Jx4a65c_add_9ea2d : GoodIn wsX8_sendBack wsJx4a65c_add_9ea2d := goodIn_r _ [8, 9, 10, 11, 12, 13, 14, 15, 7, 16, 17, 18, 19, 20, 21, 22, 23, 24, 25, 26, 27, 28, 29, 30, 31, 32, 33, 34, 35, 36, 37, 38, 39, 40, 41, 42, 43, 44, 45, 46, 47, 48, 49, 50, 51, 52, 53, 54, 55, 56, 57, 58, 59, 149, 150, 151] (by decide +kernel) (by decide +kernel)
set_option maxRecDepth 20000 in
theorem gX8_sendBack_Jx4a65c_add_9ea2d : GoodIn wsX8_sendBack (wsV RX8 52 RJx4a65c yJx4a65c_add_9ea2d wsJx4a65c_add_9ea2d) := goodIn_app (goodIn_of _ (by decide +kernel)) ggX8_sendBack_Jx4a65c_add_9ea2d
set_option maxRecDepth 20000 in
theorem ggX8_sendBack_X5_follow : GoodIn wsX8_sendBack wsX5_follow := goodIn_r _ [64, 65, 66, 67, 68, 69, 70, 71, 72, 73, 74, 63, 75, 76, 77, 78, 79, 80, 81, 7, 82, 12, 83, 84, 85, 86, 87, 88, 89, 90, 91, 92, 93, 94, 95, 96, 97, 98, 11, 152, 153, 154, 155, 156, 157, 158, 159, 160, 144, 145, 146, 147, 148, 149, 150, 151] (by decide +kernel) (by decide +kernel)
set_option maxRecDepth 20000 in
theorem gX8_sendBack_X5_follow : GoodIn wsX8_sendBack (wsV RX8 289 RX5 yX5_follow wsX5_follow) := goodIn_app (goodIn_of _ (by decide +kernel)) ggX8_sendBack_X5_follow
set_option maxRecDepth 20000 in
theorem ggX8_sendBack_X8_awardToBest : GoodIn wsX8_sendBack wsX8_awardToBest := goodIn_r _ [103, 104, 105, 106, 107, 108, 109, 110, 111, 112, 113, 63, 114, 76, 77, 70, 69, 79, 80, 81, 7, 82, 12, 83, 84, 85, 86, 87, 88, 89, 90, 91, 92, 93, 94, 95, 96, 97, 98, 11, 115, 116, 117, 118, 119, 120, 121, 122, 123, 124, 125, 68, 126, 127, 128, 129, 130, 131, 132, 133, 134, 135, 136, 4, 5, 6, 8, 9, 10, 13, 14, 15, 16, 17, 18, 19, 20, 21, 22, 23, 24, 25, 26, 27, 28, 29, 30, 31, 32, 33, 34, 35, 36, 37, 38, 39, 40, 41, 42, 43, 44, 45, 46, 47, 48, 49, 50, 51, 52, 53, 54, 55, 56, 57, 58, 59, 161, 162, 163, 164, 165, 166, 137, 138, 139, 140, 141, 142, 143, 144, 145, 146, 147, 148, 167, 168, 169, 170, 171, 172, 155, 156, 157, 158, 159, 160, 149, 150, 151] (by decide +kernel) (by decide +kernel)
set_option maxRecDepth 20000 in
theorem gX8_sendBack_X8_awardToBest : GoodIn wsX8_sendBack (wsV RX8 139 RX8 yX8_awardToBest wsX8_awardToBest) := goodIn_app (goodIn_of _ (by decide +kernel)) ggX8_sendBack_X8_awardToBest
theorem dX8_sendBack_0 : decode cX8_sendBack 0 = .ok (.aload_n 1, 1) := by decide +kernel
theorem dX8_sendBack_1 : decode cX8_sendBack 1 = .ok (.iconst 1, 1) := by decide +kernel
theorem dX8_sendBack_2 : decode cX8_sendBack 2 = .ok (.putfield 159, 3) := by decide +kernel
theorem dX8_sendBack_5 : decode cX8_sendBack 5 = .ok (.aload_n 1, 1) := by decide +kernel
theorem dX8_sendBack_6 : decode cX8_sendBack 6 = .ok (.getfield 251, 3) := by decide +kernel
theorem dX8_sendBack_9 : decode cX8_sendBack 9 = .ok (.getfield 286, 3) := by decide +kernel
theorem dX8_sendBack_12 : decode cX8_sendBack 12 = .ok (.aload_n 2, 1) := by decide +kernel
theorem dX8_sendBack_13 : decode cX8_sendBack 13 = .ok (.invokevirtual 52, 3) := by decide +kernel
theorem dX8_sendBack_16 : decode cX8_sendBack 16 = .ok (.pop, 1) := by decide +kernel
theorem dX8_sendBack_17 : decode cX8_sendBack 17 = .ok (.aload_n 1, 1) := by decide +kernel
theorem dX8_sendBack_18 : decode cX8_sendBack 18 = .ok (.getfield 251, 3) := by decide +kernel
theorem dX8_sendBack_21 : decode cX8_sendBack 21 = .ok (.aload_n 2, 1) := by decide +kernel
theorem dX8_sendBack_22 : decode cX8_sendBack 22 = .ok (.invokevirtual 289, 3) := by decide +kernel
theorem dX8_sendBack_25 : decode cX8_sendBack 25 = .ok (.aload_n 0, 1) := by decide +kernel
theorem dX8_sendBack_26 : decode cX8_sendBack 26 = .ok (.aload_n 1, 1) := by decide +kernel
theorem dX8_sendBack_27 : decode cX8_sendBack 27 = .ok (.getfield 251, 3) := by decide +kernel
theorem dX8_sendBack_30 : decode cX8_sendBack 30 = .ok (.invokevirtual 139, 3) := by decide +kernel
theorem dX8_sendBack_33 : decode cX8_sendBack 33 = .ok (.ireturn, 1) := by decide +kernel
set_option maxRecDepth 20000 in
theorem ggX8_lineOf_J4_init_da8c8 : GoodIn wsX8_lineOf wsJ4_init_da8c8 := goodIn_r _ [15, 16, 17, 18, 19, 20, 21, 22, 23, 24, 25, 26, 27, 28, 29, 30, 31, 32, 33, 34, 207, 208, 209, 210] (by decide +kernel) (by decide +kernel)
set_option maxRecDepth 20000 in
theorem gX8_lineOf_J4_init_da8c8 : GoodIn wsX8_lineOf (wsJ4_init_da8c8) := ggX8_lineOf_J4_init_da8c8
set_option maxRecDepth 20000 in
theorem ggX8_lineOf_J4_append_cf468 : GoodIn wsX8_lineOf wsJ4_append_cf468 := goodIn_r _ [38, 39, 40, 41, 42, 18, 43, 44, 25, 45, 46, 47, 48, 49, 26, 50, 51, 52, 53, 54, 55, 56, 57, 58, 59, 60, 61, 62, 63, 64, 65, 66, 67, 68, 69, 70, 71, 72, 73, 74, 75, 76, 77, 24, 78, 79, 80, 81, 82, 83, 84, 85, 86, 87, 88, 89, 23, 90, 91, 92, 93, 94, 95, 96, 97, 98, 27, 28, 29, 30, 31, 32, 33, 34, 99, 100, 101, 102, 103, 104, 105, 106, 107, 108, 109, 110, 111, 112, 113, 114, 115, 116, 117, 118, 119, 120, 121, 122, 123, 124, 125, 126, 127, 128, 129, 130, 131, 132, 133, 134, 135, 136, 137, 207, 208, 209, 210] (by decide +kernel) (by decide +kernel)
set_option maxRecDepth 20000 in
theorem gX8_lineOf_J4_append_cf468 : GoodIn wsX8_lineOf (wsV RX8 294 RJ4 yJ4_append_cf468 wsJ4_append_cf468) := goodIn_app (goodIn_of _ (by decide +kernel)) ggX8_lineOf_J4_append_cf468
set_option maxRecDepth 20000 in
theorem ggX8_lineOf_J4_append_bf812 : GoodIn wsX8_lineOf wsJ4_append_bf812 := goodIn_r _ [141, 142, 143, 41, 144, 18, 145, 44, 25, 146, 147, 148, 149, 45, 46, 47, 48, 49, 26, 50, 51, 52, 53, 54, 55, 56, 57, 58, 59, 60, 61, 62, 63, 64, 65, 66, 67, 68, 69, 70, 71, 72, 73, 74, 75, 76, 77, 24, 78, 79, 80, 81, 82, 83, 84, 85, 86, 87, 88, 89, 23, 150, 151, 152, 153, 154, 155, 156, 29, 157, 123, 158, 159, 160, 108, 109, 110, 161, 162, 113, 163, 115, 164, 165, 118, 166, 167, 168, 169, 170, 171, 120, 121, 122, 124, 125, 207, 208, 209, 210] (by decide +kernel) (by decide +kernel)
set_option maxRecDepth 20000 in
theorem gX8_lineOf_J4_append_bf812 : GoodIn wsX8_lineOf (wsV RX8 298 RJ4 yJ4_append_bf812 wsJ4_append_bf812) := goodIn_app (goodIn_of _ (by decide +kernel)) ggX8_lineOf_J4_append_bf812
set_option maxRecDepth 20000 in
theorem ggX8_lineOf_X8_hasBecomeFinal : GoodIn wsX8_lineOf wsX8_hasBecomeFinal := goodIn_r _ [176, 11, 177, 178, 179, 180, 181, 175, 182, 183, 184, 185, 186, 187, 188, 189, 190, 191, 192, 193, 194, 195, 196, 197, 198, 199, 200, 201, 136, 118, 137, 202, 203, 204, 205, 206, 211, 212, 213, 214, 215, 216, 217, 235, 236, 237, 238, 239, 240, 241, 242, 243, 244, 245, 246, 247, 248, 249] (by decide +kernel) (by decide +kernel)
set_option maxRecDepth 20000 in
theorem gX8_lineOf_X8_hasBecomeFinal : GoodIn wsX8_lineOf (wsV RX8 163 RX8 yX8_hasBecomeFinal wsX8_hasBecomeFinal) := goodIn_app (goodIn_of _ (by decide +kernel)) ggX8_lineOf_X8_hasBecomeFinal
theorem dX8_lineOf_0 : decode cX8_lineOf 0 = .ok (.new 176, 3) := by decide +kernel
theorem dX8_lineOf_3 : decode cX8_lineOf 3 = .ok (.dup, 1) := by decide +kernel
theorem dX8_lineOf_4 : decode cX8_lineOf 4 = .ok (.invokespecial 293, 3) := by decide +kernel
theorem dX8_lineOf_7 : decode cX8_lineOf 7 = .ok (.astore_n 2, 1) := by decide +kernel
theorem dX8_lineOf_8 : decode cX8_lineOf 8 = .ok (.aload_n 2, 1) := by decide +kernel
theorem dX8_lineOf_9 : decode cX8_lineOf 9 = .ok (.bipush 35, 2) := by decide +kernel
theorem dX8_lineOf_11 : decode cX8_lineOf 11 = .ok (.invokevirtual 294, 3) := by decide +kernel
theorem dX8_lineOf_14 : decode cX8_lineOf 14 = .ok (.aload_n 1, 1) := by decide +kernel
theorem dX8_lineOf_15 : decode cX8_lineOf 15 = .ok (.getfield 143, 3) := by decide +kernel
theorem dX8_lineOf_18 : decode cX8_lineOf 18 = .ok (.invokevirtual 298, 3) := by decide +kernel
theorem dX8_lineOf_21 : decode cX8_lineOf 21 = .ok (.pop, 1) := by decide +kernel
theorem dX8_lineOf_22 : decode cX8_lineOf 22 = .ok (.aload_n 2, 1) := by decide +kernel
theorem dX8_lineOf_23 : decode cX8_lineOf 23 = .ok (.bipush 32, 2) := by decide +kernel
theorem dX8_lineOf_25 : decode cX8_lineOf 25 = .ok (.invokevirtual 294, 3) := by decide +kernel
theorem dX8_lineOf_28 : decode cX8_lineOf 28 = .ok (.bipush 84, 2) := by decide +kernel
theorem dX8_lineOf_30 : decode cX8_lineOf 30 = .ok (.invokevirtual 294, 3) := by decide +kernel
theorem dX8_lineOf_33 : decode cX8_lineOf 33 = .ok (.aload_n 1, 1) := by decide +kernel
theorem dX8_lineOf_34 : decode cX8_lineOf 34 = .ok (.getfield 251, 3) := by decide +kernel
theorem dX8_lineOf_37 : decode cX8_lineOf 37 = .ok (.getfield 88, 3) := by decide +kernel
theorem dX8_lineOf_40 : decode cX8_lineOf 40 = .ok (.getfield 301, 3) := by decide +kernel
theorem dX8_lineOf_43 : decode cX8_lineOf 43 = .ok (.invokevirtual 298, 3) := by decide +kernel
theorem dX8_lineOf_46 : decode cX8_lineOf 46 = .ok (.pop, 1) := by decide +kernel
theorem dX8_lineOf_47 : decode cX8_lineOf 47 = .ok (.aload_n 2, 1) := by decide +kernel
theorem dX8_lineOf_48 : decode cX8_lineOf 48 = .ok (.bipush 76, 2) := by decide +kernel
theorem dX8_lineOf_50 : decode cX8_lineOf 50 = .ok (.invokevirtual 294, 3) := by decide +kernel
theorem dX8_lineOf_53 : decode cX8_lineOf 53 = .ok (.aload_n 1, 1) := by decide +kernel
theorem dX8_lineOf_54 : decode cX8_lineOf 54 = .ok (.getfield 251, 3) := by decide +kernel
theorem dX8_lineOf_57 : decode cX8_lineOf 57 = .ok (.getfield 302, 3) := by decide +kernel
theorem dX8_lineOf_60 : decode cX8_lineOf 60 = .ok (.invokevirtual 298, 3) := by decide +kernel
theorem dX8_lineOf_63 : decode cX8_lineOf 63 = .ok (.pop, 1) := by decide +kernel
theorem dX8_lineOf_64 : decode cX8_lineOf 64 = .ok (.aload_n 2, 1) := by decide +kernel
theorem dX8_lineOf_65 : decode cX8_lineOf 65 = .ok (.bipush 32, 2) := by decide +kernel
theorem dX8_lineOf_67 : decode cX8_lineOf 67 = .ok (.invokevirtual 294, 3) := by decide +kernel
theorem dX8_lineOf_70 : decode cX8_lineOf 70 = .ok (.bipush 66, 2) := by decide +kernel
theorem dX8_lineOf_72 : decode cX8_lineOf 72 = .ok (.invokevirtual 294, 3) := by decide +kernel
theorem dX8_lineOf_75 : decode cX8_lineOf 75 = .ok (.aload_n 1, 1) := by decide +kernel
theorem dX8_lineOf_76 : decode cX8_lineOf 76 = .ok (.getfield 152, 3) := by decide +kernel
theorem dX8_lineOf_79 : decode cX8_lineOf 79 = .ok (.getfield 156, 3) := by decide +kernel
theorem dX8_lineOf_82 : decode cX8_lineOf 82 = .ok (.invokevirtual 298, 3) := by decide +kernel
theorem dX8_lineOf_85 : decode cX8_lineOf 85 = .ok (.pop, 1) := by decide +kernel
theorem dX8_lineOf_86 : decode cX8_lineOf 86 = .ok (.aload_n 1, 1) := by decide +kernel
theorem dX8_lineOf_87 : decode cX8_lineOf 87 = .ok (.getfield 159, 3) := by decide +kernel
theorem dX8_lineOf_90 : decode cX8_lineOf 90 = .ok (.ifCond .eq 13, 3) := by decide +kernel
theorem dX8_lineOf_93 : decode cX8_lineOf 93 = .ok (.aload_n 2, 1) := by decide +kernel
theorem dX8_lineOf_94 : decode cX8_lineOf 94 = .ok (.bipush 86, 2) := by decide +kernel
theorem dX8_lineOf_96 : decode cX8_lineOf 96 = .ok (.invokevirtual 294, 3) := by decide +kernel
theorem dX8_lineOf_99 : decode cX8_lineOf 99 = .ok (.pop, 1) := by decide +kernel
theorem dX8_lineOf_100 : decode cX8_lineOf 100 = .ok (.goto 35, 3) := by decide +kernel
theorem dX8_lineOf_103 : decode cX8_lineOf 103 = .ok (.aload_n 1, 1) := by decide +kernel
theorem dX8_lineOf_104 : decode cX8_lineOf 104 = .ok (.getfield 221, 3) := by decide +kernel
theorem dX8_lineOf_107 : decode cX8_lineOf 107 = .ok (.ifCond .eq 13, 3) := by decide +kernel
theorem dX8_lineOf_110 : decode cX8_lineOf 110 = .ok (.aload_n 2, 1) := by decide +kernel
theorem dX8_lineOf_111 : decode cX8_lineOf 111 = .ok (.bipush 83, 2) := by decide +kernel
theorem dX8_lineOf_113 : decode cX8_lineOf 113 = .ok (.invokevirtual 294, 3) := by decide +kernel
theorem dX8_lineOf_116 : decode cX8_lineOf 116 = .ok (.pop, 1) := by decide +kernel
theorem dX8_lineOf_117 : decode cX8_lineOf 117 = .ok (.goto 18, 3) := by decide +kernel
theorem dX8_lineOf_120 : decode cX8_lineOf 120 = .ok (.aload_n 0, 1) := by decide +kernel
theorem dX8_lineOf_121 : decode cX8_lineOf 121 = .ok (.aload_n 1, 1) := by decide +kernel
theorem dX8_lineOf_122 : decode cX8_lineOf 122 = .ok (.invokevirtual 163, 3) := by decide +kernel
theorem dX8_lineOf_125 : decode cX8_lineOf 125 = .ok (.ifCond .eq 10, 3) := by decide +kernel
theorem dX8_lineOf_128 : decode cX8_lineOf 128 = .ok (.aload_n 2, 1) := by decide +kernel
theorem dX8_lineOf_129 : decode cX8_lineOf 129 = .ok (.bipush 70, 2) := by decide +kernel
theorem dX8_lineOf_131 : decode cX8_lineOf 131 = .ok (.invokevirtual 294, 3) := by decide +kernel
theorem dX8_lineOf_134 : decode cX8_lineOf 134 = .ok (.pop, 1) := by decide +kernel
theorem dX8_lineOf_135 : decode cX8_lineOf 135 = .ok (.aload_n 2, 1) := by decide +kernel
theorem dX8_lineOf_136 : decode cX8_lineOf 136 = .ok (.areturn, 1) := by decide +kernel
set_option maxRecDepth 20000 in
theorem ggX8_openAbout_Jx4a65c_size_8abf5 : GoodIn wsX8_openAbout wsJx4a65c_size_8abf5 := goodIn_r _ [9, 10, 40, 41, 42] (by decide +kernel) (by decide +kernel)
set_option maxRecDepth 20000 in
theorem gX8_openAbout_Jx4a65c_size_8abf5 : GoodIn wsX8_openAbout (wsV RX8 40 RJx4a65c yJx4a65c_size_8abf5 wsJx4a65c_size_8abf5) := goodIn_app (goodIn_of _ (by decide +kernel)) ggX8_openAbout_Jx4a65c_size_8abf5
set_option maxRecDepth 20000 in
theorem ggX8_openAbout_Jx4a65c_get_915e3 : GoodIn wsX8_openAbout wsJx4a65c_get_915e3 := goodIn_r _ [14, 10, 15, 16, 17, 18, 19, 20, 21, 22, 23, 24, 25, 8, 26, 27, 40, 41, 42] (by decide +kernel) (by decide +kernel)
set_option maxRecDepth 20000 in
theorem gX8_openAbout_Jx4a65c_get_915e3 : GoodIn wsX8_openAbout (wsV RX8 237 RJx4a65c yJx4a65c_get_915e3 wsJx4a65c_get_915e3) := goodIn_app (goodIn_of _ (by decide +kernel)) ggX8_openAbout_Jx4a65c_get_915e3
theorem dX8_openAbout_0 : decode cX8_openAbout 0 = .ok (.iconst 0, 1) := by decide +kernel
theorem dX8_openAbout_1 : decode cX8_openAbout 1 = .ok (.istore_n 2, 1) := by decide +kernel
theorem dX8_openAbout_2 : decode cX8_openAbout 2 = .ok (.iconst 0, 1) := by decide +kernel
theorem dX8_openAbout_3 : decode cX8_openAbout 3 = .ok (.istore_n 3, 1) := by decide +kernel
theorem dX8_openAbout_4 : decode cX8_openAbout 4 = .ok (.iload_n 3, 1) := by decide +kernel
theorem dX8_openAbout_5 : decode cX8_openAbout 5 = .ok (.aload_n 0, 1) := by decide +kernel
theorem dX8_openAbout_6 : decode cX8_openAbout 6 = .ok (.getfield 23, 3) := by decide +kernel
theorem dX8_openAbout_9 : decode cX8_openAbout 9 = .ok (.invokevirtual 40, 3) := by decide +kernel
theorem dX8_openAbout_12 : decode cX8_openAbout 12 = .ok (.if_icmp .ge 42, 3) := by decide +kernel
theorem dX8_openAbout_15 : decode cX8_openAbout 15 = .ok (.aload_n 0, 1) := by decide +kernel
theorem dX8_openAbout_16 : decode cX8_openAbout 16 = .ok (.getfield 23, 3) := by decide +kernel
theorem dX8_openAbout_19 : decode cX8_openAbout 19 = .ok (.iload_n 3, 1) := by decide +kernel
theorem dX8_openAbout_20 : decode cX8_openAbout 20 = .ok (.invokevirtual 237, 3) := by decide +kernel
theorem dX8_openAbout_23 : decode cX8_openAbout 23 = .ok (.checkcast 191, 3) := by decide +kernel
theorem dX8_openAbout_26 : decode cX8_openAbout 26 = .ok (.astore 4, 2) := by decide +kernel
theorem dX8_openAbout_28 : decode cX8_openAbout 28 = .ok (.aload 4, 2) := by decide +kernel
theorem dX8_openAbout_30 : decode cX8_openAbout 30 = .ok (.getfield 213, 3) := by decide +kernel
theorem dX8_openAbout_33 : decode cX8_openAbout 33 = .ok (.aload_n 1, 1) := by decide +kernel
theorem dX8_openAbout_34 : decode cX8_openAbout 34 = .ok (.if_acmp .ne 14, 3) := by decide +kernel
theorem dX8_openAbout_37 : decode cX8_openAbout 37 = .ok (.aload 4, 2) := by decide +kernel
theorem dX8_openAbout_39 : decode cX8_openAbout 39 = .ok (.getfield 200, 3) := by decide +kernel
theorem dX8_openAbout_42 : decode cX8_openAbout 42 = .ok (.ifCond .ne 6, 3) := by decide +kernel
theorem dX8_openAbout_45 : decode cX8_openAbout 45 = .ok (.iinc 2 1, 3) := by decide +kernel
theorem dX8_openAbout_48 : decode cX8_openAbout 48 = .ok (.iinc 3 1, 3) := by decide +kernel
theorem dX8_openAbout_51 : decode cX8_openAbout 51 = .ok (.goto (-47), 3) := by decide +kernel
theorem dX8_openAbout_54 : decode cX8_openAbout 54 = .ok (.iload_n 2, 1) := by decide +kernel
theorem dX8_openAbout_55 : decode cX8_openAbout 55 = .ok (.ireturn, 1) := by decide +kernel
set_option maxRecDepth 20000 in
theorem ggX8_mayComplain_X5_bidOf : GoodIn wsX8_mayComplain wsX5_bidOf := goodIn_r _ [10, 11, 12, 13, 14, 15, 16, 17, 18, 19, 20, 21, 22, 23, 24, 25, 26, 27, 28, 29, 30, 31, 32, 33, 34, 35, 36, 61, 62, 63, 64, 65, 55, 56, 57, 58, 59, 60, 66, 67, 68] (by decide +kernel) (by decide +kernel)
set_option maxRecDepth 20000 in
theorem gX8_mayComplain_X5_bidOf : GoodIn wsX8_mayComplain (wsV RX8 103 RX5 yX5_bidOf wsX5_bidOf) := goodIn_app (goodIn_of _ (by decide +kernel)) ggX8_mayComplain_X5_bidOf
set_option maxRecDepth 20000 in
theorem ggX8_mayComplain_X8_hasComplained : GoodIn wsX8_mayComplain wsX8_hasComplained := goodIn_r _ [41, 42, 43, 44, 45, 46, 15, 16, 17, 18, 19, 47, 21, 22, 23, 24, 25, 26, 27, 28, 29, 30, 31, 32, 33, 34, 35, 36, 69, 70, 71, 72, 73, 74, 75, 76, 77, 78, 79, 80, 66, 67, 68] (by decide +kernel) (by decide +kernel)
set_option maxRecDepth 20000 in
theorem gX8_mayComplain_X8_hasComplained : GoodIn wsX8_mayComplain (wsV RX8 303 RX8 yX8_hasComplained wsX8_hasComplained) := goodIn_app (goodIn_of _ (by decide +kernel)) ggX8_mayComplain_X8_hasComplained
theorem dX8_mayComplain_0 : decode cX8_mayComplain 0 = .ok (.aload_n 2, 1) := by decide +kernel
theorem dX8_mayComplain_1 : decode cX8_mayComplain 1 = .ok (.getfield 251, 3) := by decide +kernel
theorem dX8_mayComplain_4 : decode cX8_mayComplain 4 = .ok (.iload_n 1, 1) := by decide +kernel
theorem dX8_mayComplain_5 : decode cX8_mayComplain 5 = .ok (.invokevirtual 103, 3) := by decide +kernel
theorem dX8_mayComplain_8 : decode cX8_mayComplain 8 = .ok (.astore 4, 2) := by decide +kernel
theorem dX8_mayComplain_10 : decode cX8_mayComplain 10 = .ok (.aload 4, 2) := by decide +kernel
theorem dX8_mayComplain_12 : decode cX8_mayComplain 12 = .ok (.ifnull 23, 3) := by decide +kernel
theorem dX8_mayComplain_15 : decode cX8_mayComplain 15 = .ok (.aload_n 2, 1) := by decide +kernel
theorem dX8_mayComplain_16 : decode cX8_mayComplain 16 = .ok (.getfield 152, 3) := by decide +kernel
theorem dX8_mayComplain_19 : decode cX8_mayComplain 19 = .ok (.getfield 156, 3) := by decide +kernel
theorem dX8_mayComplain_22 : decode cX8_mayComplain 22 = .ok (.iload_n 1, 1) := by decide +kernel
theorem dX8_mayComplain_23 : decode cX8_mayComplain 23 = .ok (.if_icmp .eq 12, 3) := by decide +kernel
theorem dX8_mayComplain_26 : decode cX8_mayComplain 26 = .ok (.aload_n 0, 1) := by decide +kernel
theorem dX8_mayComplain_27 : decode cX8_mayComplain 27 = .ok (.iload_n 1, 1) := by decide +kernel
theorem dX8_mayComplain_28 : decode cX8_mayComplain 28 = .ok (.aload_n 2, 1) := by decide +kernel
theorem dX8_mayComplain_29 : decode cX8_mayComplain 29 = .ok (.invokevirtual 303, 3) := by decide +kernel
theorem dX8_mayComplain_32 : decode cX8_mayComplain 32 = .ok (.ifCond .eq 5, 3) := by decide +kernel
theorem dX8_mayComplain_35 : decode cX8_mayComplain 35 = .ok (.iconst 0, 1) := by decide +kernel
theorem dX8_mayComplain_36 : decode cX8_mayComplain 36 = .ok (.ireturn, 1) := by decide +kernel
theorem dX8_mayComplain_37 : decode cX8_mayComplain 37 = .ok (.iload_n 3, 1) := by decide +kernel
theorem dX8_mayComplain_38 : decode cX8_mayComplain 38 = .ok (.iconst 2, 1) := by decide +kernel
theorem dX8_mayComplain_39 : decode cX8_mayComplain 39 = .ok (.if_icmp .ne 14, 3) := by decide +kernel
theorem dX8_mayComplain_42 : decode cX8_mayComplain 42 = .ok (.aload 4, 2) := by decide +kernel
theorem dX8_mayComplain_44 : decode cX8_mayComplain 44 = .ok (.getfield 116, 3) := by decide +kernel
theorem dX8_mayComplain_47 : decode cX8_mayComplain 47 = .ok (.getstatic 307, 3) := by decide +kernel
theorem dX8_mayComplain_50 : decode cX8_mayComplain 50 = .ok (.if_acmp .ne 7, 3) := by decide +kernel
theorem dX8_mayComplain_53 : decode cX8_mayComplain 53 = .ok (.iconst 1, 1) := by decide +kernel
theorem dX8_mayComplain_54 : decode cX8_mayComplain 54 = .ok (.goto 4, 3) := by decide +kernel
theorem dX8_mayComplain_57 : decode cX8_mayComplain 57 = .ok (.iconst 0, 1) := by decide +kernel
theorem dX8_mayComplain_58 : decode cX8_mayComplain 58 = .ok (.ireturn, 1) := by decide +kernel
set_option maxRecDepth 20000 in
theorem ggX8_hasComplained_Jx4a65c_size_8abf5 : GoodIn wsX8_hasComplained wsJx4a65c_size_8abf5 := goodIn_r _ [9, 10, 40, 41, 42] (by decide +kernel) (by decide +kernel)
set_option maxRecDepth 20000 in
theorem gX8_hasComplained_Jx4a65c_size_8abf5 : GoodIn wsX8_hasComplained (wsV RX8 40 RJx4a65c yJx4a65c_size_8abf5 wsJx4a65c_size_8abf5) := goodIn_app (goodIn_of _ (by decide +kernel)) ggX8_hasComplained_Jx4a65c_size_8abf5
set_option maxRecDepth 20000 in
theorem ggX8_hasComplained_Jx4a65c_get_915e3 : GoodIn wsX8_hasComplained wsJx4a65c_get_915e3 := goodIn_r _ [14, 10, 15, 16, 17, 18, 19, 20, 21, 22, 23, 24, 25, 8, 26, 27, 40, 41, 42] (by decide +kernel) (by decide +kernel)
set_option maxRecDepth 20000 in
theorem gX8_hasComplained_Jx4a65c_get_915e3 : GoodIn wsX8_hasComplained (wsV RX8 237 RJx4a65c yJx4a65c_get_915e3 wsJx4a65c_get_915e3) := goodIn_app (goodIn_of _ (by decide +kernel)) ggX8_hasComplained_Jx4a65c_get_915e3
theorem dX8_hasComplained_0 : decode cX8_hasComplained 0 = .ok (.iconst 0, 1) := by decide +kernel
theorem dX8_hasComplained_1 : decode cX8_hasComplained 1 = .ok (.istore_n 3, 1) := by decide +kernel
theorem dX8_hasComplained_2 : decode cX8_hasComplained 2 = .ok (.iload_n 3, 1) := by decide +kernel
theorem dX8_hasComplained_3 : decode cX8_hasComplained 3 = .ok (.aload_n 0, 1) := by decide +kernel
theorem dX8_hasComplained_4 : decode cX8_hasComplained 4 = .ok (.getfield 23, 3) := by decide +kernel
theorem dX8_hasComplained_7 : decode cX8_hasComplained 7 = .ok (.invokevirtual 40, 3) := by decide +kernel
theorem dX8_hasComplained_10 : decode cX8_hasComplained 10 = .ok (.if_icmp .ge 42, 3) := by decide +kernel
theorem dX8_hasComplained_13 : decode cX8_hasComplained 13 = .ok (.aload_n 0, 1) := by decide +kernel
theorem dX8_hasComplained_14 : decode cX8_hasComplained 14 = .ok (.getfield 23, 3) := by decide +kernel
theorem dX8_hasComplained_17 : decode cX8_hasComplained 17 = .ok (.iload_n 3, 1) := by decide +kernel
theorem dX8_hasComplained_18 : decode cX8_hasComplained 18 = .ok (.invokevirtual 237, 3) := by decide +kernel
theorem dX8_hasComplained_21 : decode cX8_hasComplained 21 = .ok (.checkcast 191, 3) := by decide +kernel
theorem dX8_hasComplained_24 : decode cX8_hasComplained 24 = .ok (.astore 4, 2) := by decide +kernel
theorem dX8_hasComplained_26 : decode cX8_hasComplained 26 = .ok (.aload 4, 2) := by decide +kernel
theorem dX8_hasComplained_28 : decode cX8_hasComplained 28 = .ok (.getfield 213, 3) := by decide +kernel
theorem dX8_hasComplained_31 : decode cX8_hasComplained 31 = .ok (.aload_n 2, 1) := by decide +kernel
theorem dX8_hasComplained_32 : decode cX8_hasComplained 32 = .ok (.if_acmp .ne 14, 3) := by decide +kernel
theorem dX8_hasComplained_35 : decode cX8_hasComplained 35 = .ok (.aload 4, 2) := by decide +kernel
theorem dX8_hasComplained_37 : decode cX8_hasComplained 37 = .ok (.getfield 310, 3) := by decide +kernel
theorem dX8_hasComplained_40 : decode cX8_hasComplained 40 = .ok (.iload_n 1, 1) := by decide +kernel
theorem dX8_hasComplained_41 : decode cX8_hasComplained 41 = .ok (.if_icmp .ne 5, 3) := by decide +kernel
theorem dX8_hasComplained_44 : decode cX8_hasComplained 44 = .ok (.iconst 1, 1) := by decide +kernel
theorem dX8_hasComplained_45 : decode cX8_hasComplained 45 = .ok (.ireturn, 1) := by decide +kernel
theorem dX8_hasComplained_46 : decode cX8_hasComplained 46 = .ok (.iinc 3 1, 3) := by decide +kernel
theorem dX8_hasComplained_49 : decode cX8_hasComplained 49 = .ok (.goto (-47), 3) := by decide +kernel
theorem dX8_hasComplained_52 : decode cX8_hasComplained 52 = .ok (.iconst 0, 1) := by decide +kernel
theorem dX8_hasComplained_53 : decode cX8_hasComplained 53 = .ok (.ireturn, 1) := by decide +kernel
set_option maxRecDepth 20000 in
theorem ggX8_uphold_Jx4a65c_size_8abf5 : GoodIn wsX8_uphold wsJx4a65c_size_8abf5 := goodIn_r _ [16, 17, 188, 189, 190] (by decide +kernel) (by decide +kernel)
set_option maxRecDepth 20000 in
theorem gX8_uphold_Jx4a65c_size_8abf5 : GoodIn wsX8_uphold (wsV RX8 40 RJx4a65c yJx4a65c_size_8abf5 wsJx4a65c_size_8abf5) := goodIn_app (goodIn_of _ (by decide +kernel)) ggX8_uphold_Jx4a65c_size_8abf5
set_option maxRecDepth 20000 in
theorem ggX8_uphold_Jx4a65c_get_915e3 : GoodIn wsX8_uphold wsJx4a65c_get_915e3 := goodIn_r _ [21, 17, 22, 23, 24, 25, 26, 27, 28, 29, 30, 31, 32, 15, 33, 34, 188, 189, 190] (by decide +kernel) (by decide +kernel)
set_option maxRecDepth 20000 in
theorem gX8_uphold_Jx4a65c_get_915e3 : GoodIn wsX8_uphold (wsV RX8 237 RJx4a65c yJx4a65c_get_915e3 wsJx4a65c_get_915e3) := goodIn_app (goodIn_of _ (by decide +kernel)) ggX8_uphold_Jx4a65c_get_915e3
set_option maxRecDepth 20000 in
theorem ggX8_uphold_X2_init : GoodIn wsX8_uphold wsX2_init := goodIn_r _ [37, 38, 39, 40, 41, 42, 43, 185, 186, 187] (by decide +kernel) (by decide +kernel)
set_option maxRecDepth 20000 in
theorem gX8_uphold_X2_init : GoodIn wsX8_uphold (wsX2_init) := ggX8_uphold_X2_init
set_option maxRecDepth 20000 in
theorem ggX8_uphold_X8_sendBack : GoodIn wsX8_uphold wsX8_sendBack := goodIn_r _ [48, 49, 50, 51, 52, 53, 54, 15, 55, 56, 57, 34, 17, 58, 59, 60, 61, 62, 63, 64, 65, 66, 67, 68, 69, 70, 71, 72, 73, 74, 75, 76, 77, 78, 79, 80, 81, 82, 83, 84, 85, 86, 87, 88, 89, 90, 91, 92, 93, 94, 95, 96, 97, 98, 99, 100, 101, 102, 103, 104, 105, 106, 107, 108, 109, 110, 111, 112, 113, 114, 115, 116, 117, 118, 119, 120, 121, 122, 123, 124, 13, 14, 16, 125, 19, 20, 21, 22, 23, 24, 25, 26, 27, 28, 29, 30, 31, 32, 33, 126, 127, 128, 47, 129, 130, 131, 132, 133, 134, 135, 136, 137, 138, 139, 140, 141, 142, 143, 144, 145, 146, 147, 148, 149, 150, 151, 12, 152, 153, 154, 155, 39, 40, 156, 157, 158, 159, 172, 173, 174, 175, 176, 177, 178, 191, 192, 193, 194, 195, 188, 189, 190, 185, 186, 187, 179, 180, 181, 182, 183, 184, 166, 167, 168, 169, 170, 171, 196, 197, 198, 199, 200, 201] (by decide +kernel) (by decide +kernel)
set_option maxRecDepth 20000 in
theorem gX8_uphold_X8_sendBack : GoodIn wsX8_uphold (wsV RX8 276 RX8 yX8_sendBack wsX8_sendBack) := goodIn_app (goodIn_of _ (by decide +kernel)) ggX8_uphold_X8_sendBack
theorem dX8_uphold_0 : decode cX8_uphold 0 = .ok (.aload_n 1, 1) := by decide +kernel
theorem dX8_uphold_1 : decode cX8_uphold 1 = .ok (.getfield 213, 3) := by decide +kernel
theorem dX8_uphold_4 : decode cX8_uphold 4 = .ok (.astore_n 3, 1) := by decide +kernel
theorem dX8_uphold_5 : decode cX8_uphold 5 = .ok (.aload_n 1, 1) := by decide +kernel
theorem dX8_uphold_6 : decode cX8_uphold 6 = .ok (.iconst 1, 1) := by decide +kernel
theorem dX8_uphold_7 : decode cX8_uphold 7 = .ok (.putfield 200, 3) := by decide +kernel
theorem dX8_uphold_10 : decode cX8_uphold 10 = .ok (.iconst 0, 1) := by decide +kernel
theorem dX8_uphold_11 : decode cX8_uphold 11 = .ok (.istore 4, 2) := by decide +kernel
theorem dX8_uphold_13 : decode cX8_uphold 13 = .ok (.iload 4, 2) := by decide +kernel
theorem dX8_uphold_15 : decode cX8_uphold 15 = .ok (.aload_n 0, 1) := by decide +kernel
theorem dX8_uphold_16 : decode cX8_uphold 16 = .ok (.getfield 23, 3) := by decide +kernel
theorem dX8_uphold_19 : decode cX8_uphold 19 = .ok (.invokevirtual 40, 3) := by decide +kernel
theorem dX8_uphold_22 : decode cX8_uphold 22 = .ok (.if_icmp .ge 46, 3) := by decide +kernel
theorem dX8_uphold_25 : decode cX8_uphold 25 = .ok (.aload_n 0, 1) := by decide +kernel
theorem dX8_uphold_26 : decode cX8_uphold 26 = .ok (.getfield 23, 3) := by decide +kernel
theorem dX8_uphold_29 : decode cX8_uphold 29 = .ok (.iload 4, 2) := by decide +kernel
theorem dX8_uphold_31 : decode cX8_uphold 31 = .ok (.invokevirtual 237, 3) := by decide +kernel
theorem dX8_uphold_34 : decode cX8_uphold 34 = .ok (.checkcast 191, 3) := by decide +kernel
theorem dX8_uphold_37 : decode cX8_uphold 37 = .ok (.astore 5, 2) := by decide +kernel
theorem dX8_uphold_39 : decode cX8_uphold 39 = .ok (.aload 5, 2) := by decide +kernel
theorem dX8_uphold_41 : decode cX8_uphold 41 = .ok (.getfield 213, 3) := by decide +kernel
theorem dX8_uphold_44 : decode cX8_uphold 44 = .ok (.aload_n 3, 1) := by decide +kernel
theorem dX8_uphold_45 : decode cX8_uphold 45 = .ok (.if_acmp .ne 17, 3) := by decide +kernel
theorem dX8_uphold_48 : decode cX8_uphold 48 = .ok (.aload 5, 2) := by decide +kernel
theorem dX8_uphold_50 : decode cX8_uphold 50 = .ok (.getfield 200, 3) := by decide +kernel
theorem dX8_uphold_53 : decode cX8_uphold 53 = .ok (.ifCond .ne 9, 3) := by decide +kernel
theorem dX8_uphold_56 : decode cX8_uphold 56 = .ok (.aload 5, 2) := by decide +kernel
theorem dX8_uphold_58 : decode cX8_uphold 58 = .ok (.iconst 3, 1) := by decide +kernel
theorem dX8_uphold_59 : decode cX8_uphold 59 = .ok (.putfield 200, 3) := by decide +kernel
theorem dX8_uphold_62 : decode cX8_uphold 62 = .ok (.iinc 4 1, 3) := by decide +kernel
theorem dX8_uphold_65 : decode cX8_uphold 65 = .ok (.goto (-52), 3) := by decide +kernel
theorem dX8_uphold_68 : decode cX8_uphold 68 = .ok (.aload_n 1, 1) := by decide +kernel
theorem dX8_uphold_69 : decode cX8_uphold 69 = .ok (.getfield 311, 3) := by decide +kernel
theorem dX8_uphold_72 : decode cX8_uphold 72 = .ok (.iconst 2, 1) := by decide +kernel
theorem dX8_uphold_73 : decode cX8_uphold 73 = .ok (.if_icmp .ne 10, 3) := by decide +kernel
theorem dX8_uphold_76 : decode cX8_uphold 76 = .ok (.aload_n 1, 1) := by decide +kernel
theorem dX8_uphold_77 : decode cX8_uphold 77 = .ok (.getfield 310, 3) := by decide +kernel
theorem dX8_uphold_80 : decode cX8_uphold 80 = .ok (.goto 10, 3) := by decide +kernel
theorem dX8_uphold_83 : decode cX8_uphold 83 = .ok (.aload_n 3, 1) := by decide +kernel
theorem dX8_uphold_84 : decode cX8_uphold 84 = .ok (.getfield 152, 3) := by decide +kernel
theorem dX8_uphold_87 : decode cX8_uphold 87 = .ok (.getfield 156, 3) := by decide +kernel
theorem dX8_uphold_90 : decode cX8_uphold 90 = .ok (.istore 4, 2) := by decide +kernel
theorem dX8_uphold_92 : decode cX8_uphold 92 = .ok (.aload_n 0, 1) := by decide +kernel
theorem dX8_uphold_93 : decode cX8_uphold 93 = .ok (.aload_n 3, 1) := by decide +kernel
theorem dX8_uphold_94 : decode cX8_uphold 94 = .ok (.new 273, 3) := by decide +kernel
theorem dX8_uphold_97 : decode cX8_uphold 97 = .ok (.dup, 1) := by decide +kernel
theorem dX8_uphold_98 : decode cX8_uphold 98 = .ok (.aload_n 1, 1) := by decide +kernel
theorem dX8_uphold_99 : decode cX8_uphold 99 = .ok (.getfield 311, 3) := by decide +kernel
theorem dX8_uphold_102 : decode cX8_uphold 102 = .ok (.iload 4, 2) := by decide +kernel
theorem dX8_uphold_104 : decode cX8_uphold 104 = .ok (.iload_n 2, 1) := by decide +kernel
theorem dX8_uphold_105 : decode cX8_uphold 105 = .ok (.invokespecial 275, 3) := by decide +kernel
theorem dX8_uphold_108 : decode cX8_uphold 108 = .ok (.invokevirtual 276, 3) := by decide +kernel
theorem dX8_uphold_111 : decode cX8_uphold 111 = .ok (.ireturn, 1) := by decide +kernel
set_option maxRecDepth 20000 in
theorem ggX8_holdsDeposit_X5_bidOf : GoodIn wsX8_holdsDeposit wsX5_bidOf := goodIn_r _ [9, 10, 11, 12, 13, 14, 15, 16, 17, 18, 19, 20, 21, 22, 23, 24, 25, 26, 27, 28, 29, 30, 31, 32, 33, 34, 35, 60, 61, 62, 63, 64, 47, 48, 49, 50, 51, 52, 65, 66, 67] (by decide +kernel) (by decide +kernel)
set_option maxRecDepth 20000 in
theorem gX8_holdsDeposit_X5_bidOf : GoodIn wsX8_holdsDeposit (wsV RX8 103 RX5 yX5_bidOf wsX5_bidOf) := goodIn_app (goodIn_of _ (by decide +kernel)) ggX8_holdsDeposit_X5_bidOf
set_option maxRecDepth 20000 in
theorem ggX8_holdsDeposit_X8_standingAward : GoodIn wsX8_holdsDeposit wsX8_standingAward := goodIn_r _ [40, 41, 42, 43, 44, 45, 14, 15, 16, 17, 18, 46, 20, 21, 22, 23, 24, 25, 26, 27, 28, 29, 30, 31, 32, 33, 34, 35, 68, 69, 70, 71, 72, 73, 53, 54, 55, 56, 57, 58, 59, 65, 66, 67] (by decide +kernel) (by decide +kernel)
set_option maxRecDepth 20000 in
theorem gX8_holdsDeposit_X8_standingAward : GoodIn wsX8_holdsDeposit (wsV RX8 135 RX8 yX8_standingAward wsX8_standingAward) := goodIn_app (goodIn_of _ (by decide +kernel)) ggX8_holdsDeposit_X8_standingAward
theorem dX8_holdsDeposit_0 : decode cX8_holdsDeposit 0 = .ok (.aload_n 1, 1) := by decide +kernel
theorem dX8_holdsDeposit_1 : decode cX8_holdsDeposit 1 = .ok (.iload_n 2, 1) := by decide +kernel
theorem dX8_holdsDeposit_2 : decode cX8_holdsDeposit 2 = .ok (.invokevirtual 103, 3) := by decide +kernel
theorem dX8_holdsDeposit_5 : decode cX8_holdsDeposit 5 = .ok (.astore_n 3, 1) := by decide +kernel
theorem dX8_holdsDeposit_6 : decode cX8_holdsDeposit 6 = .ok (.aload_n 3, 1) := by decide +kernel
theorem dX8_holdsDeposit_7 : decode cX8_holdsDeposit 7 = .ok (.ifnull 23, 3) := by decide +kernel
theorem dX8_holdsDeposit_10 : decode cX8_holdsDeposit 10 = .ok (.aload_n 3, 1) := by decide +kernel
theorem dX8_holdsDeposit_11 : decode cX8_holdsDeposit 11 = .ok (.getfield 116, 3) := by decide +kernel
theorem dX8_holdsDeposit_14 : decode cX8_holdsDeposit 14 = .ok (.getstatic 307, 3) := by decide +kernel
theorem dX8_holdsDeposit_17 : decode cX8_holdsDeposit 17 = .ok (.if_acmp .eq 13, 3) := by decide +kernel
theorem dX8_holdsDeposit_20 : decode cX8_holdsDeposit 20 = .ok (.aload_n 3, 1) := by decide +kernel
theorem dX8_holdsDeposit_21 : decode cX8_holdsDeposit 21 = .ok (.getfield 116, 3) := by decide +kernel
theorem dX8_holdsDeposit_24 : decode cX8_holdsDeposit 24 = .ok (.getstatic 314, 3) := by decide +kernel
theorem dX8_holdsDeposit_27 : decode cX8_holdsDeposit 27 = .ok (.if_acmp .ne 5, 3) := by decide +kernel
theorem dX8_holdsDeposit_30 : decode cX8_holdsDeposit 30 = .ok (.iconst 0, 1) := by decide +kernel
theorem dX8_holdsDeposit_31 : decode cX8_holdsDeposit 31 = .ok (.ireturn, 1) := by decide +kernel
theorem dX8_holdsDeposit_32 : decode cX8_holdsDeposit 32 = .ok (.aload_n 0, 1) := by decide +kernel
theorem dX8_holdsDeposit_33 : decode cX8_holdsDeposit 33 = .ok (.aload_n 1, 1) := by decide +kernel
theorem dX8_holdsDeposit_34 : decode cX8_holdsDeposit 34 = .ok (.invokevirtual 135, 3) := by decide +kernel
theorem dX8_holdsDeposit_37 : decode cX8_holdsDeposit 37 = .ok (.astore 4, 2) := by decide +kernel
theorem dX8_holdsDeposit_39 : decode cX8_holdsDeposit 39 = .ok (.aload 4, 2) := by decide +kernel
theorem dX8_holdsDeposit_41 : decode cX8_holdsDeposit 41 = .ok (.ifnull 11, 3) := by decide +kernel
theorem dX8_holdsDeposit_44 : decode cX8_holdsDeposit 44 = .ok (.aload 4, 2) := by decide +kernel
theorem dX8_holdsDeposit_46 : decode cX8_holdsDeposit 46 = .ok (.getfield 221, 3) := by decide +kernel
theorem dX8_holdsDeposit_49 : decode cX8_holdsDeposit 49 = .ok (.ifCond .ne 7, 3) := by decide +kernel
theorem dX8_holdsDeposit_52 : decode cX8_holdsDeposit 52 = .ok (.iconst 1, 1) := by decide +kernel
theorem dX8_holdsDeposit_53 : decode cX8_holdsDeposit 53 = .ok (.goto 4, 3) := by decide +kernel
theorem dX8_holdsDeposit_56 : decode cX8_holdsDeposit 56 = .ok (.iconst 0, 1) := by decide +kernel
theorem dX8_holdsDeposit_57 : decode cX8_holdsDeposit 57 = .ok (.ireturn, 1) := by decide +kernel
