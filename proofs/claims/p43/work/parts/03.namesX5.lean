set_option maxRecDepth 20000 in
theorem ggX5_init_X3_init : GoodIn wsX5_init wsX3_init := goodIn_r _ [19, 20, 2, 3, 21, 22, 23, 24, 25, 26, 27, 28, 29, 30, 31, 32, 33, 15, 16, 34, 35, 36, 37, 38, 39, 40, 41, 42, 43, 44, 45, 46, 47, 52, 53, 54, 55, 56, 70, 71, 72, 73, 74, 68, 69] (by decide +kernel) (by decide +kernel)
set_option maxRecDepth 20000 in
theorem gX5_init_X3_init_n9 : GoodIn wsX5_init (wsX3_init) := ggX5_init_X3_init
set_option maxRecDepth 20000 in
theorem ggX5_init_X4_init : GoodIn wsX5_init wsX4_init := goodIn_r _ [49, 50, 2, 3, 21, 51, 64, 65, 66, 67] (by decide +kernel) (by decide +kernel)
set_option maxRecDepth 20000 in
theorem gX5_init_X4_init_n25 : GoodIn wsX5_init (wsX4_init) := ggX5_init_X4_init
set_option maxRecDepth 20000 in
theorem ggX5_init_X2_init : GoodIn wsX5_init wsX2_init := goodIn_r _ [45, 46, 2, 3, 21, 47, 68, 69] (by decide +kernel) (by decide +kernel)
set_option maxRecDepth 20000 in
theorem gX5_init_X2_init_n32 : GoodIn wsX5_init (wsX2_init) := ggX5_init_X2_init
theorem dX5_init_0 : decode cX5_init 0 = .ok (.aload_n 0, 1) := by decide +kernel
theorem dX5_init_1 : decode cX5_init 1 = .ok (.invokespecial 1, 3) := by decide +kernel
theorem dX5_init_4 : decode cX5_init 4 = .ok (.aload_n 0, 1) := by decide +kernel
theorem dX5_init_5 : decode cX5_init 5 = .ok (.new 7, 3) := by decide +kernel
theorem dX5_init_8 : decode cX5_init 8 = .ok (.dup, 1) := by decide +kernel
theorem dX5_init_9 : decode cX5_init 9 = .ok (.invokespecial 9, 3) := by decide +kernel
theorem dX5_init_12 : decode cX5_init 12 = .ok (.putfield 10, 3) := by decide +kernel
theorem dX5_init_15 : decode cX5_init 15 = .ok (.aload_n 0, 1) := by decide +kernel
theorem dX5_init_16 : decode cX5_init 16 = .ok (.new 7, 3) := by decide +kernel
theorem dX5_init_19 : decode cX5_init 19 = .ok (.dup, 1) := by decide +kernel
theorem dX5_init_20 : decode cX5_init 20 = .ok (.invokespecial 9, 3) := by decide +kernel
theorem dX5_init_23 : decode cX5_init 23 = .ok (.putfield 16, 3) := by decide +kernel
theorem dX5_init_26 : decode cX5_init 26 = .ok (.aload_n 0, 1) := by decide +kernel
theorem dX5_init_27 : decode cX5_init 27 = .ok (.iconst 5, 1) := by decide +kernel
theorem dX5_init_28 : decode cX5_init 28 = .ok (.anewarray 7, 3) := by decide +kernel
theorem dX5_init_31 : decode cX5_init 31 = .ok (.putfield 19, 3) := by decide +kernel
theorem dX5_init_34 : decode cX5_init 34 = .ok (.aload_n 0, 1) := by decide +kernel
theorem dX5_init_35 : decode cX5_init 35 = .ok (.new 23, 3) := by decide +kernel
theorem dX5_init_38 : decode cX5_init 38 = .ok (.dup, 1) := by decide +kernel
theorem dX5_init_39 : decode cX5_init 39 = .ok (.invokespecial 25, 3) := by decide +kernel
theorem dX5_init_42 : decode cX5_init 42 = .ok (.putfield 26, 3) := by decide +kernel
theorem dX5_init_45 : decode cX5_init 45 = .ok (.aload_n 0, 1) := by decide +kernel
theorem dX5_init_46 : decode cX5_init 46 = .ok (.new 30, 3) := by decide +kernel
theorem dX5_init_49 : decode cX5_init 49 = .ok (.dup, 1) := by decide +kernel
theorem dX5_init_50 : decode cX5_init 50 = .ok (.invokespecial 32, 3) := by decide +kernel
theorem dX5_init_53 : decode cX5_init 53 = .ok (.putfield 33, 3) := by decide +kernel
theorem dX5_init_56 : decode cX5_init 56 = .ok (.iconst 0, 1) := by decide +kernel
theorem dX5_init_57 : decode cX5_init 57 = .ok (.istore_n 1, 1) := by decide +kernel
theorem dX5_init_58 : decode cX5_init 58 = .ok (.iload_n 1, 1) := by decide +kernel
theorem dX5_init_59 : decode cX5_init 59 = .ok (.aload_n 0, 1) := by decide +kernel
theorem dX5_init_60 : decode cX5_init 60 = .ok (.getfield 19, 3) := by decide +kernel
theorem dX5_init_63 : decode cX5_init 63 = .ok (.arraylength, 1) := by decide +kernel
theorem dX5_init_64 : decode cX5_init 64 = .ok (.if_icmp .ge 22, 3) := by decide +kernel
theorem dX5_init_67 : decode cX5_init 67 = .ok (.aload_n 0, 1) := by decide +kernel
theorem dX5_init_68 : decode cX5_init 68 = .ok (.getfield 19, 3) := by decide +kernel
theorem dX5_init_71 : decode cX5_init 71 = .ok (.iload_n 1, 1) := by decide +kernel
theorem dX5_init_72 : decode cX5_init 72 = .ok (.new 7, 3) := by decide +kernel
theorem dX5_init_75 : decode cX5_init 75 = .ok (.dup, 1) := by decide +kernel
theorem dX5_init_76 : decode cX5_init 76 = .ok (.invokespecial 9, 3) := by decide +kernel
theorem dX5_init_79 : decode cX5_init 79 = .ok (.aastore, 1) := by decide +kernel
theorem dX5_init_80 : decode cX5_init 80 = .ok (.iinc 1 1, 3) := by decide +kernel
theorem dX5_init_83 : decode cX5_init 83 = .ok (.goto (-25), 3) := by decide +kernel
theorem dX5_init_86 : decode cX5_init 86 = .ok (.return_, 1) := by decide +kernel
set_option maxRecDepth 20000 in
theorem ggX5_fill_X5_isCharm : GoodIn wsX5_fill wsX5_isCharm := goodIn_r _ [5] (by decide +kernel) (by decide +kernel)
set_option maxRecDepth 20000 in
theorem gX5_fill_X5_isCharm : GoodIn wsX5_fill (va_wsS RX5 37 yX5_isCharm wsX5_isCharm) := goodIn_app (goodIn_of _ (by decide +kernel)) ggX5_fill_X5_isCharm
set_option maxRecDepth 20000 in
theorem ggX5_fill_X5_record : GoodIn wsX5_fill wsX5_record := goodIn_r _ [9, 10, 11, 1, 12, 13, 14, 4, 15, 16, 17, 18, 19, 20, 21, 22, 23, 24, 25, 26, 27, 28, 29, 30, 31, 32, 33, 34, 35, 36, 37, 38, 39, 40, 41, 42, 43, 44, 45, 46, 47, 48, 49, 50, 51, 52, 53, 54, 55, 56, 57, 58, 59, 60, 61, 62, 63, 64, 65, 66, 67, 68, 69] (by decide +kernel) (by decide +kernel)
set_option maxRecDepth 20000 in
theorem gX5_fill_X5_record : GoodIn wsX5_fill (wsV RX5 41 RX5 yX5_record wsX5_record) := goodIn_app (goodIn_of _ (by decide +kernel)) ggX5_fill_X5_record
theorem dX5_fill_0 : decode cX5_fill 0 = .ok (.iload_n 1, 1) := by decide +kernel
theorem dX5_fill_1 : decode cX5_fill 1 = .ok (.invokestatic 37, 3) := by decide +kernel
theorem dX5_fill_4 : decode cX5_fill 4 = .ok (.ifCond .ne 5, 3) := by decide +kernel
theorem dX5_fill_7 : decode cX5_fill 7 = .ok (.iconst (-1), 1) := by decide +kernel
theorem dX5_fill_8 : decode cX5_fill 8 = .ok (.ireturn, 1) := by decide +kernel
theorem dX5_fill_9 : decode cX5_fill 9 = .ok (.iload_n 2, 1) := by decide +kernel
theorem dX5_fill_10 : decode cX5_fill 10 = .ok (.ifCond .lt 9, 3) := by decide +kernel
theorem dX5_fill_13 : decode cX5_fill 13 = .ok (.iload_n 2, 1) := by decide +kernel
theorem dX5_fill_14 : decode cX5_fill 14 = .ok (.bipush 99, 2) := by decide +kernel
theorem dX5_fill_16 : decode cX5_fill 16 = .ok (.if_icmp .le 6, 3) := by decide +kernel
theorem dX5_fill_19 : decode cX5_fill 19 = .ok (.bipush (-2), 2) := by decide +kernel
theorem dX5_fill_21 : decode cX5_fill 21 = .ok (.ireturn, 1) := by decide +kernel
theorem dX5_fill_22 : decode cX5_fill 22 = .ok (.aload_n 0, 1) := by decide +kernel
theorem dX5_fill_23 : decode cX5_fill 23 = .ok (.invokevirtual 41, 3) := by decide +kernel
theorem dX5_fill_26 : decode cX5_fill 26 = .ok (.aload_n 0, 1) := by decide +kernel
theorem dX5_fill_27 : decode cX5_fill 27 = .ok (.getfield 10, 3) := by decide +kernel
theorem dX5_fill_30 : decode cX5_fill 30 = .ok (.getfield 44, 3) := by decide +kernel
theorem dX5_fill_33 : decode cX5_fill 33 = .ok (.iload_n 1, 1) := by decide +kernel
theorem dX5_fill_34 : decode cX5_fill 34 = .ok (.iaload, 1) := by decide +kernel
theorem dX5_fill_35 : decode cX5_fill 35 = .ok (.istore_n 3, 1) := by decide +kernel
theorem dX5_fill_36 : decode cX5_fill 36 = .ok (.aload_n 0, 1) := by decide +kernel
theorem dX5_fill_37 : decode cX5_fill 37 = .ok (.getfield 10, 3) := by decide +kernel
theorem dX5_fill_40 : decode cX5_fill 40 = .ok (.getfield 44, 3) := by decide +kernel
theorem dX5_fill_43 : decode cX5_fill 43 = .ok (.iload_n 1, 1) := by decide +kernel
theorem dX5_fill_44 : decode cX5_fill 44 = .ok (.iload_n 2, 1) := by decide +kernel
theorem dX5_fill_45 : decode cX5_fill 45 = .ok (.iastore, 1) := by decide +kernel
theorem dX5_fill_46 : decode cX5_fill 46 = .ok (.iload_n 3, 1) := by decide +kernel
theorem dX5_fill_47 : decode cX5_fill 47 = .ok (.ireturn, 1) := by decide +kernel
set_option maxRecDepth 20000 in
theorem ggX5_weigh_X5_isCharm : GoodIn wsX5_weigh wsX5_isCharm := goodIn_r _ [5] (by decide +kernel) (by decide +kernel)
set_option maxRecDepth 20000 in
theorem gX5_weigh_X5_isCharm : GoodIn wsX5_weigh (va_wsS RX5 37 yX5_isCharm wsX5_isCharm) := goodIn_app (goodIn_of _ (by decide +kernel)) ggX5_weigh_X5_isCharm
set_option maxRecDepth 20000 in
theorem ggX5_weigh_X5_record : GoodIn wsX5_weigh wsX5_record := goodIn_r _ [9, 10, 11, 1, 12, 13, 14, 4, 15, 16, 17, 18, 19, 20, 21, 22, 23, 24, 25, 26, 27, 28, 29, 30, 31, 32, 33, 34, 35, 36, 37, 38, 39, 40, 41, 42, 43, 44, 45, 46, 47, 48, 49, 50, 51, 52, 53, 54, 55, 56, 57, 58, 59, 60, 61, 62, 63, 64, 65, 66, 67, 68, 69] (by decide +kernel) (by decide +kernel)
set_option maxRecDepth 20000 in
theorem gX5_weigh_X5_record : GoodIn wsX5_weigh (wsV RX5 41 RX5 yX5_record wsX5_record) := goodIn_app (goodIn_of _ (by decide +kernel)) ggX5_weigh_X5_record
theorem dX5_weigh_0 : decode cX5_weigh 0 = .ok (.iload_n 1, 1) := by decide +kernel
theorem dX5_weigh_1 : decode cX5_weigh 1 = .ok (.invokestatic 37, 3) := by decide +kernel
theorem dX5_weigh_4 : decode cX5_weigh 4 = .ok (.ifCond .ne 5, 3) := by decide +kernel
theorem dX5_weigh_7 : decode cX5_weigh 7 = .ok (.iconst (-1), 1) := by decide +kernel
theorem dX5_weigh_8 : decode cX5_weigh 8 = .ok (.ireturn, 1) := by decide +kernel
theorem dX5_weigh_9 : decode cX5_weigh 9 = .ok (.iload_n 2, 1) := by decide +kernel
theorem dX5_weigh_10 : decode cX5_weigh 10 = .ok (.iconst 1, 1) := by decide +kernel
theorem dX5_weigh_11 : decode cX5_weigh 11 = .ok (.if_icmp .lt 9, 3) := by decide +kernel
theorem dX5_weigh_14 : decode cX5_weigh 14 = .ok (.iload_n 2, 1) := by decide +kernel
theorem dX5_weigh_15 : decode cX5_weigh 15 = .ok (.bipush 50, 2) := by decide +kernel
theorem dX5_weigh_17 : decode cX5_weigh 17 = .ok (.if_icmp .le 6, 3) := by decide +kernel
theorem dX5_weigh_20 : decode cX5_weigh 20 = .ok (.bipush (-2), 2) := by decide +kernel
theorem dX5_weigh_22 : decode cX5_weigh 22 = .ok (.ireturn, 1) := by decide +kernel
theorem dX5_weigh_23 : decode cX5_weigh 23 = .ok (.aload_n 0, 1) := by decide +kernel
theorem dX5_weigh_24 : decode cX5_weigh 24 = .ok (.invokevirtual 41, 3) := by decide +kernel
theorem dX5_weigh_27 : decode cX5_weigh 27 = .ok (.aload_n 0, 1) := by decide +kernel
theorem dX5_weigh_28 : decode cX5_weigh 28 = .ok (.getfield 10, 3) := by decide +kernel
theorem dX5_weigh_31 : decode cX5_weigh 31 = .ok (.getfield 48, 3) := by decide +kernel
theorem dX5_weigh_34 : decode cX5_weigh 34 = .ok (.iload_n 1, 1) := by decide +kernel
theorem dX5_weigh_35 : decode cX5_weigh 35 = .ok (.iaload, 1) := by decide +kernel
theorem dX5_weigh_36 : decode cX5_weigh 36 = .ok (.istore_n 3, 1) := by decide +kernel
theorem dX5_weigh_37 : decode cX5_weigh 37 = .ok (.aload_n 0, 1) := by decide +kernel
theorem dX5_weigh_38 : decode cX5_weigh 38 = .ok (.getfield 10, 3) := by decide +kernel
theorem dX5_weigh_41 : decode cX5_weigh 41 = .ok (.getfield 48, 3) := by decide +kernel
theorem dX5_weigh_44 : decode cX5_weigh 44 = .ok (.iload_n 1, 1) := by decide +kernel
theorem dX5_weigh_45 : decode cX5_weigh 45 = .ok (.iload_n 2, 1) := by decide +kernel
theorem dX5_weigh_46 : decode cX5_weigh 46 = .ok (.iastore, 1) := by decide +kernel
theorem dX5_weigh_47 : decode cX5_weigh 47 = .ok (.iload_n 3, 1) := by decide +kernel
theorem dX5_weigh_48 : decode cX5_weigh 48 = .ok (.ireturn, 1) := by decide +kernel
set_option maxRecDepth 20000 in
theorem ggX5_kind_X5_isCharm : GoodIn wsX5_kind wsX5_isCharm := goodIn_r _ [5] (by decide +kernel) (by decide +kernel)
set_option maxRecDepth 20000 in
theorem gX5_kind_X5_isCharm : GoodIn wsX5_kind (va_wsS RX5 37 yX5_isCharm wsX5_isCharm) := goodIn_app (goodIn_of _ (by decide +kernel)) ggX5_kind_X5_isCharm
set_option maxRecDepth 20000 in
theorem ggX5_kind_X3_charmsHung : GoodIn wsX5_kind wsX3_charmsHung := goodIn_r _ [9, 10, 11, 12, 13, 14, 15, 16, 17, 18, 19, 20, 28, 29, 30, 31, 32, 33, 34] (by decide +kernel) (by decide +kernel)
set_option maxRecDepth 20000 in
theorem gX5_kind_X3_charmsHung_n51 : GoodIn wsX5_kind (wsX3_charmsHung) := ggX5_kind_X3_charmsHung
theorem dX5_kind_0 : decode cX5_kind 0 = .ok (.iload_n 1, 1) := by decide +kernel
theorem dX5_kind_1 : decode cX5_kind 1 = .ok (.invokestatic 37, 3) := by decide +kernel
theorem dX5_kind_4 : decode cX5_kind 4 = .ok (.ifCond .ne 5, 3) := by decide +kernel
theorem dX5_kind_7 : decode cX5_kind 7 = .ok (.iconst (-1), 1) := by decide +kernel
theorem dX5_kind_8 : decode cX5_kind 8 = .ok (.ireturn, 1) := by decide +kernel
theorem dX5_kind_9 : decode cX5_kind 9 = .ok (.iload_n 2, 1) := by decide +kernel
theorem dX5_kind_10 : decode cX5_kind 10 = .ok (.tableswitch 55 0 2 #[26, 36, 46], 26) := by decide +kernel
theorem dX5_kind_36 : decode cX5_kind 36 = .ok (.aload_n 0, 1) := by decide +kernel
theorem dX5_kind_37 : decode cX5_kind 37 = .ok (.getfield 10, 3) := by decide +kernel
theorem dX5_kind_40 : decode cX5_kind 40 = .ok (.getfield 44, 3) := by decide +kernel
theorem dX5_kind_43 : decode cX5_kind 43 = .ok (.iload_n 1, 1) := by decide +kernel
theorem dX5_kind_44 : decode cX5_kind 44 = .ok (.iaload, 1) := by decide +kernel
theorem dX5_kind_45 : decode cX5_kind 45 = .ok (.ireturn, 1) := by decide +kernel
theorem dX5_kind_46 : decode cX5_kind 46 = .ok (.aload_n 0, 1) := by decide +kernel
theorem dX5_kind_47 : decode cX5_kind 47 = .ok (.getfield 10, 3) := by decide +kernel
theorem dX5_kind_50 : decode cX5_kind 50 = .ok (.getfield 48, 3) := by decide +kernel
theorem dX5_kind_53 : decode cX5_kind 53 = .ok (.iload_n 1, 1) := by decide +kernel
theorem dX5_kind_54 : decode cX5_kind 54 = .ok (.iaload, 1) := by decide +kernel
theorem dX5_kind_55 : decode cX5_kind 55 = .ok (.ireturn, 1) := by decide +kernel
theorem dX5_kind_56 : decode cX5_kind 56 = .ok (.aload_n 0, 1) := by decide +kernel
theorem dX5_kind_57 : decode cX5_kind 57 = .ok (.getfield 10, 3) := by decide +kernel
theorem dX5_kind_60 : decode cX5_kind 60 = .ok (.iload_n 1, 1) := by decide +kernel
theorem dX5_kind_61 : decode cX5_kind 61 = .ok (.invokevirtual 51, 3) := by decide +kernel
theorem dX5_kind_64 : decode cX5_kind 64 = .ok (.ireturn, 1) := by decide +kernel
theorem dX5_kind_65 : decode cX5_kind 65 = .ok (.bipush (-2), 2) := by decide +kernel
theorem dX5_kind_67 : decode cX5_kind 67 = .ok (.ireturn, 1) := by decide +kernel
set_option maxRecDepth 20000 in
theorem ggX5_make_X5_isSize : GoodIn wsX5_make wsX5_isSize := goodIn_r _ [5] (by decide +kernel) (by decide +kernel)
set_option maxRecDepth 20000 in
theorem gX5_make_X5_isSize : GoodIn wsX5_make (va_wsS RX5 55 yX5_isSize wsX5_isSize) := goodIn_app (goodIn_of _ (by decide +kernel)) ggX5_make_X5_isSize
set_option maxRecDepth 20000 in
theorem ggX5_make_X2_becomeEmpty : GoodIn wsX5_make wsX2_becomeEmpty := goodIn_r _ [9, 10, 11, 82, 83] (by decide +kernel) (by decide +kernel)
set_option maxRecDepth 20000 in
theorem gX5_make_X2_becomeEmpty_n58 : GoodIn wsX5_make (wsX2_becomeEmpty) := ggX5_make_X2_becomeEmpty
set_option maxRecDepth 20000 in
theorem ggX5_make_X5_addFromBox : GoodIn wsX5_make wsX5_addFromBox := goodIn_r _ [15, 16, 17, 18, 19, 20, 21, 22, 7, 23, 24, 10, 25, 26, 27, 28, 11, 29, 30, 31, 32, 33, 34, 35, 4, 36, 37, 38, 39, 40, 41, 42, 43, 44, 45, 46, 47, 48, 49, 50, 51, 52, 53, 54, 55, 56, 57, 58, 59, 60, 61, 62, 63, 64, 65, 66, 67, 68, 69, 70, 71, 72, 73, 74, 75, 76, 77, 78, 79, 80, 81, 84, 85, 86, 87, 88, 82, 83, 89, 90, 91, 92, 93] (by decide +kernel) (by decide +kernel)
set_option maxRecDepth 20000 in
theorem gX5_make_X5_addFromBox : GoodIn wsX5_make (wsV RX5 62 RX5 yX5_addFromBox wsX5_addFromBox) := goodIn_app (goodIn_of _ (by decide +kernel)) ggX5_make_X5_addFromBox
theorem dX5_make_0 : decode cX5_make 0 = .ok (.iload_n 1, 1) := by decide +kernel
theorem dX5_make_1 : decode cX5_make 1 = .ok (.invokestatic 55, 3) := by decide +kernel
theorem dX5_make_4 : decode cX5_make 4 = .ok (.ifCond .ne 6, 3) := by decide +kernel
theorem dX5_make_7 : decode cX5_make 7 = .ok (.bipush (-2), 2) := by decide +kernel
theorem dX5_make_9 : decode cX5_make 9 = .ok (.ireturn, 1) := by decide +kernel
theorem dX5_make_10 : decode cX5_make 10 = .ok (.aload_n 0, 1) := by decide +kernel
theorem dX5_make_11 : decode cX5_make 11 = .ok (.getfield 33, 3) := by decide +kernel
theorem dX5_make_14 : decode cX5_make 14 = .ok (.iload_n 1, 1) := by decide +kernel
theorem dX5_make_15 : decode cX5_make 15 = .ok (.invokevirtual 58, 3) := by decide +kernel
theorem dX5_make_18 : decode cX5_make 18 = .ok (.aload_n 0, 1) := by decide +kernel
theorem dX5_make_19 : decode cX5_make 19 = .ok (.aload_n 0, 1) := by decide +kernel
theorem dX5_make_20 : decode cX5_make 20 = .ok (.getfield 33, 3) := by decide +kernel
theorem dX5_make_23 : decode cX5_make 23 = .ok (.invokevirtual 62, 3) := by decide +kernel
theorem dX5_make_26 : decode cX5_make 26 = .ok (.ireturn, 1) := by decide +kernel
set_option maxRecDepth 20000 in
theorem ggX5_copy_X3_find : GoodIn wsX5_copy wsX3_find := goodIn_r _ [5, 6, 78, 79, 80, 81, 82, 83, 84] (by decide +kernel) (by decide +kernel)
set_option maxRecDepth 20000 in
theorem gX5_copy_X3_find_n66 : GoodIn wsX5_copy (wsX3_find) := ggX5_copy_X3_find
set_option maxRecDepth 20000 in
theorem ggX5_copy_X5_addFromBox : GoodIn wsX5_copy wsX5_addFromBox := goodIn_r _ [11, 1, 12, 3, 13, 14, 15, 16, 17, 18, 19, 20, 21, 22, 23, 24, 25, 26, 27, 28, 6, 29, 30, 31, 10, 32, 33, 34, 35, 36, 37, 38, 39, 40, 41, 42, 43, 44, 45, 46, 47, 48, 49, 50, 51, 52, 53, 54, 55, 56, 57, 58, 59, 60, 61, 62, 63, 64, 65, 66, 67, 68, 69, 70, 71, 72, 73, 74, 75, 76, 77, 78, 79, 80, 81, 82, 83, 84, 85, 86, 87, 88, 89] (by decide +kernel) (by decide +kernel)
set_option maxRecDepth 20000 in
theorem gX5_copy_X5_addFromBox : GoodIn wsX5_copy (wsV RX5 62 RX5 yX5_addFromBox wsX5_addFromBox) := goodIn_app (goodIn_of _ (by decide +kernel)) ggX5_copy_X5_addFromBox
theorem dX5_copy_0 : decode cX5_copy 0 = .ok (.aload_n 0, 1) := by decide +kernel
theorem dX5_copy_1 : decode cX5_copy 1 = .ok (.getfield 10, 3) := by decide +kernel
theorem dX5_copy_4 : decode cX5_copy 4 = .ok (.iload_n 1, 1) := by decide +kernel
theorem dX5_copy_5 : decode cX5_copy 5 = .ok (.invokevirtual 66, 3) := by decide +kernel
theorem dX5_copy_8 : decode cX5_copy 8 = .ok (.astore_n 2, 1) := by decide +kernel
theorem dX5_copy_9 : decode cX5_copy 9 = .ok (.aload_n 2, 1) := by decide +kernel
theorem dX5_copy_10 : decode cX5_copy 10 = .ok (.ifnonnull 5, 3) := by decide +kernel
theorem dX5_copy_13 : decode cX5_copy 13 = .ok (.iconst (-1), 1) := by decide +kernel
theorem dX5_copy_14 : decode cX5_copy 14 = .ok (.ireturn, 1) := by decide +kernel
theorem dX5_copy_15 : decode cX5_copy 15 = .ok (.aload_n 0, 1) := by decide +kernel
theorem dX5_copy_16 : decode cX5_copy 16 = .ok (.aload_n 2, 1) := by decide +kernel
theorem dX5_copy_17 : decode cX5_copy 17 = .ok (.invokevirtual 62, 3) := by decide +kernel
theorem dX5_copy_20 : decode cX5_copy 20 = .ok (.ireturn, 1) := by decide +kernel
set_option maxRecDepth 20000 in
theorem ggX5_remove_X3_find : GoodIn wsX5_remove wsX3_find := goodIn_r _ [5, 6, 78, 79, 80, 81, 82, 83, 84] (by decide +kernel) (by decide +kernel)
set_option maxRecDepth 20000 in
theorem gX5_remove_X3_find_n66 : GoodIn wsX5_remove (wsX3_find) := ggX5_remove_X3_find
set_option maxRecDepth 20000 in
theorem ggX5_remove_X3_boxHasRoomFor : GoodIn wsX5_remove wsX3_boxHasRoomFor := goodIn_r _ [9, 10, 11, 12, 13, 14, 15, 16, 17, 18, 19, 20, 78, 79, 80, 81, 82, 83, 84] (by decide +kernel) (by decide +kernel)
set_option maxRecDepth 20000 in
theorem gX5_remove_X3_boxHasRoomFor_n70 : GoodIn wsX5_remove (wsX3_boxHasRoomFor) := ggX5_remove_X3_boxHasRoomFor
set_option maxRecDepth 20000 in
theorem ggX5_remove_X5_record : GoodIn wsX5_remove wsX5_record := goodIn_r _ [25, 26, 27, 1, 28, 29, 30, 24, 31, 32, 3, 33, 34, 10, 35, 36, 37, 38, 39, 6, 40, 41, 42, 12, 43, 44, 15, 20, 45, 46, 47, 48, 49, 50, 51, 52, 53, 54, 55, 56, 57, 58, 59, 60, 71, 72, 73, 74, 75, 76, 77, 78, 79, 80, 81, 82, 83, 84, 85, 86, 87, 88, 89] (by decide +kernel) (by decide +kernel)
set_option maxRecDepth 20000 in
theorem gX5_remove_X5_record : GoodIn wsX5_remove (wsV RX5 41 RX5 yX5_record wsX5_record) := goodIn_app (goodIn_of _ (by decide +kernel)) ggX5_remove_X5_record
set_option maxRecDepth 20000 in
theorem ggX5_remove_X2_charms : GoodIn wsX5_remove wsX2_charms := goodIn_r _ [63, 15, 64, 11, 13, 12, 14, 16, 17, 18, 19, 20, 83, 84] (by decide +kernel) (by decide +kernel)
set_option maxRecDepth 20000 in
theorem gX5_remove_X2_charms_n74 : GoodIn wsX5_remove (wsX2_charms) := ggX5_remove_X2_charms
set_option maxRecDepth 20000 in
theorem ggX5_remove_X3_putBack : GoodIn wsX5_remove wsX3_putBack := goodIn_r _ [67, 10, 11, 12, 13, 14, 15, 16, 17, 18, 19, 20, 68, 69, 70, 78, 79, 80, 81, 82, 83, 84] (by decide +kernel) (by decide +kernel)
set_option maxRecDepth 20000 in
theorem gX5_remove_X3_putBack_n78 : GoodIn wsX5_remove (wsX3_putBack) := ggX5_remove_X3_putBack
theorem dX5_remove_0 : decode cX5_remove 0 = .ok (.aload_n 0, 1) := by decide +kernel
theorem dX5_remove_1 : decode cX5_remove 1 = .ok (.getfield 10, 3) := by decide +kernel
theorem dX5_remove_4 : decode cX5_remove 4 = .ok (.iload_n 1, 1) := by decide +kernel
theorem dX5_remove_5 : decode cX5_remove 5 = .ok (.invokevirtual 66, 3) := by decide +kernel
theorem dX5_remove_8 : decode cX5_remove 8 = .ok (.astore_n 2, 1) := by decide +kernel
theorem dX5_remove_9 : decode cX5_remove 9 = .ok (.aload_n 2, 1) := by decide +kernel
theorem dX5_remove_10 : decode cX5_remove 10 = .ok (.ifnonnull 5, 3) := by decide +kernel
theorem dX5_remove_13 : decode cX5_remove 13 = .ok (.iconst (-1), 1) := by decide +kernel
theorem dX5_remove_14 : decode cX5_remove 14 = .ok (.ireturn, 1) := by decide +kernel
theorem dX5_remove_15 : decode cX5_remove 15 = .ok (.aload_n 0, 1) := by decide +kernel
theorem dX5_remove_16 : decode cX5_remove 16 = .ok (.getfield 10, 3) := by decide +kernel
theorem dX5_remove_19 : decode cX5_remove 19 = .ok (.aload_n 2, 1) := by decide +kernel
theorem dX5_remove_20 : decode cX5_remove 20 = .ok (.invokevirtual 70, 3) := by decide +kernel
theorem dX5_remove_23 : decode cX5_remove 23 = .ok (.ifCond .ne 6, 3) := by decide +kernel
theorem dX5_remove_26 : decode cX5_remove 26 = .ok (.bipush (-3), 2) := by decide +kernel
theorem dX5_remove_28 : decode cX5_remove 28 = .ok (.ireturn, 1) := by decide +kernel
theorem dX5_remove_29 : decode cX5_remove 29 = .ok (.aload_n 0, 1) := by decide +kernel
theorem dX5_remove_30 : decode cX5_remove 30 = .ok (.invokevirtual 41, 3) := by decide +kernel
theorem dX5_remove_33 : decode cX5_remove 33 = .ok (.aload_n 2, 1) := by decide +kernel
theorem dX5_remove_34 : decode cX5_remove 34 = .ok (.invokevirtual 74, 3) := by decide +kernel
theorem dX5_remove_37 : decode cX5_remove 37 = .ok (.istore_n 3, 1) := by decide +kernel
theorem dX5_remove_38 : decode cX5_remove 38 = .ok (.aload_n 0, 1) := by decide +kernel
theorem dX5_remove_39 : decode cX5_remove 39 = .ok (.getfield 10, 3) := by decide +kernel
theorem dX5_remove_42 : decode cX5_remove 42 = .ok (.aload_n 2, 1) := by decide +kernel
theorem dX5_remove_43 : decode cX5_remove 43 = .ok (.invokevirtual 78, 3) := by decide +kernel
theorem dX5_remove_46 : decode cX5_remove 46 = .ok (.iload_n 3, 1) := by decide +kernel
theorem dX5_remove_47 : decode cX5_remove 47 = .ok (.ireturn, 1) := by decide +kernel
set_option maxRecDepth 20000 in
theorem ggX5_hang_X3_find : GoodIn wsX5_hang wsX3_find := goodIn_r _ [5, 6, 70, 71, 72, 73, 74, 75, 76] (by decide +kernel) (by decide +kernel)
set_option maxRecDepth 20000 in
theorem gX5_hang_X3_find_n66 : GoodIn wsX5_hang (wsX3_find) := ggX5_hang_X3_find
set_option maxRecDepth 20000 in
theorem ggX5_hang_X2_hasSlot : GoodIn wsX5_hang wsX2_hasSlot := goodIn_r _ [10, 11, 75, 76] (by decide +kernel) (by decide +kernel)
set_option maxRecDepth 20000 in
theorem gX5_hang_X2_hasSlot_n82 : GoodIn wsX5_hang (wsX2_hasSlot) := ggX5_hang_X2_hasSlot
set_option maxRecDepth 20000 in
theorem ggX5_hang_X5_isCharm : GoodIn wsX5_hang wsX5_isCharm := goodIn_r _ [15] (by decide +kernel) (by decide +kernel)
set_option maxRecDepth 20000 in
theorem gX5_hang_X5_isCharm : GoodIn wsX5_hang (va_wsS RX5 37 yX5_isCharm wsX5_isCharm) := goodIn_app (goodIn_of _ (by decide +kernel)) ggX5_hang_X5_isCharm
set_option maxRecDepth 20000 in
theorem ggX5_hang_X2_at : GoodIn wsX5_hang wsX2_at := goodIn_r _ [18, 19, 75, 76] (by decide +kernel) (by decide +kernel)
set_option maxRecDepth 20000 in
theorem gX5_hang_X2_at_n85 : GoodIn wsX5_hang (wsX2_at) := ggX5_hang_X2_at
set_option maxRecDepth 20000 in
theorem ggX5_hang_X5_record : GoodIn wsX5_hang wsX5_record := goodIn_r _ [23, 24, 25, 1, 26, 27, 28, 14, 29, 30, 3, 31, 32, 33, 34, 35, 36, 37, 38, 6, 39, 40, 41, 8, 42, 43, 11, 19, 44, 45, 46, 47, 48, 49, 50, 51, 52, 53, 54, 55, 56, 57, 58, 59, 63, 64, 65, 66, 67, 68, 69, 70, 71, 72, 73, 74, 75, 76, 77, 78, 79, 80, 81] (by decide +kernel) (by decide +kernel)
set_option maxRecDepth 20000 in
theorem gX5_hang_X5_record : GoodIn wsX5_hang (wsV RX5 41 RX5 yX5_record wsX5_record) := goodIn_app (goodIn_of _ (by decide +kernel)) ggX5_hang_X5_record
set_option maxRecDepth 20000 in
theorem ggX5_hang_X2_put : GoodIn wsX5_hang wsX2_put := goodIn_r _ [62, 19, 75, 76] (by decide +kernel) (by decide +kernel)
set_option maxRecDepth 20000 in
theorem gX5_hang_X2_put_n88 : GoodIn wsX5_hang (wsX2_put) := ggX5_hang_X2_put
theorem dX5_hang_0 : decode cX5_hang 0 = .ok (.aload_n 0, 1) := by decide +kernel
theorem dX5_hang_1 : decode cX5_hang 1 = .ok (.getfield 10, 3) := by decide +kernel
theorem dX5_hang_4 : decode cX5_hang 4 = .ok (.iload_n 1, 1) := by decide +kernel
theorem dX5_hang_5 : decode cX5_hang 5 = .ok (.invokevirtual 66, 3) := by decide +kernel
theorem dX5_hang_8 : decode cX5_hang 8 = .ok (.astore 4, 2) := by decide +kernel
theorem dX5_hang_10 : decode cX5_hang 10 = .ok (.aload 4, 2) := by decide +kernel
theorem dX5_hang_12 : decode cX5_hang 12 = .ok (.ifnull 19, 3) := by decide +kernel
theorem dX5_hang_15 : decode cX5_hang 15 = .ok (.aload 4, 2) := by decide +kernel
theorem dX5_hang_17 : decode cX5_hang 17 = .ok (.iload_n 2, 1) := by decide +kernel
theorem dX5_hang_18 : decode cX5_hang 18 = .ok (.invokevirtual 82, 3) := by decide +kernel
theorem dX5_hang_21 : decode cX5_hang 21 = .ok (.ifCond .eq 10, 3) := by decide +kernel
theorem dX5_hang_24 : decode cX5_hang 24 = .ok (.iload_n 3, 1) := by decide +kernel
theorem dX5_hang_25 : decode cX5_hang 25 = .ok (.invokestatic 37, 3) := by decide +kernel
theorem dX5_hang_28 : decode cX5_hang 28 = .ok (.ifCond .ne 5, 3) := by decide +kernel
theorem dX5_hang_31 : decode cX5_hang 31 = .ok (.iconst (-1), 1) := by decide +kernel
theorem dX5_hang_32 : decode cX5_hang 32 = .ok (.ireturn, 1) := by decide +kernel
theorem dX5_hang_33 : decode cX5_hang 33 = .ok (.aload 4, 2) := by decide +kernel
theorem dX5_hang_35 : decode cX5_hang 35 = .ok (.iload_n 2, 1) := by decide +kernel
theorem dX5_hang_36 : decode cX5_hang 36 = .ok (.invokevirtual 85, 3) := by decide +kernel
theorem dX5_hang_39 : decode cX5_hang 39 = .ok (.ifCond .ne 16, 3) := by decide +kernel
theorem dX5_hang_42 : decode cX5_hang 42 = .ok (.aload_n 0, 1) := by decide +kernel
theorem dX5_hang_43 : decode cX5_hang 43 = .ok (.getfield 10, 3) := by decide +kernel
theorem dX5_hang_46 : decode cX5_hang 46 = .ok (.getfield 44, 3) := by decide +kernel
theorem dX5_hang_49 : decode cX5_hang 49 = .ok (.iload_n 3, 1) := by decide +kernel
theorem dX5_hang_50 : decode cX5_hang 50 = .ok (.iaload, 1) := by decide +kernel
theorem dX5_hang_51 : decode cX5_hang 51 = .ok (.iconst 1, 1) := by decide +kernel
theorem dX5_hang_52 : decode cX5_hang 52 = .ok (.if_icmp .ge 6, 3) := by decide +kernel
theorem dX5_hang_55 : decode cX5_hang 55 = .ok (.bipush (-3), 2) := by decide +kernel
theorem dX5_hang_57 : decode cX5_hang 57 = .ok (.ireturn, 1) := by decide +kernel
theorem dX5_hang_58 : decode cX5_hang 58 = .ok (.aload_n 0, 1) := by decide +kernel
theorem dX5_hang_59 : decode cX5_hang 59 = .ok (.invokevirtual 41, 3) := by decide +kernel
theorem dX5_hang_62 : decode cX5_hang 62 = .ok (.aload 4, 2) := by decide +kernel
theorem dX5_hang_64 : decode cX5_hang 64 = .ok (.iload_n 2, 1) := by decide +kernel
theorem dX5_hang_65 : decode cX5_hang 65 = .ok (.iload_n 3, 1) := by decide +kernel
theorem dX5_hang_66 : decode cX5_hang 66 = .ok (.invokevirtual 88, 3) := by decide +kernel
theorem dX5_hang_69 : decode cX5_hang 69 = .ok (.aload_n 0, 1) := by decide +kernel
theorem dX5_hang_70 : decode cX5_hang 70 = .ok (.getfield 10, 3) := by decide +kernel
theorem dX5_hang_73 : decode cX5_hang 73 = .ok (.getfield 44, 3) := by decide +kernel
theorem dX5_hang_76 : decode cX5_hang 76 = .ok (.iload_n 3, 1) := by decide +kernel
theorem dX5_hang_77 : decode cX5_hang 77 = .ok (.dup2, 1) := by decide +kernel
theorem dX5_hang_78 : decode cX5_hang 78 = .ok (.iaload, 1) := by decide +kernel
theorem dX5_hang_79 : decode cX5_hang 79 = .ok (.iconst 1, 1) := by decide +kernel
theorem dX5_hang_80 : decode cX5_hang 80 = .ok (.isub, 1) := by decide +kernel
theorem dX5_hang_81 : decode cX5_hang 81 = .ok (.iastore, 1) := by decide +kernel
theorem dX5_hang_82 : decode cX5_hang 82 = .ok (.aload_n 0, 1) := by decide +kernel
theorem dX5_hang_83 : decode cX5_hang 83 = .ok (.getfield 10, 3) := by decide +kernel
theorem dX5_hang_86 : decode cX5_hang 86 = .ok (.getfield 44, 3) := by decide +kernel
theorem dX5_hang_89 : decode cX5_hang 89 = .ok (.iload_n 3, 1) := by decide +kernel
theorem dX5_hang_90 : decode cX5_hang 90 = .ok (.iaload, 1) := by decide +kernel
theorem dX5_hang_91 : decode cX5_hang 91 = .ok (.ireturn, 1) := by decide +kernel
set_option maxRecDepth 20000 in
theorem ggX5_takeOff_X3_find : GoodIn wsX5_takeOff wsX3_find := goodIn_r _ [5, 6, 70, 71, 72, 73, 74, 75, 76] (by decide +kernel) (by decide +kernel)
set_option maxRecDepth 20000 in
theorem gX5_takeOff_X3_find_n66 : GoodIn wsX5_takeOff (wsX3_find) := ggX5_takeOff_X3_find
set_option maxRecDepth 20000 in
theorem ggX5_takeOff_X2_hasSlot : GoodIn wsX5_takeOff wsX2_hasSlot := goodIn_r _ [10, 11, 75, 76] (by decide +kernel) (by decide +kernel)
set_option maxRecDepth 20000 in
theorem gX5_takeOff_X2_hasSlot_n82 : GoodIn wsX5_takeOff (wsX2_hasSlot) := ggX5_takeOff_X2_hasSlot
set_option maxRecDepth 20000 in
theorem ggX5_takeOff_X2_at : GoodIn wsX5_takeOff wsX2_at := goodIn_r _ [14, 15, 75, 76] (by decide +kernel) (by decide +kernel)
set_option maxRecDepth 20000 in
theorem gX5_takeOff_X2_at_n85 : GoodIn wsX5_takeOff (wsX2_at) := ggX5_takeOff_X2_at
set_option maxRecDepth 20000 in
theorem ggX5_takeOff_X5_isCharm : GoodIn wsX5_takeOff wsX5_isCharm := goodIn_r _ [19] (by decide +kernel) (by decide +kernel)
set_option maxRecDepth 20000 in
theorem gX5_takeOff_X5_isCharm : GoodIn wsX5_takeOff (va_wsS RX5 37 yX5_isCharm wsX5_isCharm) := goodIn_app (goodIn_of _ (by decide +kernel)) ggX5_takeOff_X5_isCharm
set_option maxRecDepth 20000 in
theorem ggX5_takeOff_X5_record : GoodIn wsX5_takeOff wsX5_record := goodIn_r _ [23, 24, 25, 1, 26, 27, 28, 18, 29, 30, 3, 31, 32, 33, 34, 35, 36, 37, 38, 6, 39, 40, 41, 8, 42, 43, 11, 15, 44, 45, 46, 47, 48, 49, 50, 51, 52, 53, 54, 55, 56, 57, 58, 59, 63, 64, 65, 66, 67, 68, 69, 70, 71, 72, 73, 74, 75, 76, 77, 78, 79, 80, 81] (by decide +kernel) (by decide +kernel)
set_option maxRecDepth 20000 in
theorem gX5_takeOff_X5_record : GoodIn wsX5_takeOff (wsV RX5 41 RX5 yX5_record wsX5_record) := goodIn_app (goodIn_of _ (by decide +kernel)) ggX5_takeOff_X5_record
set_option maxRecDepth 20000 in
theorem ggX5_takeOff_X2_put : GoodIn wsX5_takeOff wsX2_put := goodIn_r _ [62, 15, 75, 76] (by decide +kernel) (by decide +kernel)
set_option maxRecDepth 20000 in
theorem gX5_takeOff_X2_put_n88 : GoodIn wsX5_takeOff (wsX2_put) := ggX5_takeOff_X2_put
theorem dX5_takeOff_0 : decode cX5_takeOff 0 = .ok (.aload_n 0, 1) := by decide +kernel
theorem dX5_takeOff_1 : decode cX5_takeOff 1 = .ok (.getfield 10, 3) := by decide +kernel
theorem dX5_takeOff_4 : decode cX5_takeOff 4 = .ok (.iload_n 1, 1) := by decide +kernel
theorem dX5_takeOff_5 : decode cX5_takeOff 5 = .ok (.invokevirtual 66, 3) := by decide +kernel
theorem dX5_takeOff_8 : decode cX5_takeOff 8 = .ok (.astore_n 3, 1) := by decide +kernel
theorem dX5_takeOff_9 : decode cX5_takeOff 9 = .ok (.aload_n 3, 1) := by decide +kernel
theorem dX5_takeOff_10 : decode cX5_takeOff 10 = .ok (.ifnull 11, 3) := by decide +kernel
theorem dX5_takeOff_13 : decode cX5_takeOff 13 = .ok (.aload_n 3, 1) := by decide +kernel
theorem dX5_takeOff_14 : decode cX5_takeOff 14 = .ok (.iload_n 2, 1) := by decide +kernel
theorem dX5_takeOff_15 : decode cX5_takeOff 15 = .ok (.invokevirtual 82, 3) := by decide +kernel
theorem dX5_takeOff_18 : decode cX5_takeOff 18 = .ok (.ifCond .ne 5, 3) := by decide +kernel
theorem dX5_takeOff_21 : decode cX5_takeOff 21 = .ok (.iconst (-1), 1) := by decide +kernel
theorem dX5_takeOff_22 : decode cX5_takeOff 22 = .ok (.ireturn, 1) := by decide +kernel
theorem dX5_takeOff_23 : decode cX5_takeOff 23 = .ok (.aload_n 3, 1) := by decide +kernel
theorem dX5_takeOff_24 : decode cX5_takeOff 24 = .ok (.iload_n 2, 1) := by decide +kernel
theorem dX5_takeOff_25 : decode cX5_takeOff 25 = .ok (.invokevirtual 85, 3) := by decide +kernel
theorem dX5_takeOff_28 : decode cX5_takeOff 28 = .ok (.istore 4, 2) := by decide +kernel
theorem dX5_takeOff_30 : decode cX5_takeOff 30 = .ok (.iload 4, 2) := by decide +kernel
theorem dX5_takeOff_32 : decode cX5_takeOff 32 = .ok (.invokestatic 37, 3) := by decide +kernel
theorem dX5_takeOff_35 : decode cX5_takeOff 35 = .ok (.ifCond .eq 18, 3) := by decide +kernel
theorem dX5_takeOff_38 : decode cX5_takeOff 38 = .ok (.aload_n 0, 1) := by decide +kernel
theorem dX5_takeOff_39 : decode cX5_takeOff 39 = .ok (.getfield 10, 3) := by decide +kernel
theorem dX5_takeOff_42 : decode cX5_takeOff 42 = .ok (.getfield 44, 3) := by decide +kernel
theorem dX5_takeOff_45 : decode cX5_takeOff 45 = .ok (.iload 4, 2) := by decide +kernel
theorem dX5_takeOff_47 : decode cX5_takeOff 47 = .ok (.iaload, 1) := by decide +kernel
theorem dX5_takeOff_48 : decode cX5_takeOff 48 = .ok (.bipush 99, 2) := by decide +kernel
theorem dX5_takeOff_50 : decode cX5_takeOff 50 = .ok (.if_icmp .lt 6, 3) := by decide +kernel
theorem dX5_takeOff_53 : decode cX5_takeOff 53 = .ok (.bipush (-3), 2) := by decide +kernel
theorem dX5_takeOff_55 : decode cX5_takeOff 55 = .ok (.ireturn, 1) := by decide +kernel
theorem dX5_takeOff_56 : decode cX5_takeOff 56 = .ok (.aload_n 0, 1) := by decide +kernel
theorem dX5_takeOff_57 : decode cX5_takeOff 57 = .ok (.invokevirtual 41, 3) := by decide +kernel
theorem dX5_takeOff_60 : decode cX5_takeOff 60 = .ok (.aload_n 3, 1) := by decide +kernel
theorem dX5_takeOff_61 : decode cX5_takeOff 61 = .ok (.iload_n 2, 1) := by decide +kernel
theorem dX5_takeOff_62 : decode cX5_takeOff 62 = .ok (.iconst 0, 1) := by decide +kernel
theorem dX5_takeOff_63 : decode cX5_takeOff 63 = .ok (.invokevirtual 88, 3) := by decide +kernel
theorem dX5_takeOff_66 : decode cX5_takeOff 66 = .ok (.aload_n 0, 1) := by decide +kernel
theorem dX5_takeOff_67 : decode cX5_takeOff 67 = .ok (.getfield 10, 3) := by decide +kernel
theorem dX5_takeOff_70 : decode cX5_takeOff 70 = .ok (.getfield 44, 3) := by decide +kernel
theorem dX5_takeOff_73 : decode cX5_takeOff 73 = .ok (.iload 4, 2) := by decide +kernel
theorem dX5_takeOff_75 : decode cX5_takeOff 75 = .ok (.dup2, 1) := by decide +kernel
theorem dX5_takeOff_76 : decode cX5_takeOff 76 = .ok (.iaload, 1) := by decide +kernel
theorem dX5_takeOff_77 : decode cX5_takeOff 77 = .ok (.iconst 1, 1) := by decide +kernel
theorem dX5_takeOff_78 : decode cX5_takeOff 78 = .ok (.iadd, 1) := by decide +kernel
theorem dX5_takeOff_79 : decode cX5_takeOff 79 = .ok (.iastore, 1) := by decide +kernel
theorem dX5_takeOff_80 : decode cX5_takeOff 80 = .ok (.iload 4, 2) := by decide +kernel
theorem dX5_takeOff_82 : decode cX5_takeOff 82 = .ok (.ireturn, 1) := by decide +kernel
set_option maxRecDepth 20000 in
theorem ggX5_swap_X3_find : GoodIn wsX5_swap wsX3_find := goodIn_r _ [5, 6, 89, 90, 91, 92, 93, 94, 95] (by decide +kernel) (by decide +kernel)
set_option maxRecDepth 20000 in
theorem gX5_swap_X3_find_n66 : GoodIn wsX5_swap (wsX3_find) := ggX5_swap_X3_find
set_option maxRecDepth 20000 in
theorem ggX5_swap_X2_hasSlot : GoodIn wsX5_swap wsX2_hasSlot := goodIn_r _ [10, 11, 94, 95] (by decide +kernel) (by decide +kernel)
set_option maxRecDepth 20000 in
theorem gX5_swap_X2_hasSlot_n82 : GoodIn wsX5_swap (wsX2_hasSlot) := ggX5_swap_X2_hasSlot
set_option maxRecDepth 20000 in
theorem ggX5_swap_X5_record : GoodIn wsX5_swap wsX5_record := goodIn_r _ [16, 17, 18, 1, 19, 20, 21, 15, 22, 23, 3, 24, 25, 26, 27, 28, 29, 30, 31, 6, 32, 33, 34, 8, 35, 36, 11, 37, 38, 39, 40, 41, 42, 43, 44, 45, 46, 47, 48, 49, 50, 51, 52, 53, 82, 83, 84, 85, 86, 87, 88, 89, 90, 91, 92, 93, 94, 95, 96, 97, 98, 99, 100] (by decide +kernel) (by decide +kernel)
set_option maxRecDepth 20000 in
theorem gX5_swap_X5_record : GoodIn wsX5_swap (wsV RX5 41 RX5 yX5_record wsX5_record) := goodIn_app (goodIn_of _ (by decide +kernel)) ggX5_swap_X5_record
set_option maxRecDepth 20000 in
theorem ggX5_swap_X2_exchange : GoodIn wsX5_swap wsX2_exchange := goodIn_r _ [56, 57, 58, 59, 8, 60, 37, 61, 62, 63, 64, 94, 95] (by decide +kernel) (by decide +kernel)
set_option maxRecDepth 20000 in
theorem gX5_swap_X2_exchange_n92 : GoodIn wsX5_swap (wsX2_exchange) := ggX5_swap_X2_exchange
set_option maxRecDepth 20000 in
theorem ggX5_swap_X3_lean : GoodIn wsX5_swap wsX3_lean := goodIn_r _ [67, 68, 69, 70, 71, 72, 73, 74, 3, 75, 76, 77, 78, 79, 31, 58, 8, 59, 60, 37, 80, 15, 81, 94, 95, 89, 90, 91, 92, 93] (by decide +kernel) (by decide +kernel)
set_option maxRecDepth 20000 in
theorem gX5_swap_X3_lean_n95 : GoodIn wsX5_swap (wsX3_lean) := ggX5_swap_X3_lean
theorem dX5_swap_0 : decode cX5_swap 0 = .ok (.aload_n 0, 1) := by decide +kernel
theorem dX5_swap_1 : decode cX5_swap 1 = .ok (.getfield 10, 3) := by decide +kernel
theorem dX5_swap_4 : decode cX5_swap 4 = .ok (.iload_n 1, 1) := by decide +kernel
theorem dX5_swap_5 : decode cX5_swap 5 = .ok (.invokevirtual 66, 3) := by decide +kernel
theorem dX5_swap_8 : decode cX5_swap 8 = .ok (.astore 4, 2) := by decide +kernel
theorem dX5_swap_10 : decode cX5_swap 10 = .ok (.aload 4, 2) := by decide +kernel
theorem dX5_swap_12 : decode cX5_swap 12 = .ok (.ifnull 21, 3) := by decide +kernel
theorem dX5_swap_15 : decode cX5_swap 15 = .ok (.aload 4, 2) := by decide +kernel
theorem dX5_swap_17 : decode cX5_swap 17 = .ok (.iload_n 2, 1) := by decide +kernel
theorem dX5_swap_18 : decode cX5_swap 18 = .ok (.invokevirtual 82, 3) := by decide +kernel
theorem dX5_swap_21 : decode cX5_swap 21 = .ok (.ifCond .eq 12, 3) := by decide +kernel
theorem dX5_swap_24 : decode cX5_swap 24 = .ok (.aload 4, 2) := by decide +kernel
theorem dX5_swap_26 : decode cX5_swap 26 = .ok (.iload_n 3, 1) := by decide +kernel
theorem dX5_swap_27 : decode cX5_swap 27 = .ok (.invokevirtual 82, 3) := by decide +kernel
theorem dX5_swap_30 : decode cX5_swap 30 = .ok (.ifCond .ne 5, 3) := by decide +kernel
theorem dX5_swap_33 : decode cX5_swap 33 = .ok (.iconst (-1), 1) := by decide +kernel
theorem dX5_swap_34 : decode cX5_swap 34 = .ok (.ireturn, 1) := by decide +kernel
theorem dX5_swap_35 : decode cX5_swap 35 = .ok (.aload_n 0, 1) := by decide +kernel
theorem dX5_swap_36 : decode cX5_swap 36 = .ok (.invokevirtual 41, 3) := by decide +kernel
theorem dX5_swap_39 : decode cX5_swap 39 = .ok (.aload 4, 2) := by decide +kernel
theorem dX5_swap_41 : decode cX5_swap 41 = .ok (.iload_n 2, 1) := by decide +kernel
theorem dX5_swap_42 : decode cX5_swap 42 = .ok (.iload_n 3, 1) := by decide +kernel
theorem dX5_swap_43 : decode cX5_swap 43 = .ok (.invokevirtual 92, 3) := by decide +kernel
theorem dX5_swap_46 : decode cX5_swap 46 = .ok (.aload_n 0, 1) := by decide +kernel
theorem dX5_swap_47 : decode cX5_swap 47 = .ok (.getfield 10, 3) := by decide +kernel
theorem dX5_swap_50 : decode cX5_swap 50 = .ok (.aload 4, 2) := by decide +kernel
theorem dX5_swap_52 : decode cX5_swap 52 = .ok (.invokevirtual 95, 3) := by decide +kernel
theorem dX5_swap_55 : decode cX5_swap 55 = .ok (.ireturn, 1) := by decide +kernel
set_option maxRecDepth 20000 in
theorem ggX5_roll_X3_find : GoodIn wsX5_roll wsX3_find := goodIn_r _ [5, 6, 86, 87, 88, 89, 90, 84, 85] (by decide +kernel) (by decide +kernel)
set_option maxRecDepth 20000 in
theorem gX5_roll_X3_find_n66 : GoodIn wsX5_roll (wsX3_find) := ggX5_roll_X3_find
set_option maxRecDepth 20000 in
theorem ggX5_roll_X5_changeAt : GoodIn wsX5_roll wsX5_changeAt := goodIn_r _ [10] (by decide +kernel) (by decide +kernel)
set_option maxRecDepth 20000 in
theorem gX5_roll_X5_changeAt : GoodIn wsX5_roll (va_wsS RX5 102 yX5_changeAt wsX5_changeAt) := goodIn_app (goodIn_of _ (by decide +kernel)) ggX5_roll_X5_changeAt
set_option maxRecDepth 20000 in
theorem ggX5_roll_X5_change : GoodIn wsX5_roll wsX5_change := goodIn_r _ [14, 15, 16, 17, 18, 9, 19, 20, 21, 1, 22, 23, 24, 25, 26, 3, 27, 28, 29, 30, 31, 32, 33, 34, 6, 35, 36, 37, 38, 39, 40, 41, 42, 43, 44, 45, 46, 47, 48, 49, 50, 51, 52, 53, 54, 55, 56, 57, 58, 59, 60, 61, 62, 63, 64, 65, 66, 67, 68, 69, 70, 71, 72, 73, 74, 75, 76, 77, 78, 79, 80, 81, 82, 83, 84, 85, 86, 87, 88, 89, 90, 91, 92, 93, 94, 95] (by decide +kernel) (by decide +kernel)
set_option maxRecDepth 20000 in
theorem gX5_roll_X5_change : GoodIn wsX5_roll (wsV RX5 106 RX5 yX5_change wsX5_change) := goodIn_app (goodIn_of _ (by decide +kernel)) ggX5_roll_X5_change
theorem dX5_roll_0 : decode cX5_roll 0 = .ok (.aload_n 0, 1) := by decide +kernel
theorem dX5_roll_1 : decode cX5_roll 1 = .ok (.getfield 10, 3) := by decide +kernel
theorem dX5_roll_4 : decode cX5_roll 4 = .ok (.iload_n 1, 1) := by decide +kernel
theorem dX5_roll_5 : decode cX5_roll 5 = .ok (.invokevirtual 66, 3) := by decide +kernel
theorem dX5_roll_8 : decode cX5_roll 8 = .ok (.astore_n 3, 1) := by decide +kernel
theorem dX5_roll_9 : decode cX5_roll 9 = .ok (.aload_n 3, 1) := by decide +kernel
theorem dX5_roll_10 : decode cX5_roll 10 = .ok (.ifnonnull 5, 3) := by decide +kernel
theorem dX5_roll_13 : decode cX5_roll 13 = .ok (.iconst (-1), 1) := by decide +kernel
theorem dX5_roll_14 : decode cX5_roll 14 = .ok (.ireturn, 1) := by decide +kernel
theorem dX5_roll_15 : decode cX5_roll 15 = .ok (.iload_n 2, 1) := by decide +kernel
theorem dX5_roll_16 : decode cX5_roll 16 = .ok (.ifCond .lt 11, 3) := by decide +kernel
theorem dX5_roll_19 : decode cX5_roll 19 = .ok (.iload_n 2, 1) := by decide +kernel
theorem dX5_roll_20 : decode cX5_roll 20 = .ok (.aload_n 3, 1) := by decide +kernel
theorem dX5_roll_21 : decode cX5_roll 21 = .ok (.getfield 98, 3) := by decide +kernel
theorem dX5_roll_24 : decode cX5_roll 24 = .ok (.if_icmp .lt 6, 3) := by decide +kernel
theorem dX5_roll_27 : decode cX5_roll 27 = .ok (.bipush (-2), 2) := by decide +kernel
theorem dX5_roll_29 : decode cX5_roll 29 = .ok (.ireturn, 1) := by decide +kernel
theorem dX5_roll_30 : decode cX5_roll 30 = .ok (.aload_n 0, 1) := by decide +kernel
theorem dX5_roll_31 : decode cX5_roll 31 = .ok (.aload_n 3, 1) := by decide +kernel
theorem dX5_roll_32 : decode cX5_roll 32 = .ok (.iconst 1, 1) := by decide +kernel
theorem dX5_roll_33 : decode cX5_roll 33 = .ok (.iload_n 2, 1) := by decide +kernel
theorem dX5_roll_34 : decode cX5_roll 34 = .ok (.aload_n 3, 1) := by decide +kernel
theorem dX5_roll_35 : decode cX5_roll 35 = .ok (.getfield 98, 3) := by decide +kernel
theorem dX5_roll_38 : decode cX5_roll 38 = .ok (.invokestatic 102, 3) := by decide +kernel
theorem dX5_roll_41 : decode cX5_roll 41 = .ok (.invokevirtual 106, 3) := by decide +kernel
theorem dX5_roll_44 : decode cX5_roll 44 = .ok (.ireturn, 1) := by decide +kernel
set_option maxRecDepth 20000 in
theorem ggX5_turn_X3_find : GoodIn wsX5_turn wsX3_find := goodIn_r _ [5, 6, 86, 87, 88, 89, 90, 84, 85] (by decide +kernel) (by decide +kernel)
set_option maxRecDepth 20000 in
theorem gX5_turn_X3_find_n66 : GoodIn wsX5_turn (wsX3_find) := ggX5_turn_X3_find
set_option maxRecDepth 20000 in
theorem ggX5_turn_X5_changeAt : GoodIn wsX5_turn wsX5_changeAt := goodIn_r _ [10] (by decide +kernel) (by decide +kernel)
set_option maxRecDepth 20000 in
theorem gX5_turn_X5_changeAt : GoodIn wsX5_turn (va_wsS RX5 102 yX5_changeAt wsX5_changeAt) := goodIn_app (goodIn_of _ (by decide +kernel)) ggX5_turn_X5_changeAt
set_option maxRecDepth 20000 in
theorem ggX5_turn_X5_change : GoodIn wsX5_turn wsX5_change := goodIn_r _ [14, 15, 16, 17, 18, 9, 19, 20, 21, 1, 22, 23, 24, 25, 26, 3, 27, 28, 29, 30, 31, 32, 33, 34, 6, 35, 36, 37, 38, 39, 40, 41, 42, 43, 44, 45, 46, 47, 48, 49, 50, 51, 52, 53, 54, 55, 56, 57, 58, 59, 60, 61, 62, 63, 64, 65, 66, 67, 68, 69, 70, 71, 72, 73, 74, 75, 76, 77, 78, 79, 80, 81, 82, 83, 84, 85, 86, 87, 88, 89, 90, 91, 92, 93, 94, 95] (by decide +kernel) (by decide +kernel)
set_option maxRecDepth 20000 in
theorem gX5_turn_X5_change : GoodIn wsX5_turn (wsV RX5 106 RX5 yX5_change wsX5_change) := goodIn_app (goodIn_of _ (by decide +kernel)) ggX5_turn_X5_change
theorem dX5_turn_0 : decode cX5_turn 0 = .ok (.aload_n 0, 1) := by decide +kernel
theorem dX5_turn_1 : decode cX5_turn 1 = .ok (.getfield 10, 3) := by decide +kernel
theorem dX5_turn_4 : decode cX5_turn 4 = .ok (.iload_n 1, 1) := by decide +kernel
theorem dX5_turn_5 : decode cX5_turn 5 = .ok (.invokevirtual 66, 3) := by decide +kernel
theorem dX5_turn_8 : decode cX5_turn 8 = .ok (.astore_n 3, 1) := by decide +kernel
theorem dX5_turn_9 : decode cX5_turn 9 = .ok (.aload_n 3, 1) := by decide +kernel
theorem dX5_turn_10 : decode cX5_turn 10 = .ok (.ifnonnull 5, 3) := by decide +kernel
theorem dX5_turn_13 : decode cX5_turn 13 = .ok (.iconst (-1), 1) := by decide +kernel
theorem dX5_turn_14 : decode cX5_turn 14 = .ok (.ireturn, 1) := by decide +kernel
theorem dX5_turn_15 : decode cX5_turn 15 = .ok (.iload_n 2, 1) := by decide +kernel
theorem dX5_turn_16 : decode cX5_turn 16 = .ok (.ifCond .lt 8, 3) := by decide +kernel
theorem dX5_turn_19 : decode cX5_turn 19 = .ok (.iload_n 2, 1) := by decide +kernel
theorem dX5_turn_20 : decode cX5_turn 20 = .ok (.iconst 4, 1) := by decide +kernel
theorem dX5_turn_21 : decode cX5_turn 21 = .ok (.if_icmp .lt 6, 3) := by decide +kernel
theorem dX5_turn_24 : decode cX5_turn 24 = .ok (.bipush (-2), 2) := by decide +kernel
theorem dX5_turn_26 : decode cX5_turn 26 = .ok (.ireturn, 1) := by decide +kernel
theorem dX5_turn_27 : decode cX5_turn 27 = .ok (.aload_n 0, 1) := by decide +kernel
theorem dX5_turn_28 : decode cX5_turn 28 = .ok (.aload_n 3, 1) := by decide +kernel
theorem dX5_turn_29 : decode cX5_turn 29 = .ok (.iconst 0, 1) := by decide +kernel
theorem dX5_turn_30 : decode cX5_turn 30 = .ok (.iload_n 2, 1) := by decide +kernel
theorem dX5_turn_31 : decode cX5_turn 31 = .ok (.aload_n 3, 1) := by decide +kernel
theorem dX5_turn_32 : decode cX5_turn 32 = .ok (.getfield 98, 3) := by decide +kernel
theorem dX5_turn_35 : decode cX5_turn 35 = .ok (.invokestatic 102, 3) := by decide +kernel
theorem dX5_turn_38 : decode cX5_turn 38 = .ok (.invokevirtual 106, 3) := by decide +kernel
theorem dX5_turn_41 : decode cX5_turn 41 = .ok (.ireturn, 1) := by decide +kernel
set_option maxRecDepth 20000 in
theorem ggX5_mirror_X3_find : GoodIn wsX5_mirror wsX3_find := goodIn_r _ [5, 6, 83, 84, 85, 86, 87, 81, 82] (by decide +kernel) (by decide +kernel)
set_option maxRecDepth 20000 in
theorem gX5_mirror_X3_find_n66 : GoodIn wsX5_mirror (wsX3_find) := ggX5_mirror_X3_find
set_option maxRecDepth 20000 in
theorem ggX5_mirror_X5_change : GoodIn wsX5_mirror wsX5_change := goodIn_r _ [11, 12, 13, 14, 15, 10, 16, 17, 18, 1, 19, 20, 21, 22, 23, 3, 24, 25, 26, 27, 28, 29, 30, 31, 6, 32, 33, 34, 35, 36, 37, 38, 39, 40, 41, 42, 43, 44, 45, 46, 47, 48, 49, 50, 51, 52, 53, 54, 55, 56, 57, 58, 59, 60, 61, 62, 63, 64, 65, 66, 67, 68, 69, 70, 71, 72, 73, 74, 75, 76, 77, 78, 79, 80, 81, 82, 83, 84, 85, 86, 87, 88, 89, 90, 91, 92] (by decide +kernel) (by decide +kernel)
set_option maxRecDepth 20000 in
theorem gX5_mirror_X5_change : GoodIn wsX5_mirror (wsV RX5 106 RX5 yX5_change wsX5_change) := goodIn_app (goodIn_of _ (by decide +kernel)) ggX5_mirror_X5_change
theorem dX5_mirror_0 : decode cX5_mirror 0 = .ok (.aload_n 0, 1) := by decide +kernel
theorem dX5_mirror_1 : decode cX5_mirror 1 = .ok (.getfield 10, 3) := by decide +kernel
theorem dX5_mirror_4 : decode cX5_mirror 4 = .ok (.iload_n 1, 1) := by decide +kernel
theorem dX5_mirror_5 : decode cX5_mirror 5 = .ok (.invokevirtual 66, 3) := by decide +kernel
theorem dX5_mirror_8 : decode cX5_mirror 8 = .ok (.astore_n 2, 1) := by decide +kernel
theorem dX5_mirror_9 : decode cX5_mirror 9 = .ok (.aload_n 2, 1) := by decide +kernel
theorem dX5_mirror_10 : decode cX5_mirror 10 = .ok (.ifnonnull 5, 3) := by decide +kernel
theorem dX5_mirror_13 : decode cX5_mirror 13 = .ok (.iconst (-1), 1) := by decide +kernel
theorem dX5_mirror_14 : decode cX5_mirror 14 = .ok (.ireturn, 1) := by decide +kernel
theorem dX5_mirror_15 : decode cX5_mirror 15 = .ok (.aload_n 0, 1) := by decide +kernel
theorem dX5_mirror_16 : decode cX5_mirror 16 = .ok (.aload_n 2, 1) := by decide +kernel
theorem dX5_mirror_17 : decode cX5_mirror 17 = .ok (.aload_n 2, 1) := by decide +kernel
theorem dX5_mirror_18 : decode cX5_mirror 18 = .ok (.getfield 98, 3) := by decide +kernel
theorem dX5_mirror_21 : decode cX5_mirror 21 = .ok (.invokevirtual 106, 3) := by decide +kernel
theorem dX5_mirror_24 : decode cX5_mirror 24 = .ok (.ireturn, 1) := by decide +kernel
set_option maxRecDepth 20000 in
theorem ggX5_bracelets_X3_ringSet : GoodIn wsX5_bracelets wsX3_ringSet := goodIn_r _ [5, 6, 14, 15, 16, 17, 18, 19, 20] (by decide +kernel) (by decide +kernel)
set_option maxRecDepth 20000 in
theorem gX5_bracelets_X3_ringSet_n110 : GoodIn wsX5_bracelets (wsX3_ringSet) := ggX5_bracelets_X3_ringSet
theorem dX5_bracelets_0 : decode cX5_bracelets 0 = .ok (.aload_n 0, 1) := by decide +kernel
theorem dX5_bracelets_1 : decode cX5_bracelets 1 = .ok (.getfield 10, 3) := by decide +kernel
theorem dX5_bracelets_4 : decode cX5_bracelets 4 = .ok (.invokevirtual 110, 3) := by decide +kernel
theorem dX5_bracelets_7 : decode cX5_bracelets 7 = .ok (.ireturn, 1) := by decide +kernel
set_option maxRecDepth 20000 in
theorem ggX5_bracelet_X3_find : GoodIn wsX5_bracelet wsX3_find := goodIn_r _ [5, 6, 49, 50, 51, 52, 53, 47, 48] (by decide +kernel) (by decide +kernel)
set_option maxRecDepth 20000 in
theorem gX5_bracelet_X3_find_n66 : GoodIn wsX5_bracelet (wsX3_find) := ggX5_bracelet_X3_find
set_option maxRecDepth 20000 in
theorem ggX5_bracelet_X2_charms : GoodIn wsX5_bracelet wsX2_charms := goodIn_r _ [10, 11, 12, 13, 14, 8, 15, 16, 17, 18, 19, 20, 47, 48] (by decide +kernel) (by decide +kernel)
set_option maxRecDepth 20000 in
theorem gX5_bracelet_X2_charms_n74 : GoodIn wsX5_bracelet (wsX2_charms) := ggX5_bracelet_X2_charms
set_option maxRecDepth 20000 in
theorem ggX5_bracelet_X3_weight : GoodIn wsX5_bracelet wsX3_weight := goodIn_r _ [23, 24, 17, 8, 18, 19, 20, 25, 26, 27, 49, 50, 51, 52, 53, 47, 48] (by decide +kernel) (by decide +kernel)
set_option maxRecDepth 20000 in
theorem gX5_bracelet_X3_weight_n113 : GoodIn wsX5_bracelet (wsX3_weight) := ggX5_bracelet_X3_weight
set_option maxRecDepth 20000 in
theorem ggX5_bracelet_X3_lean : GoodIn wsX5_bracelet wsX3_lean := goodIn_r _ [30, 31, 32, 33, 34, 35, 36, 37, 3, 38, 39, 21, 22, 23, 24, 17, 8, 18, 19, 20, 25, 26, 27, 47, 48, 49, 50, 51, 52, 53] (by decide +kernel) (by decide +kernel)
set_option maxRecDepth 20000 in
theorem gX5_bracelet_X3_lean_n95 : GoodIn wsX5_bracelet (wsX3_lean) := ggX5_bracelet_X3_lean
theorem dX5_bracelet_0 : decode cX5_bracelet 0 = .ok (.aload_n 0, 1) := by decide +kernel
theorem dX5_bracelet_1 : decode cX5_bracelet 1 = .ok (.getfield 10, 3) := by decide +kernel
theorem dX5_bracelet_4 : decode cX5_bracelet 4 = .ok (.iload_n 1, 1) := by decide +kernel
theorem dX5_bracelet_5 : decode cX5_bracelet 5 = .ok (.invokevirtual 66, 3) := by decide +kernel
theorem dX5_bracelet_8 : decode cX5_bracelet 8 = .ok (.astore_n 3, 1) := by decide +kernel
theorem dX5_bracelet_9 : decode cX5_bracelet 9 = .ok (.aload_n 3, 1) := by decide +kernel
theorem dX5_bracelet_10 : decode cX5_bracelet 10 = .ok (.ifnonnull 5, 3) := by decide +kernel
theorem dX5_bracelet_13 : decode cX5_bracelet 13 = .ok (.iconst (-1), 1) := by decide +kernel
theorem dX5_bracelet_14 : decode cX5_bracelet 14 = .ok (.ireturn, 1) := by decide +kernel
theorem dX5_bracelet_15 : decode cX5_bracelet 15 = .ok (.iload_n 2, 1) := by decide +kernel
theorem dX5_bracelet_16 : decode cX5_bracelet 16 = .ok (.tableswitch 65 0 3 #[32, 37, 42, 56], 32) := by decide +kernel
theorem dX5_bracelet_48 : decode cX5_bracelet 48 = .ok (.aload_n 3, 1) := by decide +kernel
theorem dX5_bracelet_49 : decode cX5_bracelet 49 = .ok (.getfield 98, 3) := by decide +kernel
theorem dX5_bracelet_52 : decode cX5_bracelet 52 = .ok (.ireturn, 1) := by decide +kernel
theorem dX5_bracelet_53 : decode cX5_bracelet 53 = .ok (.aload_n 3, 1) := by decide +kernel
theorem dX5_bracelet_54 : decode cX5_bracelet 54 = .ok (.invokevirtual 74, 3) := by decide +kernel
theorem dX5_bracelet_57 : decode cX5_bracelet 57 = .ok (.ireturn, 1) := by decide +kernel
theorem dX5_bracelet_58 : decode cX5_bracelet 58 = .ok (.aload_n 0, 1) := by decide +kernel
theorem dX5_bracelet_59 : decode cX5_bracelet 59 = .ok (.getfield 10, 3) := by decide +kernel
theorem dX5_bracelet_62 : decode cX5_bracelet 62 = .ok (.aload_n 3, 1) := by decide +kernel
theorem dX5_bracelet_63 : decode cX5_bracelet 63 = .ok (.iconst 0, 1) := by decide +kernel
theorem dX5_bracelet_64 : decode cX5_bracelet 64 = .ok (.aload_n 3, 1) := by decide +kernel
theorem dX5_bracelet_65 : decode cX5_bracelet 65 = .ok (.getfield 98, 3) := by decide +kernel
theorem dX5_bracelet_68 : decode cX5_bracelet 68 = .ok (.invokevirtual 113, 3) := by decide +kernel
theorem dX5_bracelet_71 : decode cX5_bracelet 71 = .ok (.ireturn, 1) := by decide +kernel
theorem dX5_bracelet_72 : decode cX5_bracelet 72 = .ok (.aload_n 0, 1) := by decide +kernel
theorem dX5_bracelet_73 : decode cX5_bracelet 73 = .ok (.getfield 10, 3) := by decide +kernel
theorem dX5_bracelet_76 : decode cX5_bracelet 76 = .ok (.aload_n 3, 1) := by decide +kernel
theorem dX5_bracelet_77 : decode cX5_bracelet 77 = .ok (.invokevirtual 95, 3) := by decide +kernel
theorem dX5_bracelet_80 : decode cX5_bracelet 80 = .ok (.ireturn, 1) := by decide +kernel
theorem dX5_bracelet_81 : decode cX5_bracelet 81 = .ok (.bipush (-2), 2) := by decide +kernel
theorem dX5_bracelet_83 : decode cX5_bracelet 83 = .ok (.ireturn, 1) := by decide +kernel
set_option maxRecDepth 20000 in
theorem ggX5_slot_X3_find : GoodIn wsX5_slot wsX3_find := goodIn_r _ [5, 6, 23, 24, 25, 26, 27, 28, 29] (by decide +kernel) (by decide +kernel)
set_option maxRecDepth 20000 in
theorem gX5_slot_X3_find_n66 : GoodIn wsX5_slot (wsX3_find) := ggX5_slot_X3_find
set_option maxRecDepth 20000 in
theorem ggX5_slot_X2_hasSlot : GoodIn wsX5_slot wsX2_hasSlot := goodIn_r _ [10, 11, 28, 29] (by decide +kernel) (by decide +kernel)
set_option maxRecDepth 20000 in
theorem gX5_slot_X2_hasSlot_n82 : GoodIn wsX5_slot (wsX2_hasSlot) := ggX5_slot_X2_hasSlot
set_option maxRecDepth 20000 in
theorem ggX5_slot_X2_at : GoodIn wsX5_slot wsX2_at := goodIn_r _ [14, 15, 28, 29] (by decide +kernel) (by decide +kernel)
set_option maxRecDepth 20000 in
theorem gX5_slot_X2_at_n85 : GoodIn wsX5_slot (wsX2_at) := ggX5_slot_X2_at
theorem dX5_slot_0 : decode cX5_slot 0 = .ok (.aload_n 0, 1) := by decide +kernel
theorem dX5_slot_1 : decode cX5_slot 1 = .ok (.getfield 10, 3) := by decide +kernel
theorem dX5_slot_4 : decode cX5_slot 4 = .ok (.iload_n 1, 1) := by decide +kernel
theorem dX5_slot_5 : decode cX5_slot 5 = .ok (.invokevirtual 66, 3) := by decide +kernel
theorem dX5_slot_8 : decode cX5_slot 8 = .ok (.astore_n 3, 1) := by decide +kernel
theorem dX5_slot_9 : decode cX5_slot 9 = .ok (.aload_n 3, 1) := by decide +kernel
theorem dX5_slot_10 : decode cX5_slot 10 = .ok (.ifnull 11, 3) := by decide +kernel
theorem dX5_slot_13 : decode cX5_slot 13 = .ok (.aload_n 3, 1) := by decide +kernel
theorem dX5_slot_14 : decode cX5_slot 14 = .ok (.iload_n 2, 1) := by decide +kernel
theorem dX5_slot_15 : decode cX5_slot 15 = .ok (.invokevirtual 82, 3) := by decide +kernel
theorem dX5_slot_18 : decode cX5_slot 18 = .ok (.ifCond .ne 5, 3) := by decide +kernel
theorem dX5_slot_21 : decode cX5_slot 21 = .ok (.iconst (-1), 1) := by decide +kernel
theorem dX5_slot_22 : decode cX5_slot 22 = .ok (.ireturn, 1) := by decide +kernel
theorem dX5_slot_23 : decode cX5_slot 23 = .ok (.aload_n 3, 1) := by decide +kernel
theorem dX5_slot_24 : decode cX5_slot 24 = .ok (.iload_n 2, 1) := by decide +kernel
theorem dX5_slot_25 : decode cX5_slot 25 = .ok (.invokevirtual 85, 3) := by decide +kernel
theorem dX5_slot_28 : decode cX5_slot 28 = .ok (.ireturn, 1) := by decide +kernel
set_option maxRecDepth 20000 in
theorem ggX5_quarter_X3_find : GoodIn wsX5_quarter wsX3_find := goodIn_r _ [5, 6, 30, 31, 32, 33, 34, 35, 36] (by decide +kernel) (by decide +kernel)
set_option maxRecDepth 20000 in
theorem gX5_quarter_X3_find_n66 : GoodIn wsX5_quarter (wsX3_find) := ggX5_quarter_X3_find
set_option maxRecDepth 20000 in
theorem ggX5_quarter_X3_quarterWeight : GoodIn wsX5_quarter wsX3_quarterWeight := goodIn_r _ [9, 10, 11, 12, 3, 13, 14, 15, 16, 17, 18, 19, 20, 21, 22, 35, 36, 30, 31, 32, 33, 34] (by decide +kernel) (by decide +kernel)
set_option maxRecDepth 20000 in
theorem gX5_quarter_X3_quarterWeight_n117 : GoodIn wsX5_quarter (wsX3_quarterWeight) := ggX5_quarter_X3_quarterWeight
theorem dX5_quarter_0 : decode cX5_quarter 0 = .ok (.aload_n 0, 1) := by decide +kernel
theorem dX5_quarter_1 : decode cX5_quarter 1 = .ok (.getfield 10, 3) := by decide +kernel
theorem dX5_quarter_4 : decode cX5_quarter 4 = .ok (.iload_n 1, 1) := by decide +kernel
theorem dX5_quarter_5 : decode cX5_quarter 5 = .ok (.invokevirtual 66, 3) := by decide +kernel
theorem dX5_quarter_8 : decode cX5_quarter 8 = .ok (.astore_n 3, 1) := by decide +kernel
theorem dX5_quarter_9 : decode cX5_quarter 9 = .ok (.aload_n 3, 1) := by decide +kernel
theorem dX5_quarter_10 : decode cX5_quarter 10 = .ok (.ifnull 12, 3) := by decide +kernel
theorem dX5_quarter_13 : decode cX5_quarter 13 = .ok (.iload_n 2, 1) := by decide +kernel
theorem dX5_quarter_14 : decode cX5_quarter 14 = .ok (.ifCond .lt 8, 3) := by decide +kernel
theorem dX5_quarter_17 : decode cX5_quarter 17 = .ok (.iload_n 2, 1) := by decide +kernel
theorem dX5_quarter_18 : decode cX5_quarter 18 = .ok (.iconst 4, 1) := by decide +kernel
theorem dX5_quarter_19 : decode cX5_quarter 19 = .ok (.if_icmp .lt 5, 3) := by decide +kernel
theorem dX5_quarter_22 : decode cX5_quarter 22 = .ok (.iconst (-1), 1) := by decide +kernel
theorem dX5_quarter_23 : decode cX5_quarter 23 = .ok (.ireturn, 1) := by decide +kernel
theorem dX5_quarter_24 : decode cX5_quarter 24 = .ok (.aload_n 0, 1) := by decide +kernel
theorem dX5_quarter_25 : decode cX5_quarter 25 = .ok (.getfield 10, 3) := by decide +kernel
theorem dX5_quarter_28 : decode cX5_quarter 28 = .ok (.aload_n 3, 1) := by decide +kernel
theorem dX5_quarter_29 : decode cX5_quarter 29 = .ok (.iload_n 2, 1) := by decide +kernel
theorem dX5_quarter_30 : decode cX5_quarter 30 = .ok (.invokevirtual 117, 3) := by decide +kernel
theorem dX5_quarter_33 : decode cX5_quarter 33 = .ok (.ireturn, 1) := by decide +kernel
set_option maxRecDepth 20000 in
theorem ggX5_alike_X3_find : GoodIn wsX5_alike wsX3_find := goodIn_r _ [5, 6, 52, 53, 54, 55, 56, 57, 58] (by decide +kernel) (by decide +kernel)
set_option maxRecDepth 20000 in
theorem gX5_alike_X3_find_n66 : GoodIn wsX5_alike (wsX3_find) := ggX5_alike_X3_find
set_option maxRecDepth 20000 in
theorem ggX5_alike_X5_isLevel : GoodIn wsX5_alike wsX5_isLevel := goodIn_r _ [10] (by decide +kernel) (by decide +kernel)
set_option maxRecDepth 20000 in
theorem gX5_alike_X5_isLevel : GoodIn wsX5_alike (va_wsS RX5 120 yX5_isLevel wsX5_isLevel) := goodIn_app (goodIn_of _ (by decide +kernel)) ggX5_alike_X5_isLevel
set_option maxRecDepth 20000 in
theorem ggX5_alike_X2_isAlike : GoodIn wsX5_alike wsX2_isAlike := goodIn_r _ [14, 15, 16, 17, 18, 12, 19, 20, 21, 22, 23, 24, 9, 25, 26, 27, 28, 29, 30, 31, 32, 33, 34, 35, 36, 37, 38, 39, 40, 41, 42, 43, 44, 57, 58] (by decide +kernel) (by decide +kernel)
set_option maxRecDepth 20000 in
theorem gX5_alike_X2_isAlike_n123 : GoodIn wsX5_alike (wsX2_isAlike) := ggX5_alike_X2_isAlike
theorem dX5_alike_0 : decode cX5_alike 0 = .ok (.aload_n 0, 1) := by decide +kernel
theorem dX5_alike_1 : decode cX5_alike 1 = .ok (.getfield 10, 3) := by decide +kernel
theorem dX5_alike_4 : decode cX5_alike 4 = .ok (.iload_n 1, 1) := by decide +kernel
theorem dX5_alike_5 : decode cX5_alike 5 = .ok (.invokevirtual 66, 3) := by decide +kernel
theorem dX5_alike_8 : decode cX5_alike 8 = .ok (.astore 4, 2) := by decide +kernel
theorem dX5_alike_10 : decode cX5_alike 10 = .ok (.aload_n 0, 1) := by decide +kernel
theorem dX5_alike_11 : decode cX5_alike 11 = .ok (.getfield 10, 3) := by decide +kernel
theorem dX5_alike_14 : decode cX5_alike 14 = .ok (.iload_n 2, 1) := by decide +kernel
theorem dX5_alike_15 : decode cX5_alike 15 = .ok (.invokevirtual 66, 3) := by decide +kernel
theorem dX5_alike_18 : decode cX5_alike 18 = .ok (.astore 5, 2) := by decide +kernel
theorem dX5_alike_20 : decode cX5_alike 20 = .ok (.aload 4, 2) := by decide +kernel
theorem dX5_alike_22 : decode cX5_alike 22 = .ok (.ifnull 8, 3) := by decide +kernel
theorem dX5_alike_25 : decode cX5_alike 25 = .ok (.aload 5, 2) := by decide +kernel
theorem dX5_alike_27 : decode cX5_alike 27 = .ok (.ifnonnull 5, 3) := by decide +kernel
theorem dX5_alike_30 : decode cX5_alike 30 = .ok (.iconst (-1), 1) := by decide +kernel
theorem dX5_alike_31 : decode cX5_alike 31 = .ok (.ireturn, 1) := by decide +kernel
theorem dX5_alike_32 : decode cX5_alike 32 = .ok (.iload_n 3, 1) := by decide +kernel
theorem dX5_alike_33 : decode cX5_alike 33 = .ok (.invokestatic 120, 3) := by decide +kernel
theorem dX5_alike_36 : decode cX5_alike 36 = .ok (.ifCond .ne 6, 3) := by decide +kernel
theorem dX5_alike_39 : decode cX5_alike 39 = .ok (.bipush (-2), 2) := by decide +kernel
theorem dX5_alike_41 : decode cX5_alike 41 = .ok (.ireturn, 1) := by decide +kernel
theorem dX5_alike_42 : decode cX5_alike 42 = .ok (.aload 4, 2) := by decide +kernel
theorem dX5_alike_44 : decode cX5_alike 44 = .ok (.aload 5, 2) := by decide +kernel
theorem dX5_alike_46 : decode cX5_alike 46 = .ok (.iload_n 3, 1) := by decide +kernel
theorem dX5_alike_47 : decode cX5_alike 47 = .ok (.invokevirtual 123, 3) := by decide +kernel
theorem dX5_alike_50 : decode cX5_alike 50 = .ok (.ifCond .eq 7, 3) := by decide +kernel
theorem dX5_alike_53 : decode cX5_alike 53 = .ok (.iconst 1, 1) := by decide +kernel
theorem dX5_alike_54 : decode cX5_alike 54 = .ok (.goto 4, 3) := by decide +kernel
theorem dX5_alike_57 : decode cX5_alike 57 = .ok (.iconst 0, 1) := by decide +kernel
theorem dX5_alike_58 : decode cX5_alike 58 = .ok (.ireturn, 1) := by decide +kernel
set_option maxRecDepth 20000 in
theorem ggX5_least_X3_find : GoodIn wsX5_least wsX3_find := goodIn_r _ [5, 6, 47, 48, 49, 50, 51, 52, 53] (by decide +kernel) (by decide +kernel)
set_option maxRecDepth 20000 in
theorem gX5_least_X3_find_n66 : GoodIn wsX5_least (wsX3_find) := ggX5_least_X3_find
set_option maxRecDepth 20000 in
theorem ggX5_least_X2_hasSlot : GoodIn wsX5_least wsX2_hasSlot := goodIn_r _ [10, 11, 52, 53] (by decide +kernel) (by decide +kernel)
set_option maxRecDepth 20000 in
theorem gX5_least_X2_hasSlot_n82 : GoodIn wsX5_least (wsX2_hasSlot) := ggX5_least_X2_hasSlot
set_option maxRecDepth 20000 in
theorem ggX5_least_X5_isLevel : GoodIn wsX5_least wsX5_isLevel := goodIn_r _ [15] (by decide +kernel) (by decide +kernel)
set_option maxRecDepth 20000 in
theorem gX5_least_X5_isLevel : GoodIn wsX5_least (va_wsS RX5 120 yX5_isLevel wsX5_isLevel) := goodIn_app (goodIn_of _ (by decide +kernel)) ggX5_least_X5_isLevel
set_option maxRecDepth 20000 in
theorem ggX5_least_X2_leastChange : GoodIn wsX5_least wsX2_leastChange := goodIn_r _ [18, 11, 19, 14, 20, 21, 22, 23, 24, 25, 8, 26, 27, 28, 29, 30, 31, 32, 33, 34, 35, 36, 37, 38, 39, 52, 53] (by decide +kernel) (by decide +kernel)
set_option maxRecDepth 20000 in
theorem gX5_least_X2_leastChange_n127 : GoodIn wsX5_least (wsX2_leastChange) := ggX5_least_X2_leastChange
set_option maxRecDepth 20000 in
theorem ggX5_least_X2_kindAfter : GoodIn wsX5_least wsX2_kindAfter := goodIn_r _ [30, 11, 31, 32, 33, 8, 34, 35, 36, 37, 38, 39, 52, 53] (by decide +kernel) (by decide +kernel)
set_option maxRecDepth 20000 in
theorem gX5_least_X2_kindAfter_n130 : GoodIn wsX5_least (wsX2_kindAfter) := ggX5_least_X2_kindAfter
theorem dX5_least_0 : decode cX5_least 0 = .ok (.aload_n 0, 1) := by decide +kernel
theorem dX5_least_1 : decode cX5_least 1 = .ok (.getfield 10, 3) := by decide +kernel
theorem dX5_least_4 : decode cX5_least 4 = .ok (.iload_n 1, 1) := by decide +kernel
theorem dX5_least_5 : decode cX5_least 5 = .ok (.invokevirtual 66, 3) := by decide +kernel
theorem dX5_least_8 : decode cX5_least 8 = .ok (.astore 4, 2) := by decide +kernel
theorem dX5_least_10 : decode cX5_least 10 = .ok (.aload 4, 2) := by decide +kernel
theorem dX5_least_12 : decode cX5_least 12 = .ok (.ifnull 12, 3) := by decide +kernel
theorem dX5_least_15 : decode cX5_least 15 = .ok (.aload 4, 2) := by decide +kernel
theorem dX5_least_17 : decode cX5_least 17 = .ok (.iload_n 3, 1) := by decide +kernel
theorem dX5_least_18 : decode cX5_least 18 = .ok (.invokevirtual 82, 3) := by decide +kernel
theorem dX5_least_21 : decode cX5_least 21 = .ok (.ifCond .ne 5, 3) := by decide +kernel
theorem dX5_least_24 : decode cX5_least 24 = .ok (.iconst (-1), 1) := by decide +kernel
theorem dX5_least_25 : decode cX5_least 25 = .ok (.ireturn, 1) := by decide +kernel
theorem dX5_least_26 : decode cX5_least 26 = .ok (.iload_n 2, 1) := by decide +kernel
theorem dX5_least_27 : decode cX5_least 27 = .ok (.invokestatic 120, 3) := by decide +kernel
theorem dX5_least_30 : decode cX5_least 30 = .ok (.ifCond .ne 6, 3) := by decide +kernel
theorem dX5_least_33 : decode cX5_least 33 = .ok (.bipush (-2), 2) := by decide +kernel
theorem dX5_least_35 : decode cX5_least 35 = .ok (.ireturn, 1) := by decide +kernel
theorem dX5_least_36 : decode cX5_least 36 = .ok (.aload 4, 2) := by decide +kernel
theorem dX5_least_38 : decode cX5_least 38 = .ok (.aload 4, 2) := by decide +kernel
theorem dX5_least_40 : decode cX5_least 40 = .ok (.iload_n 2, 1) := by decide +kernel
theorem dX5_least_41 : decode cX5_least 41 = .ok (.invokevirtual 127, 3) := by decide +kernel
theorem dX5_least_44 : decode cX5_least 44 = .ok (.iload_n 3, 1) := by decide +kernel
theorem dX5_least_45 : decode cX5_least 45 = .ok (.invokevirtual 130, 3) := by decide +kernel
theorem dX5_least_48 : decode cX5_least 48 = .ok (.ireturn, 1) := by decide +kernel
set_option maxRecDepth 20000 in
theorem ggX5_orbit_X3_find : GoodIn wsX5_orbit wsX3_find := goodIn_r _ [5, 6, 44, 45, 46, 47, 48, 49, 50] (by decide +kernel) (by decide +kernel)
set_option maxRecDepth 20000 in
theorem gX5_orbit_X3_find_n66 : GoodIn wsX5_orbit (wsX3_find) := ggX5_orbit_X3_find
set_option maxRecDepth 20000 in
theorem ggX5_orbit_X5_isLevel : GoodIn wsX5_orbit wsX5_isLevel := goodIn_r _ [10] (by decide +kernel) (by decide +kernel)
set_option maxRecDepth 20000 in
theorem gX5_orbit_X5_isLevel : GoodIn wsX5_orbit (va_wsS RX5 120 yX5_isLevel wsX5_isLevel) := goodIn_app (goodIn_of _ (by decide +kernel)) ggX5_orbit_X5_isLevel
set_option maxRecDepth 20000 in
theorem ggX5_orbit_X2_differentRings : GoodIn wsX5_orbit wsX2_differentRings := goodIn_r _ [14, 15, 16, 9, 17, 18, 19, 20, 21, 22, 12, 23, 24, 25, 26, 27, 28, 29, 30, 31, 32, 33, 34, 35, 36, 49, 50] (by decide +kernel) (by decide +kernel)
set_option maxRecDepth 20000 in
theorem gX5_orbit_X2_differentRings_n134 : GoodIn wsX5_orbit (wsX2_differentRings) := ggX5_orbit_X2_differentRings
theorem dX5_orbit_0 : decode cX5_orbit 0 = .ok (.aload_n 0, 1) := by decide +kernel
theorem dX5_orbit_1 : decode cX5_orbit 1 = .ok (.getfield 10, 3) := by decide +kernel
theorem dX5_orbit_4 : decode cX5_orbit 4 = .ok (.iload_n 1, 1) := by decide +kernel
theorem dX5_orbit_5 : decode cX5_orbit 5 = .ok (.invokevirtual 66, 3) := by decide +kernel
theorem dX5_orbit_8 : decode cX5_orbit 8 = .ok (.astore_n 3, 1) := by decide +kernel
theorem dX5_orbit_9 : decode cX5_orbit 9 = .ok (.aload_n 3, 1) := by decide +kernel
theorem dX5_orbit_10 : decode cX5_orbit 10 = .ok (.ifnonnull 5, 3) := by decide +kernel
theorem dX5_orbit_13 : decode cX5_orbit 13 = .ok (.iconst (-1), 1) := by decide +kernel
theorem dX5_orbit_14 : decode cX5_orbit 14 = .ok (.ireturn, 1) := by decide +kernel
theorem dX5_orbit_15 : decode cX5_orbit 15 = .ok (.iload_n 2, 1) := by decide +kernel
theorem dX5_orbit_16 : decode cX5_orbit 16 = .ok (.invokestatic 120, 3) := by decide +kernel
theorem dX5_orbit_19 : decode cX5_orbit 19 = .ok (.ifCond .ne 6, 3) := by decide +kernel
theorem dX5_orbit_22 : decode cX5_orbit 22 = .ok (.bipush (-2), 2) := by decide +kernel
theorem dX5_orbit_24 : decode cX5_orbit 24 = .ok (.ireturn, 1) := by decide +kernel
theorem dX5_orbit_25 : decode cX5_orbit 25 = .ok (.aload_n 3, 1) := by decide +kernel
theorem dX5_orbit_26 : decode cX5_orbit 26 = .ok (.iload_n 2, 1) := by decide +kernel
theorem dX5_orbit_27 : decode cX5_orbit 27 = .ok (.invokevirtual 134, 3) := by decide +kernel
theorem dX5_orbit_30 : decode cX5_orbit 30 = .ok (.ireturn, 1) := by decide +kernel
set_option maxRecDepth 20000 in
theorem ggX5_fixed_X3_find : GoodIn wsX5_fixed wsX3_find := goodIn_r _ [5, 6, 38, 39, 40, 41, 42, 36, 37] (by decide +kernel) (by decide +kernel)
set_option maxRecDepth 20000 in
theorem gX5_fixed_X3_find_n66 : GoodIn wsX5_fixed (wsX3_find) := ggX5_fixed_X3_find
set_option maxRecDepth 20000 in
theorem ggX5_fixed_X5_changeAt : GoodIn wsX5_fixed wsX5_changeAt := goodIn_r _ [10] (by decide +kernel) (by decide +kernel)
set_option maxRecDepth 20000 in
theorem gX5_fixed_X5_changeAt : GoodIn wsX5_fixed (va_wsS RX5 102 yX5_changeAt wsX5_changeAt) := goodIn_app (goodIn_of _ (by decide +kernel)) ggX5_fixed_X5_changeAt
set_option maxRecDepth 20000 in
theorem ggX5_fixed_X2_differences : GoodIn wsX5_fixed wsX2_differences := goodIn_r _ [14, 15, 16, 17, 18, 12, 19, 20, 21, 22, 23, 24, 25, 26, 27, 28, 36, 37] (by decide +kernel) (by decide +kernel)
set_option maxRecDepth 20000 in
theorem gX5_fixed_X2_differences_n137 : GoodIn wsX5_fixed (wsX2_differences) := ggX5_fixed_X2_differences
theorem dX5_fixed_0 : decode cX5_fixed 0 = .ok (.aload_n 0, 1) := by decide +kernel
theorem dX5_fixed_1 : decode cX5_fixed 1 = .ok (.getfield 10, 3) := by decide +kernel
theorem dX5_fixed_4 : decode cX5_fixed 4 = .ok (.iload_n 1, 1) := by decide +kernel
theorem dX5_fixed_5 : decode cX5_fixed 5 = .ok (.invokevirtual 66, 3) := by decide +kernel
theorem dX5_fixed_8 : decode cX5_fixed 8 = .ok (.astore_n 2, 1) := by decide +kernel
theorem dX5_fixed_9 : decode cX5_fixed 9 = .ok (.aload_n 2, 1) := by decide +kernel
theorem dX5_fixed_10 : decode cX5_fixed 10 = .ok (.ifnonnull 5, 3) := by decide +kernel
theorem dX5_fixed_13 : decode cX5_fixed 13 = .ok (.iconst (-1), 1) := by decide +kernel
theorem dX5_fixed_14 : decode cX5_fixed 14 = .ok (.ireturn, 1) := by decide +kernel
theorem dX5_fixed_15 : decode cX5_fixed 15 = .ok (.iconst 0, 1) := by decide +kernel
theorem dX5_fixed_16 : decode cX5_fixed 16 = .ok (.istore_n 3, 1) := by decide +kernel
theorem dX5_fixed_17 : decode cX5_fixed 17 = .ok (.iconst 0, 1) := by decide +kernel
theorem dX5_fixed_18 : decode cX5_fixed 18 = .ok (.istore 4, 2) := by decide +kernel
theorem dX5_fixed_20 : decode cX5_fixed 20 = .ok (.iload 4, 2) := by decide +kernel
theorem dX5_fixed_22 : decode cX5_fixed 22 = .ok (.iconst 4, 1) := by decide +kernel
theorem dX5_fixed_23 : decode cX5_fixed 23 = .ok (.if_icmp .ge 34, 3) := by decide +kernel
theorem dX5_fixed_26 : decode cX5_fixed 26 = .ok (.aload_n 2, 1) := by decide +kernel
theorem dX5_fixed_27 : decode cX5_fixed 27 = .ok (.iconst 0, 1) := by decide +kernel
theorem dX5_fixed_28 : decode cX5_fixed 28 = .ok (.iload 4, 2) := by decide +kernel
theorem dX5_fixed_30 : decode cX5_fixed 30 = .ok (.aload_n 2, 1) := by decide +kernel
theorem dX5_fixed_31 : decode cX5_fixed 31 = .ok (.getfield 98, 3) := by decide +kernel
theorem dX5_fixed_34 : decode cX5_fixed 34 = .ok (.invokestatic 102, 3) := by decide +kernel
theorem dX5_fixed_37 : decode cX5_fixed 37 = .ok (.aload_n 2, 1) := by decide +kernel
theorem dX5_fixed_38 : decode cX5_fixed 38 = .ok (.invokevirtual 137, 3) := by decide +kernel
theorem dX5_fixed_41 : decode cX5_fixed 41 = .ok (.ifCond .ne 10, 3) := by decide +kernel
theorem dX5_fixed_44 : decode cX5_fixed 44 = .ok (.iload_n 3, 1) := by decide +kernel
theorem dX5_fixed_45 : decode cX5_fixed 45 = .ok (.iconst 1, 1) := by decide +kernel
theorem dX5_fixed_46 : decode cX5_fixed 46 = .ok (.iload 4, 2) := by decide +kernel
theorem dX5_fixed_48 : decode cX5_fixed 48 = .ok (.ishl, 1) := by decide +kernel
theorem dX5_fixed_49 : decode cX5_fixed 49 = .ok (.ior, 1) := by decide +kernel
theorem dX5_fixed_50 : decode cX5_fixed 50 = .ok (.istore_n 3, 1) := by decide +kernel
theorem dX5_fixed_51 : decode cX5_fixed 51 = .ok (.iinc 4 1, 3) := by decide +kernel
theorem dX5_fixed_54 : decode cX5_fixed 54 = .ok (.goto (-34), 3) := by decide +kernel
theorem dX5_fixed_57 : decode cX5_fixed 57 = .ok (.iload_n 3, 1) := by decide +kernel
theorem dX5_fixed_58 : decode cX5_fixed 58 = .ok (.ireturn, 1) := by decide +kernel
set_option maxRecDepth 20000 in
theorem ggX5_distance_X3_find : GoodIn wsX5_distance wsX3_find := goodIn_r _ [5, 6, 47, 48, 49, 50, 51, 45, 46] (by decide +kernel) (by decide +kernel)
set_option maxRecDepth 20000 in
theorem gX5_distance_X3_find_n66 : GoodIn wsX5_distance (wsX3_find) := ggX5_distance_X3_find
set_option maxRecDepth 20000 in
theorem ggX5_distance_X2_leastDifferences : GoodIn wsX5_distance wsX2_leastDifferences := goodIn_r _ [10, 11, 12, 13, 14, 15, 16, 17, 18, 19, 20, 21, 22, 23, 8, 24, 25, 26, 27, 28, 29, 30, 31, 32, 33, 34, 35, 36, 37, 45, 46] (by decide +kernel) (by decide +kernel)
set_option maxRecDepth 20000 in
theorem gX5_distance_X2_leastDifferences_n141 : GoodIn wsX5_distance (wsX2_leastDifferences) := ggX5_distance_X2_leastDifferences
theorem dX5_distance_0 : decode cX5_distance 0 = .ok (.aload_n 0, 1) := by decide +kernel
theorem dX5_distance_1 : decode cX5_distance 1 = .ok (.getfield 10, 3) := by decide +kernel
theorem dX5_distance_4 : decode cX5_distance 4 = .ok (.iload_n 1, 1) := by decide +kernel
theorem dX5_distance_5 : decode cX5_distance 5 = .ok (.invokevirtual 66, 3) := by decide +kernel
theorem dX5_distance_8 : decode cX5_distance 8 = .ok (.astore_n 3, 1) := by decide +kernel
theorem dX5_distance_9 : decode cX5_distance 9 = .ok (.aload_n 0, 1) := by decide +kernel
theorem dX5_distance_10 : decode cX5_distance 10 = .ok (.getfield 10, 3) := by decide +kernel
theorem dX5_distance_13 : decode cX5_distance 13 = .ok (.iload_n 2, 1) := by decide +kernel
theorem dX5_distance_14 : decode cX5_distance 14 = .ok (.invokevirtual 66, 3) := by decide +kernel
theorem dX5_distance_17 : decode cX5_distance 17 = .ok (.astore 4, 2) := by decide +kernel
theorem dX5_distance_19 : decode cX5_distance 19 = .ok (.aload_n 3, 1) := by decide +kernel
theorem dX5_distance_20 : decode cX5_distance 20 = .ok (.ifnull 8, 3) := by decide +kernel
theorem dX5_distance_23 : decode cX5_distance 23 = .ok (.aload 4, 2) := by decide +kernel
theorem dX5_distance_25 : decode cX5_distance 25 = .ok (.ifnonnull 5, 3) := by decide +kernel
theorem dX5_distance_28 : decode cX5_distance 28 = .ok (.iconst (-1), 1) := by decide +kernel
theorem dX5_distance_29 : decode cX5_distance 29 = .ok (.ireturn, 1) := by decide +kernel
theorem dX5_distance_30 : decode cX5_distance 30 = .ok (.aload_n 3, 1) := by decide +kernel
theorem dX5_distance_31 : decode cX5_distance 31 = .ok (.getfield 98, 3) := by decide +kernel
theorem dX5_distance_34 : decode cX5_distance 34 = .ok (.aload 4, 2) := by decide +kernel
theorem dX5_distance_36 : decode cX5_distance 36 = .ok (.getfield 98, 3) := by decide +kernel
theorem dX5_distance_39 : decode cX5_distance 39 = .ok (.if_icmp .eq 6, 3) := by decide +kernel
theorem dX5_distance_42 : decode cX5_distance 42 = .ok (.bipush (-6), 2) := by decide +kernel
theorem dX5_distance_44 : decode cX5_distance 44 = .ok (.ireturn, 1) := by decide +kernel
theorem dX5_distance_45 : decode cX5_distance 45 = .ok (.aload_n 3, 1) := by decide +kernel
theorem dX5_distance_46 : decode cX5_distance 46 = .ok (.aload 4, 2) := by decide +kernel
theorem dX5_distance_48 : decode cX5_distance 48 = .ok (.iconst 2, 1) := by decide +kernel
theorem dX5_distance_49 : decode cX5_distance 49 = .ok (.invokevirtual 141, 3) := by decide +kernel
theorem dX5_distance_52 : decode cX5_distance 52 = .ok (.ireturn, 1) := by decide +kernel
set_option maxRecDepth 20000 in
theorem ggX5_setMotif_X3_find : GoodIn wsX5_setMotif wsX3_find := goodIn_r _ [5, 6, 106, 107, 108, 109, 110, 104, 105] (by decide +kernel) (by decide +kernel)
set_option maxRecDepth 20000 in
theorem gX5_setMotif_X3_find_n66 : GoodIn wsX5_setMotif (wsX3_find) := ggX5_setMotif_X3_find
set_option maxRecDepth 20000 in
theorem ggX5_setMotif_X2_hasSlot : GoodIn wsX5_setMotif wsX2_hasSlot := goodIn_r _ [10, 11, 104, 105] (by decide +kernel) (by decide +kernel)
set_option maxRecDepth 20000 in
theorem gX5_setMotif_X2_hasSlot_n82 : GoodIn wsX5_setMotif (wsX2_hasSlot) := ggX5_setMotif_X2_hasSlot
set_option maxRecDepth 20000 in
theorem ggX5_setMotif_X5_record : GoodIn wsX5_setMotif wsX5_record := goodIn_r _ [16, 17, 18, 1, 19, 20, 21, 15, 22, 23, 3, 24, 25, 26, 27, 28, 29, 30, 31, 6, 32, 33, 34, 8, 35, 36, 11, 37, 38, 39, 40, 41, 42, 43, 44, 45, 46, 47, 48, 49, 50, 51, 52, 53, 97, 98, 99, 100, 101, 102, 103, 106, 107, 108, 109, 110, 104, 105, 111, 112, 113, 114, 115] (by decide +kernel) (by decide +kernel)
set_option maxRecDepth 20000 in
theorem gX5_setMotif_X5_record : GoodIn wsX5_setMotif (wsV RX5 41 RX5 yX5_record wsX5_record) := goodIn_app (goodIn_of _ (by decide +kernel)) ggX5_setMotif_X5_record
set_option maxRecDepth 20000 in
theorem ggX5_setMotif_X2_leastChange : GoodIn wsX5_setMotif wsX2_leastChange := goodIn_r _ [56, 11, 57, 15, 58, 59, 60, 61, 62, 63, 8, 64, 65, 66, 67, 68, 69, 70, 71, 72, 73, 74, 75, 76, 37, 104, 105] (by decide +kernel) (by decide +kernel)
set_option maxRecDepth 20000 in
theorem gX5_setMotif_X2_leastChange_n127 : GoodIn wsX5_setMotif (wsX2_leastChange) := ggX5_setMotif_X2_leastChange
set_option maxRecDepth 20000 in
theorem ggX5_setMotif_X0_becomeNone : GoodIn wsX5_setMotif wsX0_becomeNone := goodIn_r _ [79, 43, 111, 112] (by decide +kernel) (by decide +kernel)
set_option maxRecDepth 20000 in
theorem gX5_setMotif_X0_becomeNone_n160 : GoodIn wsX5_setMotif (wsX0_becomeNone) := ggX5_setMotif_X0_becomeNone
set_option maxRecDepth 20000 in
theorem ggX5_setMotif_X2_around : GoodIn wsX5_setMotif wsX2_around := goodIn_r _ [72, 11, 104, 105] (by decide +kernel) (by decide +kernel)
set_option maxRecDepth 20000 in
theorem gX5_setMotif_X2_around_n165 : GoodIn wsX5_setMotif (wsX2_around) := ggX5_setMotif_X2_around
set_option maxRecDepth 20000 in
theorem ggX5_setMotif_X2_kindAfter : GoodIn wsX5_setMotif wsX2_kindAfter := goodIn_r _ [68, 11, 69, 70, 71, 8, 72, 73, 74, 75, 76, 37, 104, 105] (by decide +kernel) (by decide +kernel)
set_option maxRecDepth 20000 in
theorem gX5_setMotif_X2_kindAfter_n130 : GoodIn wsX5_setMotif (wsX2_kindAfter) := ggX5_setMotif_X2_kindAfter
set_option maxRecDepth 20000 in
theorem ggX5_setMotif_X0_addSign : GoodIn wsX5_setMotif wsX0_addSign := goodIn_r _ [82, 43, 44, 111, 112] (by decide +kernel) (by decide +kernel)
set_option maxRecDepth 20000 in
theorem gX5_setMotif_X0_addSign_n168 : GoodIn wsX5_setMotif (wsX0_addSign) := ggX5_setMotif_X0_addSign
set_option maxRecDepth 20000 in
theorem ggX5_setMotif_X0_slotSet : GoodIn wsX5_setMotif wsX0_slotSet := goodIn_r _ [85, 86, 87, 88, 40, 89, 43, 44, 70, 8, 71, 72, 11, 74, 75, 76, 37, 104, 105, 111, 112] (by decide +kernel) (by decide +kernel)
set_option maxRecDepth 20000 in
theorem gX5_setMotif_X0_slotSet_n171 : GoodIn wsX5_setMotif (wsX0_slotSet) := ggX5_setMotif_X0_slotSet
set_option maxRecDepth 20000 in
theorem ggX5_setMotif_J6_bitCount_0f7a4 : GoodIn wsX5_setMotif wsJ6_bitCount_0f7a4 := goodIn_r _ [93, 94, 95, 96] (by decide +kernel) (by decide +kernel)
set_option maxRecDepth 20000 in
theorem gX5_setMotif_J6_bitCount_0f7a4 : GoodIn wsX5_setMotif (va_wsS RX5 174 yJ6_bitCount_0f7a4 wsJ6_bitCount_0f7a4) := goodIn_app (goodIn_of _ (by decide +kernel)) ggX5_setMotif_J6_bitCount_0f7a4
theorem dX5_setMotif_0 : decode cX5_setMotif 0 = .ok (.aload_n 0, 1) := by decide +kernel
theorem dX5_setMotif_1 : decode cX5_setMotif 1 = .ok (.getfield 10, 3) := by decide +kernel
theorem dX5_setMotif_4 : decode cX5_setMotif 4 = .ok (.iload_n 1, 1) := by decide +kernel
theorem dX5_setMotif_5 : decode cX5_setMotif 5 = .ok (.invokevirtual 66, 3) := by decide +kernel
theorem dX5_setMotif_8 : decode cX5_setMotif 8 = .ok (.astore 4, 2) := by decide +kernel
theorem dX5_setMotif_10 : decode cX5_setMotif 10 = .ok (.aload 4, 2) := by decide +kernel
theorem dX5_setMotif_12 : decode cX5_setMotif 12 = .ok (.ifnull 12, 3) := by decide +kernel
theorem dX5_setMotif_15 : decode cX5_setMotif 15 = .ok (.aload 4, 2) := by decide +kernel
theorem dX5_setMotif_17 : decode cX5_setMotif 17 = .ok (.iload_n 2, 1) := by decide +kernel
theorem dX5_setMotif_18 : decode cX5_setMotif 18 = .ok (.invokevirtual 82, 3) := by decide +kernel
theorem dX5_setMotif_21 : decode cX5_setMotif 21 = .ok (.ifCond .ne 5, 3) := by decide +kernel
theorem dX5_setMotif_24 : decode cX5_setMotif 24 = .ok (.iconst (-1), 1) := by decide +kernel
theorem dX5_setMotif_25 : decode cX5_setMotif 25 = .ok (.ireturn, 1) := by decide +kernel
theorem dX5_setMotif_26 : decode cX5_setMotif 26 = .ok (.iload_n 3, 1) := by decide +kernel
theorem dX5_setMotif_27 : decode cX5_setMotif 27 = .ok (.iconst 1, 1) := by decide +kernel
theorem dX5_setMotif_28 : decode cX5_setMotif 28 = .ok (.if_icmp .lt 18, 3) := by decide +kernel
theorem dX5_setMotif_31 : decode cX5_setMotif 31 = .ok (.iload_n 3, 1) := by decide +kernel
theorem dX5_setMotif_32 : decode cX5_setMotif 32 = .ok (.bipush 6, 2) := by decide +kernel
theorem dX5_setMotif_34 : decode cX5_setMotif 34 = .ok (.if_icmp .gt 12, 3) := by decide +kernel
theorem dX5_setMotif_37 : decode cX5_setMotif 37 = .ok (.iload_n 3, 1) := by decide +kernel
theorem dX5_setMotif_38 : decode cX5_setMotif 38 = .ok (.aload 4, 2) := by decide +kernel
theorem dX5_setMotif_40 : decode cX5_setMotif 40 = .ok (.getfield 98, 3) := by decide +kernel
theorem dX5_setMotif_43 : decode cX5_setMotif 43 = .ok (.if_icmp .le 6, 3) := by decide +kernel
theorem dX5_setMotif_46 : decode cX5_setMotif 46 = .ok (.bipush (-2), 2) := by decide +kernel
theorem dX5_setMotif_48 : decode cX5_setMotif 48 = .ok (.ireturn, 1) := by decide +kernel
theorem dX5_setMotif_49 : decode cX5_setMotif 49 = .ok (.aload_n 0, 1) := by decide +kernel
theorem dX5_setMotif_50 : decode cX5_setMotif 50 = .ok (.invokevirtual 41, 3) := by decide +kernel
theorem dX5_setMotif_53 : decode cX5_setMotif 53 = .ok (.aload 4, 2) := by decide +kernel
theorem dX5_setMotif_55 : decode cX5_setMotif 55 = .ok (.iconst 1, 1) := by decide +kernel
theorem dX5_setMotif_56 : decode cX5_setMotif 56 = .ok (.invokevirtual 127, 3) := by decide +kernel
theorem dX5_setMotif_59 : decode cX5_setMotif 59 = .ok (.istore 5, 2) := by decide +kernel
theorem dX5_setMotif_61 : decode cX5_setMotif 61 = .ok (.aload_n 0, 1) := by decide +kernel
theorem dX5_setMotif_62 : decode cX5_setMotif 62 = .ok (.getfield 10, 3) := by decide +kernel
theorem dX5_setMotif_65 : decode cX5_setMotif 65 = .ok (.getfield 156, 3) := by decide +kernel
theorem dX5_setMotif_68 : decode cX5_setMotif 68 = .ok (.invokevirtual 160, 3) := by decide +kernel
theorem dX5_setMotif_71 : decode cX5_setMotif 71 = .ok (.iconst 0, 1) := by decide +kernel
theorem dX5_setMotif_72 : decode cX5_setMotif 72 = .ok (.istore 6, 2) := by decide +kernel
theorem dX5_setMotif_74 : decode cX5_setMotif 74 = .ok (.iload 6, 2) := by decide +kernel
theorem dX5_setMotif_76 : decode cX5_setMotif 76 = .ok (.iload_n 3, 1) := by decide +kernel
theorem dX5_setMotif_77 : decode cX5_setMotif 77 = .ok (.if_icmp .ge 35, 3) := by decide +kernel
theorem dX5_setMotif_80 : decode cX5_setMotif 80 = .ok (.aload_n 0, 1) := by decide +kernel
theorem dX5_setMotif_81 : decode cX5_setMotif 81 = .ok (.getfield 10, 3) := by decide +kernel
theorem dX5_setMotif_84 : decode cX5_setMotif 84 = .ok (.getfield 156, 3) := by decide +kernel
theorem dX5_setMotif_87 : decode cX5_setMotif 87 = .ok (.aload 4, 2) := by decide +kernel
theorem dX5_setMotif_89 : decode cX5_setMotif 89 = .ok (.iload 5, 2) := by decide +kernel
theorem dX5_setMotif_91 : decode cX5_setMotif 91 = .ok (.aload 4, 2) := by decide +kernel
theorem dX5_setMotif_93 : decode cX5_setMotif 93 = .ok (.iload_n 2, 1) := by decide +kernel
theorem dX5_setMotif_94 : decode cX5_setMotif 94 = .ok (.iload 6, 2) := by decide +kernel
theorem dX5_setMotif_96 : decode cX5_setMotif 96 = .ok (.iadd, 1) := by decide +kernel
theorem dX5_setMotif_97 : decode cX5_setMotif 97 = .ok (.invokevirtual 165, 3) := by decide +kernel
theorem dX5_setMotif_100 : decode cX5_setMotif 100 = .ok (.invokevirtual 130, 3) := by decide +kernel
theorem dX5_setMotif_103 : decode cX5_setMotif 103 = .ok (.invokevirtual 168, 3) := by decide +kernel
theorem dX5_setMotif_106 : decode cX5_setMotif 106 = .ok (.iinc 6 1, 3) := by decide +kernel
theorem dX5_setMotif_109 : decode cX5_setMotif 109 = .ok (.goto (-35), 3) := by decide +kernel
theorem dX5_setMotif_112 : decode cX5_setMotif 112 = .ok (.aload_n 0, 1) := by decide +kernel
theorem dX5_setMotif_113 : decode cX5_setMotif 113 = .ok (.getfield 10, 3) := by decide +kernel
theorem dX5_setMotif_116 : decode cX5_setMotif 116 = .ok (.getfield 156, 3) := by decide +kernel
theorem dX5_setMotif_119 : decode cX5_setMotif 119 = .ok (.aload 4, 2) := by decide +kernel
theorem dX5_setMotif_121 : decode cX5_setMotif 121 = .ok (.invokevirtual 171, 3) := by decide +kernel
theorem dX5_setMotif_124 : decode cX5_setMotif 124 = .ok (.invokestatic 174, 3) := by decide +kernel
theorem dX5_setMotif_127 : decode cX5_setMotif 127 = .ok (.ireturn, 1) := by decide +kernel
set_option maxRecDepth 20000 in
theorem ggX5_sign_X5_isKindOrEmpty : GoodIn wsX5_sign wsX5_isKindOrEmpty := goodIn_r _ [5, 6, 7, 4, 8] (by decide +kernel) (by decide +kernel)
set_option maxRecDepth 20000 in
theorem gX5_sign_X5_isKindOrEmpty : GoodIn wsX5_sign (va_wsS RX5 182 yX5_isKindOrEmpty wsX5_isKindOrEmpty) := goodIn_app (goodIn_of _ (by decide +kernel)) ggX5_sign_X5_isKindOrEmpty
set_option maxRecDepth 20000 in
theorem ggX5_sign_X5_record : GoodIn wsX5_sign wsX5_record := goodIn_r _ [12, 13, 14, 1, 15, 16, 17, 4, 18, 19, 20, 21, 22, 23, 24, 25, 26, 27, 28, 29, 30, 31, 32, 33, 34, 35, 36, 37, 38, 39, 40, 41, 42, 43, 44, 45, 46, 47, 48, 49, 50, 51, 52, 53, 57, 58, 59, 60, 61, 62, 63, 64, 65, 66, 67, 68, 71, 72, 69, 70, 73, 74, 75] (by decide +kernel) (by decide +kernel)
set_option maxRecDepth 20000 in
theorem gX5_sign_X5_record : GoodIn wsX5_sign (wsV RX5 41 RX5 yX5_record wsX5_record) := goodIn_app (goodIn_of _ (by decide +kernel)) ggX5_sign_X5_record
set_option maxRecDepth 20000 in
theorem ggX5_sign_X0_addSign : GoodIn wsX5_sign wsX0_addSign := goodIn_r _ [56, 43, 44, 69, 70] (by decide +kernel) (by decide +kernel)
set_option maxRecDepth 20000 in
theorem gX5_sign_X0_addSign_n168 : GoodIn wsX5_sign (wsX0_addSign) := ggX5_sign_X0_addSign
theorem dX5_sign_0 : decode cX5_sign 0 = .ok (.aload_n 0, 1) := by decide +kernel
theorem dX5_sign_1 : decode cX5_sign 1 = .ok (.getfield 10, 3) := by decide +kernel
theorem dX5_sign_4 : decode cX5_sign 4 = .ok (.getfield 156, 3) := by decide +kernel
theorem dX5_sign_7 : decode cX5_sign 7 = .ok (.astore_n 3, 1) := by decide +kernel
theorem dX5_sign_8 : decode cX5_sign 8 = .ok (.iload_n 1, 1) := by decide +kernel
theorem dX5_sign_9 : decode cX5_sign 9 = .ok (.ifCond .lt 17, 3) := by decide +kernel
theorem dX5_sign_12 : decode cX5_sign 12 = .ok (.iload_n 1, 1) := by decide +kernel
theorem dX5_sign_13 : decode cX5_sign 13 = .ok (.aload_n 3, 1) := by decide +kernel
theorem dX5_sign_14 : decode cX5_sign 14 = .ok (.getfield 179, 3) := by decide +kernel
theorem dX5_sign_17 : decode cX5_sign 17 = .ok (.if_icmp .gt 9, 3) := by decide +kernel
theorem dX5_sign_20 : decode cX5_sign 20 = .ok (.iload_n 1, 1) := by decide +kernel
theorem dX5_sign_21 : decode cX5_sign 21 = .ok (.bipush 6, 2) := by decide +kernel
theorem dX5_sign_23 : decode cX5_sign 23 = .ok (.if_icmp .lt 5, 3) := by decide +kernel
theorem dX5_sign_26 : decode cX5_sign 26 = .ok (.iconst (-1), 1) := by decide +kernel
theorem dX5_sign_27 : decode cX5_sign 27 = .ok (.ireturn, 1) := by decide +kernel
theorem dX5_sign_28 : decode cX5_sign 28 = .ok (.iload_n 2, 1) := by decide +kernel
theorem dX5_sign_29 : decode cX5_sign 29 = .ok (.invokestatic 182, 3) := by decide +kernel
theorem dX5_sign_32 : decode cX5_sign 32 = .ok (.ifCond .ne 12, 3) := by decide +kernel
theorem dX5_sign_35 : decode cX5_sign 35 = .ok (.iload_n 2, 1) := by decide +kernel
theorem dX5_sign_36 : decode cX5_sign 36 = .ok (.bipush 9, 2) := by decide +kernel
theorem dX5_sign_38 : decode cX5_sign 38 = .ok (.if_icmp .eq 6, 3) := by decide +kernel
theorem dX5_sign_41 : decode cX5_sign 41 = .ok (.bipush (-2), 2) := by decide +kernel
theorem dX5_sign_43 : decode cX5_sign 43 = .ok (.ireturn, 1) := by decide +kernel
theorem dX5_sign_44 : decode cX5_sign 44 = .ok (.aload_n 0, 1) := by decide +kernel
theorem dX5_sign_45 : decode cX5_sign 45 = .ok (.invokevirtual 41, 3) := by decide +kernel
theorem dX5_sign_48 : decode cX5_sign 48 = .ok (.iload_n 1, 1) := by decide +kernel
theorem dX5_sign_49 : decode cX5_sign 49 = .ok (.aload_n 3, 1) := by decide +kernel
theorem dX5_sign_50 : decode cX5_sign 50 = .ok (.getfield 179, 3) := by decide +kernel
theorem dX5_sign_53 : decode cX5_sign 53 = .ok (.if_icmp .ne 11, 3) := by decide +kernel
theorem dX5_sign_56 : decode cX5_sign 56 = .ok (.aload_n 3, 1) := by decide +kernel
theorem dX5_sign_57 : decode cX5_sign 57 = .ok (.iload_n 2, 1) := by decide +kernel
theorem dX5_sign_58 : decode cX5_sign 58 = .ok (.invokevirtual 168, 3) := by decide +kernel
theorem dX5_sign_61 : decode cX5_sign 61 = .ok (.goto 10, 3) := by decide +kernel
theorem dX5_sign_64 : decode cX5_sign 64 = .ok (.aload_n 3, 1) := by decide +kernel
theorem dX5_sign_65 : decode cX5_sign 65 = .ok (.getfield 185, 3) := by decide +kernel
theorem dX5_sign_68 : decode cX5_sign 68 = .ok (.iload_n 1, 1) := by decide +kernel
theorem dX5_sign_69 : decode cX5_sign 69 = .ok (.iload_n 2, 1) := by decide +kernel
theorem dX5_sign_70 : decode cX5_sign 70 = .ok (.iastore, 1) := by decide +kernel
theorem dX5_sign_71 : decode cX5_sign 71 = .ok (.aload_n 3, 1) := by decide +kernel
theorem dX5_sign_72 : decode cX5_sign 72 = .ok (.getfield 179, 3) := by decide +kernel
theorem dX5_sign_75 : decode cX5_sign 75 = .ok (.ireturn, 1) := by decide +kernel
set_option maxRecDepth 20000 in
theorem ggX5_cutMotif_X5_record : GoodIn wsX5_cutMotif wsX5_record := goodIn_r _ [6, 7, 8, 1, 9, 10, 11, 5, 12, 13, 14, 15, 16, 17, 18, 19, 20, 21, 22, 23, 24, 25, 26, 27, 28, 29, 30, 31, 32, 33, 34, 35, 36, 37, 38, 39, 40, 41, 42, 43, 44, 45, 46, 47, 48, 49, 50, 51, 52, 53, 54, 55, 56, 57, 58, 59, 62, 63, 60, 61, 64, 65, 66] (by decide +kernel) (by decide +kernel)
set_option maxRecDepth 20000 in
theorem gX5_cutMotif_X5_record : GoodIn wsX5_cutMotif (wsV RX5 41 RX5 yX5_record wsX5_record) := goodIn_app (goodIn_of _ (by decide +kernel)) ggX5_cutMotif_X5_record
theorem dX5_cutMotif_0 : decode cX5_cutMotif 0 = .ok (.aload_n 0, 1) := by decide +kernel
theorem dX5_cutMotif_1 : decode cX5_cutMotif 1 = .ok (.getfield 10, 3) := by decide +kernel
theorem dX5_cutMotif_4 : decode cX5_cutMotif 4 = .ok (.getfield 156, 3) := by decide +kernel
theorem dX5_cutMotif_7 : decode cX5_cutMotif 7 = .ok (.getfield 179, 3) := by decide +kernel
theorem dX5_cutMotif_10 : decode cX5_cutMotif 10 = .ok (.iconst 1, 1) := by decide +kernel
theorem dX5_cutMotif_11 : decode cX5_cutMotif 11 = .ok (.if_icmp .ge 6, 3) := by decide +kernel
theorem dX5_cutMotif_14 : decode cX5_cutMotif 14 = .ok (.bipush (-3), 2) := by decide +kernel
theorem dX5_cutMotif_16 : decode cX5_cutMotif 16 = .ok (.ireturn, 1) := by decide +kernel
theorem dX5_cutMotif_17 : decode cX5_cutMotif 17 = .ok (.aload_n 0, 1) := by decide +kernel
theorem dX5_cutMotif_18 : decode cX5_cutMotif 18 = .ok (.invokevirtual 41, 3) := by decide +kernel
theorem dX5_cutMotif_21 : decode cX5_cutMotif 21 = .ok (.aload_n 0, 1) := by decide +kernel
theorem dX5_cutMotif_22 : decode cX5_cutMotif 22 = .ok (.getfield 10, 3) := by decide +kernel
theorem dX5_cutMotif_25 : decode cX5_cutMotif 25 = .ok (.getfield 156, 3) := by decide +kernel
theorem dX5_cutMotif_28 : decode cX5_cutMotif 28 = .ok (.dup, 1) := by decide +kernel
theorem dX5_cutMotif_29 : decode cX5_cutMotif 29 = .ok (.getfield 179, 3) := by decide +kernel
theorem dX5_cutMotif_32 : decode cX5_cutMotif 32 = .ok (.iconst 1, 1) := by decide +kernel
theorem dX5_cutMotif_33 : decode cX5_cutMotif 33 = .ok (.isub, 1) := by decide +kernel
theorem dX5_cutMotif_34 : decode cX5_cutMotif 34 = .ok (.putfield 179, 3) := by decide +kernel
theorem dX5_cutMotif_37 : decode cX5_cutMotif 37 = .ok (.aload_n 0, 1) := by decide +kernel
theorem dX5_cutMotif_38 : decode cX5_cutMotif 38 = .ok (.getfield 10, 3) := by decide +kernel
theorem dX5_cutMotif_41 : decode cX5_cutMotif 41 = .ok (.getfield 156, 3) := by decide +kernel
theorem dX5_cutMotif_44 : decode cX5_cutMotif 44 = .ok (.getfield 179, 3) := by decide +kernel
theorem dX5_cutMotif_47 : decode cX5_cutMotif 47 = .ok (.ireturn, 1) := by decide +kernel
theorem dX5_motif_0 : decode cX5_motif 0 = .ok (.iload_n 1, 1) := by decide +kernel
theorem dX5_motif_1 : decode cX5_motif 1 = .ok (.ifCond .lt 17, 3) := by decide +kernel
theorem dX5_motif_4 : decode cX5_motif 4 = .ok (.iload_n 1, 1) := by decide +kernel
theorem dX5_motif_5 : decode cX5_motif 5 = .ok (.aload_n 0, 1) := by decide +kernel
theorem dX5_motif_6 : decode cX5_motif 6 = .ok (.getfield 10, 3) := by decide +kernel
theorem dX5_motif_9 : decode cX5_motif 9 = .ok (.getfield 156, 3) := by decide +kernel
theorem dX5_motif_12 : decode cX5_motif 12 = .ok (.getfield 179, 3) := by decide +kernel
theorem dX5_motif_15 : decode cX5_motif 15 = .ok (.if_icmp .lt 5, 3) := by decide +kernel
theorem dX5_motif_18 : decode cX5_motif 18 = .ok (.iconst (-1), 1) := by decide +kernel
theorem dX5_motif_19 : decode cX5_motif 19 = .ok (.ireturn, 1) := by decide +kernel
theorem dX5_motif_20 : decode cX5_motif 20 = .ok (.aload_n 0, 1) := by decide +kernel
theorem dX5_motif_21 : decode cX5_motif 21 = .ok (.getfield 10, 3) := by decide +kernel
theorem dX5_motif_24 : decode cX5_motif 24 = .ok (.getfield 156, 3) := by decide +kernel
theorem dX5_motif_27 : decode cX5_motif 27 = .ok (.getfield 185, 3) := by decide +kernel
theorem dX5_motif_30 : decode cX5_motif 30 = .ok (.iload_n 1, 1) := by decide +kernel
theorem dX5_motif_31 : decode cX5_motif 31 = .ok (.iaload, 1) := by decide +kernel
theorem dX5_motif_32 : decode cX5_motif 32 = .ok (.ireturn, 1) := by decide +kernel
set_option maxRecDepth 20000 in
theorem ggX5_motifAt_X3_find : GoodIn wsX5_motifAt wsX3_find := goodIn_r _ [5, 6, 33, 34, 35, 36, 37, 38, 39] (by decide +kernel) (by decide +kernel)
set_option maxRecDepth 20000 in
theorem gX5_motifAt_X3_find_n66 : GoodIn wsX5_motifAt (wsX3_find) := ggX5_motifAt_X3_find
set_option maxRecDepth 20000 in
theorem ggX5_motifAt_X0_slotSet : GoodIn wsX5_motifAt wsX0_slotSet := goodIn_r _ [10, 11, 12, 13, 8, 14, 15, 16, 17, 18, 19, 20, 21, 22, 23, 24, 25, 38, 39, 40, 41] (by decide +kernel) (by decide +kernel)
set_option maxRecDepth 20000 in
theorem gX5_motifAt_X0_slotSet_n171 : GoodIn wsX5_motifAt (wsX0_slotSet) := ggX5_motifAt_X0_slotSet
theorem dX5_motifAt_0 : decode cX5_motifAt 0 = .ok (.aload_n 0, 1) := by decide +kernel
theorem dX5_motifAt_1 : decode cX5_motifAt 1 = .ok (.getfield 10, 3) := by decide +kernel
theorem dX5_motifAt_4 : decode cX5_motifAt 4 = .ok (.iload_n 1, 1) := by decide +kernel
theorem dX5_motifAt_5 : decode cX5_motifAt 5 = .ok (.invokevirtual 66, 3) := by decide +kernel
theorem dX5_motifAt_8 : decode cX5_motifAt 8 = .ok (.astore_n 2, 1) := by decide +kernel
theorem dX5_motifAt_9 : decode cX5_motifAt 9 = .ok (.aload_n 2, 1) := by decide +kernel
theorem dX5_motifAt_10 : decode cX5_motifAt 10 = .ok (.ifnonnull 5, 3) := by decide +kernel
theorem dX5_motifAt_13 : decode cX5_motifAt 13 = .ok (.iconst (-1), 1) := by decide +kernel
theorem dX5_motifAt_14 : decode cX5_motifAt 14 = .ok (.ireturn, 1) := by decide +kernel
theorem dX5_motifAt_15 : decode cX5_motifAt 15 = .ok (.aload_n 0, 1) := by decide +kernel
theorem dX5_motifAt_16 : decode cX5_motifAt 16 = .ok (.getfield 10, 3) := by decide +kernel
theorem dX5_motifAt_19 : decode cX5_motifAt 19 = .ok (.getfield 156, 3) := by decide +kernel
theorem dX5_motifAt_22 : decode cX5_motifAt 22 = .ok (.aload_n 2, 1) := by decide +kernel
theorem dX5_motifAt_23 : decode cX5_motifAt 23 = .ok (.invokevirtual 171, 3) := by decide +kernel
theorem dX5_motifAt_26 : decode cX5_motifAt 26 = .ok (.ireturn, 1) := by decide +kernel
set_option maxRecDepth 20000 in
theorem ggX5_staysAt_X3_find : GoodIn wsX5_staysAt wsX3_find := goodIn_r _ [5, 6, 40, 41, 42, 43, 44, 45, 46] (by decide +kernel) (by decide +kernel)
set_option maxRecDepth 20000 in
theorem gX5_staysAt_X3_find_n66 : GoodIn wsX5_staysAt (wsX3_find) := ggX5_staysAt_X3_find
set_option maxRecDepth 20000 in
theorem ggX5_staysAt_X0_slotSet : GoodIn wsX5_staysAt wsX0_slotSet := goodIn_r _ [10, 11, 12, 13, 8, 14, 15, 16, 17, 18, 19, 20, 21, 22, 23, 24, 25, 45, 46, 47, 48] (by decide +kernel) (by decide +kernel)
set_option maxRecDepth 20000 in
theorem gX5_staysAt_X0_slotSet_n171 : GoodIn wsX5_staysAt (wsX0_slotSet) := ggX5_staysAt_X0_slotSet
set_option maxRecDepth 20000 in
theorem ggX5_staysAt_X2_slotsTurnedInto : GoodIn wsX5_staysAt wsX2_slotsTurnedInto := goodIn_r _ [28, 21, 29, 30, 31, 32, 17, 19, 18, 20, 45, 46] (by decide +kernel) (by decide +kernel)
set_option maxRecDepth 20000 in
theorem gX5_staysAt_X2_slotsTurnedInto_n188 : GoodIn wsX5_staysAt (wsX2_slotsTurnedInto) := ggX5_staysAt_X2_slotsTurnedInto
theorem dX5_staysAt_0 : decode cX5_staysAt 0 = .ok (.aload_n 0, 1) := by decide +kernel
theorem dX5_staysAt_1 : decode cX5_staysAt 1 = .ok (.getfield 10, 3) := by decide +kernel
theorem dX5_staysAt_4 : decode cX5_staysAt 4 = .ok (.iload_n 1, 1) := by decide +kernel
theorem dX5_staysAt_5 : decode cX5_staysAt 5 = .ok (.invokevirtual 66, 3) := by decide +kernel
theorem dX5_staysAt_8 : decode cX5_staysAt 8 = .ok (.astore_n 2, 1) := by decide +kernel
theorem dX5_staysAt_9 : decode cX5_staysAt 9 = .ok (.aload_n 2, 1) := by decide +kernel
theorem dX5_staysAt_10 : decode cX5_staysAt 10 = .ok (.ifnonnull 5, 3) := by decide +kernel
theorem dX5_staysAt_13 : decode cX5_staysAt 13 = .ok (.iconst (-1), 1) := by decide +kernel
theorem dX5_staysAt_14 : decode cX5_staysAt 14 = .ok (.ireturn, 1) := by decide +kernel
theorem dX5_staysAt_15 : decode cX5_staysAt 15 = .ok (.aload_n 0, 1) := by decide +kernel
theorem dX5_staysAt_16 : decode cX5_staysAt 16 = .ok (.getfield 10, 3) := by decide +kernel
theorem dX5_staysAt_19 : decode cX5_staysAt 19 = .ok (.getfield 156, 3) := by decide +kernel
theorem dX5_staysAt_22 : decode cX5_staysAt 22 = .ok (.aload_n 2, 1) := by decide +kernel
theorem dX5_staysAt_23 : decode cX5_staysAt 23 = .ok (.invokevirtual 171, 3) := by decide +kernel
theorem dX5_staysAt_26 : decode cX5_staysAt 26 = .ok (.istore_n 3, 1) := by decide +kernel
theorem dX5_staysAt_27 : decode cX5_staysAt 27 = .ok (.iload_n 3, 1) := by decide +kernel
theorem dX5_staysAt_28 : decode cX5_staysAt 28 = .ok (.istore 4, 2) := by decide +kernel
theorem dX5_staysAt_30 : decode cX5_staysAt 30 = .ok (.iconst 1, 1) := by decide +kernel
theorem dX5_staysAt_31 : decode cX5_staysAt 31 = .ok (.istore 5, 2) := by decide +kernel
theorem dX5_staysAt_33 : decode cX5_staysAt 33 = .ok (.iload 5, 2) := by decide +kernel
theorem dX5_staysAt_35 : decode cX5_staysAt 35 = .ok (.iconst 4, 1) := by decide +kernel
theorem dX5_staysAt_36 : decode cX5_staysAt 36 = .ok (.if_icmp .ge 21, 3) := by decide +kernel
theorem dX5_staysAt_39 : decode cX5_staysAt 39 = .ok (.iload 4, 2) := by decide +kernel
theorem dX5_staysAt_41 : decode cX5_staysAt 41 = .ok (.aload_n 2, 1) := by decide +kernel
theorem dX5_staysAt_42 : decode cX5_staysAt 42 = .ok (.iload_n 3, 1) := by decide +kernel
theorem dX5_staysAt_43 : decode cX5_staysAt 43 = .ok (.iload 5, 2) := by decide +kernel
theorem dX5_staysAt_45 : decode cX5_staysAt 45 = .ok (.invokevirtual 188, 3) := by decide +kernel
theorem dX5_staysAt_48 : decode cX5_staysAt 48 = .ok (.iand, 1) := by decide +kernel
theorem dX5_staysAt_49 : decode cX5_staysAt 49 = .ok (.istore 4, 2) := by decide +kernel
theorem dX5_staysAt_51 : decode cX5_staysAt 51 = .ok (.iinc 5 1, 3) := by decide +kernel
theorem dX5_staysAt_54 : decode cX5_staysAt 54 = .ok (.goto (-21), 3) := by decide +kernel
theorem dX5_staysAt_57 : decode cX5_staysAt 57 = .ok (.iload 4, 2) := by decide +kernel
theorem dX5_staysAt_59 : decode cX5_staysAt 59 = .ok (.ireturn, 1) := by decide +kernel
set_option maxRecDepth 20000 in
theorem ggX5_note_X3_find : GoodIn wsX5_note wsX3_find := goodIn_r _ [5, 6, 95, 96, 97, 98, 99, 100, 101] (by decide +kernel) (by decide +kernel)
set_option maxRecDepth 20000 in
theorem gX5_note_X3_find_n66 : GoodIn wsX5_note (wsX3_find) := ggX5_note_X3_find
set_option maxRecDepth 20000 in
theorem ggX5_note_X1_entryOf : GoodIn wsX5_note wsX1_entryOf := goodIn_r _ [10, 11, 12, 13, 14, 15, 16, 17, 18, 19, 20, 21, 22, 23, 24, 25, 26, 27, 28, 29, 30, 31, 32, 33, 34, 35, 36, 37, 38, 39, 40, 41, 42, 43, 44, 45, 46, 47, 102, 103, 104, 100, 101] (by decide +kernel) (by decide +kernel)
set_option maxRecDepth 20000 in
theorem gX5_note_X1_entryOf_n195 : GoodIn wsX5_note (wsX1_entryOf) := ggX5_note_X1_entryOf
set_option maxRecDepth 20000 in
theorem ggX5_note_X5_record : GoodIn wsX5_note wsX5_record := goodIn_r _ [51, 52, 53, 1, 54, 55, 56, 27, 57, 58, 3, 59, 60, 61, 62, 63, 64, 65, 66, 6, 67, 68, 69, 14, 70, 71, 17, 47, 72, 73, 74, 75, 76, 77, 78, 79, 80, 8, 81, 82, 11, 12, 83, 84, 88, 89, 90, 91, 92, 93, 94, 95, 96, 97, 98, 99, 100, 101, 105, 106, 102, 103, 104] (by decide +kernel) (by decide +kernel)
set_option maxRecDepth 20000 in
theorem gX5_note_X5_record : GoodIn wsX5_note (wsV RX5 41 RX5 yX5_record wsX5_record) := goodIn_app (goodIn_of _ (by decide +kernel)) ggX5_note_X5_record
set_option maxRecDepth 20000 in
theorem ggX5_note_X1_count : GoodIn wsX5_note wsX1_count := goodIn_r _ [87, 12, 11, 83, 69, 14, 70, 71, 17, 47, 72, 63, 64, 65, 102, 103, 104, 100, 101] (by decide +kernel) (by decide +kernel)
set_option maxRecDepth 20000 in
theorem gX5_note_X1_count_n200 : GoodIn wsX5_note (wsX1_count) := ggX5_note_X1_count
theorem dX5_note_0 : decode cX5_note 0 = .ok (.aload_n 0, 1) := by decide +kernel
theorem dX5_note_1 : decode cX5_note 1 = .ok (.getfield 10, 3) := by decide +kernel
theorem dX5_note_4 : decode cX5_note 4 = .ok (.iload_n 1, 1) := by decide +kernel
theorem dX5_note_5 : decode cX5_note 5 = .ok (.invokevirtual 66, 3) := by decide +kernel
theorem dX5_note_8 : decode cX5_note 8 = .ok (.astore_n 2, 1) := by decide +kernel
theorem dX5_note_9 : decode cX5_note 9 = .ok (.aload_n 2, 1) := by decide +kernel
theorem dX5_note_10 : decode cX5_note 10 = .ok (.ifnonnull 5, 3) := by decide +kernel
theorem dX5_note_13 : decode cX5_note 13 = .ok (.iconst (-1), 1) := by decide +kernel
theorem dX5_note_14 : decode cX5_note 14 = .ok (.ireturn, 1) := by decide +kernel
theorem dX5_note_15 : decode cX5_note 15 = .ok (.aload_n 0, 1) := by decide +kernel
theorem dX5_note_16 : decode cX5_note 16 = .ok (.getfield 10, 3) := by decide +kernel
theorem dX5_note_19 : decode cX5_note 19 = .ok (.getfield 191, 3) := by decide +kernel
theorem dX5_note_22 : decode cX5_note 22 = .ok (.aload_n 2, 1) := by decide +kernel
theorem dX5_note_23 : decode cX5_note 23 = .ok (.invokevirtual 195, 3) := by decide +kernel
theorem dX5_note_26 : decode cX5_note 26 = .ok (.istore_n 3, 1) := by decide +kernel
theorem dX5_note_27 : decode cX5_note 27 = .ok (.iload_n 3, 1) := by decide +kernel
theorem dX5_note_28 : decode cX5_note 28 = .ok (.bipush 10, 2) := by decide +kernel
theorem dX5_note_30 : decode cX5_note 30 = .ok (.if_icmp .lt 6, 3) := by decide +kernel
theorem dX5_note_33 : decode cX5_note 33 = .ok (.bipush (-4), 2) := by decide +kernel
theorem dX5_note_35 : decode cX5_note 35 = .ok (.ireturn, 1) := by decide +kernel
theorem dX5_note_36 : decode cX5_note 36 = .ok (.aload_n 0, 1) := by decide +kernel
theorem dX5_note_37 : decode cX5_note 37 = .ok (.invokevirtual 41, 3) := by decide +kernel
theorem dX5_note_40 : decode cX5_note 40 = .ok (.aload_n 0, 1) := by decide +kernel
theorem dX5_note_41 : decode cX5_note 41 = .ok (.getfield 10, 3) := by decide +kernel
theorem dX5_note_44 : decode cX5_note 44 = .ok (.getfield 191, 3) := by decide +kernel
theorem dX5_note_47 : decode cX5_note 47 = .ok (.iload_n 3, 1) := by decide +kernel
theorem dX5_note_48 : decode cX5_note 48 = .ok (.aload_n 2, 1) := by decide +kernel
theorem dX5_note_49 : decode cX5_note 49 = .ok (.invokevirtual 200, 3) := by decide +kernel
theorem dX5_note_52 : decode cX5_note 52 = .ok (.iload_n 3, 1) := by decide +kernel
theorem dX5_note_53 : decode cX5_note 53 = .ok (.ireturn, 1) := by decide +kernel
theorem dX5_entries_0 : decode cX5_entries 0 = .ok (.aload_n 0, 1) := by decide +kernel
theorem dX5_entries_1 : decode cX5_entries 1 = .ok (.getfield 10, 3) := by decide +kernel
theorem dX5_entries_4 : decode cX5_entries 4 = .ok (.getfield 191, 3) := by decide +kernel
theorem dX5_entries_7 : decode cX5_entries 7 = .ok (.getfield 204, 3) := by decide +kernel
theorem dX5_entries_10 : decode cX5_entries 10 = .ok (.ireturn, 1) := by decide +kernel
set_option maxRecDepth 20000 in
theorem ggX5_entry_X3_ringsAlike : GoodIn wsX5_entry wsX3_ringsAlike := goodIn_r _ [5, 6, 7, 8, 9, 10, 11, 12, 13, 14, 15, 16, 17, 18, 19, 20, 21, 22, 23, 24, 25, 26, 27, 28, 29, 30, 31, 32, 33, 34, 35, 36, 37, 38, 39, 40, 41, 49, 50, 51, 52, 53, 57, 58] (by decide +kernel) (by decide +kernel)
set_option maxRecDepth 20000 in
theorem gX5_entry_X3_ringsAlike_n212 : GoodIn wsX5_entry (wsX3_ringsAlike) := ggX5_entry_X3_ringsAlike
theorem dX5_entry_0 : decode cX5_entry 0 = .ok (.iload_n 1, 1) := by decide +kernel
theorem dX5_entry_1 : decode cX5_entry 1 = .ok (.ifCond .lt 17, 3) := by decide +kernel
theorem dX5_entry_4 : decode cX5_entry 4 = .ok (.iload_n 1, 1) := by decide +kernel
theorem dX5_entry_5 : decode cX5_entry 5 = .ok (.aload_n 0, 1) := by decide +kernel
theorem dX5_entry_6 : decode cX5_entry 6 = .ok (.getfield 10, 3) := by decide +kernel
theorem dX5_entry_9 : decode cX5_entry 9 = .ok (.getfield 191, 3) := by decide +kernel
theorem dX5_entry_12 : decode cX5_entry 12 = .ok (.getfield 204, 3) := by decide +kernel
theorem dX5_entry_15 : decode cX5_entry 15 = .ok (.if_icmp .lt 5, 3) := by decide +kernel
theorem dX5_entry_18 : decode cX5_entry 18 = .ok (.iconst (-1), 1) := by decide +kernel
theorem dX5_entry_19 : decode cX5_entry 19 = .ok (.ireturn, 1) := by decide +kernel
theorem dX5_entry_20 : decode cX5_entry 20 = .ok (.aload_n 0, 1) := by decide +kernel
theorem dX5_entry_21 : decode cX5_entry 21 = .ok (.getfield 10, 3) := by decide +kernel
theorem dX5_entry_24 : decode cX5_entry 24 = .ok (.getfield 191, 3) := by decide +kernel
theorem dX5_entry_27 : decode cX5_entry 27 = .ok (.getfield 205, 3) := by decide +kernel
theorem dX5_entry_30 : decode cX5_entry 30 = .ok (.iload_n 1, 1) := by decide +kernel
theorem dX5_entry_31 : decode cX5_entry 31 = .ok (.aaload, 1) := by decide +kernel
theorem dX5_entry_32 : decode cX5_entry 32 = .ok (.astore_n 3, 1) := by decide +kernel
theorem dX5_entry_33 : decode cX5_entry 33 = .ok (.iload_n 2, 1) := by decide +kernel
theorem dX5_entry_34 : decode cX5_entry 34 = .ok (.tableswitch 54 0 2 #[26, 31, 44], 26) := by decide +kernel
theorem dX5_entry_60 : decode cX5_entry 60 = .ok (.aload_n 3, 1) := by decide +kernel
theorem dX5_entry_61 : decode cX5_entry 61 = .ok (.getfield 98, 3) := by decide +kernel
theorem dX5_entry_64 : decode cX5_entry 64 = .ok (.ireturn, 1) := by decide +kernel
theorem dX5_entry_65 : decode cX5_entry 65 = .ok (.aload_n 0, 1) := by decide +kernel
theorem dX5_entry_66 : decode cX5_entry 66 = .ok (.getfield 10, 3) := by decide +kernel
theorem dX5_entry_69 : decode cX5_entry 69 = .ok (.getfield 191, 3) := by decide +kernel
theorem dX5_entry_72 : decode cX5_entry 72 = .ok (.getfield 209, 3) := by decide +kernel
theorem dX5_entry_75 : decode cX5_entry 75 = .ok (.iload_n 1, 1) := by decide +kernel
theorem dX5_entry_76 : decode cX5_entry 76 = .ok (.iaload, 1) := by decide +kernel
theorem dX5_entry_77 : decode cX5_entry 77 = .ok (.ireturn, 1) := by decide +kernel
theorem dX5_entry_78 : decode cX5_entry 78 = .ok (.aload_n 0, 1) := by decide +kernel
theorem dX5_entry_79 : decode cX5_entry 79 = .ok (.getfield 10, 3) := by decide +kernel
theorem dX5_entry_82 : decode cX5_entry 82 = .ok (.aload_n 3, 1) := by decide +kernel
theorem dX5_entry_83 : decode cX5_entry 83 = .ok (.iconst 1, 1) := by decide +kernel
theorem dX5_entry_84 : decode cX5_entry 84 = .ok (.invokevirtual 212, 3) := by decide +kernel
theorem dX5_entry_87 : decode cX5_entry 87 = .ok (.ireturn, 1) := by decide +kernel
theorem dX5_entry_88 : decode cX5_entry 88 = .ok (.bipush (-2), 2) := by decide +kernel
theorem dX5_entry_90 : decode cX5_entry 90 = .ok (.ireturn, 1) := by decide +kernel
set_option maxRecDepth 20000 in
theorem ggX5_ifHung_X3_find : GoodIn wsX5_ifHung wsX3_find := goodIn_r _ [6, 7, 61, 62, 63, 64, 65, 66, 67] (by decide +kernel) (by decide +kernel)
set_option maxRecDepth 20000 in
theorem gX5_ifHung_X3_find_n66 : GoodIn wsX5_ifHung (wsX3_find) := ggX5_ifHung_X3_find
set_option maxRecDepth 20000 in
theorem ggX5_ifHung_X2_hasSlot : GoodIn wsX5_ifHung wsX2_hasSlot := goodIn_r _ [11, 12, 66, 67] (by decide +kernel) (by decide +kernel)
set_option maxRecDepth 20000 in
theorem gX5_ifHung_X2_hasSlot_n82 : GoodIn wsX5_ifHung (wsX2_hasSlot) := ggX5_ifHung_X2_hasSlot
set_option maxRecDepth 20000 in
theorem ggX5_ifHung_X5_isKindOrEmpty : GoodIn wsX5_ifHung wsX5_isKindOrEmpty := goodIn_r _ [16, 17, 18, 15, 19] (by decide +kernel) (by decide +kernel)
set_option maxRecDepth 20000 in
theorem gX5_ifHung_X5_isKindOrEmpty : GoodIn wsX5_ifHung (va_wsS RX5 182 yX5_isKindOrEmpty wsX5_isKindOrEmpty) := goodIn_app (goodIn_of _ (by decide +kernel)) ggX5_ifHung_X5_isKindOrEmpty
set_option maxRecDepth 20000 in
theorem ggX5_ifHung_X2_becomeLike : GoodIn wsX5_ifHung wsX2_becomeLike := goodIn_r _ [22, 12, 23, 24, 25, 26, 27, 66, 67] (by decide +kernel) (by decide +kernel)
set_option maxRecDepth 20000 in
theorem gX5_ifHung_X2_becomeLike_n215 : GoodIn wsX5_ifHung (wsX2_becomeLike) := ggX5_ifHung_X2_becomeLike
set_option maxRecDepth 20000 in
theorem ggX5_ifHung_X2_put : GoodIn wsX5_ifHung wsX2_put := goodIn_r _ [30, 23, 66, 67] (by decide +kernel) (by decide +kernel)
set_option maxRecDepth 20000 in
theorem gX5_ifHung_X2_put_n88 : GoodIn wsX5_ifHung (wsX2_put) := ggX5_ifHung_X2_put
set_option maxRecDepth 20000 in
theorem ggX5_ifHung_X0_slotSet : GoodIn wsX5_ifHung wsX0_slotSet := goodIn_r _ [34, 35, 36, 37, 32, 38, 39, 40, 41, 9, 42, 43, 12, 44, 45, 46, 23, 66, 67, 68, 69] (by decide +kernel) (by decide +kernel)
set_option maxRecDepth 20000 in
theorem gX5_ifHung_X0_slotSet_n171 : GoodIn wsX5_ifHung (wsX0_slotSet) := ggX5_ifHung_X0_slotSet
set_option maxRecDepth 20000 in
theorem ggX5_ifHung_J6_bitCount_0f7a4 : GoodIn wsX5_ifHung wsJ6_bitCount_0f7a4 := goodIn_r _ [50, 51, 52, 53] (by decide +kernel) (by decide +kernel)
set_option maxRecDepth 20000 in
theorem gX5_ifHung_J6_bitCount_0f7a4 : GoodIn wsX5_ifHung (va_wsS RX5 174 yJ6_bitCount_0f7a4 wsJ6_bitCount_0f7a4) := goodIn_app (goodIn_of _ (by decide +kernel)) ggX5_ifHung_J6_bitCount_0f7a4
theorem dX5_ifHung_0 : decode cX5_ifHung 0 = .ok (.aload_n 0, 1) := by decide +kernel
theorem dX5_ifHung_1 : decode cX5_ifHung 1 = .ok (.getfield 10, 3) := by decide +kernel
theorem dX5_ifHung_4 : decode cX5_ifHung 4 = .ok (.iload_n 1, 1) := by decide +kernel
theorem dX5_ifHung_5 : decode cX5_ifHung 5 = .ok (.invokevirtual 66, 3) := by decide +kernel
theorem dX5_ifHung_8 : decode cX5_ifHung 8 = .ok (.astore 4, 2) := by decide +kernel
theorem dX5_ifHung_10 : decode cX5_ifHung 10 = .ok (.aload 4, 2) := by decide +kernel
theorem dX5_ifHung_12 : decode cX5_ifHung 12 = .ok (.ifnull 12, 3) := by decide +kernel
theorem dX5_ifHung_15 : decode cX5_ifHung 15 = .ok (.aload 4, 2) := by decide +kernel
theorem dX5_ifHung_17 : decode cX5_ifHung 17 = .ok (.iload_n 2, 1) := by decide +kernel
theorem dX5_ifHung_18 : decode cX5_ifHung 18 = .ok (.invokevirtual 82, 3) := by decide +kernel
theorem dX5_ifHung_21 : decode cX5_ifHung 21 = .ok (.ifCond .ne 5, 3) := by decide +kernel
theorem dX5_ifHung_24 : decode cX5_ifHung 24 = .ok (.iconst (-1), 1) := by decide +kernel
theorem dX5_ifHung_25 : decode cX5_ifHung 25 = .ok (.ireturn, 1) := by decide +kernel
theorem dX5_ifHung_26 : decode cX5_ifHung 26 = .ok (.iload_n 3, 1) := by decide +kernel
theorem dX5_ifHung_27 : decode cX5_ifHung 27 = .ok (.invokestatic 182, 3) := by decide +kernel
theorem dX5_ifHung_30 : decode cX5_ifHung 30 = .ok (.ifCond .ne 6, 3) := by decide +kernel
theorem dX5_ifHung_33 : decode cX5_ifHung 33 = .ok (.bipush (-2), 2) := by decide +kernel
theorem dX5_ifHung_35 : decode cX5_ifHung 35 = .ok (.ireturn, 1) := by decide +kernel
theorem dX5_ifHung_36 : decode cX5_ifHung 36 = .ok (.aload_n 0, 1) := by decide +kernel
theorem dX5_ifHung_37 : decode cX5_ifHung 37 = .ok (.getfield 33, 3) := by decide +kernel
theorem dX5_ifHung_40 : decode cX5_ifHung 40 = .ok (.aload 4, 2) := by decide +kernel
theorem dX5_ifHung_42 : decode cX5_ifHung 42 = .ok (.invokevirtual 215, 3) := by decide +kernel
theorem dX5_ifHung_45 : decode cX5_ifHung 45 = .ok (.aload_n 0, 1) := by decide +kernel
theorem dX5_ifHung_46 : decode cX5_ifHung 46 = .ok (.getfield 33, 3) := by decide +kernel
theorem dX5_ifHung_49 : decode cX5_ifHung 49 = .ok (.iload_n 2, 1) := by decide +kernel
theorem dX5_ifHung_50 : decode cX5_ifHung 50 = .ok (.iload_n 3, 1) := by decide +kernel
theorem dX5_ifHung_51 : decode cX5_ifHung 51 = .ok (.invokevirtual 88, 3) := by decide +kernel
theorem dX5_ifHung_54 : decode cX5_ifHung 54 = .ok (.aload_n 0, 1) := by decide +kernel
theorem dX5_ifHung_55 : decode cX5_ifHung 55 = .ok (.getfield 10, 3) := by decide +kernel
theorem dX5_ifHung_58 : decode cX5_ifHung 58 = .ok (.getfield 156, 3) := by decide +kernel
theorem dX5_ifHung_61 : decode cX5_ifHung 61 = .ok (.aload_n 0, 1) := by decide +kernel
theorem dX5_ifHung_62 : decode cX5_ifHung 62 = .ok (.getfield 33, 3) := by decide +kernel
theorem dX5_ifHung_65 : decode cX5_ifHung 65 = .ok (.invokevirtual 171, 3) := by decide +kernel
theorem dX5_ifHung_68 : decode cX5_ifHung 68 = .ok (.invokestatic 174, 3) := by decide +kernel
theorem dX5_ifHung_71 : decode cX5_ifHung 71 = .ok (.ireturn, 1) := by decide +kernel
set_option maxRecDepth 20000 in
theorem ggX5_bestSwap_X3_find : GoodIn wsX5_bestSwap wsX3_find := goodIn_r _ [6, 7, 61, 62, 63, 64, 65, 59, 60] (by decide +kernel) (by decide +kernel)
set_option maxRecDepth 20000 in
theorem gX5_bestSwap_X3_find_n66 : GoodIn wsX5_bestSwap (wsX3_find) := ggX5_bestSwap_X3_find
set_option maxRecDepth 20000 in
theorem ggX5_bestSwap_X2_becomeLike : GoodIn wsX5_bestSwap wsX2_becomeLike := goodIn_r _ [11, 12, 13, 14, 15, 16, 17, 59, 60] (by decide +kernel) (by decide +kernel)
set_option maxRecDepth 20000 in
theorem gX5_bestSwap_X2_becomeLike_n215 : GoodIn wsX5_bestSwap (wsX2_becomeLike) := ggX5_bestSwap_X2_becomeLike
set_option maxRecDepth 20000 in
theorem ggX5_bestSwap_X3_lean : GoodIn wsX5_bestSwap wsX3_lean := goodIn_r _ [20, 21, 22, 23, 24, 25, 26, 27, 4, 28, 29, 30, 31, 32, 33, 34, 9, 35, 36, 13, 37, 38, 39, 59, 60, 61, 62, 63, 64, 65] (by decide +kernel) (by decide +kernel)
set_option maxRecDepth 20000 in
theorem gX5_bestSwap_X3_lean_n95 : GoodIn wsX5_bestSwap (wsX3_lean) := ggX5_bestSwap_X3_lean
set_option maxRecDepth 20000 in
theorem ggX5_bestSwap_X5_leanAfterSwap : GoodIn wsX5_bestSwap wsX5_leanAfterSwap := goodIn_r _ [43, 1, 44, 9, 45, 46, 47, 34, 35, 36, 13, 48, 49, 50, 51, 18, 4, 19, 20, 21, 22, 23, 24, 25, 26, 27, 28, 29, 30, 31, 32, 33, 37, 38, 39, 52, 53, 54, 55, 56, 57, 58, 59, 60, 61, 62, 63, 64, 65] (by decide +kernel) (by decide +kernel)
set_option maxRecDepth 20000 in
theorem gX5_bestSwap_X5_leanAfterSwap : GoodIn wsX5_bestSwap (wsV RX5 218 RX5 yX5_leanAfterSwap wsX5_leanAfterSwap) := goodIn_app (goodIn_of _ (by decide +kernel)) ggX5_bestSwap_X5_leanAfterSwap
theorem dX5_bestSwap_0 : decode cX5_bestSwap 0 = .ok (.aload_n 0, 1) := by decide +kernel
theorem dX5_bestSwap_1 : decode cX5_bestSwap 1 = .ok (.getfield 10, 3) := by decide +kernel
theorem dX5_bestSwap_4 : decode cX5_bestSwap 4 = .ok (.iload_n 1, 1) := by decide +kernel
theorem dX5_bestSwap_5 : decode cX5_bestSwap 5 = .ok (.invokevirtual 66, 3) := by decide +kernel
theorem dX5_bestSwap_8 : decode cX5_bestSwap 8 = .ok (.astore_n 2, 1) := by decide +kernel
theorem dX5_bestSwap_9 : decode cX5_bestSwap 9 = .ok (.aload_n 2, 1) := by decide +kernel
theorem dX5_bestSwap_10 : decode cX5_bestSwap 10 = .ok (.ifnonnull 5, 3) := by decide +kernel
theorem dX5_bestSwap_13 : decode cX5_bestSwap 13 = .ok (.iconst (-1), 1) := by decide +kernel
theorem dX5_bestSwap_14 : decode cX5_bestSwap 14 = .ok (.ireturn, 1) := by decide +kernel
theorem dX5_bestSwap_15 : decode cX5_bestSwap 15 = .ok (.aload_n 0, 1) := by decide +kernel
theorem dX5_bestSwap_16 : decode cX5_bestSwap 16 = .ok (.getfield 33, 3) := by decide +kernel
theorem dX5_bestSwap_19 : decode cX5_bestSwap 19 = .ok (.aload_n 2, 1) := by decide +kernel
theorem dX5_bestSwap_20 : decode cX5_bestSwap 20 = .ok (.invokevirtual 215, 3) := by decide +kernel
theorem dX5_bestSwap_23 : decode cX5_bestSwap 23 = .ok (.bipush (-6), 2) := by decide +kernel
theorem dX5_bestSwap_25 : decode cX5_bestSwap 25 = .ok (.istore_n 3, 1) := by decide +kernel
theorem dX5_bestSwap_26 : decode cX5_bestSwap 26 = .ok (.aload_n 0, 1) := by decide +kernel
theorem dX5_bestSwap_27 : decode cX5_bestSwap 27 = .ok (.getfield 10, 3) := by decide +kernel
theorem dX5_bestSwap_30 : decode cX5_bestSwap 30 = .ok (.aload_n 2, 1) := by decide +kernel
theorem dX5_bestSwap_31 : decode cX5_bestSwap 31 = .ok (.invokevirtual 95, 3) := by decide +kernel
theorem dX5_bestSwap_34 : decode cX5_bestSwap 34 = .ok (.istore 4, 2) := by decide +kernel
theorem dX5_bestSwap_36 : decode cX5_bestSwap 36 = .ok (.iconst 0, 1) := by decide +kernel
theorem dX5_bestSwap_37 : decode cX5_bestSwap 37 = .ok (.istore 5, 2) := by decide +kernel
theorem dX5_bestSwap_39 : decode cX5_bestSwap 39 = .ok (.iload 5, 2) := by decide +kernel
theorem dX5_bestSwap_41 : decode cX5_bestSwap 41 = .ok (.aload_n 0, 1) := by decide +kernel
theorem dX5_bestSwap_42 : decode cX5_bestSwap 42 = .ok (.getfield 33, 3) := by decide +kernel
theorem dX5_bestSwap_45 : decode cX5_bestSwap 45 = .ok (.getfield 98, 3) := by decide +kernel
theorem dX5_bestSwap_48 : decode cX5_bestSwap 48 = .ok (.if_icmp .ge 67, 3) := by decide +kernel
theorem dX5_bestSwap_51 : decode cX5_bestSwap 51 = .ok (.iload 5, 2) := by decide +kernel
theorem dX5_bestSwap_53 : decode cX5_bestSwap 53 = .ok (.iconst 1, 1) := by decide +kernel
theorem dX5_bestSwap_54 : decode cX5_bestSwap 54 = .ok (.iadd, 1) := by decide +kernel
theorem dX5_bestSwap_55 : decode cX5_bestSwap 55 = .ok (.istore 6, 2) := by decide +kernel
theorem dX5_bestSwap_57 : decode cX5_bestSwap 57 = .ok (.iload 6, 2) := by decide +kernel
theorem dX5_bestSwap_59 : decode cX5_bestSwap 59 = .ok (.aload_n 0, 1) := by decide +kernel
theorem dX5_bestSwap_60 : decode cX5_bestSwap 60 = .ok (.getfield 33, 3) := by decide +kernel
theorem dX5_bestSwap_63 : decode cX5_bestSwap 63 = .ok (.getfield 98, 3) := by decide +kernel
theorem dX5_bestSwap_66 : decode cX5_bestSwap 66 = .ok (.if_icmp .ge 43, 3) := by decide +kernel
theorem dX5_bestSwap_69 : decode cX5_bestSwap 69 = .ok (.aload_n 0, 1) := by decide +kernel
theorem dX5_bestSwap_70 : decode cX5_bestSwap 70 = .ok (.aload_n 0, 1) := by decide +kernel
theorem dX5_bestSwap_71 : decode cX5_bestSwap 71 = .ok (.getfield 33, 3) := by decide +kernel
theorem dX5_bestSwap_74 : decode cX5_bestSwap 74 = .ok (.iload 5, 2) := by decide +kernel
theorem dX5_bestSwap_76 : decode cX5_bestSwap 76 = .ok (.iload 6, 2) := by decide +kernel
theorem dX5_bestSwap_78 : decode cX5_bestSwap 78 = .ok (.invokevirtual 218, 3) := by decide +kernel
theorem dX5_bestSwap_81 : decode cX5_bestSwap 81 = .ok (.istore 7, 2) := by decide +kernel
theorem dX5_bestSwap_83 : decode cX5_bestSwap 83 = .ok (.iload 7, 2) := by decide +kernel
theorem dX5_bestSwap_85 : decode cX5_bestSwap 85 = .ok (.iload 4, 2) := by decide +kernel
theorem dX5_bestSwap_87 : decode cX5_bestSwap 87 = .ok (.if_icmp .ge 16, 3) := by decide +kernel
theorem dX5_bestSwap_90 : decode cX5_bestSwap 90 = .ok (.iload 7, 2) := by decide +kernel
theorem dX5_bestSwap_92 : decode cX5_bestSwap 92 = .ok (.istore 4, 2) := by decide +kernel
theorem dX5_bestSwap_94 : decode cX5_bestSwap 94 = .ok (.bipush 100, 2) := by decide +kernel
theorem dX5_bestSwap_96 : decode cX5_bestSwap 96 = .ok (.iload 5, 2) := by decide +kernel
theorem dX5_bestSwap_98 : decode cX5_bestSwap 98 = .ok (.imul, 1) := by decide +kernel
theorem dX5_bestSwap_99 : decode cX5_bestSwap 99 = .ok (.iload 6, 2) := by decide +kernel
theorem dX5_bestSwap_101 : decode cX5_bestSwap 101 = .ok (.iadd, 1) := by decide +kernel
theorem dX5_bestSwap_102 : decode cX5_bestSwap 102 = .ok (.istore_n 3, 1) := by decide +kernel
theorem dX5_bestSwap_103 : decode cX5_bestSwap 103 = .ok (.iinc 6 1, 3) := by decide +kernel
theorem dX5_bestSwap_106 : decode cX5_bestSwap 106 = .ok (.goto (-49), 3) := by decide +kernel
theorem dX5_bestSwap_109 : decode cX5_bestSwap 109 = .ok (.iinc 5 1, 3) := by decide +kernel
theorem dX5_bestSwap_112 : decode cX5_bestSwap 112 = .ok (.goto (-73), 3) := by decide +kernel
theorem dX5_bestSwap_115 : decode cX5_bestSwap 115 = .ok (.iload_n 3, 1) := by decide +kernel
theorem dX5_bestSwap_116 : decode cX5_bestSwap 116 = .ok (.ireturn, 1) := by decide +kernel
set_option maxRecDepth 20000 in
theorem ggX5_record_X5_discardOldest : GoodIn wsX5_record wsX5_discardOldest := goodIn_r _ [8, 2, 1, 44, 45, 46, 47, 48, 49, 50] (by decide +kernel) (by decide +kernel)
set_option maxRecDepth 20000 in
theorem gX5_record_X5_discardOldest : GoodIn wsX5_record (wsV RX5 241 RX5 yX5_discardOldest wsX5_discardOldest) := goodIn_app (goodIn_of _ (by decide +kernel)) ggX5_record_X5_discardOldest
set_option maxRecDepth 20000 in
theorem ggX5_record_X3_becomeLike : GoodIn wsX5_record wsX3_becomeLike := goodIn_r _ [12, 13, 14, 15, 16, 17, 18, 19, 20, 21, 22, 23, 24, 25, 26, 27, 28, 29, 30, 31, 32, 33, 34, 35, 36, 37, 38, 39, 40, 41, 42, 43, 51, 52, 53, 54, 55, 56, 57, 58, 59, 60, 61, 62] (by decide +kernel) (by decide +kernel)
set_option maxRecDepth 20000 in
theorem gX5_record_X3_becomeLike_n234 : GoodIn wsX5_record (wsX3_becomeLike) := ggX5_record_X3_becomeLike
theorem dX5_record_0 : decode cX5_record 0 = .ok (.aload_n 0, 1) := by decide +kernel
theorem dX5_record_1 : decode cX5_record 1 = .ok (.getfield 231, 3) := by decide +kernel
theorem dX5_record_4 : decode cX5_record 4 = .ok (.iconst 5, 1) := by decide +kernel
theorem dX5_record_5 : decode cX5_record 5 = .ok (.if_icmp .lt 7, 3) := by decide +kernel
theorem dX5_record_8 : decode cX5_record 8 = .ok (.aload_n 0, 1) := by decide +kernel
theorem dX5_record_9 : decode cX5_record 9 = .ok (.invokevirtual 241, 3) := by decide +kernel
theorem dX5_record_12 : decode cX5_record 12 = .ok (.aload_n 0, 1) := by decide +kernel
theorem dX5_record_13 : decode cX5_record 13 = .ok (.getfield 19, 3) := by decide +kernel
theorem dX5_record_16 : decode cX5_record 16 = .ok (.aload_n 0, 1) := by decide +kernel
theorem dX5_record_17 : decode cX5_record 17 = .ok (.getfield 231, 3) := by decide +kernel
theorem dX5_record_20 : decode cX5_record 20 = .ok (.aaload, 1) := by decide +kernel
theorem dX5_record_21 : decode cX5_record 21 = .ok (.aload_n 0, 1) := by decide +kernel
theorem dX5_record_22 : decode cX5_record 22 = .ok (.getfield 10, 3) := by decide +kernel
theorem dX5_record_25 : decode cX5_record 25 = .ok (.invokevirtual 234, 3) := by decide +kernel
theorem dX5_record_28 : decode cX5_record 28 = .ok (.aload_n 0, 1) := by decide +kernel
theorem dX5_record_29 : decode cX5_record 29 = .ok (.dup, 1) := by decide +kernel
theorem dX5_record_30 : decode cX5_record 30 = .ok (.getfield 231, 3) := by decide +kernel
theorem dX5_record_33 : decode cX5_record 33 = .ok (.iconst 1, 1) := by decide +kernel
theorem dX5_record_34 : decode cX5_record 34 = .ok (.iadd, 1) := by decide +kernel
theorem dX5_record_35 : decode cX5_record 35 = .ok (.putfield 231, 3) := by decide +kernel
theorem dX5_record_38 : decode cX5_record 38 = .ok (.return_, 1) := by decide +kernel
theorem dX5_discardOldest_0 : decode cX5_discardOldest 0 = .ok (.aload_n 0, 1) := by decide +kernel
theorem dX5_discardOldest_1 : decode cX5_discardOldest 1 = .ok (.getfield 19, 3) := by decide +kernel
theorem dX5_discardOldest_4 : decode cX5_discardOldest 4 = .ok (.iconst 0, 1) := by decide +kernel
theorem dX5_discardOldest_5 : decode cX5_discardOldest 5 = .ok (.aaload, 1) := by decide +kernel
theorem dX5_discardOldest_6 : decode cX5_discardOldest 6 = .ok (.astore_n 1, 1) := by decide +kernel
theorem dX5_discardOldest_7 : decode cX5_discardOldest 7 = .ok (.iconst 1, 1) := by decide +kernel
theorem dX5_discardOldest_8 : decode cX5_discardOldest 8 = .ok (.istore_n 2, 1) := by decide +kernel
theorem dX5_discardOldest_9 : decode cX5_discardOldest 9 = .ok (.iload_n 2, 1) := by decide +kernel
theorem dX5_discardOldest_10 : decode cX5_discardOldest 10 = .ok (.iconst 5, 1) := by decide +kernel
theorem dX5_discardOldest_11 : decode cX5_discardOldest 11 = .ok (.if_icmp .ge 23, 3) := by decide +kernel
theorem dX5_discardOldest_14 : decode cX5_discardOldest 14 = .ok (.aload_n 0, 1) := by decide +kernel
theorem dX5_discardOldest_15 : decode cX5_discardOldest 15 = .ok (.getfield 19, 3) := by decide +kernel
theorem dX5_discardOldest_18 : decode cX5_discardOldest 18 = .ok (.iload_n 2, 1) := by decide +kernel
theorem dX5_discardOldest_19 : decode cX5_discardOldest 19 = .ok (.iconst 1, 1) := by decide +kernel
theorem dX5_discardOldest_20 : decode cX5_discardOldest 20 = .ok (.isub, 1) := by decide +kernel
theorem dX5_discardOldest_21 : decode cX5_discardOldest 21 = .ok (.aload_n 0, 1) := by decide +kernel
theorem dX5_discardOldest_22 : decode cX5_discardOldest 22 = .ok (.getfield 19, 3) := by decide +kernel
theorem dX5_discardOldest_25 : decode cX5_discardOldest 25 = .ok (.iload_n 2, 1) := by decide +kernel
theorem dX5_discardOldest_26 : decode cX5_discardOldest 26 = .ok (.aaload, 1) := by decide +kernel
theorem dX5_discardOldest_27 : decode cX5_discardOldest 27 = .ok (.aastore, 1) := by decide +kernel
theorem dX5_discardOldest_28 : decode cX5_discardOldest 28 = .ok (.iinc 2 1, 3) := by decide +kernel
theorem dX5_discardOldest_31 : decode cX5_discardOldest 31 = .ok (.goto (-22), 3) := by decide +kernel
theorem dX5_discardOldest_34 : decode cX5_discardOldest 34 = .ok (.aload_n 0, 1) := by decide +kernel
theorem dX5_discardOldest_35 : decode cX5_discardOldest 35 = .ok (.iconst 4, 1) := by decide +kernel
theorem dX5_discardOldest_36 : decode cX5_discardOldest 36 = .ok (.putfield 231, 3) := by decide +kernel
theorem dX5_discardOldest_39 : decode cX5_discardOldest 39 = .ok (.aload_n 0, 1) := by decide +kernel
theorem dX5_discardOldest_40 : decode cX5_discardOldest 40 = .ok (.getfield 19, 3) := by decide +kernel
theorem dX5_discardOldest_43 : decode cX5_discardOldest 43 = .ok (.aload_n 0, 1) := by decide +kernel
theorem dX5_discardOldest_44 : decode cX5_discardOldest 44 = .ok (.getfield 231, 3) := by decide +kernel
theorem dX5_discardOldest_47 : decode cX5_discardOldest 47 = .ok (.aload_n 1, 1) := by decide +kernel
theorem dX5_discardOldest_48 : decode cX5_discardOldest 48 = .ok (.aastore, 1) := by decide +kernel
theorem dX5_discardOldest_49 : decode cX5_discardOldest 49 = .ok (.return_, 1) := by decide +kernel
set_option maxRecDepth 20000 in
theorem ggX5_addFromBox_X3_boxHasCharmsFor : GoodIn wsX5_addFromBox wsX3_boxHasCharmsFor := goodIn_r _ [5, 6, 7, 8, 9, 10, 11, 12, 13, 14, 15, 16, 71, 72, 73, 74, 75, 76, 77] (by decide +kernel) (by decide +kernel)
set_option maxRecDepth 20000 in
theorem gX5_addFromBox_X3_boxHasCharmsFor_n244 : GoodIn wsX5_addFromBox (wsX3_boxHasCharmsFor) := ggX5_addFromBox_X3_boxHasCharmsFor
set_option maxRecDepth 20000 in
theorem ggX5_addFromBox_X3_freeNumber : GoodIn wsX5_addFromBox wsX3_freeNumber := goodIn_r _ [19, 20, 71, 72, 73, 74, 75, 76, 77] (by decide +kernel) (by decide +kernel)
set_option maxRecDepth 20000 in
theorem gX5_addFromBox_X3_freeNumber_n247 : GoodIn wsX5_addFromBox (wsX3_freeNumber) := ggX5_addFromBox_X3_freeNumber
set_option maxRecDepth 20000 in
theorem ggX5_addFromBox_X5_record : GoodIn wsX5_addFromBox wsX5_record := goodIn_r _ [25, 26, 27, 1, 28, 29, 30, 24, 31, 32, 3, 33, 34, 6, 35, 36, 37, 38, 39, 20, 40, 41, 42, 8, 43, 44, 11, 16, 45, 46, 47, 48, 49, 50, 51, 52, 53, 54, 55, 56, 57, 58, 59, 60, 64, 65, 66, 67, 68, 69, 70, 71, 72, 73, 74, 75, 76, 77, 78, 79, 80, 81, 82] (by decide +kernel) (by decide +kernel)
set_option maxRecDepth 20000 in
theorem gX5_addFromBox_X5_record : GoodIn wsX5_addFromBox (wsV RX5 41 RX5 yX5_record wsX5_record) := goodIn_app (goodIn_of _ (by decide +kernel)) ggX5_addFromBox_X5_record
set_option maxRecDepth 20000 in
theorem ggX5_addFromBox_X3_takeOut : GoodIn wsX5_addFromBox wsX3_takeOut := goodIn_r _ [63, 6, 7, 8, 9, 10, 11, 12, 13, 14, 15, 16, 71, 72, 73, 74, 75, 76, 77] (by decide +kernel) (by decide +kernel)
set_option maxRecDepth 20000 in
theorem gX5_addFromBox_X3_takeOut_n250 : GoodIn wsX5_addFromBox (wsX3_takeOut) := ggX5_addFromBox_X3_takeOut
set_option maxRecDepth 20000 in
theorem ggX5_addFromBox_X2_becomeLike : GoodIn wsX5_addFromBox wsX2_becomeLike := goodIn_r _ [44, 11, 16, 45, 36, 37, 38, 76, 77] (by decide +kernel) (by decide +kernel)
set_option maxRecDepth 20000 in
theorem gX5_addFromBox_X2_becomeLike_n215 : GoodIn wsX5_addFromBox (wsX2_becomeLike) := ggX5_addFromBox_X2_becomeLike
theorem dX5_addFromBox_0 : decode cX5_addFromBox 0 = .ok (.aload_n 0, 1) := by decide +kernel
theorem dX5_addFromBox_1 : decode cX5_addFromBox 1 = .ok (.getfield 10, 3) := by decide +kernel
theorem dX5_addFromBox_4 : decode cX5_addFromBox 4 = .ok (.aload_n 1, 1) := by decide +kernel
theorem dX5_addFromBox_5 : decode cX5_addFromBox 5 = .ok (.invokevirtual 244, 3) := by decide +kernel
theorem dX5_addFromBox_8 : decode cX5_addFromBox 8 = .ok (.ifCond .ne 6, 3) := by decide +kernel
theorem dX5_addFromBox_11 : decode cX5_addFromBox 11 = .ok (.bipush (-3), 2) := by decide +kernel
theorem dX5_addFromBox_13 : decode cX5_addFromBox 13 = .ok (.ireturn, 1) := by decide +kernel
theorem dX5_addFromBox_14 : decode cX5_addFromBox 14 = .ok (.aload_n 0, 1) := by decide +kernel
theorem dX5_addFromBox_15 : decode cX5_addFromBox 15 = .ok (.getfield 10, 3) := by decide +kernel
theorem dX5_addFromBox_18 : decode cX5_addFromBox 18 = .ok (.invokevirtual 247, 3) := by decide +kernel
theorem dX5_addFromBox_21 : decode cX5_addFromBox 21 = .ok (.istore_n 2, 1) := by decide +kernel
theorem dX5_addFromBox_22 : decode cX5_addFromBox 22 = .ok (.iload_n 2, 1) := by decide +kernel
theorem dX5_addFromBox_23 : decode cX5_addFromBox 23 = .ok (.bipush 6, 2) := by decide +kernel
theorem dX5_addFromBox_25 : decode cX5_addFromBox 25 = .ok (.if_icmp .lt 6, 3) := by decide +kernel
theorem dX5_addFromBox_28 : decode cX5_addFromBox 28 = .ok (.bipush (-4), 2) := by decide +kernel
theorem dX5_addFromBox_30 : decode cX5_addFromBox 30 = .ok (.ireturn, 1) := by decide +kernel
theorem dX5_addFromBox_31 : decode cX5_addFromBox 31 = .ok (.aload_n 0, 1) := by decide +kernel
theorem dX5_addFromBox_32 : decode cX5_addFromBox 32 = .ok (.invokevirtual 41, 3) := by decide +kernel
theorem dX5_addFromBox_35 : decode cX5_addFromBox 35 = .ok (.aload_n 0, 1) := by decide +kernel
theorem dX5_addFromBox_36 : decode cX5_addFromBox 36 = .ok (.getfield 10, 3) := by decide +kernel
theorem dX5_addFromBox_39 : decode cX5_addFromBox 39 = .ok (.aload_n 1, 1) := by decide +kernel
theorem dX5_addFromBox_40 : decode cX5_addFromBox 40 = .ok (.invokevirtual 250, 3) := by decide +kernel
theorem dX5_addFromBox_43 : decode cX5_addFromBox 43 = .ok (.aload_n 0, 1) := by decide +kernel
theorem dX5_addFromBox_44 : decode cX5_addFromBox 44 = .ok (.getfield 10, 3) := by decide +kernel
theorem dX5_addFromBox_47 : decode cX5_addFromBox 47 = .ok (.getfield 253, 3) := by decide +kernel
theorem dX5_addFromBox_50 : decode cX5_addFromBox 50 = .ok (.iload_n 2, 1) := by decide +kernel
theorem dX5_addFromBox_51 : decode cX5_addFromBox 51 = .ok (.aaload, 1) := by decide +kernel
theorem dX5_addFromBox_52 : decode cX5_addFromBox 52 = .ok (.aload_n 1, 1) := by decide +kernel
theorem dX5_addFromBox_53 : decode cX5_addFromBox 53 = .ok (.invokevirtual 215, 3) := by decide +kernel
theorem dX5_addFromBox_56 : decode cX5_addFromBox 56 = .ok (.iload_n 2, 1) := by decide +kernel
theorem dX5_addFromBox_57 : decode cX5_addFromBox 57 = .ok (.ireturn, 1) := by decide +kernel
set_option maxRecDepth 20000 in
theorem ggX5_change_X5_record : GoodIn wsX5_change wsX5_record := goodIn_r _ [6, 7, 8, 9, 10, 11, 12, 5, 13, 14, 15, 16, 17, 18, 19, 20, 21, 22, 23, 24, 25, 26, 27, 28, 29, 30, 31, 32, 33, 34, 35, 36, 37, 38, 39, 40, 41, 42, 43, 44, 45, 46, 47, 48, 67, 68, 69, 70, 71, 72, 73, 76, 77, 78, 79, 80, 74, 75, 81, 82, 83, 84, 85] (by decide +kernel) (by decide +kernel)
set_option maxRecDepth 20000 in
theorem gX5_change_X5_record : GoodIn wsX5_change (wsV RX5 41 RX5 yX5_record wsX5_record) := goodIn_app (goodIn_of _ (by decide +kernel)) ggX5_change_X5_record
set_option maxRecDepth 20000 in
theorem ggX5_change_X2_differences : GoodIn wsX5_change wsX2_differences := goodIn_r _ [51, 31, 52, 53, 54, 28, 55, 56, 57, 58, 59, 60, 61, 62, 63, 32, 74, 75] (by decide +kernel) (by decide +kernel)
set_option maxRecDepth 20000 in
theorem gX5_change_X2_differences_n137 : GoodIn wsX5_change (wsX2_differences) := ggX5_change_X2_differences
set_option maxRecDepth 20000 in
theorem ggX5_change_X2_becomeLike : GoodIn wsX5_change wsX2_becomeLike := goodIn_r _ [30, 31, 32, 33, 20, 21, 22, 74, 75] (by decide +kernel) (by decide +kernel)
set_option maxRecDepth 20000 in
theorem gX5_change_X2_becomeLike_n215 : GoodIn wsX5_change (wsX2_becomeLike) := ggX5_change_X2_becomeLike
set_option maxRecDepth 20000 in
theorem ggX5_change_X2_kindAfter : GoodIn wsX5_change wsX2_kindAfter := goodIn_r _ [55, 31, 56, 57, 58, 28, 59, 60, 61, 62, 63, 32, 74, 75] (by decide +kernel) (by decide +kernel)
set_option maxRecDepth 20000 in
theorem gX5_change_X2_kindAfter_n130 : GoodIn wsX5_change (wsX2_kindAfter) := ggX5_change_X2_kindAfter
set_option maxRecDepth 20000 in
theorem ggX5_change_X2_put : GoodIn wsX5_change wsX2_put := goodIn_r _ [66, 32, 74, 75] (by decide +kernel) (by decide +kernel)
set_option maxRecDepth 20000 in
theorem gX5_change_X2_put_n88 : GoodIn wsX5_change (wsX2_put) := ggX5_change_X2_put
theorem dX5_change_0 : decode cX5_change 0 = .ok (.aload_n 0, 1) := by decide +kernel
theorem dX5_change_1 : decode cX5_change 1 = .ok (.invokevirtual 41, 3) := by decide +kernel
theorem dX5_change_4 : decode cX5_change 4 = .ok (.aload_n 1, 1) := by decide +kernel
theorem dX5_change_5 : decode cX5_change 5 = .ok (.iload_n 2, 1) := by decide +kernel
theorem dX5_change_6 : decode cX5_change 6 = .ok (.aload_n 1, 1) := by decide +kernel
theorem dX5_change_7 : decode cX5_change 7 = .ok (.invokevirtual 137, 3) := by decide +kernel
theorem dX5_change_10 : decode cX5_change 10 = .ok (.istore_n 3, 1) := by decide +kernel
theorem dX5_change_11 : decode cX5_change 11 = .ok (.aload_n 0, 1) := by decide +kernel
theorem dX5_change_12 : decode cX5_change 12 = .ok (.getfield 33, 3) := by decide +kernel
theorem dX5_change_15 : decode cX5_change 15 = .ok (.aload_n 1, 1) := by decide +kernel
theorem dX5_change_16 : decode cX5_change 16 = .ok (.invokevirtual 215, 3) := by decide +kernel
theorem dX5_change_19 : decode cX5_change 19 = .ok (.iconst 0, 1) := by decide +kernel
theorem dX5_change_20 : decode cX5_change 20 = .ok (.istore 4, 2) := by decide +kernel
theorem dX5_change_22 : decode cX5_change 22 = .ok (.iload 4, 2) := by decide +kernel
theorem dX5_change_24 : decode cX5_change 24 = .ok (.aload_n 1, 1) := by decide +kernel
theorem dX5_change_25 : decode cX5_change 25 = .ok (.getfield 98, 3) := by decide +kernel
theorem dX5_change_28 : decode cX5_change 28 = .ok (.if_icmp .ge 25, 3) := by decide +kernel
theorem dX5_change_31 : decode cX5_change 31 = .ok (.aload_n 1, 1) := by decide +kernel
theorem dX5_change_32 : decode cX5_change 32 = .ok (.iload 4, 2) := by decide +kernel
theorem dX5_change_34 : decode cX5_change 34 = .ok (.aload_n 0, 1) := by decide +kernel
theorem dX5_change_35 : decode cX5_change 35 = .ok (.getfield 33, 3) := by decide +kernel
theorem dX5_change_38 : decode cX5_change 38 = .ok (.iload_n 2, 1) := by decide +kernel
theorem dX5_change_39 : decode cX5_change 39 = .ok (.iload 4, 2) := by decide +kernel
theorem dX5_change_41 : decode cX5_change 41 = .ok (.invokevirtual 130, 3) := by decide +kernel
theorem dX5_change_44 : decode cX5_change 44 = .ok (.invokevirtual 88, 3) := by decide +kernel
theorem dX5_change_47 : decode cX5_change 47 = .ok (.iinc 4 1, 3) := by decide +kernel
theorem dX5_change_50 : decode cX5_change 50 = .ok (.goto (-28), 3) := by decide +kernel
theorem dX5_change_53 : decode cX5_change 53 = .ok (.iload_n 3, 1) := by decide +kernel
theorem dX5_change_54 : decode cX5_change 54 = .ok (.ireturn, 1) := by decide +kernel
set_option maxRecDepth 20000 in
theorem ggX5_leanAfterSwap_X2_exchange : GoodIn wsX5_leanAfterSwap wsX2_exchange := goodIn_r _ [5, 6, 7, 8, 3, 9, 10, 11, 12, 13, 14, 42, 43] (by decide +kernel) (by decide +kernel)
set_option maxRecDepth 20000 in
theorem gX5_leanAfterSwap_X2_exchange_n92 : GoodIn wsX5_leanAfterSwap (wsX2_exchange) := ggX5_leanAfterSwap_X2_exchange
set_option maxRecDepth 20000 in
theorem ggX5_leanAfterSwap_X3_lean : GoodIn wsX5_leanAfterSwap wsX3_lean := goodIn_r _ [18, 19, 20, 21, 22, 23, 24, 25, 16, 26, 27, 28, 29, 30, 31, 7, 3, 8, 9, 10, 32, 33, 34, 42, 43, 44, 45, 46, 47, 48] (by decide +kernel) (by decide +kernel)
set_option maxRecDepth 20000 in
theorem gX5_leanAfterSwap_X3_lean_n95 : GoodIn wsX5_leanAfterSwap (wsX3_lean) := ggX5_leanAfterSwap_X3_lean
theorem dX5_leanAfterSwap_0 : decode cX5_leanAfterSwap 0 = .ok (.aload_n 1, 1) := by decide +kernel
theorem dX5_leanAfterSwap_1 : decode cX5_leanAfterSwap 1 = .ok (.iload_n 2, 1) := by decide +kernel
theorem dX5_leanAfterSwap_2 : decode cX5_leanAfterSwap 2 = .ok (.iload_n 3, 1) := by decide +kernel
theorem dX5_leanAfterSwap_3 : decode cX5_leanAfterSwap 3 = .ok (.invokevirtual 92, 3) := by decide +kernel
theorem dX5_leanAfterSwap_6 : decode cX5_leanAfterSwap 6 = .ok (.aload_n 0, 1) := by decide +kernel
theorem dX5_leanAfterSwap_7 : decode cX5_leanAfterSwap 7 = .ok (.getfield 10, 3) := by decide +kernel
theorem dX5_leanAfterSwap_10 : decode cX5_leanAfterSwap 10 = .ok (.aload_n 1, 1) := by decide +kernel
theorem dX5_leanAfterSwap_11 : decode cX5_leanAfterSwap 11 = .ok (.invokevirtual 95, 3) := by decide +kernel
theorem dX5_leanAfterSwap_14 : decode cX5_leanAfterSwap 14 = .ok (.istore 4, 2) := by decide +kernel
theorem dX5_leanAfterSwap_16 : decode cX5_leanAfterSwap 16 = .ok (.aload_n 1, 1) := by decide +kernel
theorem dX5_leanAfterSwap_17 : decode cX5_leanAfterSwap 17 = .ok (.iload_n 2, 1) := by decide +kernel
theorem dX5_leanAfterSwap_18 : decode cX5_leanAfterSwap 18 = .ok (.iload_n 3, 1) := by decide +kernel
theorem dX5_leanAfterSwap_19 : decode cX5_leanAfterSwap 19 = .ok (.invokevirtual 92, 3) := by decide +kernel
theorem dX5_leanAfterSwap_22 : decode cX5_leanAfterSwap 22 = .ok (.iload 4, 2) := by decide +kernel
theorem dX5_leanAfterSwap_24 : decode cX5_leanAfterSwap 24 = .ok (.ireturn, 1) := by decide +kernel
theorem dX5_isCharm_0 : decode cX5_isCharm 0 = .ok (.iload_n 0, 1) := by decide +kernel
theorem dX5_isCharm_1 : decode cX5_isCharm 1 = .ok (.iconst 1, 1) := by decide +kernel
theorem dX5_isCharm_2 : decode cX5_isCharm 2 = .ok (.if_icmp .lt 12, 3) := by decide +kernel
theorem dX5_isCharm_5 : decode cX5_isCharm 5 = .ok (.iload_n 0, 1) := by decide +kernel
theorem dX5_isCharm_6 : decode cX5_isCharm 6 = .ok (.iconst 5, 1) := by decide +kernel
theorem dX5_isCharm_7 : decode cX5_isCharm 7 = .ok (.if_icmp .gt 7, 3) := by decide +kernel
theorem dX5_isCharm_10 : decode cX5_isCharm 10 = .ok (.iconst 1, 1) := by decide +kernel
theorem dX5_isCharm_11 : decode cX5_isCharm 11 = .ok (.goto 4, 3) := by decide +kernel
theorem dX5_isCharm_14 : decode cX5_isCharm 14 = .ok (.iconst 0, 1) := by decide +kernel
theorem dX5_isCharm_15 : decode cX5_isCharm 15 = .ok (.ireturn, 1) := by decide +kernel
set_option maxRecDepth 20000 in
theorem ggX5_isKindOrEmpty_X5_isCharm : GoodIn wsX5_isKindOrEmpty wsX5_isCharm := goodIn_r _ [4] (by decide +kernel) (by decide +kernel)
set_option maxRecDepth 20000 in
theorem gX5_isKindOrEmpty_X5_isCharm : GoodIn wsX5_isKindOrEmpty (va_wsS RX5 37 yX5_isCharm wsX5_isCharm) := goodIn_app (goodIn_of _ (by decide +kernel)) ggX5_isKindOrEmpty_X5_isCharm
theorem dX5_isKindOrEmpty_0 : decode cX5_isKindOrEmpty 0 = .ok (.iload_n 0, 1) := by decide +kernel
theorem dX5_isKindOrEmpty_1 : decode cX5_isKindOrEmpty 1 = .ok (.ifCond .eq 10, 3) := by decide +kernel
theorem dX5_isKindOrEmpty_4 : decode cX5_isKindOrEmpty 4 = .ok (.iload_n 0, 1) := by decide +kernel
theorem dX5_isKindOrEmpty_5 : decode cX5_isKindOrEmpty 5 = .ok (.invokestatic 37, 3) := by decide +kernel
theorem dX5_isKindOrEmpty_8 : decode cX5_isKindOrEmpty 8 = .ok (.ifCond .eq 7, 3) := by decide +kernel
theorem dX5_isKindOrEmpty_11 : decode cX5_isKindOrEmpty 11 = .ok (.iconst 1, 1) := by decide +kernel
theorem dX5_isKindOrEmpty_12 : decode cX5_isKindOrEmpty 12 = .ok (.goto 4, 3) := by decide +kernel
theorem dX5_isKindOrEmpty_15 : decode cX5_isKindOrEmpty 15 = .ok (.iconst 0, 1) := by decide +kernel
theorem dX5_isKindOrEmpty_16 : decode cX5_isKindOrEmpty 16 = .ok (.ireturn, 1) := by decide +kernel
theorem dX5_isSize_0 : decode cX5_isSize 0 = .ok (.iload_n 0, 1) := by decide +kernel
theorem dX5_isSize_1 : decode cX5_isSize 1 = .ok (.iconst 4, 1) := by decide +kernel
theorem dX5_isSize_2 : decode cX5_isSize 2 = .ok (.if_icmp .lt 19, 3) := by decide +kernel
theorem dX5_isSize_5 : decode cX5_isSize 5 = .ok (.iload_n 0, 1) := by decide +kernel
theorem dX5_isSize_6 : decode cX5_isSize 6 = .ok (.bipush 16, 2) := by decide +kernel
theorem dX5_isSize_8 : decode cX5_isSize 8 = .ok (.if_icmp .gt 13, 3) := by decide +kernel
theorem dX5_isSize_11 : decode cX5_isSize 11 = .ok (.iload_n 0, 1) := by decide +kernel
theorem dX5_isSize_12 : decode cX5_isSize 12 = .ok (.iconst 4, 1) := by decide +kernel
theorem dX5_isSize_13 : decode cX5_isSize 13 = .ok (.irem, 1) := by decide +kernel
theorem dX5_isSize_14 : decode cX5_isSize 14 = .ok (.ifCond .ne 7, 3) := by decide +kernel
theorem dX5_isSize_17 : decode cX5_isSize 17 = .ok (.iconst 1, 1) := by decide +kernel
theorem dX5_isSize_18 : decode cX5_isSize 18 = .ok (.goto 4, 3) := by decide +kernel
theorem dX5_isSize_21 : decode cX5_isSize 21 = .ok (.iconst 0, 1) := by decide +kernel
theorem dX5_isSize_22 : decode cX5_isSize 22 = .ok (.ireturn, 1) := by decide +kernel
theorem dX5_isLevel_0 : decode cX5_isLevel 0 = .ok (.iload_n 0, 1) := by decide +kernel
theorem dX5_isLevel_1 : decode cX5_isLevel 1 = .ok (.ifCond .lt 12, 3) := by decide +kernel
theorem dX5_isLevel_4 : decode cX5_isLevel 4 = .ok (.iload_n 0, 1) := by decide +kernel
theorem dX5_isLevel_5 : decode cX5_isLevel 5 = .ok (.iconst 2, 1) := by decide +kernel
theorem dX5_isLevel_6 : decode cX5_isLevel 6 = .ok (.if_icmp .gt 7, 3) := by decide +kernel
theorem dX5_isLevel_9 : decode cX5_isLevel 9 = .ok (.iconst 1, 1) := by decide +kernel
theorem dX5_isLevel_10 : decode cX5_isLevel 10 = .ok (.goto 4, 3) := by decide +kernel
theorem dX5_isLevel_13 : decode cX5_isLevel 13 = .ok (.iconst 0, 1) := by decide +kernel
theorem dX5_isLevel_14 : decode cX5_isLevel 14 = .ok (.ireturn, 1) := by decide +kernel
theorem dX5_changeCount_0 : decode cX5_changeCount 0 = .ok (.iload_n 0, 1) := by decide +kernel
theorem dX5_changeCount_1 : decode cX5_changeCount 1 = .ok (.lookupswitch 31 #[(0, 27), (1, 29)], 27) := by decide +kernel
theorem dX5_changeCount_28 : decode cX5_changeCount 28 = .ok (.iconst 4, 1) := by decide +kernel
theorem dX5_changeCount_29 : decode cX5_changeCount 29 = .ok (.ireturn, 1) := by decide +kernel
theorem dX5_changeCount_30 : decode cX5_changeCount 30 = .ok (.iload_n 1, 1) := by decide +kernel
theorem dX5_changeCount_31 : decode cX5_changeCount 31 = .ok (.ireturn, 1) := by decide +kernel
theorem dX5_changeCount_32 : decode cX5_changeCount 32 = .ok (.iconst 2, 1) := by decide +kernel
theorem dX5_changeCount_33 : decode cX5_changeCount 33 = .ok (.iload_n 1, 1) := by decide +kernel
theorem dX5_changeCount_34 : decode cX5_changeCount 34 = .ok (.imul, 1) := by decide +kernel
theorem dX5_changeCount_35 : decode cX5_changeCount 35 = .ok (.ireturn, 1) := by decide +kernel
theorem dX5_changeAt_0 : decode cX5_changeAt 0 = .ok (.iload_n 0, 1) := by decide +kernel
theorem dX5_changeAt_1 : decode cX5_changeAt 1 = .ok (.ifCond .ne 11, 3) := by decide +kernel
theorem dX5_changeAt_4 : decode cX5_changeAt 4 = .ok (.iload_n 1, 1) := by decide +kernel
theorem dX5_changeAt_5 : decode cX5_changeAt 5 = .ok (.iload_n 2, 1) := by decide +kernel
theorem dX5_changeAt_6 : decode cX5_changeAt 6 = .ok (.imul, 1) := by decide +kernel
theorem dX5_changeAt_7 : decode cX5_changeAt 7 = .ok (.iconst 4, 1) := by decide +kernel
theorem dX5_changeAt_8 : decode cX5_changeAt 8 = .ok (.idiv, 1) := by decide +kernel
theorem dX5_changeAt_9 : decode cX5_changeAt 9 = .ok (.goto 4, 3) := by decide +kernel
theorem dX5_changeAt_12 : decode cX5_changeAt 12 = .ok (.iload_n 1, 1) := by decide +kernel
theorem dX5_changeAt_13 : decode cX5_changeAt 13 = .ok (.ireturn, 1) := by decide +kernel
