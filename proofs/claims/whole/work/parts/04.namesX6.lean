theorem dX6_init_0 : decode cX6_init 0 = .ok (.aload_n 0, 1) := by decide +kernel
theorem dX6_init_1 : decode cX6_init 1 = .ok (.invokespecial 1, 3) := by decide +kernel
theorem dX6_init_4 : decode cX6_init 4 = .ok (.aload_n 0, 1) := by decide +kernel
theorem dX6_init_5 : decode cX6_init 5 = .ok (.sipush 300, 3) := by decide +kernel
theorem dX6_init_8 : decode cX6_init 8 = .ok (.newarray .int, 2) := by decide +kernel
theorem dX6_init_10 : decode cX6_init 10 = .ok (.putfield 7, 3) := by decide +kernel
theorem dX6_init_13 : decode cX6_init 13 = .ok (.aload_n 0, 1) := by decide +kernel
theorem dX6_init_14 : decode cX6_init 14 = .ok (.sipush 1500, 3) := by decide +kernel
theorem dX6_init_17 : decode cX6_init 17 = .ok (.newarray .int, 2) := by decide +kernel
theorem dX6_init_19 : decode cX6_init 19 = .ok (.putfield 13, 3) := by decide +kernel
theorem dX6_init_22 : decode cX6_init 22 = .ok (.aload_n 0, 1) := by decide +kernel
theorem dX6_init_23 : decode cX6_init 23 = .ok (.sipush 300, 3) := by decide +kernel
theorem dX6_init_26 : decode cX6_init 26 = .ok (.newarray .int, 2) := by decide +kernel
theorem dX6_init_28 : decode cX6_init 28 = .ok (.putfield 16, 3) := by decide +kernel
theorem dX6_init_31 : decode cX6_init 31 = .ok (.aload_n 0, 1) := by decide +kernel
theorem dX6_init_32 : decode cX6_init 32 = .ok (.bipush 60, 2) := by decide +kernel
theorem dX6_init_34 : decode cX6_init 34 = .ok (.newarray .char, 2) := by decide +kernel
theorem dX6_init_36 : decode cX6_init 36 = .ok (.putfield 19, 3) := by decide +kernel
theorem dX6_init_39 : decode cX6_init 39 = .ok (.aload_n 0, 1) := by decide +kernel
theorem dX6_init_40 : decode cX6_init 40 = .ok (.bipush 16, 2) := by decide +kernel
theorem dX6_init_42 : decode cX6_init 42 = .ok (.newarray .int, 2) := by decide +kernel
theorem dX6_init_44 : decode cX6_init 44 = .ok (.putfield 23, 3) := by decide +kernel
theorem dX6_init_47 : decode cX6_init 47 = .ok (.aload_n 0, 1) := by decide +kernel
theorem dX6_init_48 : decode cX6_init 48 = .ok (.bipush 16, 2) := by decide +kernel
theorem dX6_init_50 : decode cX6_init 50 = .ok (.newarray .int, 2) := by decide +kernel
theorem dX6_init_52 : decode cX6_init 52 = .ok (.putfield 26, 3) := by decide +kernel
theorem dX6_init_55 : decode cX6_init 55 = .ok (.iconst 1, 1) := by decide +kernel
theorem dX6_init_56 : decode cX6_init 56 = .ok (.istore_n 1, 1) := by decide +kernel
theorem dX6_init_57 : decode cX6_init 57 = .ok (.iload_n 1, 1) := by decide +kernel
theorem dX6_init_58 : decode cX6_init 58 = .ok (.iconst 5, 1) := by decide +kernel
theorem dX6_init_59 : decode cX6_init 59 = .ok (.if_icmp .gt 34, 3) := by decide +kernel
theorem dX6_init_62 : decode cX6_init 62 = .ok (.aload_n 0, 1) := by decide +kernel
theorem dX6_init_63 : decode cX6_init 63 = .ok (.getfield 7, 3) := by decide +kernel
theorem dX6_init_66 : decode cX6_init 66 = .ok (.iconst 0, 1) := by decide +kernel
theorem dX6_init_67 : decode cX6_init 67 = .ok (.iload_n 1, 1) := by decide +kernel
theorem dX6_init_68 : decode cX6_init 68 = .ok (.iadd, 1) := by decide +kernel
theorem dX6_init_69 : decode cX6_init 69 = .ok (.iconst 1, 1) := by decide +kernel
theorem dX6_init_70 : decode cX6_init 70 = .ok (.isub, 1) := by decide +kernel
theorem dX6_init_71 : decode cX6_init 71 = .ok (.bipush 12, 2) := by decide +kernel
theorem dX6_init_73 : decode cX6_init 73 = .ok (.iastore, 1) := by decide +kernel
theorem dX6_init_74 : decode cX6_init 74 = .ok (.aload_n 0, 1) := by decide +kernel
theorem dX6_init_75 : decode cX6_init 75 = .ok (.getfield 7, 3) := by decide +kernel
theorem dX6_init_78 : decode cX6_init 78 = .ok (.iconst 5, 1) := by decide +kernel
theorem dX6_init_79 : decode cX6_init 79 = .ok (.iload_n 1, 1) := by decide +kernel
theorem dX6_init_80 : decode cX6_init 80 = .ok (.iadd, 1) := by decide +kernel
theorem dX6_init_81 : decode cX6_init 81 = .ok (.iconst 1, 1) := by decide +kernel
theorem dX6_init_82 : decode cX6_init 82 = .ok (.isub, 1) := by decide +kernel
theorem dX6_init_83 : decode cX6_init 83 = .ok (.iconst 2, 1) := by decide +kernel
theorem dX6_init_84 : decode cX6_init 84 = .ok (.iload_n 1, 1) := by decide +kernel
theorem dX6_init_85 : decode cX6_init 85 = .ok (.imul, 1) := by decide +kernel
theorem dX6_init_86 : decode cX6_init 86 = .ok (.iastore, 1) := by decide +kernel
theorem dX6_init_87 : decode cX6_init 87 = .ok (.iinc 1 1, 3) := by decide +kernel
theorem dX6_init_90 : decode cX6_init 90 = .ok (.goto (-33), 3) := by decide +kernel
theorem dX6_init_93 : decode cX6_init 93 = .ok (.return_, 1) := by decide +kernel
theorem dX6_in_0 : decode cX6_in 0 = .ok (.iload_n 0, 1) := by decide +kernel
theorem dX6_in_1 : decode cX6_in 1 = .ok (.iload_n 1, 1) := by decide +kernel
theorem dX6_in_2 : decode cX6_in 2 = .ok (.if_icmp .lt 12, 3) := by decide +kernel
theorem dX6_in_5 : decode cX6_in 5 = .ok (.iload_n 0, 1) := by decide +kernel
theorem dX6_in_6 : decode cX6_in 6 = .ok (.iload_n 2, 1) := by decide +kernel
theorem dX6_in_7 : decode cX6_in 7 = .ok (.if_icmp .gt 7, 3) := by decide +kernel
theorem dX6_in_10 : decode cX6_in 10 = .ok (.iconst 1, 1) := by decide +kernel
theorem dX6_in_11 : decode cX6_in 11 = .ok (.goto 4, 3) := by decide +kernel
theorem dX6_in_14 : decode cX6_in 14 = .ok (.iconst 0, 1) := by decide +kernel
theorem dX6_in_15 : decode cX6_in 15 = .ok (.ireturn, 1) := by decide +kernel
set_option maxRecDepth 20000 in
theorem ggX6_isKind_X6_in : GoodIn wsX6_isKind wsX6_in := goodIn_r _ [4] (by decide +kernel) (by decide +kernel)
set_option maxRecDepth 20000 in
theorem gX6_isKind_X6_in : GoodIn wsX6_isKind (va_wsS RX6 29 yX6_in wsX6_in) := goodIn_app (goodIn_of _ (by decide +kernel)) ggX6_isKind_X6_in
theorem dX6_isKind_0 : decode cX6_isKind 0 = .ok (.iload_n 0, 1) := by decide +kernel
theorem dX6_isKind_1 : decode cX6_isKind 1 = .ok (.iconst 1, 1) := by decide +kernel
theorem dX6_isKind_2 : decode cX6_isKind 2 = .ok (.iconst 5, 1) := by decide +kernel
theorem dX6_isKind_3 : decode cX6_isKind 3 = .ok (.invokestatic 29, 3) := by decide +kernel
theorem dX6_isKind_6 : decode cX6_isKind 6 = .ok (.ireturn, 1) := by decide +kernel
theorem dX6_slots_0 : decode cX6_slots 0 = .ok (.aload_n 0, 1) := by decide +kernel
theorem dX6_slots_1 : decode cX6_slots 1 = .ok (.getfield 7, 3) := by decide +kernel
theorem dX6_slots_4 : decode cX6_slots 4 = .ok (.bipush 10, 2) := by decide +kernel
theorem dX6_slots_6 : decode cX6_slots 6 = .ok (.bipush 17, 2) := by decide +kernel
theorem dX6_slots_8 : decode cX6_slots 8 = .ok (.iload_n 1, 1) := by decide +kernel
theorem dX6_slots_9 : decode cX6_slots 9 = .ok (.imul, 1) := by decide +kernel
theorem dX6_slots_10 : decode cX6_slots 10 = .ok (.iadd, 1) := by decide +kernel
theorem dX6_slots_11 : decode cX6_slots 11 = .ok (.iaload, 1) := by decide +kernel
theorem dX6_slots_12 : decode cX6_slots 12 = .ok (.ireturn, 1) := by decide +kernel
set_option maxRecDepth 20000 in
theorem ggX6_isBracelet_X6_in : GoodIn wsX6_isBracelet wsX6_in := goodIn_r _ [4] (by decide +kernel) (by decide +kernel)
set_option maxRecDepth 20000 in
theorem gX6_isBracelet_X6_in : GoodIn wsX6_isBracelet (va_wsS RX6 29 yX6_in wsX6_in) := goodIn_app (goodIn_of _ (by decide +kernel)) ggX6_isBracelet_X6_in
set_option maxRecDepth 20000 in
theorem ggX6_isBracelet_X6_slots : GoodIn wsX6_isBracelet wsX6_slots := goodIn_r _ [8, 9, 10, 11, 12, 13, 14, 15, 16, 17, 18, 19, 20] (by decide +kernel) (by decide +kernel)
set_option maxRecDepth 20000 in
theorem gX6_isBracelet_X6_slots : GoodIn wsX6_isBracelet (wsV RX6 33 RX6 yX6_slots wsX6_slots) := goodIn_app (goodIn_of _ (by decide +kernel)) ggX6_isBracelet_X6_slots
theorem dX6_isBracelet_0 : decode cX6_isBracelet 0 = .ok (.iload_n 1, 1) := by decide +kernel
theorem dX6_isBracelet_1 : decode cX6_isBracelet 1 = .ok (.iconst 0, 1) := by decide +kernel
theorem dX6_isBracelet_2 : decode cX6_isBracelet 2 = .ok (.iconst 5, 1) := by decide +kernel
theorem dX6_isBracelet_3 : decode cX6_isBracelet 3 = .ok (.invokestatic 29, 3) := by decide +kernel
theorem dX6_isBracelet_6 : decode cX6_isBracelet 6 = .ok (.ifCond .eq 15, 3) := by decide +kernel
theorem dX6_isBracelet_9 : decode cX6_isBracelet 9 = .ok (.aload_n 0, 1) := by decide +kernel
theorem dX6_isBracelet_10 : decode cX6_isBracelet 10 = .ok (.iload_n 1, 1) := by decide +kernel
theorem dX6_isBracelet_11 : decode cX6_isBracelet 11 = .ok (.invokevirtual 33, 3) := by decide +kernel
theorem dX6_isBracelet_14 : decode cX6_isBracelet 14 = .ok (.ifCond .le 7, 3) := by decide +kernel
theorem dX6_isBracelet_17 : decode cX6_isBracelet 17 = .ok (.iconst 1, 1) := by decide +kernel
theorem dX6_isBracelet_18 : decode cX6_isBracelet 18 = .ok (.goto 4, 3) := by decide +kernel
theorem dX6_isBracelet_21 : decode cX6_isBracelet 21 = .ok (.iconst 0, 1) := by decide +kernel
theorem dX6_isBracelet_22 : decode cX6_isBracelet 22 = .ok (.ireturn, 1) := by decide +kernel
set_option maxRecDepth 20000 in
theorem ggX6_isSlot_X6_isBracelet : GoodIn wsX6_isSlot wsX6_isBracelet := goodIn_r _ [5, 6, 7, 4, 8, 9, 10, 11, 12, 13, 14, 15, 16, 17, 18, 19, 20, 21, 22, 23, 24] (by decide +kernel) (by decide +kernel)
set_option maxRecDepth 20000 in
theorem gX6_isSlot_X6_isBracelet : GoodIn wsX6_isSlot (wsV RX6 37 RX6 yX6_isBracelet wsX6_isBracelet) := goodIn_app (goodIn_of _ (by decide +kernel)) ggX6_isSlot_X6_isBracelet
set_option maxRecDepth 20000 in
theorem ggX6_isSlot_X6_slots : GoodIn wsX6_isSlot wsX6_slots := goodIn_r _ [12, 13, 14, 15, 16, 17, 18, 19, 20, 21, 22, 23, 24] (by decide +kernel) (by decide +kernel)
set_option maxRecDepth 20000 in
theorem gX6_isSlot_X6_slots : GoodIn wsX6_isSlot (wsV RX6 33 RX6 yX6_slots wsX6_slots) := goodIn_app (goodIn_of _ (by decide +kernel)) ggX6_isSlot_X6_slots
set_option maxRecDepth 20000 in
theorem ggX6_isSlot_X6_in : GoodIn wsX6_isSlot wsX6_in := goodIn_r _ [8] (by decide +kernel) (by decide +kernel)
set_option maxRecDepth 20000 in
theorem gX6_isSlot_X6_in : GoodIn wsX6_isSlot (va_wsS RX6 29 yX6_in wsX6_in) := goodIn_app (goodIn_of _ (by decide +kernel)) ggX6_isSlot_X6_in
theorem dX6_isSlot_0 : decode cX6_isSlot 0 = .ok (.aload_n 0, 1) := by decide +kernel
theorem dX6_isSlot_1 : decode cX6_isSlot 1 = .ok (.iload_n 1, 1) := by decide +kernel
theorem dX6_isSlot_2 : decode cX6_isSlot 2 = .ok (.invokevirtual 37, 3) := by decide +kernel
theorem dX6_isSlot_5 : decode cX6_isSlot 5 = .ok (.ifCond .eq 22, 3) := by decide +kernel
theorem dX6_isSlot_8 : decode cX6_isSlot 8 = .ok (.iload_n 2, 1) := by decide +kernel
theorem dX6_isSlot_9 : decode cX6_isSlot 9 = .ok (.iconst 0, 1) := by decide +kernel
theorem dX6_isSlot_10 : decode cX6_isSlot 10 = .ok (.aload_n 0, 1) := by decide +kernel
theorem dX6_isSlot_11 : decode cX6_isSlot 11 = .ok (.iload_n 1, 1) := by decide +kernel
theorem dX6_isSlot_12 : decode cX6_isSlot 12 = .ok (.invokevirtual 33, 3) := by decide +kernel
theorem dX6_isSlot_15 : decode cX6_isSlot 15 = .ok (.iconst 1, 1) := by decide +kernel
theorem dX6_isSlot_16 : decode cX6_isSlot 16 = .ok (.isub, 1) := by decide +kernel
theorem dX6_isSlot_17 : decode cX6_isSlot 17 = .ok (.invokestatic 29, 3) := by decide +kernel
theorem dX6_isSlot_20 : decode cX6_isSlot 20 = .ok (.ifCond .eq 7, 3) := by decide +kernel
theorem dX6_isSlot_23 : decode cX6_isSlot 23 = .ok (.iconst 1, 1) := by decide +kernel
theorem dX6_isSlot_24 : decode cX6_isSlot 24 = .ok (.goto 4, 3) := by decide +kernel
theorem dX6_isSlot_27 : decode cX6_isSlot 27 = .ok (.iconst 0, 1) := by decide +kernel
theorem dX6_isSlot_28 : decode cX6_isSlot 28 = .ok (.ireturn, 1) := by decide +kernel
set_option maxRecDepth 20000 in
theorem ggX6_at_X6_slots : GoodIn wsX6_at wsX6_slots := goodIn_r _ [5, 6, 7, 8, 9, 10, 11, 12, 13, 14, 15, 16, 17] (by decide +kernel) (by decide +kernel)
set_option maxRecDepth 20000 in
theorem gX6_at_X6_slots : GoodIn wsX6_at (wsV RX6 33 RX6 yX6_slots wsX6_slots) := goodIn_app (goodIn_of _ (by decide +kernel)) ggX6_at_X6_slots
theorem dX6_at_0 : decode cX6_at 0 = .ok (.bipush 10, 2) := by decide +kernel
theorem dX6_at_2 : decode cX6_at 2 = .ok (.bipush 17, 2) := by decide +kernel
theorem dX6_at_4 : decode cX6_at 4 = .ok (.iload_n 1, 1) := by decide +kernel
theorem dX6_at_5 : decode cX6_at 5 = .ok (.imul, 1) := by decide +kernel
theorem dX6_at_6 : decode cX6_at 6 = .ok (.iadd, 1) := by decide +kernel
theorem dX6_at_7 : decode cX6_at 7 = .ok (.iconst 1, 1) := by decide +kernel
theorem dX6_at_8 : decode cX6_at 8 = .ok (.iadd, 1) := by decide +kernel
theorem dX6_at_9 : decode cX6_at 9 = .ok (.iload_n 2, 1) := by decide +kernel
theorem dX6_at_10 : decode cX6_at 10 = .ok (.aload_n 0, 1) := by decide +kernel
theorem dX6_at_11 : decode cX6_at 11 = .ok (.iload_n 1, 1) := by decide +kernel
theorem dX6_at_12 : decode cX6_at 12 = .ok (.invokevirtual 33, 3) := by decide +kernel
theorem dX6_at_15 : decode cX6_at 15 = .ok (.irem, 1) := by decide +kernel
theorem dX6_at_16 : decode cX6_at 16 = .ok (.iadd, 1) := by decide +kernel
theorem dX6_at_17 : decode cX6_at 17 = .ok (.ireturn, 1) := by decide +kernel
set_option maxRecDepth 20000 in
theorem ggX6_isRing_X6_in : GoodIn wsX6_isRing wsX6_in := goodIn_r _ [4] (by decide +kernel) (by decide +kernel)
set_option maxRecDepth 20000 in
theorem gX6_isRing_X6_in : GoodIn wsX6_isRing (va_wsS RX6 29 yX6_in wsX6_in) := goodIn_app (goodIn_of _ (by decide +kernel)) ggX6_isRing_X6_in
theorem dX6_isRing_0 : decode cX6_isRing 0 = .ok (.iload_n 0, 1) := by decide +kernel
theorem dX6_isRing_1 : decode cX6_isRing 1 = .ok (.iconst 4, 1) := by decide +kernel
theorem dX6_isRing_2 : decode cX6_isRing 2 = .ok (.bipush 16, 2) := by decide +kernel
theorem dX6_isRing_4 : decode cX6_isRing 4 = .ok (.invokestatic 29, 3) := by decide +kernel
theorem dX6_isRing_7 : decode cX6_isRing 7 = .ok (.ifCond .eq 13, 3) := by decide +kernel
theorem dX6_isRing_10 : decode cX6_isRing 10 = .ok (.iload_n 0, 1) := by decide +kernel
theorem dX6_isRing_11 : decode cX6_isRing 11 = .ok (.iconst 4, 1) := by decide +kernel
theorem dX6_isRing_12 : decode cX6_isRing 12 = .ok (.irem, 1) := by decide +kernel
theorem dX6_isRing_13 : decode cX6_isRing 13 = .ok (.ifCond .ne 7, 3) := by decide +kernel
theorem dX6_isRing_16 : decode cX6_isRing 16 = .ok (.iconst 1, 1) := by decide +kernel
theorem dX6_isRing_17 : decode cX6_isRing 17 = .ok (.goto 4, 3) := by decide +kernel
theorem dX6_isRing_20 : decode cX6_isRing 20 = .ok (.iconst 0, 1) := by decide +kernel
theorem dX6_isRing_21 : decode cX6_isRing 21 = .ok (.ireturn, 1) := by decide +kernel
theorem dX6_record_0 : decode cX6_record 0 = .ok (.aload_n 0, 1) := by decide +kernel
theorem dX6_record_1 : decode cX6_record 1 = .ok (.getfield 41, 3) := by decide +kernel
theorem dX6_record_4 : decode cX6_record 4 = .ok (.iconst 5, 1) := by decide +kernel
theorem dX6_record_5 : decode cX6_record 5 = .ok (.if_icmp .ne 44, 3) := by decide +kernel
theorem dX6_record_8 : decode cX6_record 8 = .ok (.iconst 0, 1) := by decide +kernel
theorem dX6_record_9 : decode cX6_record 9 = .ok (.istore_n 1, 1) := by decide +kernel
theorem dX6_record_10 : decode cX6_record 10 = .ok (.iload_n 1, 1) := by decide +kernel
theorem dX6_record_11 : decode cX6_record 11 = .ok (.sipush 1200, 3) := by decide +kernel
theorem dX6_record_14 : decode cX6_record 14 = .ok (.if_icmp .ge 25, 3) := by decide +kernel
theorem dX6_record_17 : decode cX6_record 17 = .ok (.aload_n 0, 1) := by decide +kernel
theorem dX6_record_18 : decode cX6_record 18 = .ok (.getfield 13, 3) := by decide +kernel
theorem dX6_record_21 : decode cX6_record 21 = .ok (.iload_n 1, 1) := by decide +kernel
theorem dX6_record_22 : decode cX6_record 22 = .ok (.aload_n 0, 1) := by decide +kernel
theorem dX6_record_23 : decode cX6_record 23 = .ok (.getfield 13, 3) := by decide +kernel
theorem dX6_record_26 : decode cX6_record 26 = .ok (.iload_n 1, 1) := by decide +kernel
theorem dX6_record_27 : decode cX6_record 27 = .ok (.sipush 300, 3) := by decide +kernel
theorem dX6_record_30 : decode cX6_record 30 = .ok (.iadd, 1) := by decide +kernel
theorem dX6_record_31 : decode cX6_record 31 = .ok (.iaload, 1) := by decide +kernel
theorem dX6_record_32 : decode cX6_record 32 = .ok (.iastore, 1) := by decide +kernel
theorem dX6_record_33 : decode cX6_record 33 = .ok (.iinc 1 1, 3) := by decide +kernel
theorem dX6_record_36 : decode cX6_record 36 = .ok (.goto (-26), 3) := by decide +kernel
theorem dX6_record_39 : decode cX6_record 39 = .ok (.aload_n 0, 1) := by decide +kernel
theorem dX6_record_40 : decode cX6_record 40 = .ok (.dup, 1) := by decide +kernel
theorem dX6_record_41 : decode cX6_record 41 = .ok (.getfield 41, 3) := by decide +kernel
theorem dX6_record_44 : decode cX6_record 44 = .ok (.iconst 1, 1) := by decide +kernel
theorem dX6_record_45 : decode cX6_record 45 = .ok (.isub, 1) := by decide +kernel
theorem dX6_record_46 : decode cX6_record 46 = .ok (.putfield 41, 3) := by decide +kernel
theorem dX6_record_49 : decode cX6_record 49 = .ok (.iconst 0, 1) := by decide +kernel
theorem dX6_record_50 : decode cX6_record 50 = .ok (.istore_n 1, 1) := by decide +kernel
theorem dX6_record_51 : decode cX6_record 51 = .ok (.iload_n 1, 1) := by decide +kernel
theorem dX6_record_52 : decode cX6_record 52 = .ok (.sipush 300, 3) := by decide +kernel
theorem dX6_record_55 : decode cX6_record 55 = .ok (.if_icmp .ge 30, 3) := by decide +kernel
theorem dX6_record_58 : decode cX6_record 58 = .ok (.aload_n 0, 1) := by decide +kernel
theorem dX6_record_59 : decode cX6_record 59 = .ok (.getfield 13, 3) := by decide +kernel
theorem dX6_record_62 : decode cX6_record 62 = .ok (.aload_n 0, 1) := by decide +kernel
theorem dX6_record_63 : decode cX6_record 63 = .ok (.getfield 41, 3) := by decide +kernel
theorem dX6_record_66 : decode cX6_record 66 = .ok (.sipush 300, 3) := by decide +kernel
theorem dX6_record_69 : decode cX6_record 69 = .ok (.imul, 1) := by decide +kernel
theorem dX6_record_70 : decode cX6_record 70 = .ok (.iload_n 1, 1) := by decide +kernel
theorem dX6_record_71 : decode cX6_record 71 = .ok (.iadd, 1) := by decide +kernel
theorem dX6_record_72 : decode cX6_record 72 = .ok (.aload_n 0, 1) := by decide +kernel
theorem dX6_record_73 : decode cX6_record 73 = .ok (.getfield 7, 3) := by decide +kernel
theorem dX6_record_76 : decode cX6_record 76 = .ok (.iload_n 1, 1) := by decide +kernel
theorem dX6_record_77 : decode cX6_record 77 = .ok (.iaload, 1) := by decide +kernel
theorem dX6_record_78 : decode cX6_record 78 = .ok (.iastore, 1) := by decide +kernel
theorem dX6_record_79 : decode cX6_record 79 = .ok (.iinc 1 1, 3) := by decide +kernel
theorem dX6_record_82 : decode cX6_record 82 = .ok (.goto (-31), 3) := by decide +kernel
theorem dX6_record_85 : decode cX6_record 85 = .ok (.aload_n 0, 1) := by decide +kernel
theorem dX6_record_86 : decode cX6_record 86 = .ok (.dup, 1) := by decide +kernel
theorem dX6_record_87 : decode cX6_record 87 = .ok (.getfield 41, 3) := by decide +kernel
theorem dX6_record_90 : decode cX6_record 90 = .ok (.iconst 1, 1) := by decide +kernel
theorem dX6_record_91 : decode cX6_record 91 = .ok (.iadd, 1) := by decide +kernel
theorem dX6_record_92 : decode cX6_record 92 = .ok (.putfield 41, 3) := by decide +kernel
theorem dX6_record_95 : decode cX6_record 95 = .ok (.return_, 1) := by decide +kernel
theorem dX6_undo_0 : decode cX6_undo 0 = .ok (.aload_n 0, 1) := by decide +kernel
theorem dX6_undo_1 : decode cX6_undo 1 = .ok (.getfield 41, 3) := by decide +kernel
theorem dX6_undo_4 : decode cX6_undo 4 = .ok (.ifCond .ne 6, 3) := by decide +kernel
theorem dX6_undo_7 : decode cX6_undo 7 = .ok (.bipush (-3), 2) := by decide +kernel
theorem dX6_undo_9 : decode cX6_undo 9 = .ok (.ireturn, 1) := by decide +kernel
theorem dX6_undo_10 : decode cX6_undo 10 = .ok (.aload_n 0, 1) := by decide +kernel
theorem dX6_undo_11 : decode cX6_undo 11 = .ok (.dup, 1) := by decide +kernel
theorem dX6_undo_12 : decode cX6_undo 12 = .ok (.getfield 41, 3) := by decide +kernel
theorem dX6_undo_15 : decode cX6_undo 15 = .ok (.iconst 1, 1) := by decide +kernel
theorem dX6_undo_16 : decode cX6_undo 16 = .ok (.isub, 1) := by decide +kernel
theorem dX6_undo_17 : decode cX6_undo 17 = .ok (.putfield 41, 3) := by decide +kernel
theorem dX6_undo_20 : decode cX6_undo 20 = .ok (.iconst 0, 1) := by decide +kernel
theorem dX6_undo_21 : decode cX6_undo 21 = .ok (.istore_n 1, 1) := by decide +kernel
theorem dX6_undo_22 : decode cX6_undo 22 = .ok (.iload_n 1, 1) := by decide +kernel
theorem dX6_undo_23 : decode cX6_undo 23 = .ok (.sipush 300, 3) := by decide +kernel
theorem dX6_undo_26 : decode cX6_undo 26 = .ok (.if_icmp .ge 30, 3) := by decide +kernel
theorem dX6_undo_29 : decode cX6_undo 29 = .ok (.aload_n 0, 1) := by decide +kernel
theorem dX6_undo_30 : decode cX6_undo 30 = .ok (.getfield 7, 3) := by decide +kernel
theorem dX6_undo_33 : decode cX6_undo 33 = .ok (.iload_n 1, 1) := by decide +kernel
theorem dX6_undo_34 : decode cX6_undo 34 = .ok (.aload_n 0, 1) := by decide +kernel
theorem dX6_undo_35 : decode cX6_undo 35 = .ok (.getfield 13, 3) := by decide +kernel
theorem dX6_undo_38 : decode cX6_undo 38 = .ok (.aload_n 0, 1) := by decide +kernel
theorem dX6_undo_39 : decode cX6_undo 39 = .ok (.getfield 41, 3) := by decide +kernel
theorem dX6_undo_42 : decode cX6_undo 42 = .ok (.sipush 300, 3) := by decide +kernel
theorem dX6_undo_45 : decode cX6_undo 45 = .ok (.imul, 1) := by decide +kernel
theorem dX6_undo_46 : decode cX6_undo 46 = .ok (.iload_n 1, 1) := by decide +kernel
theorem dX6_undo_47 : decode cX6_undo 47 = .ok (.iadd, 1) := by decide +kernel
theorem dX6_undo_48 : decode cX6_undo 48 = .ok (.iaload, 1) := by decide +kernel
theorem dX6_undo_49 : decode cX6_undo 49 = .ok (.iastore, 1) := by decide +kernel
theorem dX6_undo_50 : decode cX6_undo 50 = .ok (.iinc 1 1, 3) := by decide +kernel
theorem dX6_undo_53 : decode cX6_undo 53 = .ok (.goto (-31), 3) := by decide +kernel
theorem dX6_undo_56 : decode cX6_undo 56 = .ok (.aload_n 0, 1) := by decide +kernel
theorem dX6_undo_57 : decode cX6_undo 57 = .ok (.getfield 41, 3) := by decide +kernel
theorem dX6_undo_60 : decode cX6_undo 60 = .ok (.ireturn, 1) := by decide +kernel
set_option maxRecDepth 20000 in
theorem ggX6_many_X6_slots : GoodIn wsX6_many wsX6_slots := goodIn_r _ [5, 6, 7, 8, 9, 10, 11, 12, 13, 14, 15, 16, 17] (by decide +kernel) (by decide +kernel)
set_option maxRecDepth 20000 in
theorem gX6_many_X6_slots : GoodIn wsX6_many (wsV RX6 33 RX6 yX6_slots wsX6_slots) := goodIn_app (goodIn_of _ (by decide +kernel)) ggX6_many_X6_slots
theorem dX6_many_0 : decode cX6_many 0 = .ok (.iconst 0, 1) := by decide +kernel
theorem dX6_many_1 : decode cX6_many 1 = .ok (.istore_n 1, 1) := by decide +kernel
theorem dX6_many_2 : decode cX6_many 2 = .ok (.iconst 0, 1) := by decide +kernel
theorem dX6_many_3 : decode cX6_many 3 = .ok (.istore_n 2, 1) := by decide +kernel
theorem dX6_many_4 : decode cX6_many 4 = .ok (.iload_n 2, 1) := by decide +kernel
theorem dX6_many_5 : decode cX6_many 5 = .ok (.bipush 6, 2) := by decide +kernel
theorem dX6_many_7 : decode cX6_many 7 = .ok (.if_icmp .ge 25, 3) := by decide +kernel
theorem dX6_many_10 : decode cX6_many 10 = .ok (.iload_n 1, 1) := by decide +kernel
theorem dX6_many_11 : decode cX6_many 11 = .ok (.aload_n 0, 1) := by decide +kernel
theorem dX6_many_12 : decode cX6_many 12 = .ok (.iload_n 2, 1) := by decide +kernel
theorem dX6_many_13 : decode cX6_many 13 = .ok (.invokevirtual 33, 3) := by decide +kernel
theorem dX6_many_16 : decode cX6_many 16 = .ok (.ifCond .le 7, 3) := by decide +kernel
theorem dX6_many_19 : decode cX6_many 19 = .ok (.iconst 1, 1) := by decide +kernel
theorem dX6_many_20 : decode cX6_many 20 = .ok (.goto 4, 3) := by decide +kernel
theorem dX6_many_23 : decode cX6_many 23 = .ok (.iconst 0, 1) := by decide +kernel
theorem dX6_many_24 : decode cX6_many 24 = .ok (.iadd, 1) := by decide +kernel
theorem dX6_many_25 : decode cX6_many 25 = .ok (.istore_n 1, 1) := by decide +kernel
theorem dX6_many_26 : decode cX6_many 26 = .ok (.iinc 2 1, 3) := by decide +kernel
theorem dX6_many_29 : decode cX6_many 29 = .ok (.goto (-25), 3) := by decide +kernel
theorem dX6_many_32 : decode cX6_many 32 = .ok (.iload_n 1, 1) := by decide +kernel
theorem dX6_many_33 : decode cX6_many 33 = .ok (.ireturn, 1) := by decide +kernel
set_option maxRecDepth 20000 in
theorem ggX6_save_X6_many : GoodIn wsX6_save wsX6_many := goodIn_r _ [8, 9, 10, 11, 7, 12, 3, 13, 14, 15, 16, 17, 18, 19, 20, 21, 22, 23] (by decide +kernel) (by decide +kernel)
set_option maxRecDepth 20000 in
theorem gX6_save_X6_many : GoodIn wsX6_save (wsV RX6 49 RX6 yX6_many wsX6_many) := goodIn_app (goodIn_of _ (by decide +kernel)) ggX6_save_X6_many
theorem dX6_save_0 : decode cX6_save 0 = .ok (.aload_n 0, 1) := by decide +kernel
theorem dX6_save_1 : decode cX6_save 1 = .ok (.iconst 1, 1) := by decide +kernel
theorem dX6_save_2 : decode cX6_save 2 = .ok (.putfield 45, 3) := by decide +kernel
theorem dX6_save_5 : decode cX6_save 5 = .ok (.iconst 0, 1) := by decide +kernel
theorem dX6_save_6 : decode cX6_save 6 = .ok (.istore_n 1, 1) := by decide +kernel
theorem dX6_save_7 : decode cX6_save 7 = .ok (.iload_n 1, 1) := by decide +kernel
theorem dX6_save_8 : decode cX6_save 8 = .ok (.sipush 300, 3) := by decide +kernel
theorem dX6_save_11 : decode cX6_save 11 = .ok (.if_icmp .ge 21, 3) := by decide +kernel
theorem dX6_save_14 : decode cX6_save 14 = .ok (.aload_n 0, 1) := by decide +kernel
theorem dX6_save_15 : decode cX6_save 15 = .ok (.getfield 16, 3) := by decide +kernel
theorem dX6_save_18 : decode cX6_save 18 = .ok (.iload_n 1, 1) := by decide +kernel
theorem dX6_save_19 : decode cX6_save 19 = .ok (.aload_n 0, 1) := by decide +kernel
theorem dX6_save_20 : decode cX6_save 20 = .ok (.getfield 7, 3) := by decide +kernel
theorem dX6_save_23 : decode cX6_save 23 = .ok (.iload_n 1, 1) := by decide +kernel
theorem dX6_save_24 : decode cX6_save 24 = .ok (.iaload, 1) := by decide +kernel
theorem dX6_save_25 : decode cX6_save 25 = .ok (.iastore, 1) := by decide +kernel
theorem dX6_save_26 : decode cX6_save 26 = .ok (.iinc 1 1, 3) := by decide +kernel
theorem dX6_save_29 : decode cX6_save 29 = .ok (.goto (-22), 3) := by decide +kernel
theorem dX6_save_32 : decode cX6_save 32 = .ok (.aload_n 0, 1) := by decide +kernel
theorem dX6_save_33 : decode cX6_save 33 = .ok (.invokevirtual 49, 3) := by decide +kernel
theorem dX6_save_36 : decode cX6_save 36 = .ok (.ireturn, 1) := by decide +kernel
set_option maxRecDepth 20000 in
theorem ggX6_restore_X6_record : GoodIn wsX6_restore wsX6_record := goodIn_r _ [8, 9, 10, 2, 19, 20, 21, 22, 23, 24, 25, 26, 27, 28, 29] (by decide +kernel) (by decide +kernel)
set_option maxRecDepth 20000 in
theorem gX6_restore_X6_record : GoodIn wsX6_restore (wsV RX6 53 RX6 yX6_record wsX6_record) := goodIn_app (goodIn_of _ (by decide +kernel)) ggX6_restore_X6_record
set_option maxRecDepth 20000 in
theorem ggX6_restore_X6_many : GoodIn wsX6_restore wsX6_many := goodIn_r _ [14, 15, 16, 17, 7, 18, 2, 19, 20, 21, 22, 23, 24, 25, 26, 27, 28, 29] (by decide +kernel) (by decide +kernel)
set_option maxRecDepth 20000 in
theorem gX6_restore_X6_many : GoodIn wsX6_restore (wsV RX6 49 RX6 yX6_many wsX6_many) := goodIn_app (goodIn_of _ (by decide +kernel)) ggX6_restore_X6_many
theorem dX6_restore_0 : decode cX6_restore 0 = .ok (.aload_n 0, 1) := by decide +kernel
theorem dX6_restore_1 : decode cX6_restore 1 = .ok (.getfield 45, 3) := by decide +kernel
theorem dX6_restore_4 : decode cX6_restore 4 = .ok (.ifCond .ne 6, 3) := by decide +kernel
theorem dX6_restore_7 : decode cX6_restore 7 = .ok (.bipush (-3), 2) := by decide +kernel
theorem dX6_restore_9 : decode cX6_restore 9 = .ok (.ireturn, 1) := by decide +kernel
theorem dX6_restore_10 : decode cX6_restore 10 = .ok (.aload_n 0, 1) := by decide +kernel
theorem dX6_restore_11 : decode cX6_restore 11 = .ok (.invokevirtual 53, 3) := by decide +kernel
theorem dX6_restore_14 : decode cX6_restore 14 = .ok (.iconst 0, 1) := by decide +kernel
theorem dX6_restore_15 : decode cX6_restore 15 = .ok (.istore_n 1, 1) := by decide +kernel
theorem dX6_restore_16 : decode cX6_restore 16 = .ok (.iload_n 1, 1) := by decide +kernel
theorem dX6_restore_17 : decode cX6_restore 17 = .ok (.sipush 300, 3) := by decide +kernel
theorem dX6_restore_20 : decode cX6_restore 20 = .ok (.if_icmp .ge 21, 3) := by decide +kernel
theorem dX6_restore_23 : decode cX6_restore 23 = .ok (.aload_n 0, 1) := by decide +kernel
theorem dX6_restore_24 : decode cX6_restore 24 = .ok (.getfield 7, 3) := by decide +kernel
theorem dX6_restore_27 : decode cX6_restore 27 = .ok (.iload_n 1, 1) := by decide +kernel
theorem dX6_restore_28 : decode cX6_restore 28 = .ok (.aload_n 0, 1) := by decide +kernel
theorem dX6_restore_29 : decode cX6_restore 29 = .ok (.getfield 16, 3) := by decide +kernel
theorem dX6_restore_32 : decode cX6_restore 32 = .ok (.iload_n 1, 1) := by decide +kernel
theorem dX6_restore_33 : decode cX6_restore 33 = .ok (.iaload, 1) := by decide +kernel
theorem dX6_restore_34 : decode cX6_restore 34 = .ok (.iastore, 1) := by decide +kernel
theorem dX6_restore_35 : decode cX6_restore 35 = .ok (.iinc 1 1, 3) := by decide +kernel
theorem dX6_restore_38 : decode cX6_restore 38 = .ok (.goto (-22), 3) := by decide +kernel
theorem dX6_restore_41 : decode cX6_restore 41 = .ok (.aload_n 0, 1) := by decide +kernel
theorem dX6_restore_42 : decode cX6_restore 42 = .ok (.invokevirtual 49, 3) := by decide +kernel
theorem dX6_restore_45 : decode cX6_restore 45 = .ok (.ireturn, 1) := by decide +kernel
set_option maxRecDepth 20000 in
theorem ggX6_fill_X6_isKind : GoodIn wsX6_fill wsX6_isKind := goodIn_r _ [5, 6, 7, 4, 8] (by decide +kernel) (by decide +kernel)
set_option maxRecDepth 20000 in
theorem gX6_fill_X6_isKind : GoodIn wsX6_fill (va_wsS RX6 56 yX6_isKind wsX6_isKind) := goodIn_app (goodIn_of _ (by decide +kernel)) ggX6_fill_X6_isKind
set_option maxRecDepth 20000 in
theorem ggX6_fill_X6_in : GoodIn wsX6_fill wsX6_in := goodIn_r _ [8] (by decide +kernel) (by decide +kernel)
set_option maxRecDepth 20000 in
theorem gX6_fill_X6_in : GoodIn wsX6_fill (va_wsS RX6 29 yX6_in wsX6_in) := goodIn_app (goodIn_of _ (by decide +kernel)) ggX6_fill_X6_in
set_option maxRecDepth 20000 in
theorem ggX6_fill_X6_record : GoodIn wsX6_fill wsX6_record := goodIn_r _ [12, 13, 14, 1, 15, 16, 17, 18, 19, 20, 21, 22, 23, 24, 25] (by decide +kernel) (by decide +kernel)
set_option maxRecDepth 20000 in
theorem gX6_fill_X6_record : GoodIn wsX6_fill (wsV RX6 53 RX6 yX6_record wsX6_record) := goodIn_app (goodIn_of _ (by decide +kernel)) ggX6_fill_X6_record
theorem dX6_fill_0 : decode cX6_fill 0 = .ok (.iload_n 1, 1) := by decide +kernel
theorem dX6_fill_1 : decode cX6_fill 1 = .ok (.invokestatic 56, 3) := by decide +kernel
theorem dX6_fill_4 : decode cX6_fill 4 = .ok (.ifCond .ne 5, 3) := by decide +kernel
theorem dX6_fill_7 : decode cX6_fill 7 = .ok (.iconst (-1), 1) := by decide +kernel
theorem dX6_fill_8 : decode cX6_fill 8 = .ok (.ireturn, 1) := by decide +kernel
theorem dX6_fill_9 : decode cX6_fill 9 = .ok (.iload_n 2, 1) := by decide +kernel
theorem dX6_fill_10 : decode cX6_fill 10 = .ok (.iconst 0, 1) := by decide +kernel
theorem dX6_fill_11 : decode cX6_fill 11 = .ok (.bipush 99, 2) := by decide +kernel
theorem dX6_fill_13 : decode cX6_fill 13 = .ok (.invokestatic 29, 3) := by decide +kernel
theorem dX6_fill_16 : decode cX6_fill 16 = .ok (.ifCond .ne 6, 3) := by decide +kernel
theorem dX6_fill_19 : decode cX6_fill 19 = .ok (.bipush (-2), 2) := by decide +kernel
theorem dX6_fill_21 : decode cX6_fill 21 = .ok (.ireturn, 1) := by decide +kernel
theorem dX6_fill_22 : decode cX6_fill 22 = .ok (.aload_n 0, 1) := by decide +kernel
theorem dX6_fill_23 : decode cX6_fill 23 = .ok (.invokevirtual 53, 3) := by decide +kernel
theorem dX6_fill_26 : decode cX6_fill 26 = .ok (.aload_n 0, 1) := by decide +kernel
theorem dX6_fill_27 : decode cX6_fill 27 = .ok (.getfield 7, 3) := by decide +kernel
theorem dX6_fill_30 : decode cX6_fill 30 = .ok (.iconst 0, 1) := by decide +kernel
theorem dX6_fill_31 : decode cX6_fill 31 = .ok (.iload_n 1, 1) := by decide +kernel
theorem dX6_fill_32 : decode cX6_fill 32 = .ok (.iadd, 1) := by decide +kernel
theorem dX6_fill_33 : decode cX6_fill 33 = .ok (.iconst 1, 1) := by decide +kernel
theorem dX6_fill_34 : decode cX6_fill 34 = .ok (.isub, 1) := by decide +kernel
theorem dX6_fill_35 : decode cX6_fill 35 = .ok (.iaload, 1) := by decide +kernel
theorem dX6_fill_36 : decode cX6_fill 36 = .ok (.istore_n 3, 1) := by decide +kernel
theorem dX6_fill_37 : decode cX6_fill 37 = .ok (.aload_n 0, 1) := by decide +kernel
theorem dX6_fill_38 : decode cX6_fill 38 = .ok (.getfield 7, 3) := by decide +kernel
theorem dX6_fill_41 : decode cX6_fill 41 = .ok (.iconst 0, 1) := by decide +kernel
theorem dX6_fill_42 : decode cX6_fill 42 = .ok (.iload_n 1, 1) := by decide +kernel
theorem dX6_fill_43 : decode cX6_fill 43 = .ok (.iadd, 1) := by decide +kernel
theorem dX6_fill_44 : decode cX6_fill 44 = .ok (.iconst 1, 1) := by decide +kernel
theorem dX6_fill_45 : decode cX6_fill 45 = .ok (.isub, 1) := by decide +kernel
theorem dX6_fill_46 : decode cX6_fill 46 = .ok (.iload_n 2, 1) := by decide +kernel
theorem dX6_fill_47 : decode cX6_fill 47 = .ok (.iastore, 1) := by decide +kernel
theorem dX6_fill_48 : decode cX6_fill 48 = .ok (.iload_n 3, 1) := by decide +kernel
theorem dX6_fill_49 : decode cX6_fill 49 = .ok (.ireturn, 1) := by decide +kernel
set_option maxRecDepth 20000 in
theorem ggX6_weigh_X6_isKind : GoodIn wsX6_weigh wsX6_isKind := goodIn_r _ [5, 6, 7, 4, 8] (by decide +kernel) (by decide +kernel)
set_option maxRecDepth 20000 in
theorem gX6_weigh_X6_isKind : GoodIn wsX6_weigh (va_wsS RX6 56 yX6_isKind wsX6_isKind) := goodIn_app (goodIn_of _ (by decide +kernel)) ggX6_weigh_X6_isKind
set_option maxRecDepth 20000 in
theorem ggX6_weigh_X6_in : GoodIn wsX6_weigh wsX6_in := goodIn_r _ [8] (by decide +kernel) (by decide +kernel)
set_option maxRecDepth 20000 in
theorem gX6_weigh_X6_in : GoodIn wsX6_weigh (va_wsS RX6 29 yX6_in wsX6_in) := goodIn_app (goodIn_of _ (by decide +kernel)) ggX6_weigh_X6_in
set_option maxRecDepth 20000 in
theorem ggX6_weigh_X6_record : GoodIn wsX6_weigh wsX6_record := goodIn_r _ [12, 13, 14, 1, 15, 16, 17, 18, 19, 20, 21, 22, 23, 24, 25] (by decide +kernel) (by decide +kernel)
set_option maxRecDepth 20000 in
theorem gX6_weigh_X6_record : GoodIn wsX6_weigh (wsV RX6 53 RX6 yX6_record wsX6_record) := goodIn_app (goodIn_of _ (by decide +kernel)) ggX6_weigh_X6_record
theorem dX6_weigh_0 : decode cX6_weigh 0 = .ok (.iload_n 1, 1) := by decide +kernel
theorem dX6_weigh_1 : decode cX6_weigh 1 = .ok (.invokestatic 56, 3) := by decide +kernel
theorem dX6_weigh_4 : decode cX6_weigh 4 = .ok (.ifCond .ne 5, 3) := by decide +kernel
theorem dX6_weigh_7 : decode cX6_weigh 7 = .ok (.iconst (-1), 1) := by decide +kernel
theorem dX6_weigh_8 : decode cX6_weigh 8 = .ok (.ireturn, 1) := by decide +kernel
theorem dX6_weigh_9 : decode cX6_weigh 9 = .ok (.iload_n 2, 1) := by decide +kernel
theorem dX6_weigh_10 : decode cX6_weigh 10 = .ok (.iconst 1, 1) := by decide +kernel
theorem dX6_weigh_11 : decode cX6_weigh 11 = .ok (.bipush 50, 2) := by decide +kernel
theorem dX6_weigh_13 : decode cX6_weigh 13 = .ok (.invokestatic 29, 3) := by decide +kernel
theorem dX6_weigh_16 : decode cX6_weigh 16 = .ok (.ifCond .ne 6, 3) := by decide +kernel
theorem dX6_weigh_19 : decode cX6_weigh 19 = .ok (.bipush (-2), 2) := by decide +kernel
theorem dX6_weigh_21 : decode cX6_weigh 21 = .ok (.ireturn, 1) := by decide +kernel
theorem dX6_weigh_22 : decode cX6_weigh 22 = .ok (.aload_n 0, 1) := by decide +kernel
theorem dX6_weigh_23 : decode cX6_weigh 23 = .ok (.invokevirtual 53, 3) := by decide +kernel
theorem dX6_weigh_26 : decode cX6_weigh 26 = .ok (.aload_n 0, 1) := by decide +kernel
theorem dX6_weigh_27 : decode cX6_weigh 27 = .ok (.getfield 7, 3) := by decide +kernel
theorem dX6_weigh_30 : decode cX6_weigh 30 = .ok (.iconst 5, 1) := by decide +kernel
theorem dX6_weigh_31 : decode cX6_weigh 31 = .ok (.iload_n 1, 1) := by decide +kernel
theorem dX6_weigh_32 : decode cX6_weigh 32 = .ok (.iadd, 1) := by decide +kernel
theorem dX6_weigh_33 : decode cX6_weigh 33 = .ok (.iconst 1, 1) := by decide +kernel
theorem dX6_weigh_34 : decode cX6_weigh 34 = .ok (.isub, 1) := by decide +kernel
theorem dX6_weigh_35 : decode cX6_weigh 35 = .ok (.iaload, 1) := by decide +kernel
theorem dX6_weigh_36 : decode cX6_weigh 36 = .ok (.istore_n 3, 1) := by decide +kernel
theorem dX6_weigh_37 : decode cX6_weigh 37 = .ok (.aload_n 0, 1) := by decide +kernel
theorem dX6_weigh_38 : decode cX6_weigh 38 = .ok (.getfield 7, 3) := by decide +kernel
theorem dX6_weigh_41 : decode cX6_weigh 41 = .ok (.iconst 5, 1) := by decide +kernel
theorem dX6_weigh_42 : decode cX6_weigh 42 = .ok (.iload_n 1, 1) := by decide +kernel
theorem dX6_weigh_43 : decode cX6_weigh 43 = .ok (.iadd, 1) := by decide +kernel
theorem dX6_weigh_44 : decode cX6_weigh 44 = .ok (.iconst 1, 1) := by decide +kernel
theorem dX6_weigh_45 : decode cX6_weigh 45 = .ok (.isub, 1) := by decide +kernel
theorem dX6_weigh_46 : decode cX6_weigh 46 = .ok (.iload_n 2, 1) := by decide +kernel
theorem dX6_weigh_47 : decode cX6_weigh 47 = .ok (.iastore, 1) := by decide +kernel
theorem dX6_weigh_48 : decode cX6_weigh 48 = .ok (.iload_n 3, 1) := by decide +kernel
theorem dX6_weigh_49 : decode cX6_weigh 49 = .ok (.ireturn, 1) := by decide +kernel
set_option maxRecDepth 20000 in
theorem ggX6_hung_X6_slots : GoodIn wsX6_hung wsX6_slots := goodIn_r _ [6, 1, 11, 12, 13, 14, 15, 16, 17, 18, 19, 20, 21] (by decide +kernel) (by decide +kernel)
set_option maxRecDepth 20000 in
theorem gX6_hung_X6_slots : GoodIn wsX6_hung (wsV RX6 33 RX6 yX6_slots wsX6_slots) := goodIn_app (goodIn_of _ (by decide +kernel)) ggX6_hung_X6_slots
set_option maxRecDepth 20000 in
theorem ggX6_hung_X6_at : GoodIn wsX6_hung wsX6_at := goodIn_r _ [10, 2, 3, 4, 5, 6, 1, 11, 12, 13, 14, 15, 16, 17, 18, 19, 20, 21] (by decide +kernel) (by decide +kernel)
set_option maxRecDepth 20000 in
theorem gX6_hung_X6_at : GoodIn wsX6_hung (wsV RX6 59 RX6 yX6_at wsX6_at) := goodIn_app (goodIn_of _ (by decide +kernel)) ggX6_hung_X6_at
theorem dX6_hung_0 : decode cX6_hung 0 = .ok (.iconst 0, 1) := by decide +kernel
theorem dX6_hung_1 : decode cX6_hung 1 = .ok (.istore_n 3, 1) := by decide +kernel
theorem dX6_hung_2 : decode cX6_hung 2 = .ok (.iconst 0, 1) := by decide +kernel
theorem dX6_hung_3 : decode cX6_hung 3 = .ok (.istore 4, 2) := by decide +kernel
theorem dX6_hung_5 : decode cX6_hung 5 = .ok (.iload 4, 2) := by decide +kernel
theorem dX6_hung_7 : decode cX6_hung 7 = .ok (.aload_n 0, 1) := by decide +kernel
theorem dX6_hung_8 : decode cX6_hung 8 = .ok (.iload_n 1, 1) := by decide +kernel
theorem dX6_hung_9 : decode cX6_hung 9 = .ok (.invokevirtual 33, 3) := by decide +kernel
theorem dX6_hung_12 : decode cX6_hung 12 = .ok (.if_icmp .ge 33, 3) := by decide +kernel
theorem dX6_hung_15 : decode cX6_hung 15 = .ok (.iload_n 3, 1) := by decide +kernel
theorem dX6_hung_16 : decode cX6_hung 16 = .ok (.aload_n 0, 1) := by decide +kernel
theorem dX6_hung_17 : decode cX6_hung 17 = .ok (.getfield 7, 3) := by decide +kernel
theorem dX6_hung_20 : decode cX6_hung 20 = .ok (.aload_n 0, 1) := by decide +kernel
theorem dX6_hung_21 : decode cX6_hung 21 = .ok (.iload_n 1, 1) := by decide +kernel
theorem dX6_hung_22 : decode cX6_hung 22 = .ok (.iload 4, 2) := by decide +kernel
theorem dX6_hung_24 : decode cX6_hung 24 = .ok (.invokevirtual 59, 3) := by decide +kernel
theorem dX6_hung_27 : decode cX6_hung 27 = .ok (.iaload, 1) := by decide +kernel
theorem dX6_hung_28 : decode cX6_hung 28 = .ok (.iload_n 2, 1) := by decide +kernel
theorem dX6_hung_29 : decode cX6_hung 29 = .ok (.if_icmp .ne 7, 3) := by decide +kernel
theorem dX6_hung_32 : decode cX6_hung 32 = .ok (.iconst 1, 1) := by decide +kernel
theorem dX6_hung_33 : decode cX6_hung 33 = .ok (.goto 4, 3) := by decide +kernel
theorem dX6_hung_36 : decode cX6_hung 36 = .ok (.iconst 0, 1) := by decide +kernel
theorem dX6_hung_37 : decode cX6_hung 37 = .ok (.iadd, 1) := by decide +kernel
theorem dX6_hung_38 : decode cX6_hung 38 = .ok (.istore_n 3, 1) := by decide +kernel
theorem dX6_hung_39 : decode cX6_hung 39 = .ok (.iinc 4 1, 3) := by decide +kernel
theorem dX6_hung_42 : decode cX6_hung 42 = .ok (.goto (-37), 3) := by decide +kernel
theorem dX6_hung_45 : decode cX6_hung 45 = .ok (.iload_n 3, 1) := by decide +kernel
theorem dX6_hung_46 : decode cX6_hung 46 = .ok (.ireturn, 1) := by decide +kernel
set_option maxRecDepth 20000 in
theorem ggX6_kind_X6_isKind : GoodIn wsX6_kind wsX6_isKind := goodIn_r _ [5, 6, 7, 4, 8] (by decide +kernel) (by decide +kernel)
set_option maxRecDepth 20000 in
theorem gX6_kind_X6_isKind : GoodIn wsX6_kind (va_wsS RX6 56 yX6_isKind wsX6_isKind) := goodIn_app (goodIn_of _ (by decide +kernel)) ggX6_kind_X6_isKind
set_option maxRecDepth 20000 in
theorem ggX6_kind_X6_in : GoodIn wsX6_kind wsX6_in := goodIn_r _ [8] (by decide +kernel) (by decide +kernel)
set_option maxRecDepth 20000 in
theorem gX6_kind_X6_in : GoodIn wsX6_kind (va_wsS RX6 29 yX6_in wsX6_in) := goodIn_app (goodIn_of _ (by decide +kernel)) ggX6_kind_X6_in
set_option maxRecDepth 20000 in
theorem ggX6_kind_X6_hung : GoodIn wsX6_kind wsX6_hung := goodIn_r _ [12, 1, 13, 14, 15, 4, 16, 17, 18, 19, 20, 21, 22, 23, 24, 25, 26, 27, 28, 29, 30, 31] (by decide +kernel) (by decide +kernel)
set_option maxRecDepth 20000 in
theorem gX6_kind_X6_hung : GoodIn wsX6_kind (wsV RX6 63 RX6 yX6_hung wsX6_hung) := goodIn_app (goodIn_of _ (by decide +kernel)) ggX6_kind_X6_hung
theorem dX6_kind_0 : decode cX6_kind 0 = .ok (.iload_n 1, 1) := by decide +kernel
theorem dX6_kind_1 : decode cX6_kind 1 = .ok (.invokestatic 56, 3) := by decide +kernel
theorem dX6_kind_4 : decode cX6_kind 4 = .ok (.ifCond .ne 5, 3) := by decide +kernel
theorem dX6_kind_7 : decode cX6_kind 7 = .ok (.iconst (-1), 1) := by decide +kernel
theorem dX6_kind_8 : decode cX6_kind 8 = .ok (.ireturn, 1) := by decide +kernel
theorem dX6_kind_9 : decode cX6_kind 9 = .ok (.iload_n 2, 1) := by decide +kernel
theorem dX6_kind_10 : decode cX6_kind 10 = .ok (.iconst 0, 1) := by decide +kernel
theorem dX6_kind_11 : decode cX6_kind 11 = .ok (.iconst 2, 1) := by decide +kernel
theorem dX6_kind_12 : decode cX6_kind 12 = .ok (.invokestatic 29, 3) := by decide +kernel
theorem dX6_kind_15 : decode cX6_kind 15 = .ok (.ifCond .ne 6, 3) := by decide +kernel
theorem dX6_kind_18 : decode cX6_kind 18 = .ok (.bipush (-2), 2) := by decide +kernel
theorem dX6_kind_20 : decode cX6_kind 20 = .ok (.ireturn, 1) := by decide +kernel
theorem dX6_kind_21 : decode cX6_kind 21 = .ok (.iconst 0, 1) := by decide +kernel
theorem dX6_kind_22 : decode cX6_kind 22 = .ok (.istore_n 3, 1) := by decide +kernel
theorem dX6_kind_23 : decode cX6_kind 23 = .ok (.iconst 0, 1) := by decide +kernel
theorem dX6_kind_24 : decode cX6_kind 24 = .ok (.istore 4, 2) := by decide +kernel
theorem dX6_kind_26 : decode cX6_kind 26 = .ok (.iload 4, 2) := by decide +kernel
theorem dX6_kind_28 : decode cX6_kind 28 = .ok (.bipush 6, 2) := by decide +kernel
theorem dX6_kind_30 : decode cX6_kind 30 = .ok (.if_icmp .ge 19, 3) := by decide +kernel
theorem dX6_kind_33 : decode cX6_kind 33 = .ok (.iload_n 3, 1) := by decide +kernel
theorem dX6_kind_34 : decode cX6_kind 34 = .ok (.aload_n 0, 1) := by decide +kernel
theorem dX6_kind_35 : decode cX6_kind 35 = .ok (.iload 4, 2) := by decide +kernel
theorem dX6_kind_37 : decode cX6_kind 37 = .ok (.iload_n 1, 1) := by decide +kernel
theorem dX6_kind_38 : decode cX6_kind 38 = .ok (.invokevirtual 63, 3) := by decide +kernel
theorem dX6_kind_41 : decode cX6_kind 41 = .ok (.iadd, 1) := by decide +kernel
theorem dX6_kind_42 : decode cX6_kind 42 = .ok (.istore_n 3, 1) := by decide +kernel
theorem dX6_kind_43 : decode cX6_kind 43 = .ok (.iinc 4 1, 3) := by decide +kernel
theorem dX6_kind_46 : decode cX6_kind 46 = .ok (.goto (-20), 3) := by decide +kernel
theorem dX6_kind_49 : decode cX6_kind 49 = .ok (.iload_n 2, 1) := by decide +kernel
theorem dX6_kind_50 : decode cX6_kind 50 = .ok (.ifCond .ne 16, 3) := by decide +kernel
theorem dX6_kind_53 : decode cX6_kind 53 = .ok (.aload_n 0, 1) := by decide +kernel
theorem dX6_kind_54 : decode cX6_kind 54 = .ok (.getfield 7, 3) := by decide +kernel
theorem dX6_kind_57 : decode cX6_kind 57 = .ok (.iconst 0, 1) := by decide +kernel
theorem dX6_kind_58 : decode cX6_kind 58 = .ok (.iload_n 1, 1) := by decide +kernel
theorem dX6_kind_59 : decode cX6_kind 59 = .ok (.iadd, 1) := by decide +kernel
theorem dX6_kind_60 : decode cX6_kind 60 = .ok (.iconst 1, 1) := by decide +kernel
theorem dX6_kind_61 : decode cX6_kind 61 = .ok (.isub, 1) := by decide +kernel
theorem dX6_kind_62 : decode cX6_kind 62 = .ok (.iaload, 1) := by decide +kernel
theorem dX6_kind_63 : decode cX6_kind 63 = .ok (.goto 22, 3) := by decide +kernel
theorem dX6_kind_66 : decode cX6_kind 66 = .ok (.iload_n 2, 1) := by decide +kernel
theorem dX6_kind_67 : decode cX6_kind 67 = .ok (.iconst 1, 1) := by decide +kernel
theorem dX6_kind_68 : decode cX6_kind 68 = .ok (.if_icmp .ne 16, 3) := by decide +kernel
theorem dX6_kind_71 : decode cX6_kind 71 = .ok (.aload_n 0, 1) := by decide +kernel
theorem dX6_kind_72 : decode cX6_kind 72 = .ok (.getfield 7, 3) := by decide +kernel
theorem dX6_kind_75 : decode cX6_kind 75 = .ok (.iconst 5, 1) := by decide +kernel
theorem dX6_kind_76 : decode cX6_kind 76 = .ok (.iload_n 1, 1) := by decide +kernel
theorem dX6_kind_77 : decode cX6_kind 77 = .ok (.iadd, 1) := by decide +kernel
theorem dX6_kind_78 : decode cX6_kind 78 = .ok (.iconst 1, 1) := by decide +kernel
theorem dX6_kind_79 : decode cX6_kind 79 = .ok (.isub, 1) := by decide +kernel
theorem dX6_kind_80 : decode cX6_kind 80 = .ok (.iaload, 1) := by decide +kernel
theorem dX6_kind_81 : decode cX6_kind 81 = .ok (.goto 4, 3) := by decide +kernel
theorem dX6_kind_84 : decode cX6_kind 84 = .ok (.iload_n 3, 1) := by decide +kernel
theorem dX6_kind_85 : decode cX6_kind 85 = .ok (.ireturn, 1) := by decide +kernel
set_option maxRecDepth 20000 in
theorem ggX6_free_X6_slots : GoodIn wsX6_free wsX6_slots := goodIn_r _ [5, 6, 7, 8, 9, 10, 11, 12, 13, 14, 15, 16, 17] (by decide +kernel) (by decide +kernel)
set_option maxRecDepth 20000 in
theorem gX6_free_X6_slots : GoodIn wsX6_free (wsV RX6 33 RX6 yX6_slots wsX6_slots) := goodIn_app (goodIn_of _ (by decide +kernel)) ggX6_free_X6_slots
theorem dX6_free_0 : decode cX6_free 0 = .ok (.bipush (-6), 2) := by decide +kernel
theorem dX6_free_2 : decode cX6_free 2 = .ok (.istore_n 1, 1) := by decide +kernel
theorem dX6_free_3 : decode cX6_free 3 = .ok (.iconst 5, 1) := by decide +kernel
theorem dX6_free_4 : decode cX6_free 4 = .ok (.istore_n 2, 1) := by decide +kernel
theorem dX6_free_5 : decode cX6_free 5 = .ok (.iload_n 2, 1) := by decide +kernel
theorem dX6_free_6 : decode cX6_free 6 = .ok (.ifCond .lt 23, 3) := by decide +kernel
theorem dX6_free_9 : decode cX6_free 9 = .ok (.aload_n 0, 1) := by decide +kernel
theorem dX6_free_10 : decode cX6_free 10 = .ok (.iload_n 2, 1) := by decide +kernel
theorem dX6_free_11 : decode cX6_free 11 = .ok (.invokevirtual 33, 3) := by decide +kernel
theorem dX6_free_14 : decode cX6_free 14 = .ok (.ifCond .ne 7, 3) := by decide +kernel
theorem dX6_free_17 : decode cX6_free 17 = .ok (.iload_n 2, 1) := by decide +kernel
theorem dX6_free_18 : decode cX6_free 18 = .ok (.goto 4, 3) := by decide +kernel
theorem dX6_free_21 : decode cX6_free 21 = .ok (.iload_n 1, 1) := by decide +kernel
theorem dX6_free_22 : decode cX6_free 22 = .ok (.istore_n 1, 1) := by decide +kernel
theorem dX6_free_23 : decode cX6_free 23 = .ok (.iinc 2 (-1), 3) := by decide +kernel
theorem dX6_free_26 : decode cX6_free 26 = .ok (.goto (-21), 3) := by decide +kernel
theorem dX6_free_29 : decode cX6_free 29 = .ok (.iload_n 1, 1) := by decide +kernel
theorem dX6_free_30 : decode cX6_free 30 = .ok (.ireturn, 1) := by decide +kernel
theorem dX6_lies_0 : decode cX6_lies 0 = .ok (.aload_n 0, 1) := by decide +kernel
theorem dX6_lies_1 : decode cX6_lies 1 = .ok (.getfield 7, 3) := by decide +kernel
theorem dX6_lies_4 : decode cX6_lies 4 = .ok (.bipush 10, 2) := by decide +kernel
theorem dX6_lies_6 : decode cX6_lies 6 = .ok (.bipush 17, 2) := by decide +kernel
theorem dX6_lies_8 : decode cX6_lies 8 = .ok (.iload_n 1, 1) := by decide +kernel
theorem dX6_lies_9 : decode cX6_lies 9 = .ok (.imul, 1) := by decide +kernel
theorem dX6_lies_10 : decode cX6_lies 10 = .ok (.iadd, 1) := by decide +kernel
theorem dX6_lies_11 : decode cX6_lies 11 = .ok (.iload_n 2, 1) := by decide +kernel
theorem dX6_lies_12 : decode cX6_lies 12 = .ok (.iastore, 1) := by decide +kernel
theorem dX6_lies_13 : decode cX6_lies 13 = .ok (.iconst 0, 1) := by decide +kernel
theorem dX6_lies_14 : decode cX6_lies 14 = .ok (.istore_n 3, 1) := by decide +kernel
theorem dX6_lies_15 : decode cX6_lies 15 = .ok (.iload_n 3, 1) := by decide +kernel
theorem dX6_lies_16 : decode cX6_lies 16 = .ok (.bipush 16, 2) := by decide +kernel
theorem dX6_lies_18 : decode cX6_lies 18 = .ok (.if_icmp .ge 26, 3) := by decide +kernel
theorem dX6_lies_21 : decode cX6_lies 21 = .ok (.aload_n 0, 1) := by decide +kernel
theorem dX6_lies_22 : decode cX6_lies 22 = .ok (.getfield 7, 3) := by decide +kernel
theorem dX6_lies_25 : decode cX6_lies 25 = .ok (.bipush 10, 2) := by decide +kernel
theorem dX6_lies_27 : decode cX6_lies 27 = .ok (.bipush 17, 2) := by decide +kernel
theorem dX6_lies_29 : decode cX6_lies 29 = .ok (.iload_n 1, 1) := by decide +kernel
theorem dX6_lies_30 : decode cX6_lies 30 = .ok (.imul, 1) := by decide +kernel
theorem dX6_lies_31 : decode cX6_lies 31 = .ok (.iadd, 1) := by decide +kernel
theorem dX6_lies_32 : decode cX6_lies 32 = .ok (.iconst 1, 1) := by decide +kernel
theorem dX6_lies_33 : decode cX6_lies 33 = .ok (.iadd, 1) := by decide +kernel
theorem dX6_lies_34 : decode cX6_lies 34 = .ok (.iload_n 3, 1) := by decide +kernel
theorem dX6_lies_35 : decode cX6_lies 35 = .ok (.iadd, 1) := by decide +kernel
theorem dX6_lies_36 : decode cX6_lies 36 = .ok (.iconst 0, 1) := by decide +kernel
theorem dX6_lies_37 : decode cX6_lies 37 = .ok (.iastore, 1) := by decide +kernel
theorem dX6_lies_38 : decode cX6_lies 38 = .ok (.iinc 3 1, 3) := by decide +kernel
theorem dX6_lies_41 : decode cX6_lies 41 = .ok (.goto (-26), 3) := by decide +kernel
theorem dX6_lies_44 : decode cX6_lies 44 = .ok (.return_, 1) := by decide +kernel
set_option maxRecDepth 20000 in
theorem ggX6_make_X6_isRing : GoodIn wsX6_make wsX6_isRing := goodIn_r _ [4, 5, 6, 3, 7] (by decide +kernel) (by decide +kernel)
set_option maxRecDepth 20000 in
theorem gX6_make_X6_isRing : GoodIn wsX6_make (va_wsS RX6 66 yX6_isRing wsX6_isRing) := goodIn_app (goodIn_of _ (by decide +kernel)) ggX6_make_X6_isRing
set_option maxRecDepth 20000 in
theorem ggX6_make_X6_free : GoodIn wsX6_make wsX6_free := goodIn_r _ [11, 12, 13, 14, 3, 15, 16, 27, 28, 29, 30, 31, 32, 33, 34, 35, 36, 37] (by decide +kernel) (by decide +kernel)
set_option maxRecDepth 20000 in
theorem gX6_make_X6_free : GoodIn wsX6_make (wsV RX6 69 RX6 yX6_free wsX6_free) := goodIn_app (goodIn_of _ (by decide +kernel)) ggX6_make_X6_free
set_option maxRecDepth 20000 in
theorem ggX6_make_X6_record : GoodIn wsX6_make wsX6_record := goodIn_r _ [20, 21, 22, 16, 27, 28, 29, 30, 31, 32, 33, 34, 35, 36, 37] (by decide +kernel) (by decide +kernel)
set_option maxRecDepth 20000 in
theorem gX6_make_X6_record : GoodIn wsX6_make (wsV RX6 53 RX6 yX6_record wsX6_record) := goodIn_app (goodIn_of _ (by decide +kernel)) ggX6_make_X6_record
set_option maxRecDepth 20000 in
theorem ggX6_make_X6_lies : GoodIn wsX6_make wsX6_lies := goodIn_r _ [26, 16, 27, 28, 29, 30, 31, 32, 33, 34, 35, 36, 37] (by decide +kernel) (by decide +kernel)
set_option maxRecDepth 20000 in
theorem gX6_make_X6_lies : GoodIn wsX6_make (wsV RX6 72 RX6 yX6_lies wsX6_lies) := goodIn_app (goodIn_of _ (by decide +kernel)) ggX6_make_X6_lies
theorem dX6_make_0 : decode cX6_make 0 = .ok (.iload_n 1, 1) := by decide +kernel
theorem dX6_make_1 : decode cX6_make 1 = .ok (.invokestatic 66, 3) := by decide +kernel
theorem dX6_make_4 : decode cX6_make 4 = .ok (.ifCond .ne 6, 3) := by decide +kernel
theorem dX6_make_7 : decode cX6_make 7 = .ok (.bipush (-2), 2) := by decide +kernel
theorem dX6_make_9 : decode cX6_make 9 = .ok (.ireturn, 1) := by decide +kernel
theorem dX6_make_10 : decode cX6_make 10 = .ok (.aload_n 0, 1) := by decide +kernel
theorem dX6_make_11 : decode cX6_make 11 = .ok (.invokevirtual 69, 3) := by decide +kernel
theorem dX6_make_14 : decode cX6_make 14 = .ok (.istore_n 2, 1) := by decide +kernel
theorem dX6_make_15 : decode cX6_make 15 = .ok (.iload_n 2, 1) := by decide +kernel
theorem dX6_make_16 : decode cX6_make 16 = .ok (.bipush (-6), 2) := by decide +kernel
theorem dX6_make_18 : decode cX6_make 18 = .ok (.if_icmp .ne 6, 3) := by decide +kernel
theorem dX6_make_21 : decode cX6_make 21 = .ok (.bipush (-4), 2) := by decide +kernel
theorem dX6_make_23 : decode cX6_make 23 = .ok (.ireturn, 1) := by decide +kernel
theorem dX6_make_24 : decode cX6_make 24 = .ok (.aload_n 0, 1) := by decide +kernel
theorem dX6_make_25 : decode cX6_make 25 = .ok (.invokevirtual 53, 3) := by decide +kernel
theorem dX6_make_28 : decode cX6_make 28 = .ok (.aload_n 0, 1) := by decide +kernel
theorem dX6_make_29 : decode cX6_make 29 = .ok (.iload_n 2, 1) := by decide +kernel
theorem dX6_make_30 : decode cX6_make 30 = .ok (.iload_n 1, 1) := by decide +kernel
theorem dX6_make_31 : decode cX6_make 31 = .ok (.invokevirtual 72, 3) := by decide +kernel
theorem dX6_make_34 : decode cX6_make 34 = .ok (.iload_n 2, 1) := by decide +kernel
theorem dX6_make_35 : decode cX6_make 35 = .ok (.ireturn, 1) := by decide +kernel
set_option maxRecDepth 20000 in
theorem ggX6_move_X6_slots : GoodIn wsX6_move wsX6_slots := goodIn_r _ [6, 1, 11, 12, 13, 14, 15, 16, 17, 18, 19, 20, 21] (by decide +kernel) (by decide +kernel)
set_option maxRecDepth 20000 in
theorem gX6_move_X6_slots : GoodIn wsX6_move (wsV RX6 33 RX6 yX6_slots wsX6_slots) := goodIn_app (goodIn_of _ (by decide +kernel)) ggX6_move_X6_slots
set_option maxRecDepth 20000 in
theorem ggX6_move_X6_at : GoodIn wsX6_move wsX6_at := goodIn_r _ [10, 2, 3, 4, 5, 6, 1, 11, 12, 13, 14, 15, 16, 17, 18, 19, 20, 21] (by decide +kernel) (by decide +kernel)
set_option maxRecDepth 20000 in
theorem gX6_move_X6_at : GoodIn wsX6_move (wsV RX6 59 RX6 yX6_at wsX6_at) := goodIn_app (goodIn_of _ (by decide +kernel)) ggX6_move_X6_at
theorem dX6_move_0 : decode cX6_move 0 = .ok (.iconst 0, 1) := by decide +kernel
theorem dX6_move_1 : decode cX6_move 1 = .ok (.istore_n 3, 1) := by decide +kernel
theorem dX6_move_2 : decode cX6_move 2 = .ok (.iload_n 3, 1) := by decide +kernel
theorem dX6_move_3 : decode cX6_move 3 = .ok (.aload_n 0, 1) := by decide +kernel
theorem dX6_move_4 : decode cX6_move 4 = .ok (.iload_n 1, 1) := by decide +kernel
theorem dX6_move_5 : decode cX6_move 5 = .ok (.invokevirtual 33, 3) := by decide +kernel
theorem dX6_move_8 : decode cX6_move 8 = .ok (.if_icmp .ge 47, 3) := by decide +kernel
theorem dX6_move_11 : decode cX6_move 11 = .ok (.aload_n 0, 1) := by decide +kernel
theorem dX6_move_12 : decode cX6_move 12 = .ok (.getfield 7, 3) := by decide +kernel
theorem dX6_move_15 : decode cX6_move 15 = .ok (.aload_n 0, 1) := by decide +kernel
theorem dX6_move_16 : decode cX6_move 16 = .ok (.iload_n 1, 1) := by decide +kernel
theorem dX6_move_17 : decode cX6_move 17 = .ok (.iload_n 3, 1) := by decide +kernel
theorem dX6_move_18 : decode cX6_move 18 = .ok (.invokevirtual 59, 3) := by decide +kernel
theorem dX6_move_21 : decode cX6_move 21 = .ok (.iaload, 1) := by decide +kernel
theorem dX6_move_22 : decode cX6_move 22 = .ok (.ifCond .le 27, 3) := by decide +kernel
theorem dX6_move_25 : decode cX6_move 25 = .ok (.aload_n 0, 1) := by decide +kernel
theorem dX6_move_26 : decode cX6_move 26 = .ok (.getfield 7, 3) := by decide +kernel
theorem dX6_move_29 : decode cX6_move 29 = .ok (.iconst 0, 1) := by decide +kernel
theorem dX6_move_30 : decode cX6_move 30 = .ok (.aload_n 0, 1) := by decide +kernel
theorem dX6_move_31 : decode cX6_move 31 = .ok (.getfield 7, 3) := by decide +kernel
theorem dX6_move_34 : decode cX6_move 34 = .ok (.aload_n 0, 1) := by decide +kernel
theorem dX6_move_35 : decode cX6_move 35 = .ok (.iload_n 1, 1) := by decide +kernel
theorem dX6_move_36 : decode cX6_move 36 = .ok (.iload_n 3, 1) := by decide +kernel
theorem dX6_move_37 : decode cX6_move 37 = .ok (.invokevirtual 59, 3) := by decide +kernel
theorem dX6_move_40 : decode cX6_move 40 = .ok (.iaload, 1) := by decide +kernel
theorem dX6_move_41 : decode cX6_move 41 = .ok (.iadd, 1) := by decide +kernel
theorem dX6_move_42 : decode cX6_move 42 = .ok (.iconst 1, 1) := by decide +kernel
theorem dX6_move_43 : decode cX6_move 43 = .ok (.isub, 1) := by decide +kernel
theorem dX6_move_44 : decode cX6_move 44 = .ok (.dup2, 1) := by decide +kernel
theorem dX6_move_45 : decode cX6_move 45 = .ok (.iaload, 1) := by decide +kernel
theorem dX6_move_46 : decode cX6_move 46 = .ok (.iload_n 2, 1) := by decide +kernel
theorem dX6_move_47 : decode cX6_move 47 = .ok (.iadd, 1) := by decide +kernel
theorem dX6_move_48 : decode cX6_move 48 = .ok (.iastore, 1) := by decide +kernel
theorem dX6_move_49 : decode cX6_move 49 = .ok (.iinc 3 1, 3) := by decide +kernel
theorem dX6_move_52 : decode cX6_move 52 = .ok (.goto (-50), 3) := by decide +kernel
theorem dX6_move_55 : decode cX6_move 55 = .ok (.return_, 1) := by decide +kernel
set_option maxRecDepth 20000 in
theorem ggX6_copy_X6_isBracelet : GoodIn wsX6_copy wsX6_isBracelet := goodIn_r _ [6, 7, 8, 5, 9, 10, 11, 12, 13, 1, 40, 41, 42, 43, 44, 45, 46, 47, 48, 49, 50] (by decide +kernel) (by decide +kernel)
set_option maxRecDepth 20000 in
theorem gX6_copy_X6_isBracelet : GoodIn wsX6_copy (wsV RX6 37 RX6 yX6_isBracelet wsX6_isBracelet) := goodIn_app (goodIn_of _ (by decide +kernel)) ggX6_copy_X6_isBracelet
set_option maxRecDepth 20000 in
theorem ggX6_copy_X6_hung : GoodIn wsX6_copy wsX6_hung := goodIn_r _ [17, 1, 10, 11, 12, 5, 13, 18, 19, 20, 21, 40, 41, 42, 43, 44, 45, 46, 47, 48, 49, 50] (by decide +kernel) (by decide +kernel)
set_option maxRecDepth 20000 in
theorem gX6_copy_X6_hung : GoodIn wsX6_copy (wsV RX6 63 RX6 yX6_hung wsX6_hung) := goodIn_app (goodIn_of _ (by decide +kernel)) ggX6_copy_X6_hung
set_option maxRecDepth 20000 in
theorem ggX6_copy_X6_free : GoodIn wsX6_copy wsX6_free := goodIn_r _ [25, 10, 11, 12, 5, 13, 1, 40, 41, 42, 43, 44, 45, 46, 47, 48, 49, 50] (by decide +kernel) (by decide +kernel)
set_option maxRecDepth 20000 in
theorem gX6_copy_X6_free : GoodIn wsX6_copy (wsV RX6 69 RX6 yX6_free wsX6_free) := goodIn_app (goodIn_of _ (by decide +kernel)) ggX6_copy_X6_free
set_option maxRecDepth 20000 in
theorem ggX6_copy_X6_record : GoodIn wsX6_copy wsX6_record := goodIn_r _ [29, 30, 31, 1, 40, 41, 42, 43, 44, 45, 46, 47, 48, 49, 50] (by decide +kernel) (by decide +kernel)
set_option maxRecDepth 20000 in
theorem gX6_copy_X6_record : GoodIn wsX6_copy (wsV RX6 53 RX6 yX6_record wsX6_record) := goodIn_app (goodIn_of _ (by decide +kernel)) ggX6_copy_X6_record
set_option maxRecDepth 20000 in
theorem ggX6_copy_X6_slots : GoodIn wsX6_copy wsX6_slots := goodIn_r _ [13, 1, 40, 41, 42, 43, 44, 45, 46, 47, 48, 49, 50] (by decide +kernel) (by decide +kernel)
set_option maxRecDepth 20000 in
theorem gX6_copy_X6_slots : GoodIn wsX6_copy (wsV RX6 33 RX6 yX6_slots wsX6_slots) := goodIn_app (goodIn_of _ (by decide +kernel)) ggX6_copy_X6_slots
set_option maxRecDepth 20000 in
theorem ggX6_copy_X6_lies : GoodIn wsX6_copy wsX6_lies := goodIn_r _ [35, 1, 40, 41, 42, 43, 44, 45, 46, 47, 48, 49, 50] (by decide +kernel) (by decide +kernel)
set_option maxRecDepth 20000 in
theorem gX6_copy_X6_lies : GoodIn wsX6_copy (wsV RX6 72 RX6 yX6_lies wsX6_lies) := goodIn_app (goodIn_of _ (by decide +kernel)) ggX6_copy_X6_lies
set_option maxRecDepth 20000 in
theorem ggX6_copy_X6_at : GoodIn wsX6_copy wsX6_at := goodIn_r _ [21, 10, 11, 12, 5, 13, 1, 40, 41, 42, 43, 44, 45, 46, 47, 48, 49, 50] (by decide +kernel) (by decide +kernel)
set_option maxRecDepth 20000 in
theorem gX6_copy_X6_at : GoodIn wsX6_copy (wsV RX6 59 RX6 yX6_at wsX6_at) := goodIn_app (goodIn_of _ (by decide +kernel)) ggX6_copy_X6_at
set_option maxRecDepth 20000 in
theorem ggX6_copy_X6_move : GoodIn wsX6_copy wsX6_move := goodIn_r _ [39, 1, 10, 11, 12, 5, 13, 18, 19, 20, 21, 40, 41, 42, 43, 44, 45, 46, 47, 48, 49, 50] (by decide +kernel) (by decide +kernel)
set_option maxRecDepth 20000 in
theorem gX6_copy_X6_move : GoodIn wsX6_copy (wsV RX6 76 RX6 yX6_move wsX6_move) := goodIn_app (goodIn_of _ (by decide +kernel)) ggX6_copy_X6_move
theorem dX6_copy_0 : decode cX6_copy 0 = .ok (.aload_n 0, 1) := by decide +kernel
theorem dX6_copy_1 : decode cX6_copy 1 = .ok (.iload_n 1, 1) := by decide +kernel
theorem dX6_copy_2 : decode cX6_copy 2 = .ok (.invokevirtual 37, 3) := by decide +kernel
theorem dX6_copy_5 : decode cX6_copy 5 = .ok (.ifCond .ne 5, 3) := by decide +kernel
theorem dX6_copy_8 : decode cX6_copy 8 = .ok (.iconst (-1), 1) := by decide +kernel
theorem dX6_copy_9 : decode cX6_copy 9 = .ok (.ireturn, 1) := by decide +kernel
theorem dX6_copy_10 : decode cX6_copy 10 = .ok (.iconst 1, 1) := by decide +kernel
theorem dX6_copy_11 : decode cX6_copy 11 = .ok (.istore_n 2, 1) := by decide +kernel
theorem dX6_copy_12 : decode cX6_copy 12 = .ok (.iload_n 2, 1) := by decide +kernel
theorem dX6_copy_13 : decode cX6_copy 13 = .ok (.iconst 5, 1) := by decide +kernel
theorem dX6_copy_14 : decode cX6_copy 14 = .ok (.if_icmp .gt 31, 3) := by decide +kernel
theorem dX6_copy_17 : decode cX6_copy 17 = .ok (.aload_n 0, 1) := by decide +kernel
theorem dX6_copy_18 : decode cX6_copy 18 = .ok (.getfield 7, 3) := by decide +kernel
theorem dX6_copy_21 : decode cX6_copy 21 = .ok (.iconst 0, 1) := by decide +kernel
theorem dX6_copy_22 : decode cX6_copy 22 = .ok (.iload_n 2, 1) := by decide +kernel
theorem dX6_copy_23 : decode cX6_copy 23 = .ok (.iadd, 1) := by decide +kernel
theorem dX6_copy_24 : decode cX6_copy 24 = .ok (.iconst 1, 1) := by decide +kernel
theorem dX6_copy_25 : decode cX6_copy 25 = .ok (.isub, 1) := by decide +kernel
theorem dX6_copy_26 : decode cX6_copy 26 = .ok (.iaload, 1) := by decide +kernel
theorem dX6_copy_27 : decode cX6_copy 27 = .ok (.aload_n 0, 1) := by decide +kernel
theorem dX6_copy_28 : decode cX6_copy 28 = .ok (.iload_n 1, 1) := by decide +kernel
theorem dX6_copy_29 : decode cX6_copy 29 = .ok (.iload_n 2, 1) := by decide +kernel
theorem dX6_copy_30 : decode cX6_copy 30 = .ok (.invokevirtual 63, 3) := by decide +kernel
theorem dX6_copy_33 : decode cX6_copy 33 = .ok (.if_icmp .ge 6, 3) := by decide +kernel
theorem dX6_copy_36 : decode cX6_copy 36 = .ok (.bipush (-3), 2) := by decide +kernel
theorem dX6_copy_38 : decode cX6_copy 38 = .ok (.ireturn, 1) := by decide +kernel
theorem dX6_copy_39 : decode cX6_copy 39 = .ok (.iinc 2 1, 3) := by decide +kernel
theorem dX6_copy_42 : decode cX6_copy 42 = .ok (.goto (-30), 3) := by decide +kernel
theorem dX6_copy_45 : decode cX6_copy 45 = .ok (.aload_n 0, 1) := by decide +kernel
theorem dX6_copy_46 : decode cX6_copy 46 = .ok (.invokevirtual 69, 3) := by decide +kernel
theorem dX6_copy_49 : decode cX6_copy 49 = .ok (.istore_n 2, 1) := by decide +kernel
theorem dX6_copy_50 : decode cX6_copy 50 = .ok (.iload_n 2, 1) := by decide +kernel
theorem dX6_copy_51 : decode cX6_copy 51 = .ok (.bipush (-6), 2) := by decide +kernel
theorem dX6_copy_53 : decode cX6_copy 53 = .ok (.if_icmp .ne 6, 3) := by decide +kernel
theorem dX6_copy_56 : decode cX6_copy 56 = .ok (.bipush (-4), 2) := by decide +kernel
theorem dX6_copy_58 : decode cX6_copy 58 = .ok (.ireturn, 1) := by decide +kernel
theorem dX6_copy_59 : decode cX6_copy 59 = .ok (.aload_n 0, 1) := by decide +kernel
theorem dX6_copy_60 : decode cX6_copy 60 = .ok (.invokevirtual 53, 3) := by decide +kernel
theorem dX6_copy_63 : decode cX6_copy 63 = .ok (.aload_n 0, 1) := by decide +kernel
theorem dX6_copy_64 : decode cX6_copy 64 = .ok (.iload_n 2, 1) := by decide +kernel
theorem dX6_copy_65 : decode cX6_copy 65 = .ok (.aload_n 0, 1) := by decide +kernel
theorem dX6_copy_66 : decode cX6_copy 66 = .ok (.iload_n 1, 1) := by decide +kernel
theorem dX6_copy_67 : decode cX6_copy 67 = .ok (.invokevirtual 33, 3) := by decide +kernel
theorem dX6_copy_70 : decode cX6_copy 70 = .ok (.invokevirtual 72, 3) := by decide +kernel
theorem dX6_copy_73 : decode cX6_copy 73 = .ok (.iconst 0, 1) := by decide +kernel
theorem dX6_copy_74 : decode cX6_copy 74 = .ok (.istore_n 3, 1) := by decide +kernel
theorem dX6_copy_75 : decode cX6_copy 75 = .ok (.iload_n 3, 1) := by decide +kernel
theorem dX6_copy_76 : decode cX6_copy 76 = .ok (.aload_n 0, 1) := by decide +kernel
theorem dX6_copy_77 : decode cX6_copy 77 = .ok (.iload_n 2, 1) := by decide +kernel
theorem dX6_copy_78 : decode cX6_copy 78 = .ok (.invokevirtual 33, 3) := by decide +kernel
theorem dX6_copy_81 : decode cX6_copy 81 = .ok (.if_icmp .ge 31, 3) := by decide +kernel
theorem dX6_copy_84 : decode cX6_copy 84 = .ok (.aload_n 0, 1) := by decide +kernel
theorem dX6_copy_85 : decode cX6_copy 85 = .ok (.getfield 7, 3) := by decide +kernel
theorem dX6_copy_88 : decode cX6_copy 88 = .ok (.aload_n 0, 1) := by decide +kernel
theorem dX6_copy_89 : decode cX6_copy 89 = .ok (.iload_n 2, 1) := by decide +kernel
theorem dX6_copy_90 : decode cX6_copy 90 = .ok (.iload_n 3, 1) := by decide +kernel
theorem dX6_copy_91 : decode cX6_copy 91 = .ok (.invokevirtual 59, 3) := by decide +kernel
theorem dX6_copy_94 : decode cX6_copy 94 = .ok (.aload_n 0, 1) := by decide +kernel
theorem dX6_copy_95 : decode cX6_copy 95 = .ok (.getfield 7, 3) := by decide +kernel
theorem dX6_copy_98 : decode cX6_copy 98 = .ok (.aload_n 0, 1) := by decide +kernel
theorem dX6_copy_99 : decode cX6_copy 99 = .ok (.iload_n 1, 1) := by decide +kernel
theorem dX6_copy_100 : decode cX6_copy 100 = .ok (.iload_n 3, 1) := by decide +kernel
theorem dX6_copy_101 : decode cX6_copy 101 = .ok (.invokevirtual 59, 3) := by decide +kernel
theorem dX6_copy_104 : decode cX6_copy 104 = .ok (.iaload, 1) := by decide +kernel
theorem dX6_copy_105 : decode cX6_copy 105 = .ok (.iastore, 1) := by decide +kernel
theorem dX6_copy_106 : decode cX6_copy 106 = .ok (.iinc 3 1, 3) := by decide +kernel
theorem dX6_copy_109 : decode cX6_copy 109 = .ok (.goto (-34), 3) := by decide +kernel
theorem dX6_copy_112 : decode cX6_copy 112 = .ok (.aload_n 0, 1) := by decide +kernel
theorem dX6_copy_113 : decode cX6_copy 113 = .ok (.iload_n 2, 1) := by decide +kernel
theorem dX6_copy_114 : decode cX6_copy 114 = .ok (.iconst (-1), 1) := by decide +kernel
theorem dX6_copy_115 : decode cX6_copy 115 = .ok (.invokevirtual 76, 3) := by decide +kernel
theorem dX6_copy_118 : decode cX6_copy 118 = .ok (.iload_n 2, 1) := by decide +kernel
theorem dX6_copy_119 : decode cX6_copy 119 = .ok (.ireturn, 1) := by decide +kernel
set_option maxRecDepth 20000 in
theorem ggX6_charms_X6_slots : GoodIn wsX6_charms wsX6_slots := goodIn_r _ [5, 6, 15, 16, 17, 18, 19, 20, 21, 22, 23, 24, 25] (by decide +kernel) (by decide +kernel)
set_option maxRecDepth 20000 in
theorem gX6_charms_X6_slots : GoodIn wsX6_charms (wsV RX6 33 RX6 yX6_slots wsX6_slots) := goodIn_app (goodIn_of _ (by decide +kernel)) ggX6_charms_X6_slots
set_option maxRecDepth 20000 in
theorem ggX6_charms_X6_hung : GoodIn wsX6_charms wsX6_hung := goodIn_r _ [10, 6, 1, 2, 3, 4, 5, 11, 12, 13, 14, 15, 16, 17, 18, 19, 20, 21, 22, 23, 24, 25] (by decide +kernel) (by decide +kernel)
set_option maxRecDepth 20000 in
theorem gX6_charms_X6_hung : GoodIn wsX6_charms (wsV RX6 63 RX6 yX6_hung wsX6_hung) := goodIn_app (goodIn_of _ (by decide +kernel)) ggX6_charms_X6_hung
theorem dX6_charms_0 : decode cX6_charms 0 = .ok (.aload_n 0, 1) := by decide +kernel
theorem dX6_charms_1 : decode cX6_charms 1 = .ok (.iload_n 1, 1) := by decide +kernel
theorem dX6_charms_2 : decode cX6_charms 2 = .ok (.invokevirtual 33, 3) := by decide +kernel
theorem dX6_charms_5 : decode cX6_charms 5 = .ok (.aload_n 0, 1) := by decide +kernel
theorem dX6_charms_6 : decode cX6_charms 6 = .ok (.iload_n 1, 1) := by decide +kernel
theorem dX6_charms_7 : decode cX6_charms 7 = .ok (.iconst 0, 1) := by decide +kernel
theorem dX6_charms_8 : decode cX6_charms 8 = .ok (.invokevirtual 63, 3) := by decide +kernel
theorem dX6_charms_11 : decode cX6_charms 11 = .ok (.isub, 1) := by decide +kernel
theorem dX6_charms_12 : decode cX6_charms 12 = .ok (.ireturn, 1) := by decide +kernel
set_option maxRecDepth 20000 in
theorem ggX6_remove_X6_isBracelet : GoodIn wsX6_remove wsX6_isBracelet := goodIn_r _ [6, 7, 8, 5, 9, 10, 11, 12, 13, 1, 40, 41, 42, 43, 44, 45, 46, 47, 48, 49, 50] (by decide +kernel) (by decide +kernel)
set_option maxRecDepth 20000 in
theorem gX6_remove_X6_isBracelet : GoodIn wsX6_remove (wsV RX6 37 RX6 yX6_isBracelet wsX6_isBracelet) := goodIn_app (goodIn_of _ (by decide +kernel)) ggX6_remove_X6_isBracelet
set_option maxRecDepth 20000 in
theorem ggX6_remove_X6_hung : GoodIn wsX6_remove wsX6_hung := goodIn_r _ [17, 1, 10, 11, 12, 5, 13, 18, 19, 20, 21, 40, 41, 42, 43, 44, 45, 46, 47, 48, 49, 50] (by decide +kernel) (by decide +kernel)
set_option maxRecDepth 20000 in
theorem gX6_remove_X6_hung : GoodIn wsX6_remove (wsV RX6 63 RX6 yX6_hung wsX6_hung) := goodIn_app (goodIn_of _ (by decide +kernel)) ggX6_remove_X6_hung
set_option maxRecDepth 20000 in
theorem ggX6_remove_X6_record : GoodIn wsX6_remove wsX6_record := goodIn_r _ [25, 26, 27, 1, 40, 41, 42, 43, 44, 45, 46, 47, 48, 49, 50] (by decide +kernel) (by decide +kernel)
set_option maxRecDepth 20000 in
theorem gX6_remove_X6_record : GoodIn wsX6_remove (wsV RX6 53 RX6 yX6_record wsX6_record) := goodIn_app (goodIn_of _ (by decide +kernel)) ggX6_remove_X6_record
set_option maxRecDepth 20000 in
theorem ggX6_remove_X6_charms : GoodIn wsX6_remove wsX6_charms := goodIn_r _ [31, 10, 11, 12, 5, 13, 1, 14, 15, 16, 17, 18, 19, 20, 21, 40, 41, 42, 43, 44, 45, 46, 47, 48, 49, 50] (by decide +kernel) (by decide +kernel)
set_option maxRecDepth 20000 in
theorem gX6_remove_X6_charms : GoodIn wsX6_remove (wsV RX6 79 RX6 yX6_charms wsX6_charms) := goodIn_app (goodIn_of _ (by decide +kernel)) ggX6_remove_X6_charms
set_option maxRecDepth 20000 in
theorem ggX6_remove_X6_move : GoodIn wsX6_remove wsX6_move := goodIn_r _ [35, 1, 10, 11, 12, 5, 13, 18, 19, 20, 21, 40, 41, 42, 43, 44, 45, 46, 47, 48, 49, 50] (by decide +kernel) (by decide +kernel)
set_option maxRecDepth 20000 in
theorem gX6_remove_X6_move : GoodIn wsX6_remove (wsV RX6 76 RX6 yX6_move wsX6_move) := goodIn_app (goodIn_of _ (by decide +kernel)) ggX6_remove_X6_move
set_option maxRecDepth 20000 in
theorem ggX6_remove_X6_lies : GoodIn wsX6_remove wsX6_lies := goodIn_r _ [39, 1, 40, 41, 42, 43, 44, 45, 46, 47, 48, 49, 50] (by decide +kernel) (by decide +kernel)
set_option maxRecDepth 20000 in
theorem gX6_remove_X6_lies : GoodIn wsX6_remove (wsV RX6 72 RX6 yX6_lies wsX6_lies) := goodIn_app (goodIn_of _ (by decide +kernel)) ggX6_remove_X6_lies
theorem dX6_remove_0 : decode cX6_remove 0 = .ok (.aload_n 0, 1) := by decide +kernel
theorem dX6_remove_1 : decode cX6_remove 1 = .ok (.iload_n 1, 1) := by decide +kernel
theorem dX6_remove_2 : decode cX6_remove 2 = .ok (.invokevirtual 37, 3) := by decide +kernel
theorem dX6_remove_5 : decode cX6_remove 5 = .ok (.ifCond .ne 5, 3) := by decide +kernel
theorem dX6_remove_8 : decode cX6_remove 8 = .ok (.iconst (-1), 1) := by decide +kernel
theorem dX6_remove_9 : decode cX6_remove 9 = .ok (.ireturn, 1) := by decide +kernel
theorem dX6_remove_10 : decode cX6_remove 10 = .ok (.iconst 1, 1) := by decide +kernel
theorem dX6_remove_11 : decode cX6_remove 11 = .ok (.istore_n 2, 1) := by decide +kernel
theorem dX6_remove_12 : decode cX6_remove 12 = .ok (.iload_n 2, 1) := by decide +kernel
theorem dX6_remove_13 : decode cX6_remove 13 = .ok (.iconst 5, 1) := by decide +kernel
theorem dX6_remove_14 : decode cX6_remove 14 = .ok (.if_icmp .gt 34, 3) := by decide +kernel
theorem dX6_remove_17 : decode cX6_remove 17 = .ok (.aload_n 0, 1) := by decide +kernel
theorem dX6_remove_18 : decode cX6_remove 18 = .ok (.getfield 7, 3) := by decide +kernel
theorem dX6_remove_21 : decode cX6_remove 21 = .ok (.iconst 0, 1) := by decide +kernel
theorem dX6_remove_22 : decode cX6_remove 22 = .ok (.iload_n 2, 1) := by decide +kernel
theorem dX6_remove_23 : decode cX6_remove 23 = .ok (.iadd, 1) := by decide +kernel
theorem dX6_remove_24 : decode cX6_remove 24 = .ok (.iconst 1, 1) := by decide +kernel
theorem dX6_remove_25 : decode cX6_remove 25 = .ok (.isub, 1) := by decide +kernel
theorem dX6_remove_26 : decode cX6_remove 26 = .ok (.iaload, 1) := by decide +kernel
theorem dX6_remove_27 : decode cX6_remove 27 = .ok (.aload_n 0, 1) := by decide +kernel
theorem dX6_remove_28 : decode cX6_remove 28 = .ok (.iload_n 1, 1) := by decide +kernel
theorem dX6_remove_29 : decode cX6_remove 29 = .ok (.iload_n 2, 1) := by decide +kernel
theorem dX6_remove_30 : decode cX6_remove 30 = .ok (.invokevirtual 63, 3) := by decide +kernel
theorem dX6_remove_33 : decode cX6_remove 33 = .ok (.iadd, 1) := by decide +kernel
theorem dX6_remove_34 : decode cX6_remove 34 = .ok (.bipush 99, 2) := by decide +kernel
theorem dX6_remove_36 : decode cX6_remove 36 = .ok (.if_icmp .le 6, 3) := by decide +kernel
theorem dX6_remove_39 : decode cX6_remove 39 = .ok (.bipush (-3), 2) := by decide +kernel
theorem dX6_remove_41 : decode cX6_remove 41 = .ok (.ireturn, 1) := by decide +kernel
theorem dX6_remove_42 : decode cX6_remove 42 = .ok (.iinc 2 1, 3) := by decide +kernel
theorem dX6_remove_45 : decode cX6_remove 45 = .ok (.goto (-33), 3) := by decide +kernel
theorem dX6_remove_48 : decode cX6_remove 48 = .ok (.aload_n 0, 1) := by decide +kernel
theorem dX6_remove_49 : decode cX6_remove 49 = .ok (.invokevirtual 53, 3) := by decide +kernel
theorem dX6_remove_52 : decode cX6_remove 52 = .ok (.aload_n 0, 1) := by decide +kernel
theorem dX6_remove_53 : decode cX6_remove 53 = .ok (.iload_n 1, 1) := by decide +kernel
theorem dX6_remove_54 : decode cX6_remove 54 = .ok (.invokevirtual 79, 3) := by decide +kernel
theorem dX6_remove_57 : decode cX6_remove 57 = .ok (.istore_n 2, 1) := by decide +kernel
theorem dX6_remove_58 : decode cX6_remove 58 = .ok (.aload_n 0, 1) := by decide +kernel
theorem dX6_remove_59 : decode cX6_remove 59 = .ok (.iload_n 1, 1) := by decide +kernel
theorem dX6_remove_60 : decode cX6_remove 60 = .ok (.iconst 1, 1) := by decide +kernel
theorem dX6_remove_61 : decode cX6_remove 61 = .ok (.invokevirtual 76, 3) := by decide +kernel
theorem dX6_remove_64 : decode cX6_remove 64 = .ok (.aload_n 0, 1) := by decide +kernel
theorem dX6_remove_65 : decode cX6_remove 65 = .ok (.iload_n 1, 1) := by decide +kernel
theorem dX6_remove_66 : decode cX6_remove 66 = .ok (.iconst 0, 1) := by decide +kernel
theorem dX6_remove_67 : decode cX6_remove 67 = .ok (.invokevirtual 72, 3) := by decide +kernel
theorem dX6_remove_70 : decode cX6_remove 70 = .ok (.iload_n 2, 1) := by decide +kernel
theorem dX6_remove_71 : decode cX6_remove 71 = .ok (.ireturn, 1) := by decide +kernel
set_option maxRecDepth 20000 in
theorem ggX6_hang_X6_isSlot : GoodIn wsX6_hang wsX6_isSlot := goodIn_r _ [6, 7, 8, 9, 5, 10, 11, 12, 13, 14, 15, 16, 17, 1, 31, 32, 33, 34, 35, 36, 37, 38, 39, 40, 41] (by decide +kernel) (by decide +kernel)
set_option maxRecDepth 20000 in
theorem gX6_hang_X6_isSlot : GoodIn wsX6_hang (wsV RX6 82 RX6 yX6_isSlot wsX6_isSlot) := goodIn_app (goodIn_of _ (by decide +kernel)) ggX6_hang_X6_isSlot
set_option maxRecDepth 20000 in
theorem ggX6_hang_X6_isKind : GoodIn wsX6_hang wsX6_isKind := goodIn_r _ [20, 11, 12, 5, 13] (by decide +kernel) (by decide +kernel)
set_option maxRecDepth 20000 in
theorem gX6_hang_X6_isKind : GoodIn wsX6_hang (va_wsS RX6 56 yX6_isKind wsX6_isKind) := goodIn_app (goodIn_of _ (by decide +kernel)) ggX6_hang_X6_isKind
set_option maxRecDepth 20000 in
theorem ggX6_hang_X6_at : GoodIn wsX6_hang wsX6_at := goodIn_r _ [24, 14, 15, 16, 5, 17, 1, 31, 32, 33, 34, 35, 36, 37, 38, 39, 40, 41] (by decide +kernel) (by decide +kernel)
set_option maxRecDepth 20000 in
theorem gX6_hang_X6_at : GoodIn wsX6_hang (wsV RX6 59 RX6 yX6_at wsX6_at) := goodIn_app (goodIn_of _ (by decide +kernel)) ggX6_hang_X6_at
set_option maxRecDepth 20000 in
theorem ggX6_hang_X6_record : GoodIn wsX6_hang wsX6_record := goodIn_r _ [28, 29, 30, 1, 31, 32, 33, 34, 35, 36, 37, 38, 39, 40, 41] (by decide +kernel) (by decide +kernel)
set_option maxRecDepth 20000 in
theorem gX6_hang_X6_record : GoodIn wsX6_hang (wsV RX6 53 RX6 yX6_record wsX6_record) := goodIn_app (goodIn_of _ (by decide +kernel)) ggX6_hang_X6_record
theorem dX6_hang_0 : decode cX6_hang 0 = .ok (.aload_n 0, 1) := by decide +kernel
theorem dX6_hang_1 : decode cX6_hang 1 = .ok (.iload_n 1, 1) := by decide +kernel
theorem dX6_hang_2 : decode cX6_hang 2 = .ok (.iload_n 2, 1) := by decide +kernel
theorem dX6_hang_3 : decode cX6_hang 3 = .ok (.invokevirtual 82, 3) := by decide +kernel
theorem dX6_hang_6 : decode cX6_hang 6 = .ok (.ifCond .eq 10, 3) := by decide +kernel
theorem dX6_hang_9 : decode cX6_hang 9 = .ok (.iload_n 3, 1) := by decide +kernel
theorem dX6_hang_10 : decode cX6_hang 10 = .ok (.invokestatic 56, 3) := by decide +kernel
theorem dX6_hang_13 : decode cX6_hang 13 = .ok (.ifCond .ne 5, 3) := by decide +kernel
theorem dX6_hang_16 : decode cX6_hang 16 = .ok (.iconst (-1), 1) := by decide +kernel
theorem dX6_hang_17 : decode cX6_hang 17 = .ok (.ireturn, 1) := by decide +kernel
theorem dX6_hang_18 : decode cX6_hang 18 = .ok (.aload_n 0, 1) := by decide +kernel
theorem dX6_hang_19 : decode cX6_hang 19 = .ok (.getfield 7, 3) := by decide +kernel
theorem dX6_hang_22 : decode cX6_hang 22 = .ok (.aload_n 0, 1) := by decide +kernel
theorem dX6_hang_23 : decode cX6_hang 23 = .ok (.iload_n 1, 1) := by decide +kernel
theorem dX6_hang_24 : decode cX6_hang 24 = .ok (.iload_n 2, 1) := by decide +kernel
theorem dX6_hang_25 : decode cX6_hang 25 = .ok (.invokevirtual 59, 3) := by decide +kernel
theorem dX6_hang_28 : decode cX6_hang 28 = .ok (.iaload, 1) := by decide +kernel
theorem dX6_hang_29 : decode cX6_hang 29 = .ok (.ifCond .gt 16, 3) := by decide +kernel
theorem dX6_hang_32 : decode cX6_hang 32 = .ok (.aload_n 0, 1) := by decide +kernel
theorem dX6_hang_33 : decode cX6_hang 33 = .ok (.getfield 7, 3) := by decide +kernel
theorem dX6_hang_36 : decode cX6_hang 36 = .ok (.iconst 0, 1) := by decide +kernel
theorem dX6_hang_37 : decode cX6_hang 37 = .ok (.iload_n 3, 1) := by decide +kernel
theorem dX6_hang_38 : decode cX6_hang 38 = .ok (.iadd, 1) := by decide +kernel
theorem dX6_hang_39 : decode cX6_hang 39 = .ok (.iconst 1, 1) := by decide +kernel
theorem dX6_hang_40 : decode cX6_hang 40 = .ok (.isub, 1) := by decide +kernel
theorem dX6_hang_41 : decode cX6_hang 41 = .ok (.iaload, 1) := by decide +kernel
theorem dX6_hang_42 : decode cX6_hang 42 = .ok (.ifCond .ne 6, 3) := by decide +kernel
theorem dX6_hang_45 : decode cX6_hang 45 = .ok (.bipush (-3), 2) := by decide +kernel
theorem dX6_hang_47 : decode cX6_hang 47 = .ok (.ireturn, 1) := by decide +kernel
theorem dX6_hang_48 : decode cX6_hang 48 = .ok (.aload_n 0, 1) := by decide +kernel
theorem dX6_hang_49 : decode cX6_hang 49 = .ok (.invokevirtual 53, 3) := by decide +kernel
theorem dX6_hang_52 : decode cX6_hang 52 = .ok (.aload_n 0, 1) := by decide +kernel
theorem dX6_hang_53 : decode cX6_hang 53 = .ok (.getfield 7, 3) := by decide +kernel
theorem dX6_hang_56 : decode cX6_hang 56 = .ok (.aload_n 0, 1) := by decide +kernel
theorem dX6_hang_57 : decode cX6_hang 57 = .ok (.iload_n 1, 1) := by decide +kernel
theorem dX6_hang_58 : decode cX6_hang 58 = .ok (.iload_n 2, 1) := by decide +kernel
theorem dX6_hang_59 : decode cX6_hang 59 = .ok (.invokevirtual 59, 3) := by decide +kernel
theorem dX6_hang_62 : decode cX6_hang 62 = .ok (.iload_n 3, 1) := by decide +kernel
theorem dX6_hang_63 : decode cX6_hang 63 = .ok (.iastore, 1) := by decide +kernel
theorem dX6_hang_64 : decode cX6_hang 64 = .ok (.aload_n 0, 1) := by decide +kernel
theorem dX6_hang_65 : decode cX6_hang 65 = .ok (.getfield 7, 3) := by decide +kernel
theorem dX6_hang_68 : decode cX6_hang 68 = .ok (.iconst 0, 1) := by decide +kernel
theorem dX6_hang_69 : decode cX6_hang 69 = .ok (.iload_n 3, 1) := by decide +kernel
theorem dX6_hang_70 : decode cX6_hang 70 = .ok (.iadd, 1) := by decide +kernel
theorem dX6_hang_71 : decode cX6_hang 71 = .ok (.iconst 1, 1) := by decide +kernel
theorem dX6_hang_72 : decode cX6_hang 72 = .ok (.isub, 1) := by decide +kernel
theorem dX6_hang_73 : decode cX6_hang 73 = .ok (.dup2, 1) := by decide +kernel
theorem dX6_hang_74 : decode cX6_hang 74 = .ok (.iaload, 1) := by decide +kernel
theorem dX6_hang_75 : decode cX6_hang 75 = .ok (.iconst 1, 1) := by decide +kernel
theorem dX6_hang_76 : decode cX6_hang 76 = .ok (.isub, 1) := by decide +kernel
theorem dX6_hang_77 : decode cX6_hang 77 = .ok (.iastore, 1) := by decide +kernel
theorem dX6_hang_78 : decode cX6_hang 78 = .ok (.aload_n 0, 1) := by decide +kernel
theorem dX6_hang_79 : decode cX6_hang 79 = .ok (.getfield 7, 3) := by decide +kernel
theorem dX6_hang_82 : decode cX6_hang 82 = .ok (.iconst 0, 1) := by decide +kernel
theorem dX6_hang_83 : decode cX6_hang 83 = .ok (.iload_n 3, 1) := by decide +kernel
theorem dX6_hang_84 : decode cX6_hang 84 = .ok (.iadd, 1) := by decide +kernel
theorem dX6_hang_85 : decode cX6_hang 85 = .ok (.iconst 1, 1) := by decide +kernel
theorem dX6_hang_86 : decode cX6_hang 86 = .ok (.isub, 1) := by decide +kernel
theorem dX6_hang_87 : decode cX6_hang 87 = .ok (.iaload, 1) := by decide +kernel
theorem dX6_hang_88 : decode cX6_hang 88 = .ok (.ireturn, 1) := by decide +kernel
set_option maxRecDepth 20000 in
theorem ggX6_takeOff_X6_isSlot : GoodIn wsX6_takeOff wsX6_isSlot := goodIn_r _ [6, 7, 8, 9, 5, 10, 11, 12, 13, 14, 15, 16, 17, 1, 28, 29, 30, 31, 32, 33, 34, 35, 36, 37, 38] (by decide +kernel) (by decide +kernel)
set_option maxRecDepth 20000 in
theorem gX6_takeOff_X6_isSlot : GoodIn wsX6_takeOff (wsV RX6 82 RX6 yX6_isSlot wsX6_isSlot) := goodIn_app (goodIn_of _ (by decide +kernel)) ggX6_takeOff_X6_isSlot
set_option maxRecDepth 20000 in
theorem ggX6_takeOff_X6_at : GoodIn wsX6_takeOff wsX6_at := goodIn_r _ [21, 14, 15, 16, 5, 17, 1, 28, 29, 30, 31, 32, 33, 34, 35, 36, 37, 38] (by decide +kernel) (by decide +kernel)
set_option maxRecDepth 20000 in
theorem gX6_takeOff_X6_at : GoodIn wsX6_takeOff (wsV RX6 59 RX6 yX6_at wsX6_at) := goodIn_app (goodIn_of _ (by decide +kernel)) ggX6_takeOff_X6_at
set_option maxRecDepth 20000 in
theorem ggX6_takeOff_X6_record : GoodIn wsX6_takeOff wsX6_record := goodIn_r _ [25, 26, 27, 1, 28, 29, 30, 31, 32, 33, 34, 35, 36, 37, 38] (by decide +kernel) (by decide +kernel)
set_option maxRecDepth 20000 in
theorem gX6_takeOff_X6_record : GoodIn wsX6_takeOff (wsV RX6 53 RX6 yX6_record wsX6_record) := goodIn_app (goodIn_of _ (by decide +kernel)) ggX6_takeOff_X6_record
theorem dX6_takeOff_0 : decode cX6_takeOff 0 = .ok (.aload_n 0, 1) := by decide +kernel
theorem dX6_takeOff_1 : decode cX6_takeOff 1 = .ok (.iload_n 1, 1) := by decide +kernel
theorem dX6_takeOff_2 : decode cX6_takeOff 2 = .ok (.iload_n 2, 1) := by decide +kernel
theorem dX6_takeOff_3 : decode cX6_takeOff 3 = .ok (.invokevirtual 82, 3) := by decide +kernel
theorem dX6_takeOff_6 : decode cX6_takeOff 6 = .ok (.ifCond .ne 5, 3) := by decide +kernel
theorem dX6_takeOff_9 : decode cX6_takeOff 9 = .ok (.iconst (-1), 1) := by decide +kernel
theorem dX6_takeOff_10 : decode cX6_takeOff 10 = .ok (.ireturn, 1) := by decide +kernel
theorem dX6_takeOff_11 : decode cX6_takeOff 11 = .ok (.aload_n 0, 1) := by decide +kernel
theorem dX6_takeOff_12 : decode cX6_takeOff 12 = .ok (.getfield 7, 3) := by decide +kernel
theorem dX6_takeOff_15 : decode cX6_takeOff 15 = .ok (.aload_n 0, 1) := by decide +kernel
theorem dX6_takeOff_16 : decode cX6_takeOff 16 = .ok (.iload_n 1, 1) := by decide +kernel
theorem dX6_takeOff_17 : decode cX6_takeOff 17 = .ok (.iload_n 2, 1) := by decide +kernel
theorem dX6_takeOff_18 : decode cX6_takeOff 18 = .ok (.invokevirtual 59, 3) := by decide +kernel
theorem dX6_takeOff_21 : decode cX6_takeOff 21 = .ok (.iaload, 1) := by decide +kernel
theorem dX6_takeOff_22 : decode cX6_takeOff 22 = .ok (.istore_n 3, 1) := by decide +kernel
theorem dX6_takeOff_23 : decode cX6_takeOff 23 = .ok (.iload_n 3, 1) := by decide +kernel
theorem dX6_takeOff_24 : decode cX6_takeOff 24 = .ok (.ifCond .eq 18, 3) := by decide +kernel
theorem dX6_takeOff_27 : decode cX6_takeOff 27 = .ok (.aload_n 0, 1) := by decide +kernel
theorem dX6_takeOff_28 : decode cX6_takeOff 28 = .ok (.getfield 7, 3) := by decide +kernel
theorem dX6_takeOff_31 : decode cX6_takeOff 31 = .ok (.iconst 0, 1) := by decide +kernel
theorem dX6_takeOff_32 : decode cX6_takeOff 32 = .ok (.iload_n 3, 1) := by decide +kernel
theorem dX6_takeOff_33 : decode cX6_takeOff 33 = .ok (.iadd, 1) := by decide +kernel
theorem dX6_takeOff_34 : decode cX6_takeOff 34 = .ok (.iconst 1, 1) := by decide +kernel
theorem dX6_takeOff_35 : decode cX6_takeOff 35 = .ok (.isub, 1) := by decide +kernel
theorem dX6_takeOff_36 : decode cX6_takeOff 36 = .ok (.iaload, 1) := by decide +kernel
theorem dX6_takeOff_37 : decode cX6_takeOff 37 = .ok (.bipush 99, 2) := by decide +kernel
theorem dX6_takeOff_39 : decode cX6_takeOff 39 = .ok (.if_icmp .ne 6, 3) := by decide +kernel
theorem dX6_takeOff_42 : decode cX6_takeOff 42 = .ok (.bipush (-3), 2) := by decide +kernel
theorem dX6_takeOff_44 : decode cX6_takeOff 44 = .ok (.ireturn, 1) := by decide +kernel
theorem dX6_takeOff_45 : decode cX6_takeOff 45 = .ok (.aload_n 0, 1) := by decide +kernel
theorem dX6_takeOff_46 : decode cX6_takeOff 46 = .ok (.invokevirtual 53, 3) := by decide +kernel
theorem dX6_takeOff_49 : decode cX6_takeOff 49 = .ok (.aload_n 0, 1) := by decide +kernel
theorem dX6_takeOff_50 : decode cX6_takeOff 50 = .ok (.getfield 7, 3) := by decide +kernel
theorem dX6_takeOff_53 : decode cX6_takeOff 53 = .ok (.aload_n 0, 1) := by decide +kernel
theorem dX6_takeOff_54 : decode cX6_takeOff 54 = .ok (.iload_n 1, 1) := by decide +kernel
theorem dX6_takeOff_55 : decode cX6_takeOff 55 = .ok (.iload_n 2, 1) := by decide +kernel
theorem dX6_takeOff_56 : decode cX6_takeOff 56 = .ok (.invokevirtual 59, 3) := by decide +kernel
theorem dX6_takeOff_59 : decode cX6_takeOff 59 = .ok (.iconst 0, 1) := by decide +kernel
theorem dX6_takeOff_60 : decode cX6_takeOff 60 = .ok (.iastore, 1) := by decide +kernel
theorem dX6_takeOff_61 : decode cX6_takeOff 61 = .ok (.aload_n 0, 1) := by decide +kernel
theorem dX6_takeOff_62 : decode cX6_takeOff 62 = .ok (.getfield 7, 3) := by decide +kernel
theorem dX6_takeOff_65 : decode cX6_takeOff 65 = .ok (.iconst 0, 1) := by decide +kernel
theorem dX6_takeOff_66 : decode cX6_takeOff 66 = .ok (.iload_n 3, 1) := by decide +kernel
theorem dX6_takeOff_67 : decode cX6_takeOff 67 = .ok (.iadd, 1) := by decide +kernel
theorem dX6_takeOff_68 : decode cX6_takeOff 68 = .ok (.iconst 1, 1) := by decide +kernel
theorem dX6_takeOff_69 : decode cX6_takeOff 69 = .ok (.isub, 1) := by decide +kernel
theorem dX6_takeOff_70 : decode cX6_takeOff 70 = .ok (.dup2, 1) := by decide +kernel
theorem dX6_takeOff_71 : decode cX6_takeOff 71 = .ok (.iaload, 1) := by decide +kernel
theorem dX6_takeOff_72 : decode cX6_takeOff 72 = .ok (.iconst 1, 1) := by decide +kernel
theorem dX6_takeOff_73 : decode cX6_takeOff 73 = .ok (.iadd, 1) := by decide +kernel
theorem dX6_takeOff_74 : decode cX6_takeOff 74 = .ok (.iastore, 1) := by decide +kernel
theorem dX6_takeOff_75 : decode cX6_takeOff 75 = .ok (.iload_n 3, 1) := by decide +kernel
theorem dX6_takeOff_76 : decode cX6_takeOff 76 = .ok (.ireturn, 1) := by decide +kernel
theorem dX6_weightOf_0 : decode cX6_weightOf 0 = .ok (.iload_n 1, 1) := by decide +kernel
theorem dX6_weightOf_1 : decode cX6_weightOf 1 = .ok (.ifCond .ne 7, 3) := by decide +kernel
theorem dX6_weightOf_4 : decode cX6_weightOf 4 = .ok (.iconst 0, 1) := by decide +kernel
theorem dX6_weightOf_5 : decode cX6_weightOf 5 = .ok (.goto 13, 3) := by decide +kernel
theorem dX6_weightOf_8 : decode cX6_weightOf 8 = .ok (.aload_n 0, 1) := by decide +kernel
theorem dX6_weightOf_9 : decode cX6_weightOf 9 = .ok (.getfield 7, 3) := by decide +kernel
theorem dX6_weightOf_12 : decode cX6_weightOf 12 = .ok (.iconst 5, 1) := by decide +kernel
theorem dX6_weightOf_13 : decode cX6_weightOf 13 = .ok (.iload_n 1, 1) := by decide +kernel
theorem dX6_weightOf_14 : decode cX6_weightOf 14 = .ok (.iadd, 1) := by decide +kernel
theorem dX6_weightOf_15 : decode cX6_weightOf 15 = .ok (.iconst 1, 1) := by decide +kernel
theorem dX6_weightOf_16 : decode cX6_weightOf 16 = .ok (.isub, 1) := by decide +kernel
theorem dX6_weightOf_17 : decode cX6_weightOf 17 = .ok (.iaload, 1) := by decide +kernel
theorem dX6_weightOf_18 : decode cX6_weightOf 18 = .ok (.ireturn, 1) := by decide +kernel
set_option maxRecDepth 20000 in
theorem ggX6_quarterOf_X6_slots : GoodIn wsX6_quarterOf wsX6_slots := goodIn_r _ [6, 1, 15, 16, 17, 18, 19, 20, 21, 22, 23, 24, 25] (by decide +kernel) (by decide +kernel)
set_option maxRecDepth 20000 in
theorem gX6_quarterOf_X6_slots : GoodIn wsX6_quarterOf (wsV RX6 33 RX6 yX6_slots wsX6_slots) := goodIn_app (goodIn_of _ (by decide +kernel)) ggX6_quarterOf_X6_slots
set_option maxRecDepth 20000 in
theorem ggX6_quarterOf_X6_at : GoodIn wsX6_quarterOf wsX6_at := goodIn_r _ [10, 2, 3, 4, 5, 6, 1, 15, 16, 17, 18, 19, 20, 21, 22, 23, 24, 25] (by decide +kernel) (by decide +kernel)
set_option maxRecDepth 20000 in
theorem gX6_quarterOf_X6_at : GoodIn wsX6_quarterOf (wsV RX6 59 RX6 yX6_at wsX6_at) := goodIn_app (goodIn_of _ (by decide +kernel)) ggX6_quarterOf_X6_at
set_option maxRecDepth 20000 in
theorem ggX6_quarterOf_X6_weightOf : GoodIn wsX6_quarterOf wsX6_weightOf := goodIn_r _ [14, 1, 15, 16, 17, 18, 19, 20, 21, 22, 23, 24, 25] (by decide +kernel) (by decide +kernel)
set_option maxRecDepth 20000 in
theorem gX6_quarterOf_X6_weightOf : GoodIn wsX6_quarterOf (wsV RX6 86 RX6 yX6_weightOf wsX6_weightOf) := goodIn_app (goodIn_of _ (by decide +kernel)) ggX6_quarterOf_X6_weightOf
theorem dX6_quarterOf_0 : decode cX6_quarterOf 0 = .ok (.aload_n 0, 1) := by decide +kernel
theorem dX6_quarterOf_1 : decode cX6_quarterOf 1 = .ok (.iload_n 1, 1) := by decide +kernel
theorem dX6_quarterOf_2 : decode cX6_quarterOf 2 = .ok (.invokevirtual 33, 3) := by decide +kernel
theorem dX6_quarterOf_5 : decode cX6_quarterOf 5 = .ok (.iconst 4, 1) := by decide +kernel
theorem dX6_quarterOf_6 : decode cX6_quarterOf 6 = .ok (.idiv, 1) := by decide +kernel
theorem dX6_quarterOf_7 : decode cX6_quarterOf 7 = .ok (.istore_n 3, 1) := by decide +kernel
theorem dX6_quarterOf_8 : decode cX6_quarterOf 8 = .ok (.iconst 0, 1) := by decide +kernel
theorem dX6_quarterOf_9 : decode cX6_quarterOf 9 = .ok (.istore 4, 2) := by decide +kernel
theorem dX6_quarterOf_11 : decode cX6_quarterOf 11 = .ok (.iload_n 2, 1) := by decide +kernel
theorem dX6_quarterOf_12 : decode cX6_quarterOf 12 = .ok (.iload_n 3, 1) := by decide +kernel
theorem dX6_quarterOf_13 : decode cX6_quarterOf 13 = .ok (.imul, 1) := by decide +kernel
theorem dX6_quarterOf_14 : decode cX6_quarterOf 14 = .ok (.istore 5, 2) := by decide +kernel
theorem dX6_quarterOf_16 : decode cX6_quarterOf 16 = .ok (.iload 5, 2) := by decide +kernel
theorem dX6_quarterOf_18 : decode cX6_quarterOf 18 = .ok (.iload_n 2, 1) := by decide +kernel
theorem dX6_quarterOf_19 : decode cX6_quarterOf 19 = .ok (.iconst 1, 1) := by decide +kernel
theorem dX6_quarterOf_20 : decode cX6_quarterOf 20 = .ok (.iadd, 1) := by decide +kernel
theorem dX6_quarterOf_21 : decode cX6_quarterOf 21 = .ok (.iload_n 3, 1) := by decide +kernel
theorem dX6_quarterOf_22 : decode cX6_quarterOf 22 = .ok (.imul, 1) := by decide +kernel
theorem dX6_quarterOf_23 : decode cX6_quarterOf 23 = .ok (.if_icmp .ge 30, 3) := by decide +kernel
theorem dX6_quarterOf_26 : decode cX6_quarterOf 26 = .ok (.iload 4, 2) := by decide +kernel
theorem dX6_quarterOf_28 : decode cX6_quarterOf 28 = .ok (.aload_n 0, 1) := by decide +kernel
theorem dX6_quarterOf_29 : decode cX6_quarterOf 29 = .ok (.aload_n 0, 1) := by decide +kernel
theorem dX6_quarterOf_30 : decode cX6_quarterOf 30 = .ok (.getfield 7, 3) := by decide +kernel
theorem dX6_quarterOf_33 : decode cX6_quarterOf 33 = .ok (.aload_n 0, 1) := by decide +kernel
theorem dX6_quarterOf_34 : decode cX6_quarterOf 34 = .ok (.iload_n 1, 1) := by decide +kernel
theorem dX6_quarterOf_35 : decode cX6_quarterOf 35 = .ok (.iload 5, 2) := by decide +kernel
theorem dX6_quarterOf_37 : decode cX6_quarterOf 37 = .ok (.invokevirtual 59, 3) := by decide +kernel
theorem dX6_quarterOf_40 : decode cX6_quarterOf 40 = .ok (.iaload, 1) := by decide +kernel
theorem dX6_quarterOf_41 : decode cX6_quarterOf 41 = .ok (.invokevirtual 86, 3) := by decide +kernel
theorem dX6_quarterOf_44 : decode cX6_quarterOf 44 = .ok (.iadd, 1) := by decide +kernel
theorem dX6_quarterOf_45 : decode cX6_quarterOf 45 = .ok (.istore 4, 2) := by decide +kernel
theorem dX6_quarterOf_47 : decode cX6_quarterOf 47 = .ok (.iinc 5 1, 3) := by decide +kernel
theorem dX6_quarterOf_50 : decode cX6_quarterOf 50 = .ok (.goto (-34), 3) := by decide +kernel
theorem dX6_quarterOf_53 : decode cX6_quarterOf 53 = .ok (.iload 4, 2) := by decide +kernel
theorem dX6_quarterOf_55 : decode cX6_quarterOf 55 = .ok (.ireturn, 1) := by decide +kernel
theorem dX6_size_0 : decode cX6_size 0 = .ok (.iload_n 0, 1) := by decide +kernel
theorem dX6_size_1 : decode cX6_size 1 = .ok (.ifCond .ge 8, 3) := by decide +kernel
theorem dX6_size_4 : decode cX6_size 4 = .ok (.iload_n 0, 1) := by decide +kernel
theorem dX6_size_5 : decode cX6_size 5 = .ok (.ineg, 1) := by decide +kernel
theorem dX6_size_6 : decode cX6_size 6 = .ok (.goto 4, 3) := by decide +kernel
theorem dX6_size_9 : decode cX6_size 9 = .ok (.iload_n 0, 1) := by decide +kernel
theorem dX6_size_10 : decode cX6_size 10 = .ok (.ireturn, 1) := by decide +kernel
set_option maxRecDepth 20000 in
theorem ggX6_lean_X6_quarterOf : GoodIn wsX6_lean wsX6_quarterOf := goodIn_r _ [5, 6, 7, 8, 9, 4, 10, 11, 12, 13, 14, 15, 16, 17, 18, 22, 23, 24, 25, 26, 27, 28, 29, 30, 31, 32] (by decide +kernel) (by decide +kernel)
set_option maxRecDepth 20000 in
theorem gX6_lean_X6_quarterOf : GoodIn wsX6_lean (wsV RX6 89 RX6 yX6_quarterOf wsX6_quarterOf) := goodIn_app (goodIn_of _ (by decide +kernel)) ggX6_lean_X6_quarterOf
set_option maxRecDepth 20000 in
theorem ggX6_lean_X6_size : GoodIn wsX6_lean wsX6_size := goodIn_r _ [21] (by decide +kernel) (by decide +kernel)
set_option maxRecDepth 20000 in
theorem gX6_lean_X6_size : GoodIn wsX6_lean (va_wsS RX6 92 yX6_size wsX6_size) := goodIn_app (goodIn_of _ (by decide +kernel)) ggX6_lean_X6_size
theorem dX6_lean_0 : decode cX6_lean 0 = .ok (.aload_n 0, 1) := by decide +kernel
theorem dX6_lean_1 : decode cX6_lean 1 = .ok (.iload_n 1, 1) := by decide +kernel
theorem dX6_lean_2 : decode cX6_lean 2 = .ok (.iconst 0, 1) := by decide +kernel
theorem dX6_lean_3 : decode cX6_lean 3 = .ok (.invokevirtual 89, 3) := by decide +kernel
theorem dX6_lean_6 : decode cX6_lean 6 = .ok (.aload_n 0, 1) := by decide +kernel
theorem dX6_lean_7 : decode cX6_lean 7 = .ok (.iload_n 1, 1) := by decide +kernel
theorem dX6_lean_8 : decode cX6_lean 8 = .ok (.iconst 2, 1) := by decide +kernel
theorem dX6_lean_9 : decode cX6_lean 9 = .ok (.invokevirtual 89, 3) := by decide +kernel
theorem dX6_lean_12 : decode cX6_lean 12 = .ok (.isub, 1) := by decide +kernel
theorem dX6_lean_13 : decode cX6_lean 13 = .ok (.invokestatic 92, 3) := by decide +kernel
theorem dX6_lean_16 : decode cX6_lean 16 = .ok (.aload_n 0, 1) := by decide +kernel
theorem dX6_lean_17 : decode cX6_lean 17 = .ok (.iload_n 1, 1) := by decide +kernel
theorem dX6_lean_18 : decode cX6_lean 18 = .ok (.iconst 1, 1) := by decide +kernel
theorem dX6_lean_19 : decode cX6_lean 19 = .ok (.invokevirtual 89, 3) := by decide +kernel
theorem dX6_lean_22 : decode cX6_lean 22 = .ok (.aload_n 0, 1) := by decide +kernel
theorem dX6_lean_23 : decode cX6_lean 23 = .ok (.iload_n 1, 1) := by decide +kernel
theorem dX6_lean_24 : decode cX6_lean 24 = .ok (.iconst 3, 1) := by decide +kernel
theorem dX6_lean_25 : decode cX6_lean 25 = .ok (.invokevirtual 89, 3) := by decide +kernel
theorem dX6_lean_28 : decode cX6_lean 28 = .ok (.isub, 1) := by decide +kernel
theorem dX6_lean_29 : decode cX6_lean 29 = .ok (.invokestatic 92, 3) := by decide +kernel
theorem dX6_lean_32 : decode cX6_lean 32 = .ok (.iadd, 1) := by decide +kernel
theorem dX6_lean_33 : decode cX6_lean 33 = .ok (.ireturn, 1) := by decide +kernel
set_option maxRecDepth 20000 in
theorem ggX6_exchange_X6_at : GoodIn wsX6_exchange wsX6_at := goodIn_r _ [6, 7, 8, 9, 5, 10, 1, 11, 12, 13, 14, 15, 16, 17, 18, 19, 20, 21] (by decide +kernel) (by decide +kernel)
set_option maxRecDepth 20000 in
theorem gX6_exchange_X6_at : GoodIn wsX6_exchange (wsV RX6 59 RX6 yX6_at wsX6_at) := goodIn_app (goodIn_of _ (by decide +kernel)) ggX6_exchange_X6_at
theorem dX6_exchange_0 : decode cX6_exchange 0 = .ok (.aload_n 0, 1) := by decide +kernel
theorem dX6_exchange_1 : decode cX6_exchange 1 = .ok (.getfield 7, 3) := by decide +kernel
theorem dX6_exchange_4 : decode cX6_exchange 4 = .ok (.aload_n 0, 1) := by decide +kernel
theorem dX6_exchange_5 : decode cX6_exchange 5 = .ok (.iload_n 1, 1) := by decide +kernel
theorem dX6_exchange_6 : decode cX6_exchange 6 = .ok (.iload_n 2, 1) := by decide +kernel
theorem dX6_exchange_7 : decode cX6_exchange 7 = .ok (.invokevirtual 59, 3) := by decide +kernel
theorem dX6_exchange_10 : decode cX6_exchange 10 = .ok (.iaload, 1) := by decide +kernel
theorem dX6_exchange_11 : decode cX6_exchange 11 = .ok (.istore 4, 2) := by decide +kernel
theorem dX6_exchange_13 : decode cX6_exchange 13 = .ok (.aload_n 0, 1) := by decide +kernel
theorem dX6_exchange_14 : decode cX6_exchange 14 = .ok (.getfield 7, 3) := by decide +kernel
theorem dX6_exchange_17 : decode cX6_exchange 17 = .ok (.aload_n 0, 1) := by decide +kernel
theorem dX6_exchange_18 : decode cX6_exchange 18 = .ok (.iload_n 1, 1) := by decide +kernel
theorem dX6_exchange_19 : decode cX6_exchange 19 = .ok (.iload_n 2, 1) := by decide +kernel
theorem dX6_exchange_20 : decode cX6_exchange 20 = .ok (.invokevirtual 59, 3) := by decide +kernel
theorem dX6_exchange_23 : decode cX6_exchange 23 = .ok (.aload_n 0, 1) := by decide +kernel
theorem dX6_exchange_24 : decode cX6_exchange 24 = .ok (.getfield 7, 3) := by decide +kernel
theorem dX6_exchange_27 : decode cX6_exchange 27 = .ok (.aload_n 0, 1) := by decide +kernel
theorem dX6_exchange_28 : decode cX6_exchange 28 = .ok (.iload_n 1, 1) := by decide +kernel
theorem dX6_exchange_29 : decode cX6_exchange 29 = .ok (.iload_n 3, 1) := by decide +kernel
theorem dX6_exchange_30 : decode cX6_exchange 30 = .ok (.invokevirtual 59, 3) := by decide +kernel
theorem dX6_exchange_33 : decode cX6_exchange 33 = .ok (.iaload, 1) := by decide +kernel
theorem dX6_exchange_34 : decode cX6_exchange 34 = .ok (.iastore, 1) := by decide +kernel
theorem dX6_exchange_35 : decode cX6_exchange 35 = .ok (.aload_n 0, 1) := by decide +kernel
theorem dX6_exchange_36 : decode cX6_exchange 36 = .ok (.getfield 7, 3) := by decide +kernel
theorem dX6_exchange_39 : decode cX6_exchange 39 = .ok (.aload_n 0, 1) := by decide +kernel
theorem dX6_exchange_40 : decode cX6_exchange 40 = .ok (.iload_n 1, 1) := by decide +kernel
theorem dX6_exchange_41 : decode cX6_exchange 41 = .ok (.iload_n 3, 1) := by decide +kernel
theorem dX6_exchange_42 : decode cX6_exchange 42 = .ok (.invokevirtual 59, 3) := by decide +kernel
theorem dX6_exchange_45 : decode cX6_exchange 45 = .ok (.iload 4, 2) := by decide +kernel
theorem dX6_exchange_47 : decode cX6_exchange 47 = .ok (.iastore, 1) := by decide +kernel
theorem dX6_exchange_48 : decode cX6_exchange 48 = .ok (.return_, 1) := by decide +kernel
set_option maxRecDepth 20000 in
theorem ggX6_swap_X6_isSlot : GoodIn wsX6_swap wsX6_isSlot := goodIn_r _ [5, 6, 7, 8, 4, 9, 10, 11, 12, 13, 14, 15, 16, 17, 47, 48, 49, 50, 51, 52, 53, 54, 55, 56, 57] (by decide +kernel) (by decide +kernel)
set_option maxRecDepth 20000 in
theorem gX6_swap_X6_isSlot : GoodIn wsX6_swap (wsV RX6 82 RX6 yX6_isSlot wsX6_isSlot) := goodIn_app (goodIn_of _ (by decide +kernel)) ggX6_swap_X6_isSlot
set_option maxRecDepth 20000 in
theorem ggX6_swap_X6_record : GoodIn wsX6_swap wsX6_record := goodIn_r _ [21, 22, 23, 17, 47, 48, 49, 50, 51, 52, 53, 54, 55, 56, 57] (by decide +kernel) (by decide +kernel)
set_option maxRecDepth 20000 in
theorem gX6_swap_X6_record : GoodIn wsX6_swap (wsV RX6 53 RX6 yX6_record wsX6_record) := goodIn_app (goodIn_of _ (by decide +kernel)) ggX6_swap_X6_record
set_option maxRecDepth 20000 in
theorem ggX6_swap_X6_exchange : GoodIn wsX6_swap wsX6_exchange := goodIn_r _ [27, 17, 28, 29, 30, 4, 31, 13, 14, 15, 16, 47, 48, 49, 50, 51, 52, 53, 54, 55, 56, 57] (by decide +kernel) (by decide +kernel)
set_option maxRecDepth 20000 in
theorem gX6_swap_X6_exchange : GoodIn wsX6_swap (wsV RX6 95 RX6 yX6_exchange wsX6_exchange) := goodIn_app (goodIn_of _ (by decide +kernel)) ggX6_swap_X6_exchange
set_option maxRecDepth 20000 in
theorem ggX6_swap_X6_lean : GoodIn wsX6_swap wsX6_lean := goodIn_r _ [35, 36, 37, 38, 4, 39, 17, 13, 14, 15, 16, 28, 29, 30, 31, 40, 41, 42, 43, 44, 45, 46, 47, 48, 49, 50, 51, 52, 53, 54, 55, 56, 57] (by decide +kernel) (by decide +kernel)
set_option maxRecDepth 20000 in
theorem gX6_swap_X6_lean : GoodIn wsX6_swap (wsV RX6 99 RX6 yX6_lean wsX6_lean) := goodIn_app (goodIn_of _ (by decide +kernel)) ggX6_swap_X6_lean
theorem dX6_swap_0 : decode cX6_swap 0 = .ok (.aload_n 0, 1) := by decide +kernel
theorem dX6_swap_1 : decode cX6_swap 1 = .ok (.iload_n 1, 1) := by decide +kernel
theorem dX6_swap_2 : decode cX6_swap 2 = .ok (.iload_n 2, 1) := by decide +kernel
theorem dX6_swap_3 : decode cX6_swap 3 = .ok (.invokevirtual 82, 3) := by decide +kernel
theorem dX6_swap_6 : decode cX6_swap 6 = .ok (.ifCond .eq 12, 3) := by decide +kernel
theorem dX6_swap_9 : decode cX6_swap 9 = .ok (.aload_n 0, 1) := by decide +kernel
theorem dX6_swap_10 : decode cX6_swap 10 = .ok (.iload_n 1, 1) := by decide +kernel
theorem dX6_swap_11 : decode cX6_swap 11 = .ok (.iload_n 3, 1) := by decide +kernel
theorem dX6_swap_12 : decode cX6_swap 12 = .ok (.invokevirtual 82, 3) := by decide +kernel
theorem dX6_swap_15 : decode cX6_swap 15 = .ok (.ifCond .ne 5, 3) := by decide +kernel
theorem dX6_swap_18 : decode cX6_swap 18 = .ok (.iconst (-1), 1) := by decide +kernel
theorem dX6_swap_19 : decode cX6_swap 19 = .ok (.ireturn, 1) := by decide +kernel
theorem dX6_swap_20 : decode cX6_swap 20 = .ok (.aload_n 0, 1) := by decide +kernel
theorem dX6_swap_21 : decode cX6_swap 21 = .ok (.invokevirtual 53, 3) := by decide +kernel
theorem dX6_swap_24 : decode cX6_swap 24 = .ok (.aload_n 0, 1) := by decide +kernel
theorem dX6_swap_25 : decode cX6_swap 25 = .ok (.iload_n 1, 1) := by decide +kernel
theorem dX6_swap_26 : decode cX6_swap 26 = .ok (.iload_n 2, 1) := by decide +kernel
theorem dX6_swap_27 : decode cX6_swap 27 = .ok (.iload_n 3, 1) := by decide +kernel
theorem dX6_swap_28 : decode cX6_swap 28 = .ok (.invokevirtual 95, 3) := by decide +kernel
theorem dX6_swap_31 : decode cX6_swap 31 = .ok (.aload_n 0, 1) := by decide +kernel
theorem dX6_swap_32 : decode cX6_swap 32 = .ok (.iload_n 1, 1) := by decide +kernel
theorem dX6_swap_33 : decode cX6_swap 33 = .ok (.invokevirtual 99, 3) := by decide +kernel
theorem dX6_swap_36 : decode cX6_swap 36 = .ok (.ireturn, 1) := by decide +kernel
theorem dX6_changes_0 : decode cX6_changes 0 = .ok (.iload_n 1, 1) := by decide +kernel
theorem dX6_changes_1 : decode cX6_changes 1 = .ok (.ifCond .ne 7, 3) := by decide +kernel
theorem dX6_changes_4 : decode cX6_changes 4 = .ok (.iconst 4, 1) := by decide +kernel
theorem dX6_changes_5 : decode cX6_changes 5 = .ok (.goto 6, 3) := by decide +kernel
theorem dX6_changes_8 : decode cX6_changes 8 = .ok (.iload_n 1, 1) := by decide +kernel
theorem dX6_changes_9 : decode cX6_changes 9 = .ok (.iload_n 0, 1) := by decide +kernel
theorem dX6_changes_10 : decode cX6_changes 10 = .ok (.imul, 1) := by decide +kernel
theorem dX6_changes_11 : decode cX6_changes 11 = .ok (.ireturn, 1) := by decide +kernel
set_option maxRecDepth 20000 in
theorem ggX6_behind_X6_slots : GoodIn wsX6_behind wsX6_slots := goodIn_r _ [6, 1, 11, 12, 13, 14, 15, 16, 17, 18, 19, 20, 21] (by decide +kernel) (by decide +kernel)
set_option maxRecDepth 20000 in
theorem gX6_behind_X6_slots : GoodIn wsX6_behind (wsV RX6 33 RX6 yX6_slots wsX6_slots) := goodIn_app (goodIn_of _ (by decide +kernel)) ggX6_behind_X6_slots
set_option maxRecDepth 20000 in
theorem ggX6_behind_X6_at : GoodIn wsX6_behind wsX6_at := goodIn_r _ [10, 2, 3, 4, 5, 6, 1, 11, 12, 13, 14, 15, 16, 17, 18, 19, 20, 21] (by decide +kernel) (by decide +kernel)
set_option maxRecDepth 20000 in
theorem gX6_behind_X6_at : GoodIn wsX6_behind (wsV RX6 59 RX6 yX6_at wsX6_at) := goodIn_app (goodIn_of _ (by decide +kernel)) ggX6_behind_X6_at
theorem dX6_behind_0 : decode cX6_behind 0 = .ok (.aload_n 0, 1) := by decide +kernel
theorem dX6_behind_1 : decode cX6_behind 1 = .ok (.iload_n 1, 1) := by decide +kernel
theorem dX6_behind_2 : decode cX6_behind 2 = .ok (.invokevirtual 33, 3) := by decide +kernel
theorem dX6_behind_5 : decode cX6_behind 5 = .ok (.istore 5, 2) := by decide +kernel
theorem dX6_behind_7 : decode cX6_behind 7 = .ok (.iload_n 2, 1) := by decide +kernel
theorem dX6_behind_8 : decode cX6_behind 8 = .ok (.ifCond .ne 12, 3) := by decide +kernel
theorem dX6_behind_11 : decode cX6_behind 11 = .ok (.iload_n 3, 1) := by decide +kernel
theorem dX6_behind_12 : decode cX6_behind 12 = .ok (.iload 5, 2) := by decide +kernel
theorem dX6_behind_14 : decode cX6_behind 14 = .ok (.iconst 4, 1) := by decide +kernel
theorem dX6_behind_15 : decode cX6_behind 15 = .ok (.idiv, 1) := by decide +kernel
theorem dX6_behind_16 : decode cX6_behind 16 = .ok (.imul, 1) := by decide +kernel
theorem dX6_behind_17 : decode cX6_behind 17 = .ok (.goto 7, 3) := by decide +kernel
theorem dX6_behind_20 : decode cX6_behind 20 = .ok (.iload_n 3, 1) := by decide +kernel
theorem dX6_behind_21 : decode cX6_behind 21 = .ok (.iload 5, 2) := by decide +kernel
theorem dX6_behind_23 : decode cX6_behind 23 = .ok (.irem, 1) := by decide +kernel
theorem dX6_behind_24 : decode cX6_behind 24 = .ok (.istore 6, 2) := by decide +kernel
theorem dX6_behind_26 : decode cX6_behind 26 = .ok (.iload 4, 2) := by decide +kernel
theorem dX6_behind_28 : decode cX6_behind 28 = .ok (.iload 5, 2) := by decide +kernel
theorem dX6_behind_30 : decode cX6_behind 30 = .ok (.iadd, 1) := by decide +kernel
theorem dX6_behind_31 : decode cX6_behind 31 = .ok (.iload 6, 2) := by decide +kernel
theorem dX6_behind_33 : decode cX6_behind 33 = .ok (.isub, 1) := by decide +kernel
theorem dX6_behind_34 : decode cX6_behind 34 = .ok (.iload 5, 2) := by decide +kernel
theorem dX6_behind_36 : decode cX6_behind 36 = .ok (.irem, 1) := by decide +kernel
theorem dX6_behind_37 : decode cX6_behind 37 = .ok (.istore 7, 2) := by decide +kernel
theorem dX6_behind_39 : decode cX6_behind 39 = .ok (.aload_n 0, 1) := by decide +kernel
theorem dX6_behind_40 : decode cX6_behind 40 = .ok (.getfield 7, 3) := by decide +kernel
theorem dX6_behind_43 : decode cX6_behind 43 = .ok (.aload_n 0, 1) := by decide +kernel
theorem dX6_behind_44 : decode cX6_behind 44 = .ok (.iload_n 1, 1) := by decide +kernel
theorem dX6_behind_45 : decode cX6_behind 45 = .ok (.iload_n 2, 1) := by decide +kernel
theorem dX6_behind_46 : decode cX6_behind 46 = .ok (.iconst 2, 1) := by decide +kernel
theorem dX6_behind_47 : decode cX6_behind 47 = .ok (.if_icmp .ne 17, 3) := by decide +kernel
theorem dX6_behind_50 : decode cX6_behind 50 = .ok (.iload_n 3, 1) := by decide +kernel
theorem dX6_behind_51 : decode cX6_behind 51 = .ok (.iload 5, 2) := by decide +kernel
theorem dX6_behind_53 : decode cX6_behind 53 = .ok (.if_icmp .lt 11, 3) := by decide +kernel
theorem dX6_behind_56 : decode cX6_behind 56 = .ok (.iload 5, 2) := by decide +kernel
theorem dX6_behind_58 : decode cX6_behind 58 = .ok (.iload 7, 2) := by decide +kernel
theorem dX6_behind_60 : decode cX6_behind 60 = .ok (.isub, 1) := by decide +kernel
theorem dX6_behind_61 : decode cX6_behind 61 = .ok (.goto 5, 3) := by decide +kernel
theorem dX6_behind_64 : decode cX6_behind 64 = .ok (.iload 7, 2) := by decide +kernel
theorem dX6_behind_66 : decode cX6_behind 66 = .ok (.invokevirtual 59, 3) := by decide +kernel
theorem dX6_behind_69 : decode cX6_behind 69 = .ok (.iaload, 1) := by decide +kernel
theorem dX6_behind_70 : decode cX6_behind 70 = .ok (.ireturn, 1) := by decide +kernel
set_option maxRecDepth 20000 in
theorem ggX6_becomes_X6_slots : GoodIn wsX6_becomes wsX6_slots := goodIn_r _ [7, 2, 16, 17, 18, 19, 20, 21, 22, 23, 24, 25, 26] (by decide +kernel) (by decide +kernel)
set_option maxRecDepth 20000 in
theorem gX6_becomes_X6_slots : GoodIn wsX6_becomes (wsV RX6 33 RX6 yX6_slots wsX6_slots) := goodIn_app (goodIn_of _ (by decide +kernel)) ggX6_becomes_X6_slots
set_option maxRecDepth 20000 in
theorem ggX6_becomes_X6_behind : GoodIn wsX6_becomes wsX6_behind := goodIn_r _ [11, 2, 3, 4, 5, 6, 7, 12, 13, 14, 15, 16, 17, 18, 19, 20, 21, 22, 23, 24, 25, 26] (by decide +kernel) (by decide +kernel)
set_option maxRecDepth 20000 in
theorem gX6_becomes_X6_behind : GoodIn wsX6_becomes (wsV RX6 102 RX6 yX6_behind wsX6_behind) := goodIn_app (goodIn_of _ (by decide +kernel)) ggX6_becomes_X6_behind
set_option maxRecDepth 20000 in
theorem ggX6_becomes_X6_at : GoodIn wsX6_becomes wsX6_at := goodIn_r _ [15, 3, 4, 5, 6, 7, 2, 16, 17, 18, 19, 20, 21, 22, 23, 24, 25, 26] (by decide +kernel) (by decide +kernel)
set_option maxRecDepth 20000 in
theorem gX6_becomes_X6_at : GoodIn wsX6_becomes (wsV RX6 59 RX6 yX6_at wsX6_at) := goodIn_app (goodIn_of _ (by decide +kernel)) ggX6_becomes_X6_at
theorem dX6_becomes_0 : decode cX6_becomes 0 = .ok (.aload_n 0, 1) := by decide +kernel
theorem dX6_becomes_1 : decode cX6_becomes 1 = .ok (.iload_n 1, 1) := by decide +kernel
theorem dX6_becomes_2 : decode cX6_becomes 2 = .ok (.invokevirtual 33, 3) := by decide +kernel
theorem dX6_becomes_5 : decode cX6_becomes 5 = .ok (.istore_n 3, 1) := by decide +kernel
theorem dX6_becomes_6 : decode cX6_becomes 6 = .ok (.iconst 0, 1) := by decide +kernel
theorem dX6_becomes_7 : decode cX6_becomes 7 = .ok (.istore 4, 2) := by decide +kernel
theorem dX6_becomes_9 : decode cX6_becomes 9 = .ok (.iconst 0, 1) := by decide +kernel
theorem dX6_becomes_10 : decode cX6_becomes 10 = .ok (.istore 5, 2) := by decide +kernel
theorem dX6_becomes_12 : decode cX6_becomes 12 = .ok (.iload 5, 2) := by decide +kernel
theorem dX6_becomes_14 : decode cX6_becomes 14 = .ok (.iload_n 3, 1) := by decide +kernel
theorem dX6_becomes_15 : decode cX6_becomes 15 = .ok (.if_icmp .ge 57, 3) := by decide +kernel
theorem dX6_becomes_18 : decode cX6_becomes 18 = .ok (.aload_n 0, 1) := by decide +kernel
theorem dX6_becomes_19 : decode cX6_becomes 19 = .ok (.getfield 23, 3) := by decide +kernel
theorem dX6_becomes_22 : decode cX6_becomes 22 = .ok (.iload 5, 2) := by decide +kernel
theorem dX6_becomes_24 : decode cX6_becomes 24 = .ok (.aload_n 0, 1) := by decide +kernel
theorem dX6_becomes_25 : decode cX6_becomes 25 = .ok (.iload_n 1, 1) := by decide +kernel
theorem dX6_becomes_26 : decode cX6_becomes 26 = .ok (.iconst 2, 1) := by decide +kernel
theorem dX6_becomes_27 : decode cX6_becomes 27 = .ok (.iload_n 2, 1) := by decide +kernel
theorem dX6_becomes_28 : decode cX6_becomes 28 = .ok (.iload 5, 2) := by decide +kernel
theorem dX6_becomes_30 : decode cX6_becomes 30 = .ok (.invokevirtual 102, 3) := by decide +kernel
theorem dX6_becomes_33 : decode cX6_becomes 33 = .ok (.iastore, 1) := by decide +kernel
theorem dX6_becomes_34 : decode cX6_becomes 34 = .ok (.iload 4, 2) := by decide +kernel
theorem dX6_becomes_36 : decode cX6_becomes 36 = .ok (.aload_n 0, 1) := by decide +kernel
theorem dX6_becomes_37 : decode cX6_becomes 37 = .ok (.getfield 23, 3) := by decide +kernel
theorem dX6_becomes_40 : decode cX6_becomes 40 = .ok (.iload 5, 2) := by decide +kernel
theorem dX6_becomes_42 : decode cX6_becomes 42 = .ok (.iaload, 1) := by decide +kernel
theorem dX6_becomes_43 : decode cX6_becomes 43 = .ok (.aload_n 0, 1) := by decide +kernel
theorem dX6_becomes_44 : decode cX6_becomes 44 = .ok (.getfield 7, 3) := by decide +kernel
theorem dX6_becomes_47 : decode cX6_becomes 47 = .ok (.aload_n 0, 1) := by decide +kernel
theorem dX6_becomes_48 : decode cX6_becomes 48 = .ok (.iload_n 1, 1) := by decide +kernel
theorem dX6_becomes_49 : decode cX6_becomes 49 = .ok (.iload 5, 2) := by decide +kernel
theorem dX6_becomes_51 : decode cX6_becomes 51 = .ok (.invokevirtual 59, 3) := by decide +kernel
theorem dX6_becomes_54 : decode cX6_becomes 54 = .ok (.iaload, 1) := by decide +kernel
theorem dX6_becomes_55 : decode cX6_becomes 55 = .ok (.if_icmp .ne 7, 3) := by decide +kernel
theorem dX6_becomes_58 : decode cX6_becomes 58 = .ok (.iconst 0, 1) := by decide +kernel
theorem dX6_becomes_59 : decode cX6_becomes 59 = .ok (.goto 4, 3) := by decide +kernel
theorem dX6_becomes_62 : decode cX6_becomes 62 = .ok (.iconst 1, 1) := by decide +kernel
theorem dX6_becomes_63 : decode cX6_becomes 63 = .ok (.iadd, 1) := by decide +kernel
theorem dX6_becomes_64 : decode cX6_becomes 64 = .ok (.istore 4, 2) := by decide +kernel
theorem dX6_becomes_66 : decode cX6_becomes 66 = .ok (.iinc 5 1, 3) := by decide +kernel
theorem dX6_becomes_69 : decode cX6_becomes 69 = .ok (.goto (-57), 3) := by decide +kernel
theorem dX6_becomes_72 : decode cX6_becomes 72 = .ok (.iconst 0, 1) := by decide +kernel
theorem dX6_becomes_73 : decode cX6_becomes 73 = .ok (.istore 5, 2) := by decide +kernel
theorem dX6_becomes_75 : decode cX6_becomes 75 = .ok (.iload 5, 2) := by decide +kernel
theorem dX6_becomes_77 : decode cX6_becomes 77 = .ok (.iload_n 3, 1) := by decide +kernel
theorem dX6_becomes_78 : decode cX6_becomes 78 = .ok (.if_icmp .ge 28, 3) := by decide +kernel
theorem dX6_becomes_81 : decode cX6_becomes 81 = .ok (.aload_n 0, 1) := by decide +kernel
theorem dX6_becomes_82 : decode cX6_becomes 82 = .ok (.getfield 7, 3) := by decide +kernel
theorem dX6_becomes_85 : decode cX6_becomes 85 = .ok (.aload_n 0, 1) := by decide +kernel
theorem dX6_becomes_86 : decode cX6_becomes 86 = .ok (.iload_n 1, 1) := by decide +kernel
theorem dX6_becomes_87 : decode cX6_becomes 87 = .ok (.iload 5, 2) := by decide +kernel
theorem dX6_becomes_89 : decode cX6_becomes 89 = .ok (.invokevirtual 59, 3) := by decide +kernel
theorem dX6_becomes_92 : decode cX6_becomes 92 = .ok (.aload_n 0, 1) := by decide +kernel
theorem dX6_becomes_93 : decode cX6_becomes 93 = .ok (.getfield 23, 3) := by decide +kernel
theorem dX6_becomes_96 : decode cX6_becomes 96 = .ok (.iload 5, 2) := by decide +kernel
theorem dX6_becomes_98 : decode cX6_becomes 98 = .ok (.iaload, 1) := by decide +kernel
theorem dX6_becomes_99 : decode cX6_becomes 99 = .ok (.iastore, 1) := by decide +kernel
theorem dX6_becomes_100 : decode cX6_becomes 100 = .ok (.iinc 5 1, 3) := by decide +kernel
theorem dX6_becomes_103 : decode cX6_becomes 103 = .ok (.goto (-28), 3) := by decide +kernel
theorem dX6_becomes_106 : decode cX6_becomes 106 = .ok (.iload 4, 2) := by decide +kernel
theorem dX6_becomes_108 : decode cX6_becomes 108 = .ok (.ireturn, 1) := by decide +kernel
set_option maxRecDepth 20000 in
theorem ggX6_roll_X6_isBracelet : GoodIn wsX6_roll wsX6_isBracelet := goodIn_r _ [5, 6, 7, 4, 8, 9, 10, 11, 12, 13, 33, 34, 35, 36, 37, 38, 39, 40, 41, 42, 43] (by decide +kernel) (by decide +kernel)
set_option maxRecDepth 20000 in
theorem gX6_roll_X6_isBracelet : GoodIn wsX6_roll (wsV RX6 37 RX6 yX6_isBracelet wsX6_isBracelet) := goodIn_app (goodIn_of _ (by decide +kernel)) ggX6_roll_X6_isBracelet
set_option maxRecDepth 20000 in
theorem ggX6_roll_X6_slots : GoodIn wsX6_roll wsX6_slots := goodIn_r _ [12, 13, 33, 34, 35, 36, 37, 38, 39, 40, 41, 42, 43] (by decide +kernel) (by decide +kernel)
set_option maxRecDepth 20000 in
theorem gX6_roll_X6_slots : GoodIn wsX6_roll (wsV RX6 33 RX6 yX6_slots wsX6_slots) := goodIn_app (goodIn_of _ (by decide +kernel)) ggX6_roll_X6_slots
set_option maxRecDepth 20000 in
theorem ggX6_roll_X6_in : GoodIn wsX6_roll wsX6_in := goodIn_r _ [8] (by decide +kernel) (by decide +kernel)
set_option maxRecDepth 20000 in
theorem gX6_roll_X6_in : GoodIn wsX6_roll (va_wsS RX6 29 yX6_in wsX6_in) := goodIn_app (goodIn_of _ (by decide +kernel)) ggX6_roll_X6_in
set_option maxRecDepth 20000 in
theorem ggX6_roll_X6_record : GoodIn wsX6_roll wsX6_record := goodIn_r _ [17, 18, 19, 13, 33, 34, 35, 36, 37, 38, 39, 40, 41, 42, 43] (by decide +kernel) (by decide +kernel)
set_option maxRecDepth 20000 in
theorem gX6_roll_X6_record : GoodIn wsX6_roll (wsV RX6 53 RX6 yX6_record wsX6_record) := goodIn_app (goodIn_of _ (by decide +kernel)) ggX6_roll_X6_record
set_option maxRecDepth 20000 in
theorem ggX6_roll_X6_becomes : GoodIn wsX6_roll wsX6_becomes := goodIn_r _ [23, 24, 13, 9, 10, 11, 4, 12, 25, 26, 27, 28, 29, 30, 31, 32, 33, 34, 35, 36, 37, 38, 39, 40, 41, 42, 43] (by decide +kernel) (by decide +kernel)
set_option maxRecDepth 20000 in
theorem gX6_roll_X6_becomes : GoodIn wsX6_roll (wsV RX6 106 RX6 yX6_becomes wsX6_becomes) := goodIn_app (goodIn_of _ (by decide +kernel)) ggX6_roll_X6_becomes
theorem dX6_roll_0 : decode cX6_roll 0 = .ok (.aload_n 0, 1) := by decide +kernel
theorem dX6_roll_1 : decode cX6_roll 1 = .ok (.iload_n 1, 1) := by decide +kernel
theorem dX6_roll_2 : decode cX6_roll 2 = .ok (.invokevirtual 37, 3) := by decide +kernel
theorem dX6_roll_5 : decode cX6_roll 5 = .ok (.ifCond .ne 5, 3) := by decide +kernel
theorem dX6_roll_8 : decode cX6_roll 8 = .ok (.iconst (-1), 1) := by decide +kernel
theorem dX6_roll_9 : decode cX6_roll 9 = .ok (.ireturn, 1) := by decide +kernel
theorem dX6_roll_10 : decode cX6_roll 10 = .ok (.iload_n 2, 1) := by decide +kernel
theorem dX6_roll_11 : decode cX6_roll 11 = .ok (.iconst 0, 1) := by decide +kernel
theorem dX6_roll_12 : decode cX6_roll 12 = .ok (.aload_n 0, 1) := by decide +kernel
theorem dX6_roll_13 : decode cX6_roll 13 = .ok (.iload_n 1, 1) := by decide +kernel
theorem dX6_roll_14 : decode cX6_roll 14 = .ok (.invokevirtual 33, 3) := by decide +kernel
theorem dX6_roll_17 : decode cX6_roll 17 = .ok (.iconst 1, 1) := by decide +kernel
theorem dX6_roll_18 : decode cX6_roll 18 = .ok (.isub, 1) := by decide +kernel
theorem dX6_roll_19 : decode cX6_roll 19 = .ok (.invokestatic 29, 3) := by decide +kernel
theorem dX6_roll_22 : decode cX6_roll 22 = .ok (.ifCond .ne 6, 3) := by decide +kernel
theorem dX6_roll_25 : decode cX6_roll 25 = .ok (.bipush (-2), 2) := by decide +kernel
theorem dX6_roll_27 : decode cX6_roll 27 = .ok (.ireturn, 1) := by decide +kernel
theorem dX6_roll_28 : decode cX6_roll 28 = .ok (.aload_n 0, 1) := by decide +kernel
theorem dX6_roll_29 : decode cX6_roll 29 = .ok (.invokevirtual 53, 3) := by decide +kernel
theorem dX6_roll_32 : decode cX6_roll 32 = .ok (.aload_n 0, 1) := by decide +kernel
theorem dX6_roll_33 : decode cX6_roll 33 = .ok (.iload_n 1, 1) := by decide +kernel
theorem dX6_roll_34 : decode cX6_roll 34 = .ok (.iload_n 2, 1) := by decide +kernel
theorem dX6_roll_35 : decode cX6_roll 35 = .ok (.invokevirtual 106, 3) := by decide +kernel
theorem dX6_roll_38 : decode cX6_roll 38 = .ok (.ireturn, 1) := by decide +kernel
set_option maxRecDepth 20000 in
theorem ggX6_turn_X6_isBracelet : GoodIn wsX6_turn wsX6_isBracelet := goodIn_r _ [5, 6, 7, 4, 8, 9, 10, 11, 12, 13, 33, 34, 35, 36, 37, 38, 39, 40, 41, 42, 43] (by decide +kernel) (by decide +kernel)
set_option maxRecDepth 20000 in
theorem gX6_turn_X6_isBracelet : GoodIn wsX6_turn (wsV RX6 37 RX6 yX6_isBracelet wsX6_isBracelet) := goodIn_app (goodIn_of _ (by decide +kernel)) ggX6_turn_X6_isBracelet
set_option maxRecDepth 20000 in
theorem ggX6_turn_X6_in : GoodIn wsX6_turn wsX6_in := goodIn_r _ [8] (by decide +kernel) (by decide +kernel)
set_option maxRecDepth 20000 in
theorem gX6_turn_X6_in : GoodIn wsX6_turn (va_wsS RX6 29 yX6_in wsX6_in) := goodIn_app (goodIn_of _ (by decide +kernel)) ggX6_turn_X6_in
set_option maxRecDepth 20000 in
theorem ggX6_turn_X6_record : GoodIn wsX6_turn wsX6_record := goodIn_r _ [17, 18, 19, 13, 33, 34, 35, 36, 37, 38, 39, 40, 41, 42, 43] (by decide +kernel) (by decide +kernel)
set_option maxRecDepth 20000 in
theorem gX6_turn_X6_record : GoodIn wsX6_turn (wsV RX6 53 RX6 yX6_record wsX6_record) := goodIn_app (goodIn_of _ (by decide +kernel)) ggX6_turn_X6_record
set_option maxRecDepth 20000 in
theorem ggX6_turn_X6_slots : GoodIn wsX6_turn wsX6_slots := goodIn_r _ [12, 13, 33, 34, 35, 36, 37, 38, 39, 40, 41, 42, 43] (by decide +kernel) (by decide +kernel)
set_option maxRecDepth 20000 in
theorem gX6_turn_X6_slots : GoodIn wsX6_turn (wsV RX6 33 RX6 yX6_slots wsX6_slots) := goodIn_app (goodIn_of _ (by decide +kernel)) ggX6_turn_X6_slots
set_option maxRecDepth 20000 in
theorem ggX6_turn_X6_becomes : GoodIn wsX6_turn wsX6_becomes := goodIn_r _ [23, 24, 13, 9, 10, 11, 4, 12, 25, 26, 27, 28, 29, 30, 31, 32, 33, 34, 35, 36, 37, 38, 39, 40, 41, 42, 43] (by decide +kernel) (by decide +kernel)
set_option maxRecDepth 20000 in
theorem gX6_turn_X6_becomes : GoodIn wsX6_turn (wsV RX6 106 RX6 yX6_becomes wsX6_becomes) := goodIn_app (goodIn_of _ (by decide +kernel)) ggX6_turn_X6_becomes
theorem dX6_turn_0 : decode cX6_turn 0 = .ok (.aload_n 0, 1) := by decide +kernel
theorem dX6_turn_1 : decode cX6_turn 1 = .ok (.iload_n 1, 1) := by decide +kernel
theorem dX6_turn_2 : decode cX6_turn 2 = .ok (.invokevirtual 37, 3) := by decide +kernel
theorem dX6_turn_5 : decode cX6_turn 5 = .ok (.ifCond .ne 5, 3) := by decide +kernel
theorem dX6_turn_8 : decode cX6_turn 8 = .ok (.iconst (-1), 1) := by decide +kernel
theorem dX6_turn_9 : decode cX6_turn 9 = .ok (.ireturn, 1) := by decide +kernel
theorem dX6_turn_10 : decode cX6_turn 10 = .ok (.iload_n 2, 1) := by decide +kernel
theorem dX6_turn_11 : decode cX6_turn 11 = .ok (.iconst 0, 1) := by decide +kernel
theorem dX6_turn_12 : decode cX6_turn 12 = .ok (.iconst 3, 1) := by decide +kernel
theorem dX6_turn_13 : decode cX6_turn 13 = .ok (.invokestatic 29, 3) := by decide +kernel
theorem dX6_turn_16 : decode cX6_turn 16 = .ok (.ifCond .ne 6, 3) := by decide +kernel
theorem dX6_turn_19 : decode cX6_turn 19 = .ok (.bipush (-2), 2) := by decide +kernel
theorem dX6_turn_21 : decode cX6_turn 21 = .ok (.ireturn, 1) := by decide +kernel
theorem dX6_turn_22 : decode cX6_turn 22 = .ok (.aload_n 0, 1) := by decide +kernel
theorem dX6_turn_23 : decode cX6_turn 23 = .ok (.invokevirtual 53, 3) := by decide +kernel
theorem dX6_turn_26 : decode cX6_turn 26 = .ok (.aload_n 0, 1) := by decide +kernel
theorem dX6_turn_27 : decode cX6_turn 27 = .ok (.iload_n 1, 1) := by decide +kernel
theorem dX6_turn_28 : decode cX6_turn 28 = .ok (.iload_n 2, 1) := by decide +kernel
theorem dX6_turn_29 : decode cX6_turn 29 = .ok (.aload_n 0, 1) := by decide +kernel
theorem dX6_turn_30 : decode cX6_turn 30 = .ok (.iload_n 1, 1) := by decide +kernel
theorem dX6_turn_31 : decode cX6_turn 31 = .ok (.invokevirtual 33, 3) := by decide +kernel
theorem dX6_turn_34 : decode cX6_turn 34 = .ok (.imul, 1) := by decide +kernel
theorem dX6_turn_35 : decode cX6_turn 35 = .ok (.iconst 4, 1) := by decide +kernel
theorem dX6_turn_36 : decode cX6_turn 36 = .ok (.idiv, 1) := by decide +kernel
theorem dX6_turn_37 : decode cX6_turn 37 = .ok (.invokevirtual 106, 3) := by decide +kernel
theorem dX6_turn_40 : decode cX6_turn 40 = .ok (.ireturn, 1) := by decide +kernel
set_option maxRecDepth 20000 in
theorem ggX6_mirror_X6_isBracelet : GoodIn wsX6_mirror wsX6_isBracelet := goodIn_r _ [5, 6, 7, 4, 8, 9, 10, 11, 12, 13, 33, 34, 35, 36, 37, 38, 39, 40, 41, 42, 43] (by decide +kernel) (by decide +kernel)
set_option maxRecDepth 20000 in
theorem gX6_mirror_X6_isBracelet : GoodIn wsX6_mirror (wsV RX6 37 RX6 yX6_isBracelet wsX6_isBracelet) := goodIn_app (goodIn_of _ (by decide +kernel)) ggX6_mirror_X6_isBracelet
set_option maxRecDepth 20000 in
theorem ggX6_mirror_X6_record : GoodIn wsX6_mirror wsX6_record := goodIn_r _ [17, 18, 19, 13, 33, 34, 35, 36, 37, 38, 39, 40, 41, 42, 43] (by decide +kernel) (by decide +kernel)
set_option maxRecDepth 20000 in
theorem gX6_mirror_X6_record : GoodIn wsX6_mirror (wsV RX6 53 RX6 yX6_record wsX6_record) := goodIn_app (goodIn_of _ (by decide +kernel)) ggX6_mirror_X6_record
set_option maxRecDepth 20000 in
theorem ggX6_mirror_X6_slots : GoodIn wsX6_mirror wsX6_slots := goodIn_r _ [12, 13, 33, 34, 35, 36, 37, 38, 39, 40, 41, 42, 43] (by decide +kernel) (by decide +kernel)
set_option maxRecDepth 20000 in
theorem gX6_mirror_X6_slots : GoodIn wsX6_mirror (wsV RX6 33 RX6 yX6_slots wsX6_slots) := goodIn_app (goodIn_of _ (by decide +kernel)) ggX6_mirror_X6_slots
set_option maxRecDepth 20000 in
theorem ggX6_mirror_X6_becomes : GoodIn wsX6_mirror wsX6_becomes := goodIn_r _ [23, 24, 13, 9, 10, 11, 4, 12, 25, 26, 27, 28, 29, 30, 31, 32, 33, 34, 35, 36, 37, 38, 39, 40, 41, 42, 43] (by decide +kernel) (by decide +kernel)
set_option maxRecDepth 20000 in
theorem gX6_mirror_X6_becomes : GoodIn wsX6_mirror (wsV RX6 106 RX6 yX6_becomes wsX6_becomes) := goodIn_app (goodIn_of _ (by decide +kernel)) ggX6_mirror_X6_becomes
theorem dX6_mirror_0 : decode cX6_mirror 0 = .ok (.aload_n 0, 1) := by decide +kernel
theorem dX6_mirror_1 : decode cX6_mirror 1 = .ok (.iload_n 1, 1) := by decide +kernel
theorem dX6_mirror_2 : decode cX6_mirror 2 = .ok (.invokevirtual 37, 3) := by decide +kernel
theorem dX6_mirror_5 : decode cX6_mirror 5 = .ok (.ifCond .ne 5, 3) := by decide +kernel
theorem dX6_mirror_8 : decode cX6_mirror 8 = .ok (.iconst (-1), 1) := by decide +kernel
theorem dX6_mirror_9 : decode cX6_mirror 9 = .ok (.ireturn, 1) := by decide +kernel
theorem dX6_mirror_10 : decode cX6_mirror 10 = .ok (.aload_n 0, 1) := by decide +kernel
theorem dX6_mirror_11 : decode cX6_mirror 11 = .ok (.invokevirtual 53, 3) := by decide +kernel
theorem dX6_mirror_14 : decode cX6_mirror 14 = .ok (.aload_n 0, 1) := by decide +kernel
theorem dX6_mirror_15 : decode cX6_mirror 15 = .ok (.iload_n 1, 1) := by decide +kernel
theorem dX6_mirror_16 : decode cX6_mirror 16 = .ok (.aload_n 0, 1) := by decide +kernel
theorem dX6_mirror_17 : decode cX6_mirror 17 = .ok (.iload_n 1, 1) := by decide +kernel
theorem dX6_mirror_18 : decode cX6_mirror 18 = .ok (.invokevirtual 33, 3) := by decide +kernel
theorem dX6_mirror_21 : decode cX6_mirror 21 = .ok (.invokevirtual 106, 3) := by decide +kernel
theorem dX6_mirror_24 : decode cX6_mirror 24 = .ok (.ireturn, 1) := by decide +kernel
set_option maxRecDepth 20000 in
theorem ggX6_bracelets_X6_slots : GoodIn wsX6_bracelets wsX6_slots := goodIn_r _ [5, 6, 7, 8, 9, 10, 11, 12, 13, 14, 15, 16, 17] (by decide +kernel) (by decide +kernel)
set_option maxRecDepth 20000 in
theorem gX6_bracelets_X6_slots : GoodIn wsX6_bracelets (wsV RX6 33 RX6 yX6_slots wsX6_slots) := goodIn_app (goodIn_of _ (by decide +kernel)) ggX6_bracelets_X6_slots
theorem dX6_bracelets_0 : decode cX6_bracelets 0 = .ok (.iconst 0, 1) := by decide +kernel
theorem dX6_bracelets_1 : decode cX6_bracelets 1 = .ok (.istore_n 1, 1) := by decide +kernel
theorem dX6_bracelets_2 : decode cX6_bracelets 2 = .ok (.iconst 0, 1) := by decide +kernel
theorem dX6_bracelets_3 : decode cX6_bracelets 3 = .ok (.istore_n 2, 1) := by decide +kernel
theorem dX6_bracelets_4 : decode cX6_bracelets 4 = .ok (.iload_n 2, 1) := by decide +kernel
theorem dX6_bracelets_5 : decode cX6_bracelets 5 = .ok (.bipush 6, 2) := by decide +kernel
theorem dX6_bracelets_7 : decode cX6_bracelets 7 = .ok (.if_icmp .ge 27, 3) := by decide +kernel
theorem dX6_bracelets_10 : decode cX6_bracelets 10 = .ok (.iload_n 1, 1) := by decide +kernel
theorem dX6_bracelets_11 : decode cX6_bracelets 11 = .ok (.aload_n 0, 1) := by decide +kernel
theorem dX6_bracelets_12 : decode cX6_bracelets 12 = .ok (.iload_n 2, 1) := by decide +kernel
theorem dX6_bracelets_13 : decode cX6_bracelets 13 = .ok (.invokevirtual 33, 3) := by decide +kernel
theorem dX6_bracelets_16 : decode cX6_bracelets 16 = .ok (.ifCond .le 9, 3) := by decide +kernel
theorem dX6_bracelets_19 : decode cX6_bracelets 19 = .ok (.iconst 1, 1) := by decide +kernel
theorem dX6_bracelets_20 : decode cX6_bracelets 20 = .ok (.iload_n 2, 1) := by decide +kernel
theorem dX6_bracelets_21 : decode cX6_bracelets 21 = .ok (.ishl, 1) := by decide +kernel
theorem dX6_bracelets_22 : decode cX6_bracelets 22 = .ok (.goto 4, 3) := by decide +kernel
theorem dX6_bracelets_25 : decode cX6_bracelets 25 = .ok (.iconst 0, 1) := by decide +kernel
theorem dX6_bracelets_26 : decode cX6_bracelets 26 = .ok (.ior, 1) := by decide +kernel
theorem dX6_bracelets_27 : decode cX6_bracelets 27 = .ok (.istore_n 1, 1) := by decide +kernel
theorem dX6_bracelets_28 : decode cX6_bracelets 28 = .ok (.iinc 2 1, 3) := by decide +kernel
theorem dX6_bracelets_31 : decode cX6_bracelets 31 = .ok (.goto (-27), 3) := by decide +kernel
theorem dX6_bracelets_34 : decode cX6_bracelets 34 = .ok (.iload_n 1, 1) := by decide +kernel
theorem dX6_bracelets_35 : decode cX6_bracelets 35 = .ok (.ireturn, 1) := by decide +kernel
set_option maxRecDepth 20000 in
theorem ggX6_weightAll_X6_quarterOf : GoodIn wsX6_weightAll wsX6_quarterOf := goodIn_r _ [5, 6, 7, 8, 9, 4, 10, 11, 12, 13, 14, 15, 16, 17, 18, 19, 20, 21, 22, 23, 24, 25, 26, 27, 28, 29] (by decide +kernel) (by decide +kernel)
set_option maxRecDepth 20000 in
theorem gX6_weightAll_X6_quarterOf : GoodIn wsX6_weightAll (wsV RX6 89 RX6 yX6_quarterOf wsX6_quarterOf) := goodIn_app (goodIn_of _ (by decide +kernel)) ggX6_weightAll_X6_quarterOf
theorem dX6_weightAll_0 : decode cX6_weightAll 0 = .ok (.aload_n 0, 1) := by decide +kernel
theorem dX6_weightAll_1 : decode cX6_weightAll 1 = .ok (.iload_n 1, 1) := by decide +kernel
theorem dX6_weightAll_2 : decode cX6_weightAll 2 = .ok (.iconst 0, 1) := by decide +kernel
theorem dX6_weightAll_3 : decode cX6_weightAll 3 = .ok (.invokevirtual 89, 3) := by decide +kernel
theorem dX6_weightAll_6 : decode cX6_weightAll 6 = .ok (.aload_n 0, 1) := by decide +kernel
theorem dX6_weightAll_7 : decode cX6_weightAll 7 = .ok (.iload_n 1, 1) := by decide +kernel
theorem dX6_weightAll_8 : decode cX6_weightAll 8 = .ok (.iconst 1, 1) := by decide +kernel
theorem dX6_weightAll_9 : decode cX6_weightAll 9 = .ok (.invokevirtual 89, 3) := by decide +kernel
theorem dX6_weightAll_12 : decode cX6_weightAll 12 = .ok (.iadd, 1) := by decide +kernel
theorem dX6_weightAll_13 : decode cX6_weightAll 13 = .ok (.aload_n 0, 1) := by decide +kernel
theorem dX6_weightAll_14 : decode cX6_weightAll 14 = .ok (.iload_n 1, 1) := by decide +kernel
theorem dX6_weightAll_15 : decode cX6_weightAll 15 = .ok (.iconst 2, 1) := by decide +kernel
theorem dX6_weightAll_16 : decode cX6_weightAll 16 = .ok (.invokevirtual 89, 3) := by decide +kernel
theorem dX6_weightAll_19 : decode cX6_weightAll 19 = .ok (.iadd, 1) := by decide +kernel
theorem dX6_weightAll_20 : decode cX6_weightAll 20 = .ok (.aload_n 0, 1) := by decide +kernel
theorem dX6_weightAll_21 : decode cX6_weightAll 21 = .ok (.iload_n 1, 1) := by decide +kernel
theorem dX6_weightAll_22 : decode cX6_weightAll 22 = .ok (.iconst 3, 1) := by decide +kernel
theorem dX6_weightAll_23 : decode cX6_weightAll 23 = .ok (.invokevirtual 89, 3) := by decide +kernel
theorem dX6_weightAll_26 : decode cX6_weightAll 26 = .ok (.iadd, 1) := by decide +kernel
theorem dX6_weightAll_27 : decode cX6_weightAll 27 = .ok (.ireturn, 1) := by decide +kernel
set_option maxRecDepth 20000 in
theorem ggX6_bracelet_X6_isBracelet : GoodIn wsX6_bracelet wsX6_isBracelet := goodIn_r _ [5, 6, 7, 4, 8, 9, 10, 11, 12, 13, 45, 46, 47, 48, 49, 50, 51, 52, 53, 54, 55] (by decide +kernel) (by decide +kernel)
set_option maxRecDepth 20000 in
theorem gX6_bracelet_X6_isBracelet : GoodIn wsX6_bracelet (wsV RX6 37 RX6 yX6_isBracelet wsX6_isBracelet) := goodIn_app (goodIn_of _ (by decide +kernel)) ggX6_bracelet_X6_isBracelet
set_option maxRecDepth 20000 in
theorem ggX6_bracelet_X6_slots : GoodIn wsX6_bracelet wsX6_slots := goodIn_r _ [12, 13, 45, 46, 47, 48, 49, 50, 51, 52, 53, 54, 55] (by decide +kernel) (by decide +kernel)
set_option maxRecDepth 20000 in
theorem gX6_bracelet_X6_slots : GoodIn wsX6_bracelet (wsV RX6 33 RX6 yX6_slots wsX6_slots) := goodIn_app (goodIn_of _ (by decide +kernel)) ggX6_bracelet_X6_slots
set_option maxRecDepth 20000 in
theorem ggX6_bracelet_X6_charms : GoodIn wsX6_bracelet wsX6_charms := goodIn_r _ [17, 9, 10, 11, 4, 12, 13, 18, 19, 20, 21, 22, 23, 24, 25, 45, 46, 47, 48, 49, 50, 51, 52, 53, 54, 55] (by decide +kernel) (by decide +kernel)
set_option maxRecDepth 20000 in
theorem gX6_bracelet_X6_charms : GoodIn wsX6_bracelet (wsV RX6 79 RX6 yX6_charms wsX6_charms) := goodIn_app (goodIn_of _ (by decide +kernel)) ggX6_bracelet_X6_charms
set_option maxRecDepth 20000 in
theorem ggX6_bracelet_X6_weightAll : GoodIn wsX6_bracelet wsX6_weightAll := goodIn_r _ [29, 30, 31, 32, 4, 33, 13, 9, 10, 11, 12, 22, 23, 24, 25, 34, 35, 36, 37, 45, 46, 47, 48, 49, 50, 51, 52, 53, 54, 55] (by decide +kernel) (by decide +kernel)
set_option maxRecDepth 20000 in
theorem gX6_bracelet_X6_weightAll : GoodIn wsX6_bracelet (wsV RX6 109 RX6 yX6_weightAll wsX6_weightAll) := goodIn_app (goodIn_of _ (by decide +kernel)) ggX6_bracelet_X6_weightAll
set_option maxRecDepth 20000 in
theorem ggX6_bracelet_X6_lean : GoodIn wsX6_bracelet wsX6_lean := goodIn_r _ [41, 30, 31, 32, 4, 33, 13, 9, 10, 11, 12, 22, 23, 24, 25, 34, 35, 36, 37, 42, 43, 44, 45, 46, 47, 48, 49, 50, 51, 52, 53, 54, 55] (by decide +kernel) (by decide +kernel)
set_option maxRecDepth 20000 in
theorem gX6_bracelet_X6_lean : GoodIn wsX6_bracelet (wsV RX6 99 RX6 yX6_lean wsX6_lean) := goodIn_app (goodIn_of _ (by decide +kernel)) ggX6_bracelet_X6_lean
theorem dX6_bracelet_0 : decode cX6_bracelet 0 = .ok (.aload_n 0, 1) := by decide +kernel
theorem dX6_bracelet_1 : decode cX6_bracelet 1 = .ok (.iload_n 1, 1) := by decide +kernel
theorem dX6_bracelet_2 : decode cX6_bracelet 2 = .ok (.invokevirtual 37, 3) := by decide +kernel
theorem dX6_bracelet_5 : decode cX6_bracelet 5 = .ok (.ifCond .ne 5, 3) := by decide +kernel
theorem dX6_bracelet_8 : decode cX6_bracelet 8 = .ok (.iconst (-1), 1) := by decide +kernel
theorem dX6_bracelet_9 : decode cX6_bracelet 9 = .ok (.ireturn, 1) := by decide +kernel
theorem dX6_bracelet_10 : decode cX6_bracelet 10 = .ok (.iload_n 2, 1) := by decide +kernel
theorem dX6_bracelet_11 : decode cX6_bracelet 11 = .ok (.tableswitch 53 0 3 #[29, 35, 41, 47], 29) := by decide +kernel
theorem dX6_bracelet_40 : decode cX6_bracelet 40 = .ok (.aload_n 0, 1) := by decide +kernel
theorem dX6_bracelet_41 : decode cX6_bracelet 41 = .ok (.iload_n 1, 1) := by decide +kernel
theorem dX6_bracelet_42 : decode cX6_bracelet 42 = .ok (.invokevirtual 33, 3) := by decide +kernel
theorem dX6_bracelet_45 : decode cX6_bracelet 45 = .ok (.ireturn, 1) := by decide +kernel
theorem dX6_bracelet_46 : decode cX6_bracelet 46 = .ok (.aload_n 0, 1) := by decide +kernel
theorem dX6_bracelet_47 : decode cX6_bracelet 47 = .ok (.iload_n 1, 1) := by decide +kernel
theorem dX6_bracelet_48 : decode cX6_bracelet 48 = .ok (.invokevirtual 79, 3) := by decide +kernel
theorem dX6_bracelet_51 : decode cX6_bracelet 51 = .ok (.ireturn, 1) := by decide +kernel
theorem dX6_bracelet_52 : decode cX6_bracelet 52 = .ok (.aload_n 0, 1) := by decide +kernel
theorem dX6_bracelet_53 : decode cX6_bracelet 53 = .ok (.iload_n 1, 1) := by decide +kernel
theorem dX6_bracelet_54 : decode cX6_bracelet 54 = .ok (.invokevirtual 109, 3) := by decide +kernel
theorem dX6_bracelet_57 : decode cX6_bracelet 57 = .ok (.ireturn, 1) := by decide +kernel
theorem dX6_bracelet_58 : decode cX6_bracelet 58 = .ok (.aload_n 0, 1) := by decide +kernel
theorem dX6_bracelet_59 : decode cX6_bracelet 59 = .ok (.iload_n 1, 1) := by decide +kernel
theorem dX6_bracelet_60 : decode cX6_bracelet 60 = .ok (.invokevirtual 99, 3) := by decide +kernel
theorem dX6_bracelet_63 : decode cX6_bracelet 63 = .ok (.ireturn, 1) := by decide +kernel
theorem dX6_bracelet_64 : decode cX6_bracelet 64 = .ok (.bipush (-2), 2) := by decide +kernel
theorem dX6_bracelet_66 : decode cX6_bracelet 66 = .ok (.ireturn, 1) := by decide +kernel
set_option maxRecDepth 20000 in
theorem ggX6_slot_X6_isSlot : GoodIn wsX6_slot wsX6_isSlot := goodIn_r _ [6, 7, 8, 9, 5, 10, 11, 12, 13, 14, 15, 16, 17, 1, 22, 23, 24, 25, 26, 27, 28, 29, 30, 31, 32] (by decide +kernel) (by decide +kernel)
set_option maxRecDepth 20000 in
theorem gX6_slot_X6_isSlot : GoodIn wsX6_slot (wsV RX6 82 RX6 yX6_isSlot wsX6_isSlot) := goodIn_app (goodIn_of _ (by decide +kernel)) ggX6_slot_X6_isSlot
set_option maxRecDepth 20000 in
theorem ggX6_slot_X6_at : GoodIn wsX6_slot wsX6_at := goodIn_r _ [21, 14, 15, 16, 5, 17, 1, 22, 23, 24, 25, 26, 27, 28, 29, 30, 31, 32] (by decide +kernel) (by decide +kernel)
set_option maxRecDepth 20000 in
theorem gX6_slot_X6_at : GoodIn wsX6_slot (wsV RX6 59 RX6 yX6_at wsX6_at) := goodIn_app (goodIn_of _ (by decide +kernel)) ggX6_slot_X6_at
theorem dX6_slot_0 : decode cX6_slot 0 = .ok (.aload_n 0, 1) := by decide +kernel
theorem dX6_slot_1 : decode cX6_slot 1 = .ok (.iload_n 1, 1) := by decide +kernel
theorem dX6_slot_2 : decode cX6_slot 2 = .ok (.iload_n 2, 1) := by decide +kernel
theorem dX6_slot_3 : decode cX6_slot 3 = .ok (.invokevirtual 82, 3) := by decide +kernel
theorem dX6_slot_6 : decode cX6_slot 6 = .ok (.ifCond .eq 17, 3) := by decide +kernel
theorem dX6_slot_9 : decode cX6_slot 9 = .ok (.aload_n 0, 1) := by decide +kernel
theorem dX6_slot_10 : decode cX6_slot 10 = .ok (.getfield 7, 3) := by decide +kernel
theorem dX6_slot_13 : decode cX6_slot 13 = .ok (.aload_n 0, 1) := by decide +kernel
theorem dX6_slot_14 : decode cX6_slot 14 = .ok (.iload_n 1, 1) := by decide +kernel
theorem dX6_slot_15 : decode cX6_slot 15 = .ok (.iload_n 2, 1) := by decide +kernel
theorem dX6_slot_16 : decode cX6_slot 16 = .ok (.invokevirtual 59, 3) := by decide +kernel
theorem dX6_slot_19 : decode cX6_slot 19 = .ok (.iaload, 1) := by decide +kernel
theorem dX6_slot_20 : decode cX6_slot 20 = .ok (.goto 4, 3) := by decide +kernel
theorem dX6_slot_23 : decode cX6_slot 23 = .ok (.iconst (-1), 1) := by decide +kernel
theorem dX6_slot_24 : decode cX6_slot 24 = .ok (.ireturn, 1) := by decide +kernel
set_option maxRecDepth 20000 in
theorem ggX6_quarter_X6_isBracelet : GoodIn wsX6_quarter wsX6_isBracelet := goodIn_r _ [5, 6, 7, 4, 8, 9, 10, 11, 12, 13, 26, 27, 28, 29, 30, 31, 32, 33, 34, 35, 36] (by decide +kernel) (by decide +kernel)
set_option maxRecDepth 20000 in
theorem gX6_quarter_X6_isBracelet : GoodIn wsX6_quarter (wsV RX6 37 RX6 yX6_isBracelet wsX6_isBracelet) := goodIn_app (goodIn_of _ (by decide +kernel)) ggX6_quarter_X6_isBracelet
set_option maxRecDepth 20000 in
theorem ggX6_quarter_X6_in : GoodIn wsX6_quarter wsX6_in := goodIn_r _ [8] (by decide +kernel) (by decide +kernel)
set_option maxRecDepth 20000 in
theorem gX6_quarter_X6_in : GoodIn wsX6_quarter (va_wsS RX6 29 yX6_in wsX6_in) := goodIn_app (goodIn_of _ (by decide +kernel)) ggX6_quarter_X6_in
set_option maxRecDepth 20000 in
theorem ggX6_quarter_X6_quarterOf : GoodIn wsX6_quarter wsX6_quarterOf := goodIn_r _ [17, 13, 9, 10, 11, 4, 12, 18, 19, 20, 21, 22, 23, 24, 25, 26, 27, 28, 29, 30, 31, 32, 33, 34, 35, 36] (by decide +kernel) (by decide +kernel)
set_option maxRecDepth 20000 in
theorem gX6_quarter_X6_quarterOf : GoodIn wsX6_quarter (wsV RX6 89 RX6 yX6_quarterOf wsX6_quarterOf) := goodIn_app (goodIn_of _ (by decide +kernel)) ggX6_quarter_X6_quarterOf
theorem dX6_quarter_0 : decode cX6_quarter 0 = .ok (.aload_n 0, 1) := by decide +kernel
theorem dX6_quarter_1 : decode cX6_quarter 1 = .ok (.iload_n 1, 1) := by decide +kernel
theorem dX6_quarter_2 : decode cX6_quarter 2 = .ok (.invokevirtual 37, 3) := by decide +kernel
theorem dX6_quarter_5 : decode cX6_quarter 5 = .ok (.ifCond .eq 21, 3) := by decide +kernel
theorem dX6_quarter_8 : decode cX6_quarter 8 = .ok (.iload_n 2, 1) := by decide +kernel
theorem dX6_quarter_9 : decode cX6_quarter 9 = .ok (.iconst 0, 1) := by decide +kernel
theorem dX6_quarter_10 : decode cX6_quarter 10 = .ok (.iconst 3, 1) := by decide +kernel
theorem dX6_quarter_11 : decode cX6_quarter 11 = .ok (.invokestatic 29, 3) := by decide +kernel
theorem dX6_quarter_14 : decode cX6_quarter 14 = .ok (.ifCond .eq 12, 3) := by decide +kernel
theorem dX6_quarter_17 : decode cX6_quarter 17 = .ok (.aload_n 0, 1) := by decide +kernel
theorem dX6_quarter_18 : decode cX6_quarter 18 = .ok (.iload_n 1, 1) := by decide +kernel
theorem dX6_quarter_19 : decode cX6_quarter 19 = .ok (.iload_n 2, 1) := by decide +kernel
theorem dX6_quarter_20 : decode cX6_quarter 20 = .ok (.invokevirtual 89, 3) := by decide +kernel
theorem dX6_quarter_23 : decode cX6_quarter 23 = .ok (.goto 4, 3) := by decide +kernel
theorem dX6_quarter_26 : decode cX6_quarter 26 = .ok (.iconst (-1), 1) := by decide +kernel
theorem dX6_quarter_27 : decode cX6_quarter 27 = .ok (.ireturn, 1) := by decide +kernel
set_option maxRecDepth 20000 in
theorem ggX6_unlike_X6_slots : GoodIn wsX6_unlike wsX6_slots := goodIn_r _ [6, 1, 15, 16, 17, 18, 19, 20, 21, 22, 23, 24, 25] (by decide +kernel) (by decide +kernel)
set_option maxRecDepth 20000 in
theorem gX6_unlike_X6_slots : GoodIn wsX6_unlike (wsV RX6 33 RX6 yX6_slots wsX6_slots) := goodIn_app (goodIn_of _ (by decide +kernel)) ggX6_unlike_X6_slots
set_option maxRecDepth 20000 in
theorem ggX6_unlike_X6_behind : GoodIn wsX6_unlike wsX6_behind := goodIn_r _ [10, 1, 2, 3, 4, 5, 6, 11, 12, 13, 14, 15, 16, 17, 18, 19, 20, 21, 22, 23, 24, 25] (by decide +kernel) (by decide +kernel)
set_option maxRecDepth 20000 in
theorem gX6_unlike_X6_behind : GoodIn wsX6_unlike (wsV RX6 102 RX6 yX6_behind wsX6_behind) := goodIn_app (goodIn_of _ (by decide +kernel)) ggX6_unlike_X6_behind
set_option maxRecDepth 20000 in
theorem ggX6_unlike_X6_at : GoodIn wsX6_unlike wsX6_at := goodIn_r _ [14, 2, 3, 4, 5, 6, 1, 15, 16, 17, 18, 19, 20, 21, 22, 23, 24, 25] (by decide +kernel) (by decide +kernel)
set_option maxRecDepth 20000 in
theorem gX6_unlike_X6_at : GoodIn wsX6_unlike (wsV RX6 59 RX6 yX6_at wsX6_at) := goodIn_app (goodIn_of _ (by decide +kernel)) ggX6_unlike_X6_at
theorem dX6_unlike_0 : decode cX6_unlike 0 = .ok (.iconst 0, 1) := by decide +kernel
theorem dX6_unlike_1 : decode cX6_unlike 1 = .ok (.istore 5, 2) := by decide +kernel
theorem dX6_unlike_3 : decode cX6_unlike 3 = .ok (.iconst 0, 1) := by decide +kernel
theorem dX6_unlike_4 : decode cX6_unlike 4 = .ok (.istore 6, 2) := by decide +kernel
theorem dX6_unlike_6 : decode cX6_unlike 6 = .ok (.iload 6, 2) := by decide +kernel
theorem dX6_unlike_8 : decode cX6_unlike 8 = .ok (.aload_n 0, 1) := by decide +kernel
theorem dX6_unlike_9 : decode cX6_unlike 9 = .ok (.iload_n 1, 1) := by decide +kernel
theorem dX6_unlike_10 : decode cX6_unlike 10 = .ok (.invokevirtual 33, 3) := by decide +kernel
theorem dX6_unlike_13 : decode cX6_unlike 13 = .ok (.if_icmp .ge 44, 3) := by decide +kernel
theorem dX6_unlike_16 : decode cX6_unlike 16 = .ok (.iload 5, 2) := by decide +kernel
theorem dX6_unlike_18 : decode cX6_unlike 18 = .ok (.aload_n 0, 1) := by decide +kernel
theorem dX6_unlike_19 : decode cX6_unlike 19 = .ok (.iload_n 1, 1) := by decide +kernel
theorem dX6_unlike_20 : decode cX6_unlike 20 = .ok (.iload_n 2, 1) := by decide +kernel
theorem dX6_unlike_21 : decode cX6_unlike 21 = .ok (.iload_n 3, 1) := by decide +kernel
theorem dX6_unlike_22 : decode cX6_unlike 22 = .ok (.iload 6, 2) := by decide +kernel
theorem dX6_unlike_24 : decode cX6_unlike 24 = .ok (.invokevirtual 102, 3) := by decide +kernel
theorem dX6_unlike_27 : decode cX6_unlike 27 = .ok (.aload_n 0, 1) := by decide +kernel
theorem dX6_unlike_28 : decode cX6_unlike 28 = .ok (.getfield 7, 3) := by decide +kernel
theorem dX6_unlike_31 : decode cX6_unlike 31 = .ok (.aload_n 0, 1) := by decide +kernel
theorem dX6_unlike_32 : decode cX6_unlike 32 = .ok (.iload 4, 2) := by decide +kernel
theorem dX6_unlike_34 : decode cX6_unlike 34 = .ok (.iload 6, 2) := by decide +kernel
theorem dX6_unlike_36 : decode cX6_unlike 36 = .ok (.invokevirtual 59, 3) := by decide +kernel
theorem dX6_unlike_39 : decode cX6_unlike 39 = .ok (.iaload, 1) := by decide +kernel
theorem dX6_unlike_40 : decode cX6_unlike 40 = .ok (.if_icmp .ne 7, 3) := by decide +kernel
theorem dX6_unlike_43 : decode cX6_unlike 43 = .ok (.iconst 0, 1) := by decide +kernel
theorem dX6_unlike_44 : decode cX6_unlike 44 = .ok (.goto 4, 3) := by decide +kernel
theorem dX6_unlike_47 : decode cX6_unlike 47 = .ok (.iconst 1, 1) := by decide +kernel
theorem dX6_unlike_48 : decode cX6_unlike 48 = .ok (.iadd, 1) := by decide +kernel
theorem dX6_unlike_49 : decode cX6_unlike 49 = .ok (.istore 5, 2) := by decide +kernel
theorem dX6_unlike_51 : decode cX6_unlike 51 = .ok (.iinc 6 1, 3) := by decide +kernel
theorem dX6_unlike_54 : decode cX6_unlike 54 = .ok (.goto (-48), 3) := by decide +kernel
theorem dX6_unlike_57 : decode cX6_unlike 57 = .ok (.iload 5, 2) := by decide +kernel
theorem dX6_unlike_59 : decode cX6_unlike 59 = .ok (.ireturn, 1) := by decide +kernel
set_option maxRecDepth 20000 in
theorem ggX6_areAlike_X6_slots : GoodIn wsX6_areAlike wsX6_slots := goodIn_r _ [5, 6, 22, 23, 24, 25, 26, 27, 28, 29, 30, 31, 32] (by decide +kernel) (by decide +kernel)
set_option maxRecDepth 20000 in
theorem gX6_areAlike_X6_slots : GoodIn wsX6_areAlike (wsV RX6 33 RX6 yX6_slots wsX6_slots) := goodIn_app (goodIn_of _ (by decide +kernel)) ggX6_areAlike_X6_slots
set_option maxRecDepth 20000 in
theorem ggX6_areAlike_X6_changes : GoodIn wsX6_areAlike wsX6_changes := goodIn_r _ [9] (by decide +kernel) (by decide +kernel)
set_option maxRecDepth 20000 in
theorem gX6_areAlike_X6_changes : GoodIn wsX6_areAlike (va_wsS RX6 112 yX6_changes wsX6_changes) := goodIn_app (goodIn_of _ (by decide +kernel)) ggX6_areAlike_X6_changes
set_option maxRecDepth 20000 in
theorem ggX6_areAlike_X6_unlike : GoodIn wsX6_areAlike wsX6_unlike := goodIn_r _ [13, 6, 1, 2, 3, 4, 5, 14, 15, 16, 17, 18, 19, 20, 21, 22, 23, 24, 25, 26, 27, 28, 29, 30, 31, 32] (by decide +kernel) (by decide +kernel)
set_option maxRecDepth 20000 in
theorem gX6_areAlike_X6_unlike : GoodIn wsX6_areAlike (wsV RX6 115 RX6 yX6_unlike wsX6_unlike) := goodIn_app (goodIn_of _ (by decide +kernel)) ggX6_areAlike_X6_unlike
theorem dX6_areAlike_0 : decode cX6_areAlike 0 = .ok (.iconst 0, 1) := by decide +kernel
theorem dX6_areAlike_1 : decode cX6_areAlike 1 = .ok (.istore 4, 2) := by decide +kernel
theorem dX6_areAlike_3 : decode cX6_areAlike 3 = .ok (.iconst 0, 1) := by decide +kernel
theorem dX6_areAlike_4 : decode cX6_areAlike 4 = .ok (.istore 5, 2) := by decide +kernel
theorem dX6_areAlike_6 : decode cX6_areAlike 6 = .ok (.iload 5, 2) := by decide +kernel
theorem dX6_areAlike_8 : decode cX6_areAlike 8 = .ok (.aload_n 0, 1) := by decide +kernel
theorem dX6_areAlike_9 : decode cX6_areAlike 9 = .ok (.iload_n 1, 1) := by decide +kernel
theorem dX6_areAlike_10 : decode cX6_areAlike 10 = .ok (.invokevirtual 33, 3) := by decide +kernel
theorem dX6_areAlike_13 : decode cX6_areAlike 13 = .ok (.iload_n 3, 1) := by decide +kernel
theorem dX6_areAlike_14 : decode cX6_areAlike 14 = .ok (.invokestatic 112, 3) := by decide +kernel
theorem dX6_areAlike_17 : decode cX6_areAlike 17 = .ok (.if_icmp .ge 46, 3) := by decide +kernel
theorem dX6_areAlike_20 : decode cX6_areAlike 20 = .ok (.aload_n 0, 1) := by decide +kernel
theorem dX6_areAlike_21 : decode cX6_areAlike 21 = .ok (.iload_n 1, 1) := by decide +kernel
theorem dX6_areAlike_22 : decode cX6_areAlike 22 = .ok (.invokevirtual 33, 3) := by decide +kernel
theorem dX6_areAlike_25 : decode cX6_areAlike 25 = .ok (.aload_n 0, 1) := by decide +kernel
theorem dX6_areAlike_26 : decode cX6_areAlike 26 = .ok (.iload_n 2, 1) := by decide +kernel
theorem dX6_areAlike_27 : decode cX6_areAlike 27 = .ok (.invokevirtual 33, 3) := by decide +kernel
theorem dX6_areAlike_30 : decode cX6_areAlike 30 = .ok (.if_icmp .ne 33, 3) := by decide +kernel
theorem dX6_areAlike_33 : decode cX6_areAlike 33 = .ok (.iload 4, 2) := by decide +kernel
theorem dX6_areAlike_35 : decode cX6_areAlike 35 = .ok (.ifCond .ne 15, 3) := by decide +kernel
theorem dX6_areAlike_38 : decode cX6_areAlike 38 = .ok (.aload_n 0, 1) := by decide +kernel
theorem dX6_areAlike_39 : decode cX6_areAlike 39 = .ok (.iload_n 1, 1) := by decide +kernel
theorem dX6_areAlike_40 : decode cX6_areAlike 40 = .ok (.iload_n 3, 1) := by decide +kernel
theorem dX6_areAlike_41 : decode cX6_areAlike 41 = .ok (.iload 5, 2) := by decide +kernel
theorem dX6_areAlike_43 : decode cX6_areAlike 43 = .ok (.iload_n 2, 1) := by decide +kernel
theorem dX6_areAlike_44 : decode cX6_areAlike 44 = .ok (.invokevirtual 115, 3) := by decide +kernel
theorem dX6_areAlike_47 : decode cX6_areAlike 47 = .ok (.ifCond .ne 7, 3) := by decide +kernel
theorem dX6_areAlike_50 : decode cX6_areAlike 50 = .ok (.iconst 1, 1) := by decide +kernel
theorem dX6_areAlike_51 : decode cX6_areAlike 51 = .ok (.goto 4, 3) := by decide +kernel
theorem dX6_areAlike_54 : decode cX6_areAlike 54 = .ok (.iconst 0, 1) := by decide +kernel
theorem dX6_areAlike_55 : decode cX6_areAlike 55 = .ok (.istore 4, 2) := by decide +kernel
theorem dX6_areAlike_57 : decode cX6_areAlike 57 = .ok (.iinc 5 1, 3) := by decide +kernel
theorem dX6_areAlike_60 : decode cX6_areAlike 60 = .ok (.goto (-54), 3) := by decide +kernel
theorem dX6_areAlike_63 : decode cX6_areAlike 63 = .ok (.iload 4, 2) := by decide +kernel
theorem dX6_areAlike_65 : decode cX6_areAlike 65 = .ok (.ireturn, 1) := by decide +kernel
set_option maxRecDepth 20000 in
theorem ggX6_isLevel_X6_in : GoodIn wsX6_isLevel wsX6_in := goodIn_r _ [4] (by decide +kernel) (by decide +kernel)
set_option maxRecDepth 20000 in
theorem gX6_isLevel_X6_in : GoodIn wsX6_isLevel (va_wsS RX6 29 yX6_in wsX6_in) := goodIn_app (goodIn_of _ (by decide +kernel)) ggX6_isLevel_X6_in
theorem dX6_isLevel_0 : decode cX6_isLevel 0 = .ok (.iload_n 0, 1) := by decide +kernel
theorem dX6_isLevel_1 : decode cX6_isLevel 1 = .ok (.iconst 0, 1) := by decide +kernel
theorem dX6_isLevel_2 : decode cX6_isLevel 2 = .ok (.iconst 2, 1) := by decide +kernel
theorem dX6_isLevel_3 : decode cX6_isLevel 3 = .ok (.invokestatic 29, 3) := by decide +kernel
theorem dX6_isLevel_6 : decode cX6_isLevel 6 = .ok (.ireturn, 1) := by decide +kernel
set_option maxRecDepth 20000 in
theorem ggX6_alike_X6_isBracelet : GoodIn wsX6_alike wsX6_isBracelet := goodIn_r _ [5, 6, 7, 4, 8, 9, 10, 11, 12, 13, 36, 37, 38, 39, 40, 41, 42, 43, 44, 45, 46] (by decide +kernel) (by decide +kernel)
set_option maxRecDepth 20000 in
theorem gX6_alike_X6_isBracelet : GoodIn wsX6_alike (wsV RX6 37 RX6 yX6_isBracelet wsX6_isBracelet) := goodIn_app (goodIn_of _ (by decide +kernel)) ggX6_alike_X6_isBracelet
set_option maxRecDepth 20000 in
theorem ggX6_alike_X6_isLevel : GoodIn wsX6_alike wsX6_isLevel := goodIn_r _ [16, 6, 7, 4, 8] (by decide +kernel) (by decide +kernel)
set_option maxRecDepth 20000 in
theorem gX6_alike_X6_isLevel : GoodIn wsX6_alike (va_wsS RX6 118 yX6_isLevel wsX6_isLevel) := goodIn_app (goodIn_of _ (by decide +kernel)) ggX6_alike_X6_isLevel
set_option maxRecDepth 20000 in
theorem ggX6_alike_X6_areAlike : GoodIn wsX6_alike wsX6_areAlike := goodIn_r _ [20, 9, 10, 11, 4, 12, 13, 21, 22, 23, 24, 25, 26, 27, 28, 29, 30, 31, 32, 33, 34, 35, 36, 37, 38, 39, 40, 41, 42, 43, 44, 45, 46] (by decide +kernel) (by decide +kernel)
set_option maxRecDepth 20000 in
theorem gX6_alike_X6_areAlike : GoodIn wsX6_alike (wsV RX6 121 RX6 yX6_areAlike wsX6_areAlike) := goodIn_app (goodIn_of _ (by decide +kernel)) ggX6_alike_X6_areAlike
theorem dX6_alike_0 : decode cX6_alike 0 = .ok (.aload_n 0, 1) := by decide +kernel
theorem dX6_alike_1 : decode cX6_alike 1 = .ok (.iload_n 1, 1) := by decide +kernel
theorem dX6_alike_2 : decode cX6_alike 2 = .ok (.invokevirtual 37, 3) := by decide +kernel
theorem dX6_alike_5 : decode cX6_alike 5 = .ok (.ifCond .eq 11, 3) := by decide +kernel
theorem dX6_alike_8 : decode cX6_alike 8 = .ok (.aload_n 0, 1) := by decide +kernel
theorem dX6_alike_9 : decode cX6_alike 9 = .ok (.iload_n 2, 1) := by decide +kernel
theorem dX6_alike_10 : decode cX6_alike 10 = .ok (.invokevirtual 37, 3) := by decide +kernel
theorem dX6_alike_13 : decode cX6_alike 13 = .ok (.ifCond .ne 5, 3) := by decide +kernel
theorem dX6_alike_16 : decode cX6_alike 16 = .ok (.iconst (-1), 1) := by decide +kernel
theorem dX6_alike_17 : decode cX6_alike 17 = .ok (.ireturn, 1) := by decide +kernel
theorem dX6_alike_18 : decode cX6_alike 18 = .ok (.iload_n 3, 1) := by decide +kernel
theorem dX6_alike_19 : decode cX6_alike 19 = .ok (.invokestatic 118, 3) := by decide +kernel
theorem dX6_alike_22 : decode cX6_alike 22 = .ok (.ifCond .ne 8, 3) := by decide +kernel
theorem dX6_alike_25 : decode cX6_alike 25 = .ok (.bipush (-2), 2) := by decide +kernel
theorem dX6_alike_27 : decode cX6_alike 27 = .ok (.goto 18, 3) := by decide +kernel
theorem dX6_alike_30 : decode cX6_alike 30 = .ok (.aload_n 0, 1) := by decide +kernel
theorem dX6_alike_31 : decode cX6_alike 31 = .ok (.iload_n 1, 1) := by decide +kernel
theorem dX6_alike_32 : decode cX6_alike 32 = .ok (.iload_n 2, 1) := by decide +kernel
theorem dX6_alike_33 : decode cX6_alike 33 = .ok (.iload_n 3, 1) := by decide +kernel
theorem dX6_alike_34 : decode cX6_alike 34 = .ok (.invokevirtual 121, 3) := by decide +kernel
theorem dX6_alike_37 : decode cX6_alike 37 = .ok (.ifCond .eq 7, 3) := by decide +kernel
theorem dX6_alike_40 : decode cX6_alike 40 = .ok (.iconst 1, 1) := by decide +kernel
theorem dX6_alike_41 : decode cX6_alike 41 = .ok (.goto 4, 3) := by decide +kernel
theorem dX6_alike_44 : decode cX6_alike 44 = .ok (.iconst 0, 1) := by decide +kernel
theorem dX6_alike_45 : decode cX6_alike 45 = .ok (.ireturn, 1) := by decide +kernel
set_option maxRecDepth 20000 in
theorem ggX6_compare_X6_slots : GoodIn wsX6_compare wsX6_slots := goodIn_r _ [5, 6, 15, 16, 17, 18, 19, 20, 21, 22, 23, 24, 25] (by decide +kernel) (by decide +kernel)
set_option maxRecDepth 20000 in
theorem gX6_compare_X6_slots : GoodIn wsX6_compare (wsV RX6 33 RX6 yX6_slots wsX6_slots) := goodIn_app (goodIn_of _ (by decide +kernel)) ggX6_compare_X6_slots
set_option maxRecDepth 20000 in
theorem ggX6_compare_X6_behind : GoodIn wsX6_compare wsX6_behind := goodIn_r _ [10, 6, 1, 2, 3, 4, 5, 11, 12, 13, 14, 15, 16, 17, 18, 19, 20, 21, 22, 23, 24, 25] (by decide +kernel) (by decide +kernel)
set_option maxRecDepth 20000 in
theorem gX6_compare_X6_behind : GoodIn wsX6_compare (wsV RX6 102 RX6 yX6_behind wsX6_behind) := goodIn_app (goodIn_of _ (by decide +kernel)) ggX6_compare_X6_behind
theorem dX6_compare_0 : decode cX6_compare 0 = .ok (.iconst 0, 1) := by decide +kernel
theorem dX6_compare_1 : decode cX6_compare 1 = .ok (.istore 5, 2) := by decide +kernel
theorem dX6_compare_3 : decode cX6_compare 3 = .ok (.iload 5, 2) := by decide +kernel
theorem dX6_compare_5 : decode cX6_compare 5 = .ok (.aload_n 0, 1) := by decide +kernel
theorem dX6_compare_6 : decode cX6_compare 6 = .ok (.iload_n 1, 1) := by decide +kernel
theorem dX6_compare_7 : decode cX6_compare 7 = .ok (.invokevirtual 33, 3) := by decide +kernel
theorem dX6_compare_10 : decode cX6_compare 10 = .ok (.if_icmp .ge 31, 3) := by decide +kernel
theorem dX6_compare_13 : decode cX6_compare 13 = .ok (.aload_n 0, 1) := by decide +kernel
theorem dX6_compare_14 : decode cX6_compare 14 = .ok (.iload_n 1, 1) := by decide +kernel
theorem dX6_compare_15 : decode cX6_compare 15 = .ok (.iload_n 2, 1) := by decide +kernel
theorem dX6_compare_16 : decode cX6_compare 16 = .ok (.iload_n 3, 1) := by decide +kernel
theorem dX6_compare_17 : decode cX6_compare 17 = .ok (.iload 5, 2) := by decide +kernel
theorem dX6_compare_19 : decode cX6_compare 19 = .ok (.invokevirtual 102, 3) := by decide +kernel
theorem dX6_compare_22 : decode cX6_compare 22 = .ok (.aload_n 0, 1) := by decide +kernel
theorem dX6_compare_23 : decode cX6_compare 23 = .ok (.iload_n 1, 1) := by decide +kernel
theorem dX6_compare_24 : decode cX6_compare 24 = .ok (.iload_n 2, 1) := by decide +kernel
theorem dX6_compare_25 : decode cX6_compare 25 = .ok (.iload 4, 2) := by decide +kernel
theorem dX6_compare_27 : decode cX6_compare 27 = .ok (.iload 5, 2) := by decide +kernel
theorem dX6_compare_29 : decode cX6_compare 29 = .ok (.invokevirtual 102, 3) := by decide +kernel
theorem dX6_compare_32 : decode cX6_compare 32 = .ok (.if_icmp .ne 9, 3) := by decide +kernel
theorem dX6_compare_35 : decode cX6_compare 35 = .ok (.iinc 5 1, 3) := by decide +kernel
theorem dX6_compare_38 : decode cX6_compare 38 = .ok (.goto (-35), 3) := by decide +kernel
theorem dX6_compare_41 : decode cX6_compare 41 = .ok (.iload 5, 2) := by decide +kernel
theorem dX6_compare_43 : decode cX6_compare 43 = .ok (.aload_n 0, 1) := by decide +kernel
theorem dX6_compare_44 : decode cX6_compare 44 = .ok (.iload_n 1, 1) := by decide +kernel
theorem dX6_compare_45 : decode cX6_compare 45 = .ok (.invokevirtual 33, 3) := by decide +kernel
theorem dX6_compare_48 : decode cX6_compare 48 = .ok (.if_icmp .ne 7, 3) := by decide +kernel
theorem dX6_compare_51 : decode cX6_compare 51 = .ok (.iconst 0, 1) := by decide +kernel
theorem dX6_compare_52 : decode cX6_compare 52 = .ok (.goto 23, 3) := by decide +kernel
theorem dX6_compare_55 : decode cX6_compare 55 = .ok (.aload_n 0, 1) := by decide +kernel
theorem dX6_compare_56 : decode cX6_compare 56 = .ok (.iload_n 1, 1) := by decide +kernel
theorem dX6_compare_57 : decode cX6_compare 57 = .ok (.iload_n 2, 1) := by decide +kernel
theorem dX6_compare_58 : decode cX6_compare 58 = .ok (.iload_n 3, 1) := by decide +kernel
theorem dX6_compare_59 : decode cX6_compare 59 = .ok (.iload 5, 2) := by decide +kernel
theorem dX6_compare_61 : decode cX6_compare 61 = .ok (.invokevirtual 102, 3) := by decide +kernel
theorem dX6_compare_64 : decode cX6_compare 64 = .ok (.aload_n 0, 1) := by decide +kernel
theorem dX6_compare_65 : decode cX6_compare 65 = .ok (.iload_n 1, 1) := by decide +kernel
theorem dX6_compare_66 : decode cX6_compare 66 = .ok (.iload_n 2, 1) := by decide +kernel
theorem dX6_compare_67 : decode cX6_compare 67 = .ok (.iload 4, 2) := by decide +kernel
theorem dX6_compare_69 : decode cX6_compare 69 = .ok (.iload 5, 2) := by decide +kernel
theorem dX6_compare_71 : decode cX6_compare 71 = .ok (.invokevirtual 102, 3) := by decide +kernel
theorem dX6_compare_74 : decode cX6_compare 74 = .ok (.isub, 1) := by decide +kernel
theorem dX6_compare_75 : decode cX6_compare 75 = .ok (.ireturn, 1) := by decide +kernel
set_option maxRecDepth 20000 in
theorem ggX6_leastChange_X6_slots : GoodIn wsX6_leastChange wsX6_slots := goodIn_r _ [5, 6, 22, 23, 24, 25, 26, 27, 28, 29, 30, 31, 32] (by decide +kernel) (by decide +kernel)
set_option maxRecDepth 20000 in
theorem gX6_leastChange_X6_slots : GoodIn wsX6_leastChange (wsV RX6 33 RX6 yX6_slots wsX6_slots) := goodIn_app (goodIn_of _ (by decide +kernel)) ggX6_leastChange_X6_slots
set_option maxRecDepth 20000 in
theorem ggX6_leastChange_X6_changes : GoodIn wsX6_leastChange wsX6_changes := goodIn_r _ [9] (by decide +kernel) (by decide +kernel)
set_option maxRecDepth 20000 in
theorem gX6_leastChange_X6_changes : GoodIn wsX6_leastChange (va_wsS RX6 112 yX6_changes wsX6_changes) := goodIn_app (goodIn_of _ (by decide +kernel)) ggX6_leastChange_X6_changes
set_option maxRecDepth 20000 in
theorem ggX6_leastChange_X6_compare : GoodIn wsX6_leastChange wsX6_compare := goodIn_r _ [13, 1, 2, 3, 4, 5, 6, 14, 15, 16, 17, 18, 19, 20, 21, 22, 23, 24, 25, 26, 27, 28, 29, 30, 31, 32] (by decide +kernel) (by decide +kernel)
set_option maxRecDepth 20000 in
theorem gX6_leastChange_X6_compare : GoodIn wsX6_leastChange (wsV RX6 124 RX6 yX6_compare wsX6_compare) := goodIn_app (goodIn_of _ (by decide +kernel)) ggX6_leastChange_X6_compare
theorem dX6_leastChange_0 : decode cX6_leastChange 0 = .ok (.iconst 0, 1) := by decide +kernel
theorem dX6_leastChange_1 : decode cX6_leastChange 1 = .ok (.istore_n 3, 1) := by decide +kernel
theorem dX6_leastChange_2 : decode cX6_leastChange 2 = .ok (.iconst 1, 1) := by decide +kernel
theorem dX6_leastChange_3 : decode cX6_leastChange 3 = .ok (.istore 4, 2) := by decide +kernel
theorem dX6_leastChange_5 : decode cX6_leastChange 5 = .ok (.iload 4, 2) := by decide +kernel
theorem dX6_leastChange_7 : decode cX6_leastChange 7 = .ok (.aload_n 0, 1) := by decide +kernel
theorem dX6_leastChange_8 : decode cX6_leastChange 8 = .ok (.iload_n 1, 1) := by decide +kernel
theorem dX6_leastChange_9 : decode cX6_leastChange 9 = .ok (.invokevirtual 33, 3) := by decide +kernel
theorem dX6_leastChange_12 : decode cX6_leastChange 12 = .ok (.iload_n 2, 1) := by decide +kernel
theorem dX6_leastChange_13 : decode cX6_leastChange 13 = .ok (.invokestatic 112, 3) := by decide +kernel
theorem dX6_leastChange_16 : decode cX6_leastChange 16 = .ok (.if_icmp .ge 28, 3) := by decide +kernel
theorem dX6_leastChange_19 : decode cX6_leastChange 19 = .ok (.aload_n 0, 1) := by decide +kernel
theorem dX6_leastChange_20 : decode cX6_leastChange 20 = .ok (.iload_n 1, 1) := by decide +kernel
theorem dX6_leastChange_21 : decode cX6_leastChange 21 = .ok (.iload_n 2, 1) := by decide +kernel
theorem dX6_leastChange_22 : decode cX6_leastChange 22 = .ok (.iload 4, 2) := by decide +kernel
theorem dX6_leastChange_24 : decode cX6_leastChange 24 = .ok (.iload_n 3, 1) := by decide +kernel
theorem dX6_leastChange_25 : decode cX6_leastChange 25 = .ok (.invokevirtual 124, 3) := by decide +kernel
theorem dX6_leastChange_28 : decode cX6_leastChange 28 = .ok (.ifCond .ge 8, 3) := by decide +kernel
theorem dX6_leastChange_31 : decode cX6_leastChange 31 = .ok (.iload 4, 2) := by decide +kernel
theorem dX6_leastChange_33 : decode cX6_leastChange 33 = .ok (.goto 4, 3) := by decide +kernel
theorem dX6_leastChange_36 : decode cX6_leastChange 36 = .ok (.iload_n 3, 1) := by decide +kernel
theorem dX6_leastChange_37 : decode cX6_leastChange 37 = .ok (.istore_n 3, 1) := by decide +kernel
theorem dX6_leastChange_38 : decode cX6_leastChange 38 = .ok (.iinc 4 1, 3) := by decide +kernel
theorem dX6_leastChange_41 : decode cX6_leastChange 41 = .ok (.goto (-36), 3) := by decide +kernel
theorem dX6_leastChange_44 : decode cX6_leastChange 44 = .ok (.iload_n 3, 1) := by decide +kernel
theorem dX6_leastChange_45 : decode cX6_leastChange 45 = .ok (.ireturn, 1) := by decide +kernel
set_option maxRecDepth 20000 in
theorem ggX6_least_X6_isSlot : GoodIn wsX6_least wsX6_isSlot := goodIn_r _ [5, 6, 7, 8, 4, 9, 10, 11, 12, 13, 14, 15, 16, 17, 40, 41, 42, 43, 44, 45, 46, 47, 48, 49, 50] (by decide +kernel) (by decide +kernel)
set_option maxRecDepth 20000 in
theorem gX6_least_X6_isSlot : GoodIn wsX6_least (wsV RX6 82 RX6 yX6_isSlot wsX6_isSlot) := goodIn_app (goodIn_of _ (by decide +kernel)) ggX6_least_X6_isSlot
set_option maxRecDepth 20000 in
theorem ggX6_least_X6_isLevel : GoodIn wsX6_least wsX6_isLevel := goodIn_r _ [20, 10, 11, 4, 12] (by decide +kernel) (by decide +kernel)
set_option maxRecDepth 20000 in
theorem gX6_least_X6_isLevel : GoodIn wsX6_least (va_wsS RX6 118 yX6_isLevel wsX6_isLevel) := goodIn_app (goodIn_of _ (by decide +kernel)) ggX6_least_X6_isLevel
set_option maxRecDepth 20000 in
theorem ggX6_least_X6_leastChange : GoodIn wsX6_least wsX6_leastChange := goodIn_r _ [24, 13, 14, 15, 4, 16, 17, 25, 26, 27, 28, 29, 30, 31, 32, 33, 34, 35, 36, 37, 38, 39, 40, 41, 42, 43, 44, 45, 46, 47, 48, 49, 50] (by decide +kernel) (by decide +kernel)
set_option maxRecDepth 20000 in
theorem gX6_least_X6_leastChange : GoodIn wsX6_least (wsV RX6 127 RX6 yX6_leastChange wsX6_leastChange) := goodIn_app (goodIn_of _ (by decide +kernel)) ggX6_least_X6_leastChange
set_option maxRecDepth 20000 in
theorem ggX6_least_X6_behind : GoodIn wsX6_least wsX6_behind := goodIn_r _ [35, 17, 13, 14, 15, 4, 16, 36, 37, 38, 39, 40, 41, 42, 43, 44, 45, 46, 47, 48, 49, 50] (by decide +kernel) (by decide +kernel)
set_option maxRecDepth 20000 in
theorem gX6_least_X6_behind : GoodIn wsX6_least (wsV RX6 102 RX6 yX6_behind wsX6_behind) := goodIn_app (goodIn_of _ (by decide +kernel)) ggX6_least_X6_behind
theorem dX6_least_0 : decode cX6_least 0 = .ok (.aload_n 0, 1) := by decide +kernel
theorem dX6_least_1 : decode cX6_least 1 = .ok (.iload_n 1, 1) := by decide +kernel
theorem dX6_least_2 : decode cX6_least 2 = .ok (.iload_n 3, 1) := by decide +kernel
theorem dX6_least_3 : decode cX6_least 3 = .ok (.invokevirtual 82, 3) := by decide +kernel
theorem dX6_least_6 : decode cX6_least 6 = .ok (.ifCond .ne 5, 3) := by decide +kernel
theorem dX6_least_9 : decode cX6_least 9 = .ok (.iconst (-1), 1) := by decide +kernel
theorem dX6_least_10 : decode cX6_least 10 = .ok (.ireturn, 1) := by decide +kernel
theorem dX6_least_11 : decode cX6_least 11 = .ok (.iload_n 2, 1) := by decide +kernel
theorem dX6_least_12 : decode cX6_least 12 = .ok (.invokestatic 118, 3) := by decide +kernel
theorem dX6_least_15 : decode cX6_least 15 = .ok (.ifCond .eq 19, 3) := by decide +kernel
theorem dX6_least_18 : decode cX6_least 18 = .ok (.aload_n 0, 1) := by decide +kernel
theorem dX6_least_19 : decode cX6_least 19 = .ok (.iload_n 1, 1) := by decide +kernel
theorem dX6_least_20 : decode cX6_least 20 = .ok (.iload_n 2, 1) := by decide +kernel
theorem dX6_least_21 : decode cX6_least 21 = .ok (.aload_n 0, 1) := by decide +kernel
theorem dX6_least_22 : decode cX6_least 22 = .ok (.iload_n 1, 1) := by decide +kernel
theorem dX6_least_23 : decode cX6_least 23 = .ok (.iload_n 2, 1) := by decide +kernel
theorem dX6_least_24 : decode cX6_least 24 = .ok (.invokevirtual 127, 3) := by decide +kernel
theorem dX6_least_27 : decode cX6_least 27 = .ok (.iload_n 3, 1) := by decide +kernel
theorem dX6_least_28 : decode cX6_least 28 = .ok (.invokevirtual 102, 3) := by decide +kernel
theorem dX6_least_31 : decode cX6_least 31 = .ok (.goto 5, 3) := by decide +kernel
theorem dX6_least_34 : decode cX6_least 34 = .ok (.bipush (-2), 2) := by decide +kernel
theorem dX6_least_36 : decode cX6_least 36 = .ok (.ireturn, 1) := by decide +kernel
set_option maxRecDepth 20000 in
theorem ggX6_orbit_X6_isBracelet : GoodIn wsX6_orbit wsX6_isBracelet := goodIn_r _ [5, 6, 7, 4, 8, 9, 10, 11, 12, 13, 32, 33, 34, 35, 36, 37, 38, 39, 40, 41, 42] (by decide +kernel) (by decide +kernel)
set_option maxRecDepth 20000 in
theorem gX6_orbit_X6_isBracelet : GoodIn wsX6_orbit (wsV RX6 37 RX6 yX6_isBracelet wsX6_isBracelet) := goodIn_app (goodIn_of _ (by decide +kernel)) ggX6_orbit_X6_isBracelet
set_option maxRecDepth 20000 in
theorem ggX6_orbit_X6_isLevel : GoodIn wsX6_orbit wsX6_isLevel := goodIn_r _ [16, 6, 7, 4, 8] (by decide +kernel) (by decide +kernel)
set_option maxRecDepth 20000 in
theorem gX6_orbit_X6_isLevel : GoodIn wsX6_orbit (va_wsS RX6 118 yX6_isLevel wsX6_isLevel) := goodIn_app (goodIn_of _ (by decide +kernel)) ggX6_orbit_X6_isLevel
set_option maxRecDepth 20000 in
theorem ggX6_orbit_X6_slots : GoodIn wsX6_orbit wsX6_slots := goodIn_r _ [12, 13, 32, 33, 34, 35, 36, 37, 38, 39, 40, 41, 42] (by decide +kernel) (by decide +kernel)
set_option maxRecDepth 20000 in
theorem gX6_orbit_X6_slots : GoodIn wsX6_orbit (wsV RX6 33 RX6 yX6_slots wsX6_slots) := goodIn_app (goodIn_of _ (by decide +kernel)) ggX6_orbit_X6_slots
set_option maxRecDepth 20000 in
theorem ggX6_orbit_X6_changes : GoodIn wsX6_orbit wsX6_changes := goodIn_r _ [19] (by decide +kernel) (by decide +kernel)
set_option maxRecDepth 20000 in
theorem gX6_orbit_X6_changes : GoodIn wsX6_orbit (va_wsS RX6 112 yX6_changes wsX6_changes) := goodIn_app (goodIn_of _ (by decide +kernel)) ggX6_orbit_X6_changes
set_option maxRecDepth 20000 in
theorem ggX6_orbit_X6_compare : GoodIn wsX6_orbit wsX6_compare := goodIn_r _ [23, 9, 10, 11, 4, 12, 13, 24, 25, 26, 27, 28, 29, 30, 31, 32, 33, 34, 35, 36, 37, 38, 39, 40, 41, 42] (by decide +kernel) (by decide +kernel)
set_option maxRecDepth 20000 in
theorem gX6_orbit_X6_compare : GoodIn wsX6_orbit (wsV RX6 124 RX6 yX6_compare wsX6_compare) := goodIn_app (goodIn_of _ (by decide +kernel)) ggX6_orbit_X6_compare
theorem dX6_orbit_0 : decode cX6_orbit 0 = .ok (.aload_n 0, 1) := by decide +kernel
theorem dX6_orbit_1 : decode cX6_orbit 1 = .ok (.iload_n 1, 1) := by decide +kernel
theorem dX6_orbit_2 : decode cX6_orbit 2 = .ok (.invokevirtual 37, 3) := by decide +kernel
theorem dX6_orbit_5 : decode cX6_orbit 5 = .ok (.ifCond .ne 5, 3) := by decide +kernel
theorem dX6_orbit_8 : decode cX6_orbit 8 = .ok (.iconst (-1), 1) := by decide +kernel
theorem dX6_orbit_9 : decode cX6_orbit 9 = .ok (.ireturn, 1) := by decide +kernel
theorem dX6_orbit_10 : decode cX6_orbit 10 = .ok (.iload_n 2, 1) := by decide +kernel
theorem dX6_orbit_11 : decode cX6_orbit 11 = .ok (.invokestatic 118, 3) := by decide +kernel
theorem dX6_orbit_14 : decode cX6_orbit 14 = .ok (.ifCond .ne 6, 3) := by decide +kernel
theorem dX6_orbit_17 : decode cX6_orbit 17 = .ok (.bipush (-2), 2) := by decide +kernel
theorem dX6_orbit_19 : decode cX6_orbit 19 = .ok (.ireturn, 1) := by decide +kernel
theorem dX6_orbit_20 : decode cX6_orbit 20 = .ok (.iconst 0, 1) := by decide +kernel
theorem dX6_orbit_21 : decode cX6_orbit 21 = .ok (.istore_n 3, 1) := by decide +kernel
theorem dX6_orbit_22 : decode cX6_orbit 22 = .ok (.iconst 0, 1) := by decide +kernel
theorem dX6_orbit_23 : decode cX6_orbit 23 = .ok (.istore 4, 2) := by decide +kernel
theorem dX6_orbit_25 : decode cX6_orbit 25 = .ok (.iload 4, 2) := by decide +kernel
theorem dX6_orbit_27 : decode cX6_orbit 27 = .ok (.aload_n 0, 1) := by decide +kernel
theorem dX6_orbit_28 : decode cX6_orbit 28 = .ok (.iload_n 1, 1) := by decide +kernel
theorem dX6_orbit_29 : decode cX6_orbit 29 = .ok (.invokevirtual 33, 3) := by decide +kernel
theorem dX6_orbit_32 : decode cX6_orbit 32 = .ok (.iload_n 2, 1) := by decide +kernel
theorem dX6_orbit_33 : decode cX6_orbit 33 = .ok (.invokestatic 112, 3) := by decide +kernel
theorem dX6_orbit_36 : decode cX6_orbit 36 = .ok (.if_icmp .ge 66, 3) := by decide +kernel
theorem dX6_orbit_39 : decode cX6_orbit 39 = .ok (.iconst 1, 1) := by decide +kernel
theorem dX6_orbit_40 : decode cX6_orbit 40 = .ok (.istore 5, 2) := by decide +kernel
theorem dX6_orbit_42 : decode cX6_orbit 42 = .ok (.iconst 0, 1) := by decide +kernel
theorem dX6_orbit_43 : decode cX6_orbit 43 = .ok (.istore 6, 2) := by decide +kernel
theorem dX6_orbit_45 : decode cX6_orbit 45 = .ok (.iload 6, 2) := by decide +kernel
theorem dX6_orbit_47 : decode cX6_orbit 47 = .ok (.iload 4, 2) := by decide +kernel
theorem dX6_orbit_49 : decode cX6_orbit 49 = .ok (.if_icmp .ge 34, 3) := by decide +kernel
theorem dX6_orbit_52 : decode cX6_orbit 52 = .ok (.iload 5, 2) := by decide +kernel
theorem dX6_orbit_54 : decode cX6_orbit 54 = .ok (.ifCond .eq 20, 3) := by decide +kernel
theorem dX6_orbit_57 : decode cX6_orbit 57 = .ok (.aload_n 0, 1) := by decide +kernel
theorem dX6_orbit_58 : decode cX6_orbit 58 = .ok (.iload_n 1, 1) := by decide +kernel
theorem dX6_orbit_59 : decode cX6_orbit 59 = .ok (.iload_n 2, 1) := by decide +kernel
theorem dX6_orbit_60 : decode cX6_orbit 60 = .ok (.iload 4, 2) := by decide +kernel
theorem dX6_orbit_62 : decode cX6_orbit 62 = .ok (.iload 6, 2) := by decide +kernel
theorem dX6_orbit_64 : decode cX6_orbit 64 = .ok (.invokevirtual 124, 3) := by decide +kernel
theorem dX6_orbit_67 : decode cX6_orbit 67 = .ok (.ifCond .eq 7, 3) := by decide +kernel
theorem dX6_orbit_70 : decode cX6_orbit 70 = .ok (.iconst 1, 1) := by decide +kernel
theorem dX6_orbit_71 : decode cX6_orbit 71 = .ok (.goto 4, 3) := by decide +kernel
theorem dX6_orbit_74 : decode cX6_orbit 74 = .ok (.iconst 0, 1) := by decide +kernel
theorem dX6_orbit_75 : decode cX6_orbit 75 = .ok (.istore 5, 2) := by decide +kernel
theorem dX6_orbit_77 : decode cX6_orbit 77 = .ok (.iinc 6 1, 3) := by decide +kernel
theorem dX6_orbit_80 : decode cX6_orbit 80 = .ok (.goto (-35), 3) := by decide +kernel
theorem dX6_orbit_83 : decode cX6_orbit 83 = .ok (.iload_n 3, 1) := by decide +kernel
theorem dX6_orbit_84 : decode cX6_orbit 84 = .ok (.iload 5, 2) := by decide +kernel
theorem dX6_orbit_86 : decode cX6_orbit 86 = .ok (.ifCond .eq 7, 3) := by decide +kernel
theorem dX6_orbit_89 : decode cX6_orbit 89 = .ok (.iconst 1, 1) := by decide +kernel
theorem dX6_orbit_90 : decode cX6_orbit 90 = .ok (.goto 4, 3) := by decide +kernel
theorem dX6_orbit_93 : decode cX6_orbit 93 = .ok (.iconst 0, 1) := by decide +kernel
theorem dX6_orbit_94 : decode cX6_orbit 94 = .ok (.iadd, 1) := by decide +kernel
theorem dX6_orbit_95 : decode cX6_orbit 95 = .ok (.istore_n 3, 1) := by decide +kernel
theorem dX6_orbit_96 : decode cX6_orbit 96 = .ok (.iinc 4 1, 3) := by decide +kernel
theorem dX6_orbit_99 : decode cX6_orbit 99 = .ok (.goto (-74), 3) := by decide +kernel
theorem dX6_orbit_102 : decode cX6_orbit 102 = .ok (.iload_n 3, 1) := by decide +kernel
theorem dX6_orbit_103 : decode cX6_orbit 103 = .ok (.ireturn, 1) := by decide +kernel
set_option maxRecDepth 20000 in
theorem ggX6_fixed_X6_isBracelet : GoodIn wsX6_fixed wsX6_isBracelet := goodIn_r _ [5, 6, 7, 4, 8, 9, 10, 11, 12, 13, 26, 27, 28, 29, 30, 31, 32, 33, 34, 35, 36] (by decide +kernel) (by decide +kernel)
set_option maxRecDepth 20000 in
theorem gX6_fixed_X6_isBracelet : GoodIn wsX6_fixed (wsV RX6 37 RX6 yX6_isBracelet wsX6_isBracelet) := goodIn_app (goodIn_of _ (by decide +kernel)) ggX6_fixed_X6_isBracelet
set_option maxRecDepth 20000 in
theorem ggX6_fixed_X6_unlike : GoodIn wsX6_fixed wsX6_unlike := goodIn_r _ [17, 13, 9, 10, 11, 4, 12, 18, 19, 20, 21, 22, 23, 24, 25, 26, 27, 28, 29, 30, 31, 32, 33, 34, 35, 36] (by decide +kernel) (by decide +kernel)
set_option maxRecDepth 20000 in
theorem gX6_fixed_X6_unlike : GoodIn wsX6_fixed (wsV RX6 115 RX6 yX6_unlike wsX6_unlike) := goodIn_app (goodIn_of _ (by decide +kernel)) ggX6_fixed_X6_unlike
theorem dX6_fixed_0 : decode cX6_fixed 0 = .ok (.aload_n 0, 1) := by decide +kernel
theorem dX6_fixed_1 : decode cX6_fixed 1 = .ok (.iload_n 1, 1) := by decide +kernel
theorem dX6_fixed_2 : decode cX6_fixed 2 = .ok (.invokevirtual 37, 3) := by decide +kernel
theorem dX6_fixed_5 : decode cX6_fixed 5 = .ok (.ifCond .ne 5, 3) := by decide +kernel
theorem dX6_fixed_8 : decode cX6_fixed 8 = .ok (.iconst (-1), 1) := by decide +kernel
theorem dX6_fixed_9 : decode cX6_fixed 9 = .ok (.ireturn, 1) := by decide +kernel
theorem dX6_fixed_10 : decode cX6_fixed 10 = .ok (.iconst 0, 1) := by decide +kernel
theorem dX6_fixed_11 : decode cX6_fixed 11 = .ok (.istore_n 2, 1) := by decide +kernel
theorem dX6_fixed_12 : decode cX6_fixed 12 = .ok (.iconst 0, 1) := by decide +kernel
theorem dX6_fixed_13 : decode cX6_fixed 13 = .ok (.istore_n 3, 1) := by decide +kernel
theorem dX6_fixed_14 : decode cX6_fixed 14 = .ok (.iload_n 3, 1) := by decide +kernel
theorem dX6_fixed_15 : decode cX6_fixed 15 = .ok (.iconst 4, 1) := by decide +kernel
theorem dX6_fixed_16 : decode cX6_fixed 16 = .ok (.if_icmp .ge 30, 3) := by decide +kernel
theorem dX6_fixed_19 : decode cX6_fixed 19 = .ok (.iload_n 2, 1) := by decide +kernel
theorem dX6_fixed_20 : decode cX6_fixed 20 = .ok (.aload_n 0, 1) := by decide +kernel
theorem dX6_fixed_21 : decode cX6_fixed 21 = .ok (.iload_n 1, 1) := by decide +kernel
theorem dX6_fixed_22 : decode cX6_fixed 22 = .ok (.iconst 0, 1) := by decide +kernel
theorem dX6_fixed_23 : decode cX6_fixed 23 = .ok (.iload_n 3, 1) := by decide +kernel
theorem dX6_fixed_24 : decode cX6_fixed 24 = .ok (.iload_n 1, 1) := by decide +kernel
theorem dX6_fixed_25 : decode cX6_fixed 25 = .ok (.invokevirtual 115, 3) := by decide +kernel
theorem dX6_fixed_28 : decode cX6_fixed 28 = .ok (.ifCond .ne 9, 3) := by decide +kernel
theorem dX6_fixed_31 : decode cX6_fixed 31 = .ok (.iconst 1, 1) := by decide +kernel
theorem dX6_fixed_32 : decode cX6_fixed 32 = .ok (.iload_n 3, 1) := by decide +kernel
theorem dX6_fixed_33 : decode cX6_fixed 33 = .ok (.ishl, 1) := by decide +kernel
theorem dX6_fixed_34 : decode cX6_fixed 34 = .ok (.goto 4, 3) := by decide +kernel
theorem dX6_fixed_37 : decode cX6_fixed 37 = .ok (.iconst 0, 1) := by decide +kernel
theorem dX6_fixed_38 : decode cX6_fixed 38 = .ok (.ior, 1) := by decide +kernel
theorem dX6_fixed_39 : decode cX6_fixed 39 = .ok (.istore_n 2, 1) := by decide +kernel
theorem dX6_fixed_40 : decode cX6_fixed 40 = .ok (.iinc 3 1, 3) := by decide +kernel
theorem dX6_fixed_43 : decode cX6_fixed 43 = .ok (.goto (-29), 3) := by decide +kernel
theorem dX6_fixed_46 : decode cX6_fixed 46 = .ok (.iload_n 2, 1) := by decide +kernel
theorem dX6_fixed_47 : decode cX6_fixed 47 = .ok (.ireturn, 1) := by decide +kernel
set_option maxRecDepth 20000 in
theorem ggX6_distance_X6_isBracelet : GoodIn wsX6_distance wsX6_isBracelet := goodIn_r _ [5, 6, 7, 4, 8, 9, 10, 11, 12, 13, 29, 30, 31, 32, 33, 34, 35, 36, 37, 38, 39] (by decide +kernel) (by decide +kernel)
set_option maxRecDepth 20000 in
theorem gX6_distance_X6_isBracelet : GoodIn wsX6_distance (wsV RX6 37 RX6 yX6_isBracelet wsX6_isBracelet) := goodIn_app (goodIn_of _ (by decide +kernel)) ggX6_distance_X6_isBracelet
set_option maxRecDepth 20000 in
theorem ggX6_distance_X6_slots : GoodIn wsX6_distance wsX6_slots := goodIn_r _ [12, 13, 29, 30, 31, 32, 33, 34, 35, 36, 37, 38, 39] (by decide +kernel) (by decide +kernel)
set_option maxRecDepth 20000 in
theorem gX6_distance_X6_slots : GoodIn wsX6_distance (wsV RX6 33 RX6 yX6_slots wsX6_slots) := goodIn_app (goodIn_of _ (by decide +kernel)) ggX6_distance_X6_slots
set_option maxRecDepth 20000 in
theorem ggX6_distance_X6_changes : GoodIn wsX6_distance wsX6_changes := goodIn_r _ [16] (by decide +kernel) (by decide +kernel)
set_option maxRecDepth 20000 in
theorem gX6_distance_X6_changes : GoodIn wsX6_distance (va_wsS RX6 112 yX6_changes wsX6_changes) := goodIn_app (goodIn_of _ (by decide +kernel)) ggX6_distance_X6_changes
set_option maxRecDepth 20000 in
theorem ggX6_distance_X6_unlike : GoodIn wsX6_distance wsX6_unlike := goodIn_r _ [20, 13, 9, 10, 11, 4, 12, 21, 22, 23, 24, 25, 26, 27, 28, 29, 30, 31, 32, 33, 34, 35, 36, 37, 38, 39] (by decide +kernel) (by decide +kernel)
set_option maxRecDepth 20000 in
theorem gX6_distance_X6_unlike : GoodIn wsX6_distance (wsV RX6 115 RX6 yX6_unlike wsX6_unlike) := goodIn_app (goodIn_of _ (by decide +kernel)) ggX6_distance_X6_unlike
theorem dX6_distance_0 : decode cX6_distance 0 = .ok (.aload_n 0, 1) := by decide +kernel
theorem dX6_distance_1 : decode cX6_distance 1 = .ok (.iload_n 1, 1) := by decide +kernel
theorem dX6_distance_2 : decode cX6_distance 2 = .ok (.invokevirtual 37, 3) := by decide +kernel
theorem dX6_distance_5 : decode cX6_distance 5 = .ok (.ifCond .eq 11, 3) := by decide +kernel
theorem dX6_distance_8 : decode cX6_distance 8 = .ok (.aload_n 0, 1) := by decide +kernel
theorem dX6_distance_9 : decode cX6_distance 9 = .ok (.iload_n 2, 1) := by decide +kernel
theorem dX6_distance_10 : decode cX6_distance 10 = .ok (.invokevirtual 37, 3) := by decide +kernel
theorem dX6_distance_13 : decode cX6_distance 13 = .ok (.ifCond .ne 5, 3) := by decide +kernel
theorem dX6_distance_16 : decode cX6_distance 16 = .ok (.iconst (-1), 1) := by decide +kernel
theorem dX6_distance_17 : decode cX6_distance 17 = .ok (.ireturn, 1) := by decide +kernel
theorem dX6_distance_18 : decode cX6_distance 18 = .ok (.aload_n 0, 1) := by decide +kernel
theorem dX6_distance_19 : decode cX6_distance 19 = .ok (.iload_n 1, 1) := by decide +kernel
theorem dX6_distance_20 : decode cX6_distance 20 = .ok (.invokevirtual 33, 3) := by decide +kernel
theorem dX6_distance_23 : decode cX6_distance 23 = .ok (.aload_n 0, 1) := by decide +kernel
theorem dX6_distance_24 : decode cX6_distance 24 = .ok (.iload_n 2, 1) := by decide +kernel
theorem dX6_distance_25 : decode cX6_distance 25 = .ok (.invokevirtual 33, 3) := by decide +kernel
theorem dX6_distance_28 : decode cX6_distance 28 = .ok (.if_icmp .eq 6, 3) := by decide +kernel
theorem dX6_distance_31 : decode cX6_distance 31 = .ok (.bipush (-6), 2) := by decide +kernel
theorem dX6_distance_33 : decode cX6_distance 33 = .ok (.ireturn, 1) := by decide +kernel
theorem dX6_distance_34 : decode cX6_distance 34 = .ok (.bipush 16, 2) := by decide +kernel
theorem dX6_distance_36 : decode cX6_distance 36 = .ok (.istore_n 3, 1) := by decide +kernel
theorem dX6_distance_37 : decode cX6_distance 37 = .ok (.iconst 0, 1) := by decide +kernel
theorem dX6_distance_38 : decode cX6_distance 38 = .ok (.istore 4, 2) := by decide +kernel
theorem dX6_distance_40 : decode cX6_distance 40 = .ok (.iload 4, 2) := by decide +kernel
theorem dX6_distance_42 : decode cX6_distance 42 = .ok (.aload_n 0, 1) := by decide +kernel
theorem dX6_distance_43 : decode cX6_distance 43 = .ok (.iload_n 1, 1) := by decide +kernel
theorem dX6_distance_44 : decode cX6_distance 44 = .ok (.invokevirtual 33, 3) := by decide +kernel
theorem dX6_distance_47 : decode cX6_distance 47 = .ok (.iconst 2, 1) := by decide +kernel
theorem dX6_distance_48 : decode cX6_distance 48 = .ok (.invokestatic 112, 3) := by decide +kernel
theorem dX6_distance_51 : decode cX6_distance 51 = .ok (.if_icmp .ge 33, 3) := by decide +kernel
theorem dX6_distance_54 : decode cX6_distance 54 = .ok (.aload_n 0, 1) := by decide +kernel
theorem dX6_distance_55 : decode cX6_distance 55 = .ok (.iload_n 1, 1) := by decide +kernel
theorem dX6_distance_56 : decode cX6_distance 56 = .ok (.iconst 2, 1) := by decide +kernel
theorem dX6_distance_57 : decode cX6_distance 57 = .ok (.iload 4, 2) := by decide +kernel
theorem dX6_distance_59 : decode cX6_distance 59 = .ok (.iload_n 2, 1) := by decide +kernel
theorem dX6_distance_60 : decode cX6_distance 60 = .ok (.invokevirtual 115, 3) := by decide +kernel
theorem dX6_distance_63 : decode cX6_distance 63 = .ok (.istore 5, 2) := by decide +kernel
theorem dX6_distance_65 : decode cX6_distance 65 = .ok (.iload 5, 2) := by decide +kernel
theorem dX6_distance_67 : decode cX6_distance 67 = .ok (.iload_n 3, 1) := by decide +kernel
theorem dX6_distance_68 : decode cX6_distance 68 = .ok (.if_icmp .ge 8, 3) := by decide +kernel
theorem dX6_distance_71 : decode cX6_distance 71 = .ok (.iload 5, 2) := by decide +kernel
theorem dX6_distance_73 : decode cX6_distance 73 = .ok (.goto 4, 3) := by decide +kernel
theorem dX6_distance_76 : decode cX6_distance 76 = .ok (.iload_n 3, 1) := by decide +kernel
theorem dX6_distance_77 : decode cX6_distance 77 = .ok (.istore_n 3, 1) := by decide +kernel
theorem dX6_distance_78 : decode cX6_distance 78 = .ok (.iinc 4 1, 3) := by decide +kernel
theorem dX6_distance_81 : decode cX6_distance 81 = .ok (.goto (-41), 3) := by decide +kernel
theorem dX6_distance_84 : decode cX6_distance 84 = .ok (.iload_n 3, 1) := by decide +kernel
theorem dX6_distance_85 : decode cX6_distance 85 = .ok (.ireturn, 1) := by decide +kernel
theorem dX6_common_0 : decode cX6_common 0 = .ok (.iload_n 0, 1) := by decide +kernel
theorem dX6_common_1 : decode cX6_common 1 = .ok (.istore_n 2, 1) := by decide +kernel
theorem dX6_common_2 : decode cX6_common 2 = .ok (.iload_n 1, 1) := by decide +kernel
theorem dX6_common_3 : decode cX6_common 3 = .ok (.istore_n 3, 1) := by decide +kernel
theorem dX6_common_4 : decode cX6_common 4 = .ok (.iload_n 3, 1) := by decide +kernel
theorem dX6_common_5 : decode cX6_common 5 = .ok (.ifCond .le 16, 3) := by decide +kernel
theorem dX6_common_8 : decode cX6_common 8 = .ok (.iload_n 2, 1) := by decide +kernel
theorem dX6_common_9 : decode cX6_common 9 = .ok (.iload_n 3, 1) := by decide +kernel
theorem dX6_common_10 : decode cX6_common 10 = .ok (.irem, 1) := by decide +kernel
theorem dX6_common_11 : decode cX6_common 11 = .ok (.istore 4, 2) := by decide +kernel
theorem dX6_common_13 : decode cX6_common 13 = .ok (.iload_n 3, 1) := by decide +kernel
theorem dX6_common_14 : decode cX6_common 14 = .ok (.istore_n 2, 1) := by decide +kernel
theorem dX6_common_15 : decode cX6_common 15 = .ok (.iload 4, 2) := by decide +kernel
theorem dX6_common_17 : decode cX6_common 17 = .ok (.istore_n 3, 1) := by decide +kernel
theorem dX6_common_18 : decode cX6_common 18 = .ok (.goto (-14), 3) := by decide +kernel
theorem dX6_common_21 : decode cX6_common 21 = .ok (.iload_n 2, 1) := by decide +kernel
theorem dX6_common_22 : decode cX6_common 22 = .ok (.ireturn, 1) := by decide +kernel
theorem dX6_power_0 : decode cX6_power 0 = .ok (.lconst 1, 1) := by decide +kernel
theorem dX6_power_1 : decode cX6_power 1 = .ok (.lstore_n 2, 1) := by decide +kernel
theorem dX6_power_2 : decode cX6_power 2 = .ok (.iconst 0, 1) := by decide +kernel
theorem dX6_power_3 : decode cX6_power 3 = .ok (.istore 4, 2) := by decide +kernel
theorem dX6_power_5 : decode cX6_power 5 = .ok (.iload 4, 2) := by decide +kernel
theorem dX6_power_7 : decode cX6_power 7 = .ok (.iload_n 1, 1) := by decide +kernel
theorem dX6_power_8 : decode cX6_power 8 = .ok (.if_icmp .ge 14, 3) := by decide +kernel
theorem dX6_power_11 : decode cX6_power 11 = .ok (.lload_n 2, 1) := by decide +kernel
theorem dX6_power_12 : decode cX6_power 12 = .ok (.iload_n 0, 1) := by decide +kernel
theorem dX6_power_13 : decode cX6_power 13 = .ok (.i2l, 1) := by decide +kernel
theorem dX6_power_14 : decode cX6_power 14 = .ok (.lmul, 1) := by decide +kernel
theorem dX6_power_15 : decode cX6_power 15 = .ok (.lstore_n 2, 1) := by decide +kernel
theorem dX6_power_16 : decode cX6_power 16 = .ok (.iinc 4 1, 3) := by decide +kernel
theorem dX6_power_19 : decode cX6_power 19 = .ok (.goto (-14), 3) := by decide +kernel
theorem dX6_power_22 : decode cX6_power 22 = .ok (.lload_n 2, 1) := by decide +kernel
theorem dX6_power_23 : decode cX6_power 23 = .ok (.lreturn, 1) := by decide +kernel
set_option maxRecDepth 20000 in
theorem ggX6_classes_X6_isRing : GoodIn wsX6_classes wsX6_isRing := goodIn_r _ [5, 6, 7, 4, 8] (by decide +kernel) (by decide +kernel)
set_option maxRecDepth 20000 in
theorem gX6_classes_X6_isRing : GoodIn wsX6_classes (va_wsS RX6 66 yX6_isRing wsX6_isRing) := goodIn_app (goodIn_of _ (by decide +kernel)) ggX6_classes_X6_isRing
set_option maxRecDepth 20000 in
theorem ggX6_classes_X6_isKind : GoodIn wsX6_classes wsX6_isKind := goodIn_r _ [11, 6, 7, 4, 8] (by decide +kernel) (by decide +kernel)
set_option maxRecDepth 20000 in
theorem gX6_classes_X6_isKind : GoodIn wsX6_classes (va_wsS RX6 56 yX6_isKind wsX6_isKind) := goodIn_app (goodIn_of _ (by decide +kernel)) ggX6_classes_X6_isKind
set_option maxRecDepth 20000 in
theorem ggX6_classes_X6_isLevel : GoodIn wsX6_classes wsX6_isLevel := goodIn_r _ [14, 6, 7, 4, 8] (by decide +kernel) (by decide +kernel)
set_option maxRecDepth 20000 in
theorem gX6_classes_X6_isLevel : GoodIn wsX6_classes (va_wsS RX6 118 yX6_isLevel wsX6_isLevel) := goodIn_app (goodIn_of _ (by decide +kernel)) ggX6_classes_X6_isLevel
set_option maxRecDepth 20000 in
theorem ggX6_classes_X6_common : GoodIn wsX6_classes wsX6_common := goodIn_r _ [17] (by decide +kernel) (by decide +kernel)
set_option maxRecDepth 20000 in
theorem gX6_classes_X6_common : GoodIn wsX6_classes (va_wsS RX6 132 yX6_common wsX6_common) := goodIn_app (goodIn_of _ (by decide +kernel)) ggX6_classes_X6_common
set_option maxRecDepth 20000 in
theorem ggX6_classes_X6_power : GoodIn wsX6_classes wsX6_power := goodIn_r _ [20] (by decide +kernel) (by decide +kernel)
set_option maxRecDepth 20000 in
theorem gX6_classes_X6_power : GoodIn wsX6_classes (va_wsS RX6 135 yX6_power wsX6_power) := goodIn_app (goodIn_of _ (by decide +kernel)) ggX6_classes_X6_power
set_option maxRecDepth 20000 in
theorem ggX6_classes_X6_changes : GoodIn wsX6_classes wsX6_changes := goodIn_r _ [23] (by decide +kernel) (by decide +kernel)
set_option maxRecDepth 20000 in
theorem gX6_classes_X6_changes : GoodIn wsX6_classes (va_wsS RX6 112 yX6_changes wsX6_changes) := goodIn_app (goodIn_of _ (by decide +kernel)) ggX6_classes_X6_changes
theorem dX6_classes_0 : decode cX6_classes 0 = .ok (.iload_n 1, 1) := by decide +kernel
theorem dX6_classes_1 : decode cX6_classes 1 = .ok (.invokestatic 66, 3) := by decide +kernel
theorem dX6_classes_4 : decode cX6_classes 4 = .ok (.ifCond .eq 17, 3) := by decide +kernel
theorem dX6_classes_7 : decode cX6_classes 7 = .ok (.iload_n 2, 1) := by decide +kernel
theorem dX6_classes_8 : decode cX6_classes 8 = .ok (.invokestatic 56, 3) := by decide +kernel
theorem dX6_classes_11 : decode cX6_classes 11 = .ok (.ifCond .eq 10, 3) := by decide +kernel
theorem dX6_classes_14 : decode cX6_classes 14 = .ok (.iload_n 3, 1) := by decide +kernel
theorem dX6_classes_15 : decode cX6_classes 15 = .ok (.invokestatic 118, 3) := by decide +kernel
theorem dX6_classes_18 : decode cX6_classes 18 = .ok (.ifCond .ne 7, 3) := by decide +kernel
theorem dX6_classes_21 : decode cX6_classes 21 = .ok (.ldc2_w 130, 3) := by decide +kernel
theorem dX6_classes_24 : decode cX6_classes 24 = .ok (.lreturn, 1) := by decide +kernel
theorem dX6_classes_25 : decode cX6_classes 25 = .ok (.lconst 0, 1) := by decide +kernel
theorem dX6_classes_26 : decode cX6_classes 26 = .ok (.lstore 4, 2) := by decide +kernel
theorem dX6_classes_28 : decode cX6_classes 28 = .ok (.iload_n 3, 1) := by decide +kernel
theorem dX6_classes_29 : decode cX6_classes 29 = .ok (.ifCond .ne 9, 3) := by decide +kernel
theorem dX6_classes_32 : decode cX6_classes 32 = .ok (.iload_n 1, 1) := by decide +kernel
theorem dX6_classes_33 : decode cX6_classes 33 = .ok (.iconst 4, 1) := by decide +kernel
theorem dX6_classes_34 : decode cX6_classes 34 = .ok (.idiv, 1) := by decide +kernel
theorem dX6_classes_35 : decode cX6_classes 35 = .ok (.goto 4, 3) := by decide +kernel
theorem dX6_classes_38 : decode cX6_classes 38 = .ok (.iconst 1, 1) := by decide +kernel
theorem dX6_classes_39 : decode cX6_classes 39 = .ok (.istore 6, 2) := by decide +kernel
theorem dX6_classes_41 : decode cX6_classes 41 = .ok (.iconst 0, 1) := by decide +kernel
theorem dX6_classes_42 : decode cX6_classes 42 = .ok (.istore 7, 2) := by decide +kernel
theorem dX6_classes_44 : decode cX6_classes 44 = .ok (.iload 7, 2) := by decide +kernel
theorem dX6_classes_46 : decode cX6_classes 46 = .ok (.iload_n 1, 1) := by decide +kernel
theorem dX6_classes_47 : decode cX6_classes 47 = .ok (.if_icmp .ge 28, 3) := by decide +kernel
theorem dX6_classes_50 : decode cX6_classes 50 = .ok (.lload 4, 2) := by decide +kernel
theorem dX6_classes_52 : decode cX6_classes 52 = .ok (.iload_n 2, 1) := by decide +kernel
theorem dX6_classes_53 : decode cX6_classes 53 = .ok (.iload_n 1, 1) := by decide +kernel
theorem dX6_classes_54 : decode cX6_classes 54 = .ok (.iload 7, 2) := by decide +kernel
theorem dX6_classes_56 : decode cX6_classes 56 = .ok (.invokestatic 132, 3) := by decide +kernel
theorem dX6_classes_59 : decode cX6_classes 59 = .ok (.invokestatic 135, 3) := by decide +kernel
theorem dX6_classes_62 : decode cX6_classes 62 = .ok (.ladd, 1) := by decide +kernel
theorem dX6_classes_63 : decode cX6_classes 63 = .ok (.lstore 4, 2) := by decide +kernel
theorem dX6_classes_65 : decode cX6_classes 65 = .ok (.iload 7, 2) := by decide +kernel
theorem dX6_classes_67 : decode cX6_classes 67 = .ok (.iload 6, 2) := by decide +kernel
theorem dX6_classes_69 : decode cX6_classes 69 = .ok (.iadd, 1) := by decide +kernel
theorem dX6_classes_70 : decode cX6_classes 70 = .ok (.istore 7, 2) := by decide +kernel
theorem dX6_classes_72 : decode cX6_classes 72 = .ok (.goto (-28), 3) := by decide +kernel
theorem dX6_classes_75 : decode cX6_classes 75 = .ok (.iload_n 3, 1) := by decide +kernel
theorem dX6_classes_76 : decode cX6_classes 76 = .ok (.iconst 2, 1) := by decide +kernel
theorem dX6_classes_77 : decode cX6_classes 77 = .ok (.if_icmp .ne 30, 3) := by decide +kernel
theorem dX6_classes_80 : decode cX6_classes 80 = .ok (.lload 4, 2) := by decide +kernel
theorem dX6_classes_82 : decode cX6_classes 82 = .ok (.iload_n 1, 1) := by decide +kernel
theorem dX6_classes_83 : decode cX6_classes 83 = .ok (.iconst 2, 1) := by decide +kernel
theorem dX6_classes_84 : decode cX6_classes 84 = .ok (.idiv, 1) := by decide +kernel
theorem dX6_classes_85 : decode cX6_classes 85 = .ok (.i2l, 1) := by decide +kernel
theorem dX6_classes_86 : decode cX6_classes 86 = .ok (.iload_n 2, 1) := by decide +kernel
theorem dX6_classes_87 : decode cX6_classes 87 = .ok (.iload_n 1, 1) := by decide +kernel
theorem dX6_classes_88 : decode cX6_classes 88 = .ok (.iconst 2, 1) := by decide +kernel
theorem dX6_classes_89 : decode cX6_classes 89 = .ok (.idiv, 1) := by decide +kernel
theorem dX6_classes_90 : decode cX6_classes 90 = .ok (.iconst 1, 1) := by decide +kernel
theorem dX6_classes_91 : decode cX6_classes 91 = .ok (.iadd, 1) := by decide +kernel
theorem dX6_classes_92 : decode cX6_classes 92 = .ok (.invokestatic 135, 3) := by decide +kernel
theorem dX6_classes_95 : decode cX6_classes 95 = .ok (.iload_n 2, 1) := by decide +kernel
theorem dX6_classes_96 : decode cX6_classes 96 = .ok (.iload_n 1, 1) := by decide +kernel
theorem dX6_classes_97 : decode cX6_classes 97 = .ok (.iconst 2, 1) := by decide +kernel
theorem dX6_classes_98 : decode cX6_classes 98 = .ok (.idiv, 1) := by decide +kernel
theorem dX6_classes_99 : decode cX6_classes 99 = .ok (.invokestatic 135, 3) := by decide +kernel
theorem dX6_classes_102 : decode cX6_classes 102 = .ok (.ladd, 1) := by decide +kernel
theorem dX6_classes_103 : decode cX6_classes 103 = .ok (.lmul, 1) := by decide +kernel
theorem dX6_classes_104 : decode cX6_classes 104 = .ok (.ladd, 1) := by decide +kernel
theorem dX6_classes_105 : decode cX6_classes 105 = .ok (.lstore 4, 2) := by decide +kernel
theorem dX6_classes_107 : decode cX6_classes 107 = .ok (.lload 4, 2) := by decide +kernel
theorem dX6_classes_109 : decode cX6_classes 109 = .ok (.iload_n 1, 1) := by decide +kernel
theorem dX6_classes_110 : decode cX6_classes 110 = .ok (.iload_n 3, 1) := by decide +kernel
theorem dX6_classes_111 : decode cX6_classes 111 = .ok (.invokestatic 112, 3) := by decide +kernel
theorem dX6_classes_114 : decode cX6_classes 114 = .ok (.i2l, 1) := by decide +kernel
theorem dX6_classes_115 : decode cX6_classes 115 = .ok (.ldiv, 1) := by decide +kernel
theorem dX6_classes_116 : decode cX6_classes 116 = .ok (.lreturn, 1) := by decide +kernel
set_option maxRecDepth 20000 in
theorem ggX6_isAt_X6_slots : GoodIn wsX6_isAt wsX6_slots := goodIn_r _ [6, 1, 11, 12, 13, 14, 15, 16, 17, 18, 19, 20, 21] (by decide +kernel) (by decide +kernel)
set_option maxRecDepth 20000 in
theorem gX6_isAt_X6_slots : GoodIn wsX6_isAt (wsV RX6 33 RX6 yX6_slots wsX6_slots) := goodIn_app (goodIn_of _ (by decide +kernel)) ggX6_isAt_X6_slots
set_option maxRecDepth 20000 in
theorem ggX6_isAt_X6_at : GoodIn wsX6_isAt wsX6_at := goodIn_r _ [10, 2, 3, 4, 5, 6, 1, 11, 12, 13, 14, 15, 16, 17, 18, 19, 20, 21] (by decide +kernel) (by decide +kernel)
set_option maxRecDepth 20000 in
theorem gX6_isAt_X6_at : GoodIn wsX6_isAt (wsV RX6 59 RX6 yX6_at wsX6_at) := goodIn_app (goodIn_of _ (by decide +kernel)) ggX6_isAt_X6_at
theorem dX6_isAt_0 : decode cX6_isAt 0 = .ok (.aload_n 0, 1) := by decide +kernel
theorem dX6_isAt_1 : decode cX6_isAt 1 = .ok (.getfield 7, 3) := by decide +kernel
theorem dX6_isAt_4 : decode cX6_isAt 4 = .ok (.bipush 112, 2) := by decide +kernel
theorem dX6_isAt_6 : decode cX6_isAt 6 = .ok (.iaload, 1) := by decide +kernel
theorem dX6_isAt_7 : decode cX6_isAt 7 = .ok (.ifCond .le 22, 3) := by decide +kernel
theorem dX6_isAt_10 : decode cX6_isAt 10 = .ok (.aload_n 0, 1) := by decide +kernel
theorem dX6_isAt_11 : decode cX6_isAt 11 = .ok (.getfield 7, 3) := by decide +kernel
theorem dX6_isAt_14 : decode cX6_isAt 14 = .ok (.bipush 112, 2) := by decide +kernel
theorem dX6_isAt_16 : decode cX6_isAt 16 = .ok (.iaload, 1) := by decide +kernel
theorem dX6_isAt_17 : decode cX6_isAt 17 = .ok (.aload_n 0, 1) := by decide +kernel
theorem dX6_isAt_18 : decode cX6_isAt 18 = .ok (.iload_n 1, 1) := by decide +kernel
theorem dX6_isAt_19 : decode cX6_isAt 19 = .ok (.invokevirtual 33, 3) := by decide +kernel
theorem dX6_isAt_22 : decode cX6_isAt 22 = .ok (.if_icmp .gt 7, 3) := by decide +kernel
theorem dX6_isAt_25 : decode cX6_isAt 25 = .ok (.iconst 1, 1) := by decide +kernel
theorem dX6_isAt_26 : decode cX6_isAt 26 = .ok (.goto 4, 3) := by decide +kernel
theorem dX6_isAt_29 : decode cX6_isAt 29 = .ok (.iconst 0, 1) := by decide +kernel
theorem dX6_isAt_30 : decode cX6_isAt 30 = .ok (.istore_n 3, 1) := by decide +kernel
theorem dX6_isAt_31 : decode cX6_isAt 31 = .ok (.iconst 0, 1) := by decide +kernel
theorem dX6_isAt_32 : decode cX6_isAt 32 = .ok (.istore 4, 2) := by decide +kernel
theorem dX6_isAt_34 : decode cX6_isAt 34 = .ok (.iload 4, 2) := by decide +kernel
theorem dX6_isAt_36 : decode cX6_isAt 36 = .ok (.aload_n 0, 1) := by decide +kernel
theorem dX6_isAt_37 : decode cX6_isAt 37 = .ok (.getfield 7, 3) := by decide +kernel
theorem dX6_isAt_40 : decode cX6_isAt 40 = .ok (.bipush 112, 2) := by decide +kernel
theorem dX6_isAt_42 : decode cX6_isAt 42 = .ok (.iaload, 1) := by decide +kernel
theorem dX6_isAt_43 : decode cX6_isAt 43 = .ok (.if_icmp .ge 61, 3) := by decide +kernel
theorem dX6_isAt_46 : decode cX6_isAt 46 = .ok (.iload_n 3, 1) := by decide +kernel
theorem dX6_isAt_47 : decode cX6_isAt 47 = .ok (.ifCond .eq 57, 3) := by decide +kernel
theorem dX6_isAt_50 : decode cX6_isAt 50 = .ok (.aload_n 0, 1) := by decide +kernel
theorem dX6_isAt_51 : decode cX6_isAt 51 = .ok (.getfield 7, 3) := by decide +kernel
theorem dX6_isAt_54 : decode cX6_isAt 54 = .ok (.bipush 113, 2) := by decide +kernel
theorem dX6_isAt_56 : decode cX6_isAt 56 = .ok (.iload 4, 2) := by decide +kernel
theorem dX6_isAt_58 : decode cX6_isAt 58 = .ok (.iadd, 1) := by decide +kernel
theorem dX6_isAt_59 : decode cX6_isAt 59 = .ok (.iaload, 1) := by decide +kernel
theorem dX6_isAt_60 : decode cX6_isAt 60 = .ok (.bipush 9, 2) := by decide +kernel
theorem dX6_isAt_62 : decode cX6_isAt 62 = .ok (.if_icmp .eq 30, 3) := by decide +kernel
theorem dX6_isAt_65 : decode cX6_isAt 65 = .ok (.aload_n 0, 1) := by decide +kernel
theorem dX6_isAt_66 : decode cX6_isAt 66 = .ok (.getfield 7, 3) := by decide +kernel
theorem dX6_isAt_69 : decode cX6_isAt 69 = .ok (.bipush 113, 2) := by decide +kernel
theorem dX6_isAt_71 : decode cX6_isAt 71 = .ok (.iload 4, 2) := by decide +kernel
theorem dX6_isAt_73 : decode cX6_isAt 73 = .ok (.iadd, 1) := by decide +kernel
theorem dX6_isAt_74 : decode cX6_isAt 74 = .ok (.iaload, 1) := by decide +kernel
theorem dX6_isAt_75 : decode cX6_isAt 75 = .ok (.aload_n 0, 1) := by decide +kernel
theorem dX6_isAt_76 : decode cX6_isAt 76 = .ok (.getfield 7, 3) := by decide +kernel
theorem dX6_isAt_79 : decode cX6_isAt 79 = .ok (.aload_n 0, 1) := by decide +kernel
theorem dX6_isAt_80 : decode cX6_isAt 80 = .ok (.iload_n 1, 1) := by decide +kernel
theorem dX6_isAt_81 : decode cX6_isAt 81 = .ok (.iload_n 2, 1) := by decide +kernel
theorem dX6_isAt_82 : decode cX6_isAt 82 = .ok (.iload 4, 2) := by decide +kernel
theorem dX6_isAt_84 : decode cX6_isAt 84 = .ok (.iadd, 1) := by decide +kernel
theorem dX6_isAt_85 : decode cX6_isAt 85 = .ok (.invokevirtual 59, 3) := by decide +kernel
theorem dX6_isAt_88 : decode cX6_isAt 88 = .ok (.iaload, 1) := by decide +kernel
theorem dX6_isAt_89 : decode cX6_isAt 89 = .ok (.if_icmp .ne 7, 3) := by decide +kernel
theorem dX6_isAt_92 : decode cX6_isAt 92 = .ok (.iconst 1, 1) := by decide +kernel
theorem dX6_isAt_93 : decode cX6_isAt 93 = .ok (.goto 4, 3) := by decide +kernel
theorem dX6_isAt_96 : decode cX6_isAt 96 = .ok (.iconst 0, 1) := by decide +kernel
theorem dX6_isAt_97 : decode cX6_isAt 97 = .ok (.istore_n 3, 1) := by decide +kernel
theorem dX6_isAt_98 : decode cX6_isAt 98 = .ok (.iinc 4 1, 3) := by decide +kernel
theorem dX6_isAt_101 : decode cX6_isAt 101 = .ok (.goto (-67), 3) := by decide +kernel
theorem dX6_isAt_104 : decode cX6_isAt 104 = .ok (.iload_n 3, 1) := by decide +kernel
theorem dX6_isAt_105 : decode cX6_isAt 105 = .ok (.ireturn, 1) := by decide +kernel
set_option maxRecDepth 20000 in
theorem ggX6_places_X6_slots : GoodIn wsX6_places wsX6_slots := goodIn_r _ [5, 6, 15, 16, 17, 18, 19, 20, 21, 22, 23, 24, 25] (by decide +kernel) (by decide +kernel)
set_option maxRecDepth 20000 in
theorem gX6_places_X6_slots : GoodIn wsX6_places (wsV RX6 33 RX6 yX6_slots wsX6_slots) := goodIn_app (goodIn_of _ (by decide +kernel)) ggX6_places_X6_slots
set_option maxRecDepth 20000 in
theorem ggX6_places_X6_isAt : GoodIn wsX6_places wsX6_isAt := goodIn_r _ [10, 6, 1, 2, 3, 4, 5, 11, 12, 13, 14, 15, 16, 17, 18, 19, 20, 21, 22, 23, 24, 25] (by decide +kernel) (by decide +kernel)
set_option maxRecDepth 20000 in
theorem gX6_places_X6_isAt : GoodIn wsX6_places (wsV RX6 139 RX6 yX6_isAt wsX6_isAt) := goodIn_app (goodIn_of _ (by decide +kernel)) ggX6_places_X6_isAt
theorem dX6_places_0 : decode cX6_places 0 = .ok (.iconst 0, 1) := by decide +kernel
theorem dX6_places_1 : decode cX6_places 1 = .ok (.istore_n 2, 1) := by decide +kernel
theorem dX6_places_2 : decode cX6_places 2 = .ok (.iconst 0, 1) := by decide +kernel
theorem dX6_places_3 : decode cX6_places 3 = .ok (.istore_n 3, 1) := by decide +kernel
theorem dX6_places_4 : decode cX6_places 4 = .ok (.iload_n 3, 1) := by decide +kernel
theorem dX6_places_5 : decode cX6_places 5 = .ok (.aload_n 0, 1) := by decide +kernel
theorem dX6_places_6 : decode cX6_places 6 = .ok (.iload_n 1, 1) := by decide +kernel
theorem dX6_places_7 : decode cX6_places 7 = .ok (.invokevirtual 33, 3) := by decide +kernel
theorem dX6_places_10 : decode cX6_places 10 = .ok (.if_icmp .ge 28, 3) := by decide +kernel
theorem dX6_places_13 : decode cX6_places 13 = .ok (.iload_n 2, 1) := by decide +kernel
theorem dX6_places_14 : decode cX6_places 14 = .ok (.aload_n 0, 1) := by decide +kernel
theorem dX6_places_15 : decode cX6_places 15 = .ok (.iload_n 1, 1) := by decide +kernel
theorem dX6_places_16 : decode cX6_places 16 = .ok (.iload_n 3, 1) := by decide +kernel
theorem dX6_places_17 : decode cX6_places 17 = .ok (.invokevirtual 139, 3) := by decide +kernel
theorem dX6_places_20 : decode cX6_places 20 = .ok (.ifCond .eq 9, 3) := by decide +kernel
theorem dX6_places_23 : decode cX6_places 23 = .ok (.iconst 1, 1) := by decide +kernel
theorem dX6_places_24 : decode cX6_places 24 = .ok (.iload_n 3, 1) := by decide +kernel
theorem dX6_places_25 : decode cX6_places 25 = .ok (.ishl, 1) := by decide +kernel
theorem dX6_places_26 : decode cX6_places 26 = .ok (.goto 4, 3) := by decide +kernel
theorem dX6_places_29 : decode cX6_places 29 = .ok (.iconst 0, 1) := by decide +kernel
theorem dX6_places_30 : decode cX6_places 30 = .ok (.ior, 1) := by decide +kernel
theorem dX6_places_31 : decode cX6_places 31 = .ok (.istore_n 2, 1) := by decide +kernel
theorem dX6_places_32 : decode cX6_places 32 = .ok (.iinc 3 1, 3) := by decide +kernel
theorem dX6_places_35 : decode cX6_places 35 = .ok (.goto (-31), 3) := by decide +kernel
theorem dX6_places_38 : decode cX6_places 38 = .ok (.iload_n 2, 1) := by decide +kernel
theorem dX6_places_39 : decode cX6_places 39 = .ok (.ireturn, 1) := by decide +kernel
theorem dX6_bits_0 : decode cX6_bits 0 = .ok (.iconst 0, 1) := by decide +kernel
theorem dX6_bits_1 : decode cX6_bits 1 = .ok (.istore_n 1, 1) := by decide +kernel
theorem dX6_bits_2 : decode cX6_bits 2 = .ok (.iconst 0, 1) := by decide +kernel
theorem dX6_bits_3 : decode cX6_bits 3 = .ok (.istore_n 2, 1) := by decide +kernel
theorem dX6_bits_4 : decode cX6_bits 4 = .ok (.iload_n 2, 1) := by decide +kernel
theorem dX6_bits_5 : decode cX6_bits 5 = .ok (.bipush 16, 2) := by decide +kernel
theorem dX6_bits_7 : decode cX6_bits 7 = .ok (.if_icmp .ge 17, 3) := by decide +kernel
theorem dX6_bits_10 : decode cX6_bits 10 = .ok (.iload_n 1, 1) := by decide +kernel
theorem dX6_bits_11 : decode cX6_bits 11 = .ok (.iload_n 0, 1) := by decide +kernel
theorem dX6_bits_12 : decode cX6_bits 12 = .ok (.iload_n 2, 1) := by decide +kernel
theorem dX6_bits_13 : decode cX6_bits 13 = .ok (.ishr, 1) := by decide +kernel
theorem dX6_bits_14 : decode cX6_bits 14 = .ok (.iconst 1, 1) := by decide +kernel
theorem dX6_bits_15 : decode cX6_bits 15 = .ok (.iand, 1) := by decide +kernel
theorem dX6_bits_16 : decode cX6_bits 16 = .ok (.iadd, 1) := by decide +kernel
theorem dX6_bits_17 : decode cX6_bits 17 = .ok (.istore_n 1, 1) := by decide +kernel
theorem dX6_bits_18 : decode cX6_bits 18 = .ok (.iinc 2 1, 3) := by decide +kernel
theorem dX6_bits_21 : decode cX6_bits 21 = .ok (.goto (-17), 3) := by decide +kernel
theorem dX6_bits_24 : decode cX6_bits 24 = .ok (.iload_n 1, 1) := by decide +kernel
theorem dX6_bits_25 : decode cX6_bits 25 = .ok (.ireturn, 1) := by decide +kernel
set_option maxRecDepth 20000 in
theorem ggX6_setMotif_X6_isSlot : GoodIn wsX6_setMotif wsX6_isSlot := goodIn_r _ [6, 7, 8, 9, 5, 10, 11, 12, 13, 14, 15, 16, 17, 1, 54, 55, 56, 57, 58, 59, 60, 61, 62, 63, 64] (by decide +kernel) (by decide +kernel)
set_option maxRecDepth 20000 in
theorem gX6_setMotif_X6_isSlot : GoodIn wsX6_setMotif (wsV RX6 82 RX6 yX6_isSlot wsX6_isSlot) := goodIn_app (goodIn_of _ (by decide +kernel)) ggX6_setMotif_X6_isSlot
set_option maxRecDepth 20000 in
theorem ggX6_setMotif_X6_in : GoodIn wsX6_setMotif wsX6_in := goodIn_r _ [13] (by decide +kernel) (by decide +kernel)
set_option maxRecDepth 20000 in
theorem gX6_setMotif_X6_in : GoodIn wsX6_setMotif (va_wsS RX6 29 yX6_in wsX6_in) := goodIn_app (goodIn_of _ (by decide +kernel)) ggX6_setMotif_X6_in
set_option maxRecDepth 20000 in
theorem ggX6_setMotif_X6_slots : GoodIn wsX6_setMotif wsX6_slots := goodIn_r _ [17, 1, 54, 55, 56, 57, 58, 59, 60, 61, 62, 63, 64] (by decide +kernel) (by decide +kernel)
set_option maxRecDepth 20000 in
theorem gX6_setMotif_X6_slots : GoodIn wsX6_setMotif (wsV RX6 33 RX6 yX6_slots wsX6_slots) := goodIn_app (goodIn_of _ (by decide +kernel)) ggX6_setMotif_X6_slots
set_option maxRecDepth 20000 in
theorem ggX6_setMotif_X6_record : GoodIn wsX6_setMotif wsX6_record := goodIn_r _ [21, 22, 23, 1, 54, 55, 56, 57, 58, 59, 60, 61, 62, 63, 64] (by decide +kernel) (by decide +kernel)
set_option maxRecDepth 20000 in
theorem gX6_setMotif_X6_record : GoodIn wsX6_setMotif (wsV RX6 53 RX6 yX6_record wsX6_record) := goodIn_app (goodIn_of _ (by decide +kernel)) ggX6_setMotif_X6_record
set_option maxRecDepth 20000 in
theorem ggX6_setMotif_X6_leastChange : GoodIn wsX6_setMotif wsX6_leastChange := goodIn_r _ [27, 14, 15, 16, 5, 17, 1, 28, 29, 30, 31, 32, 33, 34, 35, 36, 37, 38, 39, 40, 41, 42, 54, 55, 56, 57, 58, 59, 60, 61, 62, 63, 64] (by decide +kernel) (by decide +kernel)
set_option maxRecDepth 20000 in
theorem gX6_setMotif_X6_leastChange : GoodIn wsX6_setMotif (wsV RX6 127 RX6 yX6_leastChange wsX6_leastChange) := goodIn_app (goodIn_of _ (by decide +kernel)) ggX6_setMotif_X6_leastChange
set_option maxRecDepth 20000 in
theorem ggX6_setMotif_X6_behind : GoodIn wsX6_setMotif wsX6_behind := goodIn_r _ [38, 1, 14, 15, 16, 5, 17, 39, 40, 41, 42, 54, 55, 56, 57, 58, 59, 60, 61, 62, 63, 64] (by decide +kernel) (by decide +kernel)
set_option maxRecDepth 20000 in
theorem gX6_setMotif_X6_behind : GoodIn wsX6_setMotif (wsV RX6 102 RX6 yX6_behind wsX6_behind) := goodIn_app (goodIn_of _ (by decide +kernel)) ggX6_setMotif_X6_behind
set_option maxRecDepth 20000 in
theorem ggX6_setMotif_X6_places : GoodIn wsX6_setMotif wsX6_places := goodIn_r _ [46, 14, 15, 16, 5, 17, 1, 47, 48, 49, 50, 39, 40, 41, 42, 54, 55, 56, 57, 58, 59, 60, 61, 62, 63, 64] (by decide +kernel) (by decide +kernel)
set_option maxRecDepth 20000 in
theorem gX6_setMotif_X6_places : GoodIn wsX6_setMotif (wsV RX6 142 RX6 yX6_places wsX6_places) := goodIn_app (goodIn_of _ (by decide +kernel)) ggX6_setMotif_X6_places
set_option maxRecDepth 20000 in
theorem ggX6_setMotif_X6_bits : GoodIn wsX6_setMotif wsX6_bits := goodIn_r _ [53] (by decide +kernel) (by decide +kernel)
set_option maxRecDepth 20000 in
theorem gX6_setMotif_X6_bits : GoodIn wsX6_setMotif (va_wsS RX6 145 yX6_bits wsX6_bits) := goodIn_app (goodIn_of _ (by decide +kernel)) ggX6_setMotif_X6_bits
theorem dX6_setMotif_0 : decode cX6_setMotif 0 = .ok (.aload_n 0, 1) := by decide +kernel
theorem dX6_setMotif_1 : decode cX6_setMotif 1 = .ok (.iload_n 1, 1) := by decide +kernel
theorem dX6_setMotif_2 : decode cX6_setMotif 2 = .ok (.iload_n 2, 1) := by decide +kernel
theorem dX6_setMotif_3 : decode cX6_setMotif 3 = .ok (.invokevirtual 82, 3) := by decide +kernel
theorem dX6_setMotif_6 : decode cX6_setMotif 6 = .ok (.ifCond .ne 5, 3) := by decide +kernel
theorem dX6_setMotif_9 : decode cX6_setMotif 9 = .ok (.iconst (-1), 1) := by decide +kernel
theorem dX6_setMotif_10 : decode cX6_setMotif 10 = .ok (.ireturn, 1) := by decide +kernel
theorem dX6_setMotif_11 : decode cX6_setMotif 11 = .ok (.iload_n 3, 1) := by decide +kernel
theorem dX6_setMotif_12 : decode cX6_setMotif 12 = .ok (.iconst 1, 1) := by decide +kernel
theorem dX6_setMotif_13 : decode cX6_setMotif 13 = .ok (.bipush 6, 2) := by decide +kernel
theorem dX6_setMotif_15 : decode cX6_setMotif 15 = .ok (.invokestatic 29, 3) := by decide +kernel
theorem dX6_setMotif_18 : decode cX6_setMotif 18 = .ok (.ifCond .eq 12, 3) := by decide +kernel
theorem dX6_setMotif_21 : decode cX6_setMotif 21 = .ok (.iload_n 3, 1) := by decide +kernel
theorem dX6_setMotif_22 : decode cX6_setMotif 22 = .ok (.aload_n 0, 1) := by decide +kernel
theorem dX6_setMotif_23 : decode cX6_setMotif 23 = .ok (.iload_n 1, 1) := by decide +kernel
theorem dX6_setMotif_24 : decode cX6_setMotif 24 = .ok (.invokevirtual 33, 3) := by decide +kernel
theorem dX6_setMotif_27 : decode cX6_setMotif 27 = .ok (.if_icmp .le 6, 3) := by decide +kernel
theorem dX6_setMotif_30 : decode cX6_setMotif 30 = .ok (.bipush (-2), 2) := by decide +kernel
theorem dX6_setMotif_32 : decode cX6_setMotif 32 = .ok (.ireturn, 1) := by decide +kernel
theorem dX6_setMotif_33 : decode cX6_setMotif 33 = .ok (.aload_n 0, 1) := by decide +kernel
theorem dX6_setMotif_34 : decode cX6_setMotif 34 = .ok (.invokevirtual 53, 3) := by decide +kernel
theorem dX6_setMotif_37 : decode cX6_setMotif 37 = .ok (.aload_n 0, 1) := by decide +kernel
theorem dX6_setMotif_38 : decode cX6_setMotif 38 = .ok (.iload_n 1, 1) := by decide +kernel
theorem dX6_setMotif_39 : decode cX6_setMotif 39 = .ok (.iconst 1, 1) := by decide +kernel
theorem dX6_setMotif_40 : decode cX6_setMotif 40 = .ok (.invokevirtual 127, 3) := by decide +kernel
theorem dX6_setMotif_43 : decode cX6_setMotif 43 = .ok (.istore 4, 2) := by decide +kernel
theorem dX6_setMotif_45 : decode cX6_setMotif 45 = .ok (.iconst 0, 1) := by decide +kernel
theorem dX6_setMotif_46 : decode cX6_setMotif 46 = .ok (.istore 5, 2) := by decide +kernel
theorem dX6_setMotif_48 : decode cX6_setMotif 48 = .ok (.iload 5, 2) := by decide +kernel
theorem dX6_setMotif_50 : decode cX6_setMotif 50 = .ok (.iload_n 3, 1) := by decide +kernel
theorem dX6_setMotif_51 : decode cX6_setMotif 51 = .ok (.if_icmp .ge 37, 3) := by decide +kernel
theorem dX6_setMotif_54 : decode cX6_setMotif 54 = .ok (.aload_n 0, 1) := by decide +kernel
theorem dX6_setMotif_55 : decode cX6_setMotif 55 = .ok (.getfield 7, 3) := by decide +kernel
theorem dX6_setMotif_58 : decode cX6_setMotif 58 = .ok (.bipush 113, 2) := by decide +kernel
theorem dX6_setMotif_60 : decode cX6_setMotif 60 = .ok (.iload 5, 2) := by decide +kernel
theorem dX6_setMotif_62 : decode cX6_setMotif 62 = .ok (.iadd, 1) := by decide +kernel
theorem dX6_setMotif_63 : decode cX6_setMotif 63 = .ok (.aload_n 0, 1) := by decide +kernel
theorem dX6_setMotif_64 : decode cX6_setMotif 64 = .ok (.iload_n 1, 1) := by decide +kernel
theorem dX6_setMotif_65 : decode cX6_setMotif 65 = .ok (.iconst 1, 1) := by decide +kernel
theorem dX6_setMotif_66 : decode cX6_setMotif 66 = .ok (.iload 4, 2) := by decide +kernel
theorem dX6_setMotif_68 : decode cX6_setMotif 68 = .ok (.iload_n 2, 1) := by decide +kernel
theorem dX6_setMotif_69 : decode cX6_setMotif 69 = .ok (.iload 5, 2) := by decide +kernel
theorem dX6_setMotif_71 : decode cX6_setMotif 71 = .ok (.iadd, 1) := by decide +kernel
theorem dX6_setMotif_72 : decode cX6_setMotif 72 = .ok (.aload_n 0, 1) := by decide +kernel
theorem dX6_setMotif_73 : decode cX6_setMotif 73 = .ok (.iload_n 1, 1) := by decide +kernel
theorem dX6_setMotif_74 : decode cX6_setMotif 74 = .ok (.invokevirtual 33, 3) := by decide +kernel
theorem dX6_setMotif_77 : decode cX6_setMotif 77 = .ok (.irem, 1) := by decide +kernel
theorem dX6_setMotif_78 : decode cX6_setMotif 78 = .ok (.invokevirtual 102, 3) := by decide +kernel
theorem dX6_setMotif_81 : decode cX6_setMotif 81 = .ok (.iastore, 1) := by decide +kernel
theorem dX6_setMotif_82 : decode cX6_setMotif 82 = .ok (.iinc 5 1, 3) := by decide +kernel
theorem dX6_setMotif_85 : decode cX6_setMotif 85 = .ok (.goto (-37), 3) := by decide +kernel
theorem dX6_setMotif_88 : decode cX6_setMotif 88 = .ok (.aload_n 0, 1) := by decide +kernel
theorem dX6_setMotif_89 : decode cX6_setMotif 89 = .ok (.getfield 7, 3) := by decide +kernel
theorem dX6_setMotif_92 : decode cX6_setMotif 92 = .ok (.bipush 112, 2) := by decide +kernel
theorem dX6_setMotif_94 : decode cX6_setMotif 94 = .ok (.iload_n 3, 1) := by decide +kernel
theorem dX6_setMotif_95 : decode cX6_setMotif 95 = .ok (.iastore, 1) := by decide +kernel
theorem dX6_setMotif_96 : decode cX6_setMotif 96 = .ok (.aload_n 0, 1) := by decide +kernel
theorem dX6_setMotif_97 : decode cX6_setMotif 97 = .ok (.iload_n 1, 1) := by decide +kernel
theorem dX6_setMotif_98 : decode cX6_setMotif 98 = .ok (.invokevirtual 142, 3) := by decide +kernel
theorem dX6_setMotif_101 : decode cX6_setMotif 101 = .ok (.invokestatic 145, 3) := by decide +kernel
theorem dX6_setMotif_104 : decode cX6_setMotif 104 = .ok (.ireturn, 1) := by decide +kernel
set_option maxRecDepth 20000 in
theorem ggX6_sign_X6_in : GoodIn wsX6_sign wsX6_in := goodIn_r _ [5] (by decide +kernel) (by decide +kernel)
set_option maxRecDepth 20000 in
theorem gX6_sign_X6_in : GoodIn wsX6_sign (va_wsS RX6 29 yX6_in wsX6_in) := goodIn_app (goodIn_of _ (by decide +kernel)) ggX6_sign_X6_in
set_option maxRecDepth 20000 in
theorem ggX6_sign_X6_record : GoodIn wsX6_sign wsX6_record := goodIn_r _ [9, 10, 11, 1, 12, 13, 14, 15, 16, 17, 18, 19, 20, 21, 22] (by decide +kernel) (by decide +kernel)
set_option maxRecDepth 20000 in
theorem gX6_sign_X6_record : GoodIn wsX6_sign (wsV RX6 53 RX6 yX6_record wsX6_record) := goodIn_app (goodIn_of _ (by decide +kernel)) ggX6_sign_X6_record
theorem dX6_sign_0 : decode cX6_sign 0 = .ok (.iload_n 1, 1) := by decide +kernel
theorem dX6_sign_1 : decode cX6_sign 1 = .ok (.iconst 0, 1) := by decide +kernel
theorem dX6_sign_2 : decode cX6_sign 2 = .ok (.aload_n 0, 1) := by decide +kernel
theorem dX6_sign_3 : decode cX6_sign 3 = .ok (.getfield 7, 3) := by decide +kernel
theorem dX6_sign_6 : decode cX6_sign 6 = .ok (.bipush 112, 2) := by decide +kernel
theorem dX6_sign_8 : decode cX6_sign 8 = .ok (.iaload, 1) := by decide +kernel
theorem dX6_sign_9 : decode cX6_sign 9 = .ok (.invokestatic 29, 3) := by decide +kernel
theorem dX6_sign_12 : decode cX6_sign 12 = .ok (.ifCond .eq 9, 3) := by decide +kernel
theorem dX6_sign_15 : decode cX6_sign 15 = .ok (.iload_n 1, 1) := by decide +kernel
theorem dX6_sign_16 : decode cX6_sign 16 = .ok (.bipush 6, 2) := by decide +kernel
theorem dX6_sign_18 : decode cX6_sign 18 = .ok (.if_icmp .ne 5, 3) := by decide +kernel
theorem dX6_sign_21 : decode cX6_sign 21 = .ok (.iconst (-1), 1) := by decide +kernel
theorem dX6_sign_22 : decode cX6_sign 22 = .ok (.ireturn, 1) := by decide +kernel
theorem dX6_sign_23 : decode cX6_sign 23 = .ok (.iload_n 2, 1) := by decide +kernel
theorem dX6_sign_24 : decode cX6_sign 24 = .ok (.iconst 0, 1) := by decide +kernel
theorem dX6_sign_25 : decode cX6_sign 25 = .ok (.iconst 5, 1) := by decide +kernel
theorem dX6_sign_26 : decode cX6_sign 26 = .ok (.invokestatic 29, 3) := by decide +kernel
theorem dX6_sign_29 : decode cX6_sign 29 = .ok (.ifCond .ne 12, 3) := by decide +kernel
theorem dX6_sign_32 : decode cX6_sign 32 = .ok (.iload_n 2, 1) := by decide +kernel
theorem dX6_sign_33 : decode cX6_sign 33 = .ok (.bipush 9, 2) := by decide +kernel
theorem dX6_sign_35 : decode cX6_sign 35 = .ok (.if_icmp .eq 6, 3) := by decide +kernel
theorem dX6_sign_38 : decode cX6_sign 38 = .ok (.bipush (-2), 2) := by decide +kernel
theorem dX6_sign_40 : decode cX6_sign 40 = .ok (.ireturn, 1) := by decide +kernel
theorem dX6_sign_41 : decode cX6_sign 41 = .ok (.aload_n 0, 1) := by decide +kernel
theorem dX6_sign_42 : decode cX6_sign 42 = .ok (.invokevirtual 53, 3) := by decide +kernel
theorem dX6_sign_45 : decode cX6_sign 45 = .ok (.aload_n 0, 1) := by decide +kernel
theorem dX6_sign_46 : decode cX6_sign 46 = .ok (.getfield 7, 3) := by decide +kernel
theorem dX6_sign_49 : decode cX6_sign 49 = .ok (.bipush 113, 2) := by decide +kernel
theorem dX6_sign_51 : decode cX6_sign 51 = .ok (.iload_n 1, 1) := by decide +kernel
theorem dX6_sign_52 : decode cX6_sign 52 = .ok (.iadd, 1) := by decide +kernel
theorem dX6_sign_53 : decode cX6_sign 53 = .ok (.iload_n 2, 1) := by decide +kernel
theorem dX6_sign_54 : decode cX6_sign 54 = .ok (.iastore, 1) := by decide +kernel
theorem dX6_sign_55 : decode cX6_sign 55 = .ok (.aload_n 0, 1) := by decide +kernel
theorem dX6_sign_56 : decode cX6_sign 56 = .ok (.getfield 7, 3) := by decide +kernel
theorem dX6_sign_59 : decode cX6_sign 59 = .ok (.bipush 112, 2) := by decide +kernel
theorem dX6_sign_61 : decode cX6_sign 61 = .ok (.dup2, 1) := by decide +kernel
theorem dX6_sign_62 : decode cX6_sign 62 = .ok (.iaload, 1) := by decide +kernel
theorem dX6_sign_63 : decode cX6_sign 63 = .ok (.iload_n 1, 1) := by decide +kernel
theorem dX6_sign_64 : decode cX6_sign 64 = .ok (.aload_n 0, 1) := by decide +kernel
theorem dX6_sign_65 : decode cX6_sign 65 = .ok (.getfield 7, 3) := by decide +kernel
theorem dX6_sign_68 : decode cX6_sign 68 = .ok (.bipush 112, 2) := by decide +kernel
theorem dX6_sign_70 : decode cX6_sign 70 = .ok (.iaload, 1) := by decide +kernel
theorem dX6_sign_71 : decode cX6_sign 71 = .ok (.if_icmp .ne 7, 3) := by decide +kernel
theorem dX6_sign_74 : decode cX6_sign 74 = .ok (.iconst 1, 1) := by decide +kernel
theorem dX6_sign_75 : decode cX6_sign 75 = .ok (.goto 4, 3) := by decide +kernel
theorem dX6_sign_78 : decode cX6_sign 78 = .ok (.iconst 0, 1) := by decide +kernel
theorem dX6_sign_79 : decode cX6_sign 79 = .ok (.iadd, 1) := by decide +kernel
theorem dX6_sign_80 : decode cX6_sign 80 = .ok (.iastore, 1) := by decide +kernel
theorem dX6_sign_81 : decode cX6_sign 81 = .ok (.aload_n 0, 1) := by decide +kernel
theorem dX6_sign_82 : decode cX6_sign 82 = .ok (.getfield 7, 3) := by decide +kernel
theorem dX6_sign_85 : decode cX6_sign 85 = .ok (.bipush 112, 2) := by decide +kernel
theorem dX6_sign_87 : decode cX6_sign 87 = .ok (.iaload, 1) := by decide +kernel
theorem dX6_sign_88 : decode cX6_sign 88 = .ok (.ireturn, 1) := by decide +kernel
set_option maxRecDepth 20000 in
theorem ggX6_cutMotif_X6_record : GoodIn wsX6_cutMotif wsX6_record := goodIn_r _ [6, 7, 8, 1, 9, 10, 11, 12, 13, 14, 15, 16, 17, 18, 19] (by decide +kernel) (by decide +kernel)
set_option maxRecDepth 20000 in
theorem gX6_cutMotif_X6_record : GoodIn wsX6_cutMotif (wsV RX6 53 RX6 yX6_record wsX6_record) := goodIn_app (goodIn_of _ (by decide +kernel)) ggX6_cutMotif_X6_record
theorem dX6_cutMotif_0 : decode cX6_cutMotif 0 = .ok (.aload_n 0, 1) := by decide +kernel
theorem dX6_cutMotif_1 : decode cX6_cutMotif 1 = .ok (.getfield 7, 3) := by decide +kernel
theorem dX6_cutMotif_4 : decode cX6_cutMotif 4 = .ok (.bipush 112, 2) := by decide +kernel
theorem dX6_cutMotif_6 : decode cX6_cutMotif 6 = .ok (.iaload, 1) := by decide +kernel
theorem dX6_cutMotif_7 : decode cX6_cutMotif 7 = .ok (.ifCond .ne 6, 3) := by decide +kernel
theorem dX6_cutMotif_10 : decode cX6_cutMotif 10 = .ok (.bipush (-3), 2) := by decide +kernel
theorem dX6_cutMotif_12 : decode cX6_cutMotif 12 = .ok (.ireturn, 1) := by decide +kernel
theorem dX6_cutMotif_13 : decode cX6_cutMotif 13 = .ok (.aload_n 0, 1) := by decide +kernel
theorem dX6_cutMotif_14 : decode cX6_cutMotif 14 = .ok (.invokevirtual 53, 3) := by decide +kernel
theorem dX6_cutMotif_17 : decode cX6_cutMotif 17 = .ok (.aload_n 0, 1) := by decide +kernel
theorem dX6_cutMotif_18 : decode cX6_cutMotif 18 = .ok (.getfield 7, 3) := by decide +kernel
theorem dX6_cutMotif_21 : decode cX6_cutMotif 21 = .ok (.bipush 112, 2) := by decide +kernel
theorem dX6_cutMotif_23 : decode cX6_cutMotif 23 = .ok (.dup2, 1) := by decide +kernel
theorem dX6_cutMotif_24 : decode cX6_cutMotif 24 = .ok (.iaload, 1) := by decide +kernel
theorem dX6_cutMotif_25 : decode cX6_cutMotif 25 = .ok (.iconst 1, 1) := by decide +kernel
theorem dX6_cutMotif_26 : decode cX6_cutMotif 26 = .ok (.isub, 1) := by decide +kernel
theorem dX6_cutMotif_27 : decode cX6_cutMotif 27 = .ok (.iastore, 1) := by decide +kernel
theorem dX6_cutMotif_28 : decode cX6_cutMotif 28 = .ok (.aload_n 0, 1) := by decide +kernel
theorem dX6_cutMotif_29 : decode cX6_cutMotif 29 = .ok (.getfield 7, 3) := by decide +kernel
theorem dX6_cutMotif_32 : decode cX6_cutMotif 32 = .ok (.bipush 112, 2) := by decide +kernel
theorem dX6_cutMotif_34 : decode cX6_cutMotif 34 = .ok (.iaload, 1) := by decide +kernel
theorem dX6_cutMotif_35 : decode cX6_cutMotif 35 = .ok (.ireturn, 1) := by decide +kernel
set_option maxRecDepth 20000 in
theorem ggX6_motif_X6_in : GoodIn wsX6_motif wsX6_in := goodIn_r _ [5] (by decide +kernel) (by decide +kernel)
set_option maxRecDepth 20000 in
theorem gX6_motif_X6_in : GoodIn wsX6_motif (va_wsS RX6 29 yX6_in wsX6_in) := goodIn_app (goodIn_of _ (by decide +kernel)) ggX6_motif_X6_in
theorem dX6_motif_0 : decode cX6_motif 0 = .ok (.iload_n 1, 1) := by decide +kernel
theorem dX6_motif_1 : decode cX6_motif 1 = .ok (.iconst 0, 1) := by decide +kernel
theorem dX6_motif_2 : decode cX6_motif 2 = .ok (.aload_n 0, 1) := by decide +kernel
theorem dX6_motif_3 : decode cX6_motif 3 = .ok (.getfield 7, 3) := by decide +kernel
theorem dX6_motif_6 : decode cX6_motif 6 = .ok (.bipush 112, 2) := by decide +kernel
theorem dX6_motif_8 : decode cX6_motif 8 = .ok (.iaload, 1) := by decide +kernel
theorem dX6_motif_9 : decode cX6_motif 9 = .ok (.iconst 1, 1) := by decide +kernel
theorem dX6_motif_10 : decode cX6_motif 10 = .ok (.isub, 1) := by decide +kernel
theorem dX6_motif_11 : decode cX6_motif 11 = .ok (.invokestatic 29, 3) := by decide +kernel
theorem dX6_motif_14 : decode cX6_motif 14 = .ok (.ifCond .eq 15, 3) := by decide +kernel
theorem dX6_motif_17 : decode cX6_motif 17 = .ok (.aload_n 0, 1) := by decide +kernel
theorem dX6_motif_18 : decode cX6_motif 18 = .ok (.getfield 7, 3) := by decide +kernel
theorem dX6_motif_21 : decode cX6_motif 21 = .ok (.bipush 113, 2) := by decide +kernel
theorem dX6_motif_23 : decode cX6_motif 23 = .ok (.iload_n 1, 1) := by decide +kernel
theorem dX6_motif_24 : decode cX6_motif 24 = .ok (.iadd, 1) := by decide +kernel
theorem dX6_motif_25 : decode cX6_motif 25 = .ok (.iaload, 1) := by decide +kernel
theorem dX6_motif_26 : decode cX6_motif 26 = .ok (.goto 4, 3) := by decide +kernel
theorem dX6_motif_29 : decode cX6_motif 29 = .ok (.iconst (-1), 1) := by decide +kernel
theorem dX6_motif_30 : decode cX6_motif 30 = .ok (.ireturn, 1) := by decide +kernel
set_option maxRecDepth 20000 in
theorem ggX6_motifAt_X6_isBracelet : GoodIn wsX6_motifAt wsX6_isBracelet := goodIn_r _ [5, 6, 7, 4, 8, 9, 10, 11, 12, 13, 26, 27, 28, 29, 30, 31, 32, 33, 34, 35, 36] (by decide +kernel) (by decide +kernel)
set_option maxRecDepth 20000 in
theorem gX6_motifAt_X6_isBracelet : GoodIn wsX6_motifAt (wsV RX6 37 RX6 yX6_isBracelet wsX6_isBracelet) := goodIn_app (goodIn_of _ (by decide +kernel)) ggX6_motifAt_X6_isBracelet
set_option maxRecDepth 20000 in
theorem ggX6_motifAt_X6_places : GoodIn wsX6_motifAt wsX6_places := goodIn_r _ [17, 9, 10, 11, 4, 12, 13, 18, 19, 20, 21, 22, 23, 24, 25, 26, 27, 28, 29, 30, 31, 32, 33, 34, 35, 36] (by decide +kernel) (by decide +kernel)
set_option maxRecDepth 20000 in
theorem gX6_motifAt_X6_places : GoodIn wsX6_motifAt (wsV RX6 142 RX6 yX6_places wsX6_places) := goodIn_app (goodIn_of _ (by decide +kernel)) ggX6_motifAt_X6_places
theorem dX6_motifAt_0 : decode cX6_motifAt 0 = .ok (.aload_n 0, 1) := by decide +kernel
theorem dX6_motifAt_1 : decode cX6_motifAt 1 = .ok (.iload_n 1, 1) := by decide +kernel
theorem dX6_motifAt_2 : decode cX6_motifAt 2 = .ok (.invokevirtual 37, 3) := by decide +kernel
theorem dX6_motifAt_5 : decode cX6_motifAt 5 = .ok (.ifCond .eq 11, 3) := by decide +kernel
theorem dX6_motifAt_8 : decode cX6_motifAt 8 = .ok (.aload_n 0, 1) := by decide +kernel
theorem dX6_motifAt_9 : decode cX6_motifAt 9 = .ok (.iload_n 1, 1) := by decide +kernel
theorem dX6_motifAt_10 : decode cX6_motifAt 10 = .ok (.invokevirtual 142, 3) := by decide +kernel
theorem dX6_motifAt_13 : decode cX6_motifAt 13 = .ok (.goto 4, 3) := by decide +kernel
theorem dX6_motifAt_16 : decode cX6_motifAt 16 = .ok (.iconst (-1), 1) := by decide +kernel
theorem dX6_motifAt_17 : decode cX6_motifAt 17 = .ok (.ireturn, 1) := by decide +kernel
set_option maxRecDepth 20000 in
theorem ggX6_staysAt_X6_isBracelet : GoodIn wsX6_staysAt wsX6_isBracelet := goodIn_r _ [5, 6, 7, 4, 8, 9, 10, 11, 12, 13, 26, 27, 28, 29, 30, 31, 32, 33, 34, 35, 36] (by decide +kernel) (by decide +kernel)
set_option maxRecDepth 20000 in
theorem gX6_staysAt_X6_isBracelet : GoodIn wsX6_staysAt (wsV RX6 37 RX6 yX6_isBracelet wsX6_isBracelet) := goodIn_app (goodIn_of _ (by decide +kernel)) ggX6_staysAt_X6_isBracelet
set_option maxRecDepth 20000 in
theorem ggX6_staysAt_X6_places : GoodIn wsX6_staysAt wsX6_places := goodIn_r _ [17, 9, 10, 11, 4, 12, 13, 18, 19, 20, 21, 22, 23, 24, 25, 26, 27, 28, 29, 30, 31, 32, 33, 34, 35, 36] (by decide +kernel) (by decide +kernel)
set_option maxRecDepth 20000 in
theorem gX6_staysAt_X6_places : GoodIn wsX6_staysAt (wsV RX6 142 RX6 yX6_places wsX6_places) := goodIn_app (goodIn_of _ (by decide +kernel)) ggX6_staysAt_X6_places
set_option maxRecDepth 20000 in
theorem ggX6_staysAt_X6_slots : GoodIn wsX6_staysAt wsX6_slots := goodIn_r _ [12, 13, 26, 27, 28, 29, 30, 31, 32, 33, 34, 35, 36] (by decide +kernel) (by decide +kernel)
set_option maxRecDepth 20000 in
theorem gX6_staysAt_X6_slots : GoodIn wsX6_staysAt (wsV RX6 33 RX6 yX6_slots wsX6_slots) := goodIn_app (goodIn_of _ (by decide +kernel)) ggX6_staysAt_X6_slots
theorem dX6_staysAt_0 : decode cX6_staysAt 0 = .ok (.aload_n 0, 1) := by decide +kernel
theorem dX6_staysAt_1 : decode cX6_staysAt 1 = .ok (.iload_n 1, 1) := by decide +kernel
theorem dX6_staysAt_2 : decode cX6_staysAt 2 = .ok (.invokevirtual 37, 3) := by decide +kernel
theorem dX6_staysAt_5 : decode cX6_staysAt 5 = .ok (.ifCond .ne 5, 3) := by decide +kernel
theorem dX6_staysAt_8 : decode cX6_staysAt 8 = .ok (.iconst (-1), 1) := by decide +kernel
theorem dX6_staysAt_9 : decode cX6_staysAt 9 = .ok (.ireturn, 1) := by decide +kernel
theorem dX6_staysAt_10 : decode cX6_staysAt 10 = .ok (.aload_n 0, 1) := by decide +kernel
theorem dX6_staysAt_11 : decode cX6_staysAt 11 = .ok (.iload_n 1, 1) := by decide +kernel
theorem dX6_staysAt_12 : decode cX6_staysAt 12 = .ok (.invokevirtual 142, 3) := by decide +kernel
theorem dX6_staysAt_15 : decode cX6_staysAt 15 = .ok (.istore_n 2, 1) := by decide +kernel
theorem dX6_staysAt_16 : decode cX6_staysAt 16 = .ok (.iconst 0, 1) := by decide +kernel
theorem dX6_staysAt_17 : decode cX6_staysAt 17 = .ok (.istore_n 3, 1) := by decide +kernel
theorem dX6_staysAt_18 : decode cX6_staysAt 18 = .ok (.iconst 0, 1) := by decide +kernel
theorem dX6_staysAt_19 : decode cX6_staysAt 19 = .ok (.istore 4, 2) := by decide +kernel
theorem dX6_staysAt_21 : decode cX6_staysAt 21 = .ok (.iload 4, 2) := by decide +kernel
theorem dX6_staysAt_23 : decode cX6_staysAt 23 = .ok (.aload_n 0, 1) := by decide +kernel
theorem dX6_staysAt_24 : decode cX6_staysAt 24 = .ok (.iload_n 1, 1) := by decide +kernel
theorem dX6_staysAt_25 : decode cX6_staysAt 25 = .ok (.invokevirtual 33, 3) := by decide +kernel
theorem dX6_staysAt_28 : decode cX6_staysAt 28 = .ok (.if_icmp .ge 82, 3) := by decide +kernel
theorem dX6_staysAt_31 : decode cX6_staysAt 31 = .ok (.iconst 1, 1) := by decide +kernel
theorem dX6_staysAt_32 : decode cX6_staysAt 32 = .ok (.istore 5, 2) := by decide +kernel
theorem dX6_staysAt_34 : decode cX6_staysAt 34 = .ok (.iconst 0, 1) := by decide +kernel
theorem dX6_staysAt_35 : decode cX6_staysAt 35 = .ok (.istore 6, 2) := by decide +kernel
theorem dX6_staysAt_37 : decode cX6_staysAt 37 = .ok (.iload 6, 2) := by decide +kernel
theorem dX6_staysAt_39 : decode cX6_staysAt 39 = .ok (.iconst 4, 1) := by decide +kernel
theorem dX6_staysAt_40 : decode cX6_staysAt 40 = .ok (.if_icmp .ge 48, 3) := by decide +kernel
theorem dX6_staysAt_43 : decode cX6_staysAt 43 = .ok (.iload 5, 2) := by decide +kernel
theorem dX6_staysAt_45 : decode cX6_staysAt 45 = .ok (.ifCond .eq 34, 3) := by decide +kernel
theorem dX6_staysAt_48 : decode cX6_staysAt 48 = .ok (.iload_n 2, 1) := by decide +kernel
theorem dX6_staysAt_49 : decode cX6_staysAt 49 = .ok (.iload 4, 2) := by decide +kernel
theorem dX6_staysAt_51 : decode cX6_staysAt 51 = .ok (.iload 6, 2) := by decide +kernel
theorem dX6_staysAt_53 : decode cX6_staysAt 53 = .ok (.aload_n 0, 1) := by decide +kernel
theorem dX6_staysAt_54 : decode cX6_staysAt 54 = .ok (.iload_n 1, 1) := by decide +kernel
theorem dX6_staysAt_55 : decode cX6_staysAt 55 = .ok (.invokevirtual 33, 3) := by decide +kernel
theorem dX6_staysAt_58 : decode cX6_staysAt 58 = .ok (.imul, 1) := by decide +kernel
theorem dX6_staysAt_59 : decode cX6_staysAt 59 = .ok (.iconst 4, 1) := by decide +kernel
theorem dX6_staysAt_60 : decode cX6_staysAt 60 = .ok (.idiv, 1) := by decide +kernel
theorem dX6_staysAt_61 : decode cX6_staysAt 61 = .ok (.iadd, 1) := by decide +kernel
theorem dX6_staysAt_62 : decode cX6_staysAt 62 = .ok (.aload_n 0, 1) := by decide +kernel
theorem dX6_staysAt_63 : decode cX6_staysAt 63 = .ok (.iload_n 1, 1) := by decide +kernel
theorem dX6_staysAt_64 : decode cX6_staysAt 64 = .ok (.invokevirtual 33, 3) := by decide +kernel
theorem dX6_staysAt_67 : decode cX6_staysAt 67 = .ok (.irem, 1) := by decide +kernel
theorem dX6_staysAt_68 : decode cX6_staysAt 68 = .ok (.ishr, 1) := by decide +kernel
theorem dX6_staysAt_69 : decode cX6_staysAt 69 = .ok (.iconst 1, 1) := by decide +kernel
theorem dX6_staysAt_70 : decode cX6_staysAt 70 = .ok (.iand, 1) := by decide +kernel
theorem dX6_staysAt_71 : decode cX6_staysAt 71 = .ok (.iconst 1, 1) := by decide +kernel
theorem dX6_staysAt_72 : decode cX6_staysAt 72 = .ok (.if_icmp .ne 7, 3) := by decide +kernel
theorem dX6_staysAt_75 : decode cX6_staysAt 75 = .ok (.iconst 1, 1) := by decide +kernel
theorem dX6_staysAt_76 : decode cX6_staysAt 76 = .ok (.goto 4, 3) := by decide +kernel
theorem dX6_staysAt_79 : decode cX6_staysAt 79 = .ok (.iconst 0, 1) := by decide +kernel
theorem dX6_staysAt_80 : decode cX6_staysAt 80 = .ok (.istore 5, 2) := by decide +kernel
theorem dX6_staysAt_82 : decode cX6_staysAt 82 = .ok (.iinc 6 1, 3) := by decide +kernel
theorem dX6_staysAt_85 : decode cX6_staysAt 85 = .ok (.goto (-48), 3) := by decide +kernel
theorem dX6_staysAt_88 : decode cX6_staysAt 88 = .ok (.iload_n 3, 1) := by decide +kernel
theorem dX6_staysAt_89 : decode cX6_staysAt 89 = .ok (.iload 5, 2) := by decide +kernel
theorem dX6_staysAt_91 : decode cX6_staysAt 91 = .ok (.ifCond .eq 10, 3) := by decide +kernel
theorem dX6_staysAt_94 : decode cX6_staysAt 94 = .ok (.iconst 1, 1) := by decide +kernel
theorem dX6_staysAt_95 : decode cX6_staysAt 95 = .ok (.iload 4, 2) := by decide +kernel
theorem dX6_staysAt_97 : decode cX6_staysAt 97 = .ok (.ishl, 1) := by decide +kernel
theorem dX6_staysAt_98 : decode cX6_staysAt 98 = .ok (.goto 4, 3) := by decide +kernel
theorem dX6_staysAt_101 : decode cX6_staysAt 101 = .ok (.iconst 0, 1) := by decide +kernel
theorem dX6_staysAt_102 : decode cX6_staysAt 102 = .ok (.ior, 1) := by decide +kernel
theorem dX6_staysAt_103 : decode cX6_staysAt 103 = .ok (.istore_n 3, 1) := by decide +kernel
theorem dX6_staysAt_104 : decode cX6_staysAt 104 = .ok (.iinc 4 1, 3) := by decide +kernel
theorem dX6_staysAt_107 : decode cX6_staysAt 107 = .ok (.goto (-86), 3) := by decide +kernel
theorem dX6_staysAt_110 : decode cX6_staysAt 110 = .ok (.iload_n 3, 1) := by decide +kernel
theorem dX6_staysAt_111 : decode cX6_staysAt 111 = .ok (.ireturn, 1) := by decide +kernel
set_option maxRecDepth 20000 in
theorem ggX6_isOf_X6_slots : GoodIn wsX6_isOf wsX6_slots := goodIn_r _ [6, 1, 26, 27, 28, 29, 30, 31, 32, 33, 34, 35, 36] (by decide +kernel) (by decide +kernel)
set_option maxRecDepth 20000 in
theorem gX6_isOf_X6_slots : GoodIn wsX6_isOf (wsV RX6 33 RX6 yX6_slots wsX6_slots) := goodIn_app (goodIn_of _ (by decide +kernel)) ggX6_isOf_X6_slots
set_option maxRecDepth 20000 in
theorem ggX6_isOf_X6_leastChange : GoodIn wsX6_isOf wsX6_leastChange := goodIn_r _ [10, 2, 3, 4, 5, 6, 1, 11, 12, 13, 14, 15, 16, 17, 18, 19, 20, 21, 22, 23, 24, 25, 26, 27, 28, 29, 30, 31, 32, 33, 34, 35, 36] (by decide +kernel) (by decide +kernel)
set_option maxRecDepth 20000 in
theorem gX6_isOf_X6_leastChange : GoodIn wsX6_isOf (wsV RX6 127 RX6 yX6_leastChange wsX6_leastChange) := goodIn_app (goodIn_of _ (by decide +kernel)) ggX6_isOf_X6_leastChange
set_option maxRecDepth 20000 in
theorem ggX6_isOf_X6_behind : GoodIn wsX6_isOf wsX6_behind := goodIn_r _ [21, 1, 2, 3, 4, 5, 6, 22, 23, 24, 25, 26, 27, 28, 29, 30, 31, 32, 33, 34, 35, 36] (by decide +kernel) (by decide +kernel)
set_option maxRecDepth 20000 in
theorem gX6_isOf_X6_behind : GoodIn wsX6_isOf (wsV RX6 102 RX6 yX6_behind wsX6_behind) := goodIn_app (goodIn_of _ (by decide +kernel)) ggX6_isOf_X6_behind
theorem dX6_isOf_0 : decode cX6_isOf 0 = .ok (.bipush 120, 2) := by decide +kernel
theorem dX6_isOf_2 : decode cX6_isOf 2 = .ok (.bipush 18, 2) := by decide +kernel
theorem dX6_isOf_4 : decode cX6_isOf 4 = .ok (.iload_n 1, 1) := by decide +kernel
theorem dX6_isOf_5 : decode cX6_isOf 5 = .ok (.imul, 1) := by decide +kernel
theorem dX6_isOf_6 : decode cX6_isOf 6 = .ok (.iadd, 1) := by decide +kernel
theorem dX6_isOf_7 : decode cX6_isOf 7 = .ok (.istore_n 3, 1) := by decide +kernel
theorem dX6_isOf_8 : decode cX6_isOf 8 = .ok (.aload_n 0, 1) := by decide +kernel
theorem dX6_isOf_9 : decode cX6_isOf 9 = .ok (.iload_n 2, 1) := by decide +kernel
theorem dX6_isOf_10 : decode cX6_isOf 10 = .ok (.invokevirtual 33, 3) := by decide +kernel
theorem dX6_isOf_13 : decode cX6_isOf 13 = .ok (.aload_n 0, 1) := by decide +kernel
theorem dX6_isOf_14 : decode cX6_isOf 14 = .ok (.getfield 7, 3) := by decide +kernel
theorem dX6_isOf_17 : decode cX6_isOf 17 = .ok (.iload_n 3, 1) := by decide +kernel
theorem dX6_isOf_18 : decode cX6_isOf 18 = .ok (.iaload, 1) := by decide +kernel
theorem dX6_isOf_19 : decode cX6_isOf 19 = .ok (.if_icmp .ne 11, 3) := by decide +kernel
theorem dX6_isOf_22 : decode cX6_isOf 22 = .ok (.aload_n 0, 1) := by decide +kernel
theorem dX6_isOf_23 : decode cX6_isOf 23 = .ok (.iload_n 2, 1) := by decide +kernel
theorem dX6_isOf_24 : decode cX6_isOf 24 = .ok (.invokevirtual 33, 3) := by decide +kernel
theorem dX6_isOf_27 : decode cX6_isOf 27 = .ok (.ifCond .ne 5, 3) := by decide +kernel
theorem dX6_isOf_30 : decode cX6_isOf 30 = .ok (.iconst 0, 1) := by decide +kernel
theorem dX6_isOf_31 : decode cX6_isOf 31 = .ok (.ireturn, 1) := by decide +kernel
theorem dX6_isOf_32 : decode cX6_isOf 32 = .ok (.aload_n 0, 1) := by decide +kernel
theorem dX6_isOf_33 : decode cX6_isOf 33 = .ok (.iload_n 2, 1) := by decide +kernel
theorem dX6_isOf_34 : decode cX6_isOf 34 = .ok (.iconst 1, 1) := by decide +kernel
theorem dX6_isOf_35 : decode cX6_isOf 35 = .ok (.invokevirtual 127, 3) := by decide +kernel
theorem dX6_isOf_38 : decode cX6_isOf 38 = .ok (.istore 4, 2) := by decide +kernel
theorem dX6_isOf_40 : decode cX6_isOf 40 = .ok (.iconst 1, 1) := by decide +kernel
theorem dX6_isOf_41 : decode cX6_isOf 41 = .ok (.istore 5, 2) := by decide +kernel
theorem dX6_isOf_43 : decode cX6_isOf 43 = .ok (.iconst 0, 1) := by decide +kernel
theorem dX6_isOf_44 : decode cX6_isOf 44 = .ok (.istore 6, 2) := by decide +kernel
theorem dX6_isOf_46 : decode cX6_isOf 46 = .ok (.iload 6, 2) := by decide +kernel
theorem dX6_isOf_48 : decode cX6_isOf 48 = .ok (.aload_n 0, 1) := by decide +kernel
theorem dX6_isOf_49 : decode cX6_isOf 49 = .ok (.iload_n 2, 1) := by decide +kernel
theorem dX6_isOf_50 : decode cX6_isOf 50 = .ok (.invokevirtual 33, 3) := by decide +kernel
theorem dX6_isOf_53 : decode cX6_isOf 53 = .ok (.if_icmp .ge 45, 3) := by decide +kernel
theorem dX6_isOf_56 : decode cX6_isOf 56 = .ok (.iload 5, 2) := by decide +kernel
theorem dX6_isOf_58 : decode cX6_isOf 58 = .ok (.ifCond .eq 31, 3) := by decide +kernel
theorem dX6_isOf_61 : decode cX6_isOf 61 = .ok (.aload_n 0, 1) := by decide +kernel
theorem dX6_isOf_62 : decode cX6_isOf 62 = .ok (.iload_n 2, 1) := by decide +kernel
theorem dX6_isOf_63 : decode cX6_isOf 63 = .ok (.iconst 1, 1) := by decide +kernel
theorem dX6_isOf_64 : decode cX6_isOf 64 = .ok (.iload 4, 2) := by decide +kernel
theorem dX6_isOf_66 : decode cX6_isOf 66 = .ok (.iload 6, 2) := by decide +kernel
theorem dX6_isOf_68 : decode cX6_isOf 68 = .ok (.invokevirtual 102, 3) := by decide +kernel
theorem dX6_isOf_71 : decode cX6_isOf 71 = .ok (.aload_n 0, 1) := by decide +kernel
theorem dX6_isOf_72 : decode cX6_isOf 72 = .ok (.getfield 7, 3) := by decide +kernel
theorem dX6_isOf_75 : decode cX6_isOf 75 = .ok (.iload_n 3, 1) := by decide +kernel
theorem dX6_isOf_76 : decode cX6_isOf 76 = .ok (.iconst 1, 1) := by decide +kernel
theorem dX6_isOf_77 : decode cX6_isOf 77 = .ok (.iadd, 1) := by decide +kernel
theorem dX6_isOf_78 : decode cX6_isOf 78 = .ok (.iload 6, 2) := by decide +kernel
theorem dX6_isOf_80 : decode cX6_isOf 80 = .ok (.iadd, 1) := by decide +kernel
theorem dX6_isOf_81 : decode cX6_isOf 81 = .ok (.iaload, 1) := by decide +kernel
theorem dX6_isOf_82 : decode cX6_isOf 82 = .ok (.if_icmp .ne 7, 3) := by decide +kernel
theorem dX6_isOf_85 : decode cX6_isOf 85 = .ok (.iconst 1, 1) := by decide +kernel
theorem dX6_isOf_86 : decode cX6_isOf 86 = .ok (.goto 4, 3) := by decide +kernel
theorem dX6_isOf_89 : decode cX6_isOf 89 = .ok (.iconst 0, 1) := by decide +kernel
theorem dX6_isOf_90 : decode cX6_isOf 90 = .ok (.istore 5, 2) := by decide +kernel
theorem dX6_isOf_92 : decode cX6_isOf 92 = .ok (.iinc 6 1, 3) := by decide +kernel
theorem dX6_isOf_95 : decode cX6_isOf 95 = .ok (.goto (-49), 3) := by decide +kernel
theorem dX6_isOf_98 : decode cX6_isOf 98 = .ok (.iload 5, 2) := by decide +kernel
theorem dX6_isOf_100 : decode cX6_isOf 100 = .ok (.ireturn, 1) := by decide +kernel
set_option maxRecDepth 20000 in
theorem ggX6_note_X6_isBracelet : GoodIn wsX6_note wsX6_isBracelet := goodIn_r _ [6, 7, 8, 5, 9, 10, 11, 12, 13, 1, 43, 44, 45, 46, 47, 48, 49, 50, 51, 52, 53] (by decide +kernel) (by decide +kernel)
set_option maxRecDepth 20000 in
theorem gX6_note_X6_isBracelet : GoodIn wsX6_note (wsV RX6 37 RX6 yX6_isBracelet wsX6_isBracelet) := goodIn_app (goodIn_of _ (by decide +kernel)) ggX6_note_X6_isBracelet
set_option maxRecDepth 20000 in
theorem ggX6_note_X6_isOf : GoodIn wsX6_note wsX6_isOf := goodIn_r _ [17, 1, 10, 11, 12, 5, 13, 18, 19, 20, 21, 22, 23, 24, 25, 26, 27, 28, 29, 30, 31, 32, 33, 34, 35, 36, 43, 44, 45, 46, 47, 48, 49, 50, 51, 52, 53] (by decide +kernel) (by decide +kernel)
set_option maxRecDepth 20000 in
theorem gX6_note_X6_isOf : GoodIn wsX6_note (wsV RX6 148 RX6 yX6_isOf wsX6_isOf) := goodIn_app (goodIn_of _ (by decide +kernel)) ggX6_note_X6_isOf
set_option maxRecDepth 20000 in
theorem ggX6_note_X6_record : GoodIn wsX6_note wsX6_record := goodIn_r _ [40, 41, 42, 1, 43, 44, 45, 46, 47, 48, 49, 50, 51, 52, 53] (by decide +kernel) (by decide +kernel)
set_option maxRecDepth 20000 in
theorem gX6_note_X6_record : GoodIn wsX6_note (wsV RX6 53 RX6 yX6_record wsX6_record) := goodIn_app (goodIn_of _ (by decide +kernel)) ggX6_note_X6_record
set_option maxRecDepth 20000 in
theorem ggX6_note_X6_leastChange : GoodIn wsX6_note wsX6_leastChange := goodIn_r _ [21, 10, 11, 12, 5, 13, 1, 22, 23, 24, 25, 26, 27, 28, 29, 30, 31, 32, 33, 34, 35, 36, 43, 44, 45, 46, 47, 48, 49, 50, 51, 52, 53] (by decide +kernel) (by decide +kernel)
set_option maxRecDepth 20000 in
theorem gX6_note_X6_leastChange : GoodIn wsX6_note (wsV RX6 127 RX6 yX6_leastChange wsX6_leastChange) := goodIn_app (goodIn_of _ (by decide +kernel)) ggX6_note_X6_leastChange
set_option maxRecDepth 20000 in
theorem ggX6_note_X6_slots : GoodIn wsX6_note wsX6_slots := goodIn_r _ [13, 1, 43, 44, 45, 46, 47, 48, 49, 50, 51, 52, 53] (by decide +kernel) (by decide +kernel)
set_option maxRecDepth 20000 in
theorem gX6_note_X6_slots : GoodIn wsX6_note (wsV RX6 33 RX6 yX6_slots wsX6_slots) := goodIn_app (goodIn_of _ (by decide +kernel)) ggX6_note_X6_slots
set_option maxRecDepth 20000 in
theorem ggX6_note_X6_behind : GoodIn wsX6_note wsX6_behind := goodIn_r _ [32, 1, 10, 11, 12, 5, 13, 33, 34, 35, 36, 43, 44, 45, 46, 47, 48, 49, 50, 51, 52, 53] (by decide +kernel) (by decide +kernel)
set_option maxRecDepth 20000 in
theorem gX6_note_X6_behind : GoodIn wsX6_note (wsV RX6 102 RX6 yX6_behind wsX6_behind) := goodIn_app (goodIn_of _ (by decide +kernel)) ggX6_note_X6_behind
theorem dX6_note_0 : decode cX6_note 0 = .ok (.aload_n 0, 1) := by decide +kernel
theorem dX6_note_1 : decode cX6_note 1 = .ok (.iload_n 1, 1) := by decide +kernel
theorem dX6_note_2 : decode cX6_note 2 = .ok (.invokevirtual 37, 3) := by decide +kernel
theorem dX6_note_5 : decode cX6_note 5 = .ok (.ifCond .ne 5, 3) := by decide +kernel
theorem dX6_note_8 : decode cX6_note 8 = .ok (.iconst (-1), 1) := by decide +kernel
theorem dX6_note_9 : decode cX6_note 9 = .ok (.ireturn, 1) := by decide +kernel
theorem dX6_note_10 : decode cX6_note 10 = .ok (.iconst 0, 1) := by decide +kernel
theorem dX6_note_11 : decode cX6_note 11 = .ok (.istore_n 2, 1) := by decide +kernel
theorem dX6_note_12 : decode cX6_note 12 = .ok (.iload_n 2, 1) := by decide +kernel
theorem dX6_note_13 : decode cX6_note 13 = .ok (.aload_n 0, 1) := by decide +kernel
theorem dX6_note_14 : decode cX6_note 14 = .ok (.getfield 7, 3) := by decide +kernel
theorem dX6_note_17 : decode cX6_note 17 = .ok (.bipush 119, 2) := by decide +kernel
theorem dX6_note_19 : decode cX6_note 19 = .ok (.iaload, 1) := by decide +kernel
theorem dX6_note_20 : decode cX6_note 20 = .ok (.if_icmp .ge 18, 3) := by decide +kernel
theorem dX6_note_23 : decode cX6_note 23 = .ok (.aload_n 0, 1) := by decide +kernel
theorem dX6_note_24 : decode cX6_note 24 = .ok (.iload_n 2, 1) := by decide +kernel
theorem dX6_note_25 : decode cX6_note 25 = .ok (.iload_n 1, 1) := by decide +kernel
theorem dX6_note_26 : decode cX6_note 26 = .ok (.invokevirtual 148, 3) := by decide +kernel
theorem dX6_note_29 : decode cX6_note 29 = .ok (.ifCond .ne 9, 3) := by decide +kernel
theorem dX6_note_32 : decode cX6_note 32 = .ok (.iinc 2 1, 3) := by decide +kernel
theorem dX6_note_35 : decode cX6_note 35 = .ok (.goto (-23), 3) := by decide +kernel
theorem dX6_note_38 : decode cX6_note 38 = .ok (.iload_n 2, 1) := by decide +kernel
theorem dX6_note_39 : decode cX6_note 39 = .ok (.bipush 10, 2) := by decide +kernel
theorem dX6_note_41 : decode cX6_note 41 = .ok (.if_icmp .ne 6, 3) := by decide +kernel
theorem dX6_note_44 : decode cX6_note 44 = .ok (.bipush (-4), 2) := by decide +kernel
theorem dX6_note_46 : decode cX6_note 46 = .ok (.ireturn, 1) := by decide +kernel
theorem dX6_note_47 : decode cX6_note 47 = .ok (.aload_n 0, 1) := by decide +kernel
theorem dX6_note_48 : decode cX6_note 48 = .ok (.invokevirtual 53, 3) := by decide +kernel
theorem dX6_note_51 : decode cX6_note 51 = .ok (.bipush 120, 2) := by decide +kernel
theorem dX6_note_53 : decode cX6_note 53 = .ok (.bipush 18, 2) := by decide +kernel
theorem dX6_note_55 : decode cX6_note 55 = .ok (.iload_n 2, 1) := by decide +kernel
theorem dX6_note_56 : decode cX6_note 56 = .ok (.imul, 1) := by decide +kernel
theorem dX6_note_57 : decode cX6_note 57 = .ok (.iadd, 1) := by decide +kernel
theorem dX6_note_58 : decode cX6_note 58 = .ok (.istore_n 3, 1) := by decide +kernel
theorem dX6_note_59 : decode cX6_note 59 = .ok (.iload_n 2, 1) := by decide +kernel
theorem dX6_note_60 : decode cX6_note 60 = .ok (.aload_n 0, 1) := by decide +kernel
theorem dX6_note_61 : decode cX6_note 61 = .ok (.getfield 7, 3) := by decide +kernel
theorem dX6_note_64 : decode cX6_note 64 = .ok (.bipush 119, 2) := by decide +kernel
theorem dX6_note_66 : decode cX6_note 66 = .ok (.iaload, 1) := by decide +kernel
theorem dX6_note_67 : decode cX6_note 67 = .ok (.if_icmp .ne 94, 3) := by decide +kernel
theorem dX6_note_70 : decode cX6_note 70 = .ok (.aload_n 0, 1) := by decide +kernel
theorem dX6_note_71 : decode cX6_note 71 = .ok (.iload_n 1, 1) := by decide +kernel
theorem dX6_note_72 : decode cX6_note 72 = .ok (.iconst 1, 1) := by decide +kernel
theorem dX6_note_73 : decode cX6_note 73 = .ok (.invokevirtual 127, 3) := by decide +kernel
theorem dX6_note_76 : decode cX6_note 76 = .ok (.istore 4, 2) := by decide +kernel
theorem dX6_note_78 : decode cX6_note 78 = .ok (.aload_n 0, 1) := by decide +kernel
theorem dX6_note_79 : decode cX6_note 79 = .ok (.getfield 7, 3) := by decide +kernel
theorem dX6_note_82 : decode cX6_note 82 = .ok (.iload_n 3, 1) := by decide +kernel
theorem dX6_note_83 : decode cX6_note 83 = .ok (.aload_n 0, 1) := by decide +kernel
theorem dX6_note_84 : decode cX6_note 84 = .ok (.iload_n 1, 1) := by decide +kernel
theorem dX6_note_85 : decode cX6_note 85 = .ok (.invokevirtual 33, 3) := by decide +kernel
theorem dX6_note_88 : decode cX6_note 88 = .ok (.iastore, 1) := by decide +kernel
theorem dX6_note_89 : decode cX6_note 89 = .ok (.iconst 0, 1) := by decide +kernel
theorem dX6_note_90 : decode cX6_note 90 = .ok (.istore 5, 2) := by decide +kernel
theorem dX6_note_92 : decode cX6_note 92 = .ok (.iload 5, 2) := by decide +kernel
theorem dX6_note_94 : decode cX6_note 94 = .ok (.bipush 16, 2) := by decide +kernel
theorem dX6_note_96 : decode cX6_note 96 = .ok (.if_icmp .ge 44, 3) := by decide +kernel
theorem dX6_note_99 : decode cX6_note 99 = .ok (.aload_n 0, 1) := by decide +kernel
theorem dX6_note_100 : decode cX6_note 100 = .ok (.getfield 7, 3) := by decide +kernel
theorem dX6_note_103 : decode cX6_note 103 = .ok (.iload_n 3, 1) := by decide +kernel
theorem dX6_note_104 : decode cX6_note 104 = .ok (.iconst 1, 1) := by decide +kernel
theorem dX6_note_105 : decode cX6_note 105 = .ok (.iadd, 1) := by decide +kernel
theorem dX6_note_106 : decode cX6_note 106 = .ok (.iload 5, 2) := by decide +kernel
theorem dX6_note_108 : decode cX6_note 108 = .ok (.iadd, 1) := by decide +kernel
theorem dX6_note_109 : decode cX6_note 109 = .ok (.iload 5, 2) := by decide +kernel
theorem dX6_note_111 : decode cX6_note 111 = .ok (.aload_n 0, 1) := by decide +kernel
theorem dX6_note_112 : decode cX6_note 112 = .ok (.iload_n 1, 1) := by decide +kernel
theorem dX6_note_113 : decode cX6_note 113 = .ok (.invokevirtual 33, 3) := by decide +kernel
theorem dX6_note_116 : decode cX6_note 116 = .ok (.if_icmp .ge 16, 3) := by decide +kernel
theorem dX6_note_119 : decode cX6_note 119 = .ok (.aload_n 0, 1) := by decide +kernel
theorem dX6_note_120 : decode cX6_note 120 = .ok (.iload_n 1, 1) := by decide +kernel
theorem dX6_note_121 : decode cX6_note 121 = .ok (.iconst 1, 1) := by decide +kernel
theorem dX6_note_122 : decode cX6_note 122 = .ok (.iload 4, 2) := by decide +kernel
theorem dX6_note_124 : decode cX6_note 124 = .ok (.iload 5, 2) := by decide +kernel
theorem dX6_note_126 : decode cX6_note 126 = .ok (.invokevirtual 102, 3) := by decide +kernel
theorem dX6_note_129 : decode cX6_note 129 = .ok (.goto 4, 3) := by decide +kernel
theorem dX6_note_132 : decode cX6_note 132 = .ok (.iconst 0, 1) := by decide +kernel
theorem dX6_note_133 : decode cX6_note 133 = .ok (.iastore, 1) := by decide +kernel
theorem dX6_note_134 : decode cX6_note 134 = .ok (.iinc 5 1, 3) := by decide +kernel
theorem dX6_note_137 : decode cX6_note 137 = .ok (.goto (-45), 3) := by decide +kernel
theorem dX6_note_140 : decode cX6_note 140 = .ok (.aload_n 0, 1) := by decide +kernel
theorem dX6_note_141 : decode cX6_note 141 = .ok (.getfield 7, 3) := by decide +kernel
theorem dX6_note_144 : decode cX6_note 144 = .ok (.iload_n 3, 1) := by decide +kernel
theorem dX6_note_145 : decode cX6_note 145 = .ok (.bipush 17, 2) := by decide +kernel
theorem dX6_note_147 : decode cX6_note 147 = .ok (.iadd, 1) := by decide +kernel
theorem dX6_note_148 : decode cX6_note 148 = .ok (.iconst 0, 1) := by decide +kernel
theorem dX6_note_149 : decode cX6_note 149 = .ok (.iastore, 1) := by decide +kernel
theorem dX6_note_150 : decode cX6_note 150 = .ok (.aload_n 0, 1) := by decide +kernel
theorem dX6_note_151 : decode cX6_note 151 = .ok (.getfield 7, 3) := by decide +kernel
theorem dX6_note_154 : decode cX6_note 154 = .ok (.bipush 119, 2) := by decide +kernel
theorem dX6_note_156 : decode cX6_note 156 = .ok (.dup2, 1) := by decide +kernel
theorem dX6_note_157 : decode cX6_note 157 = .ok (.iaload, 1) := by decide +kernel
theorem dX6_note_158 : decode cX6_note 158 = .ok (.iconst 1, 1) := by decide +kernel
theorem dX6_note_159 : decode cX6_note 159 = .ok (.iadd, 1) := by decide +kernel
theorem dX6_note_160 : decode cX6_note 160 = .ok (.iastore, 1) := by decide +kernel
theorem dX6_note_161 : decode cX6_note 161 = .ok (.aload_n 0, 1) := by decide +kernel
theorem dX6_note_162 : decode cX6_note 162 = .ok (.getfield 7, 3) := by decide +kernel
theorem dX6_note_165 : decode cX6_note 165 = .ok (.iload_n 3, 1) := by decide +kernel
theorem dX6_note_166 : decode cX6_note 166 = .ok (.bipush 17, 2) := by decide +kernel
theorem dX6_note_168 : decode cX6_note 168 = .ok (.iadd, 1) := by decide +kernel
theorem dX6_note_169 : decode cX6_note 169 = .ok (.dup2, 1) := by decide +kernel
theorem dX6_note_170 : decode cX6_note 170 = .ok (.iaload, 1) := by decide +kernel
theorem dX6_note_171 : decode cX6_note 171 = .ok (.iconst 1, 1) := by decide +kernel
theorem dX6_note_172 : decode cX6_note 172 = .ok (.iadd, 1) := by decide +kernel
theorem dX6_note_173 : decode cX6_note 173 = .ok (.iastore, 1) := by decide +kernel
theorem dX6_note_174 : decode cX6_note 174 = .ok (.iload_n 2, 1) := by decide +kernel
theorem dX6_note_175 : decode cX6_note 175 = .ok (.ireturn, 1) := by decide +kernel
theorem dX6_entries_0 : decode cX6_entries 0 = .ok (.aload_n 0, 1) := by decide +kernel
theorem dX6_entries_1 : decode cX6_entries 1 = .ok (.getfield 7, 3) := by decide +kernel
theorem dX6_entries_4 : decode cX6_entries 4 = .ok (.bipush 119, 2) := by decide +kernel
theorem dX6_entries_6 : decode cX6_entries 6 = .ok (.iaload, 1) := by decide +kernel
theorem dX6_entries_7 : decode cX6_entries 7 = .ok (.ireturn, 1) := by decide +kernel
set_option maxRecDepth 20000 in
theorem ggX6_entry_X6_in : GoodIn wsX6_entry wsX6_in := goodIn_r _ [5] (by decide +kernel) (by decide +kernel)
set_option maxRecDepth 20000 in
theorem gX6_entry_X6_in : GoodIn wsX6_entry (va_wsS RX6 29 yX6_in wsX6_in) := goodIn_app (goodIn_of _ (by decide +kernel)) ggX6_entry_X6_in
set_option maxRecDepth 20000 in
theorem ggX6_entry_X6_isOf : GoodIn wsX6_entry wsX6_isOf := goodIn_r _ [9, 1, 10, 11, 12, 4, 13, 14, 15, 16, 17, 18, 19, 20, 21, 22, 23, 24, 25, 26, 27, 28, 29, 30, 31, 32, 33, 34, 35, 36, 37, 38, 39, 40, 41, 42, 43] (by decide +kernel) (by decide +kernel)
set_option maxRecDepth 20000 in
theorem gX6_entry_X6_isOf : GoodIn wsX6_entry (wsV RX6 148 RX6 yX6_isOf wsX6_isOf) := goodIn_app (goodIn_of _ (by decide +kernel)) ggX6_entry_X6_isOf
theorem dX6_entry_0 : decode cX6_entry 0 = .ok (.iload_n 1, 1) := by decide +kernel
theorem dX6_entry_1 : decode cX6_entry 1 = .ok (.iconst 0, 1) := by decide +kernel
theorem dX6_entry_2 : decode cX6_entry 2 = .ok (.aload_n 0, 1) := by decide +kernel
theorem dX6_entry_3 : decode cX6_entry 3 = .ok (.getfield 7, 3) := by decide +kernel
theorem dX6_entry_6 : decode cX6_entry 6 = .ok (.bipush 119, 2) := by decide +kernel
theorem dX6_entry_8 : decode cX6_entry 8 = .ok (.iaload, 1) := by decide +kernel
theorem dX6_entry_9 : decode cX6_entry 9 = .ok (.iconst 1, 1) := by decide +kernel
theorem dX6_entry_10 : decode cX6_entry 10 = .ok (.isub, 1) := by decide +kernel
theorem dX6_entry_11 : decode cX6_entry 11 = .ok (.invokestatic 29, 3) := by decide +kernel
theorem dX6_entry_14 : decode cX6_entry 14 = .ok (.ifCond .ne 5, 3) := by decide +kernel
theorem dX6_entry_17 : decode cX6_entry 17 = .ok (.iconst (-1), 1) := by decide +kernel
theorem dX6_entry_18 : decode cX6_entry 18 = .ok (.ireturn, 1) := by decide +kernel
theorem dX6_entry_19 : decode cX6_entry 19 = .ok (.iload_n 2, 1) := by decide +kernel
theorem dX6_entry_20 : decode cX6_entry 20 = .ok (.iconst 0, 1) := by decide +kernel
theorem dX6_entry_21 : decode cX6_entry 21 = .ok (.iconst 2, 1) := by decide +kernel
theorem dX6_entry_22 : decode cX6_entry 22 = .ok (.invokestatic 29, 3) := by decide +kernel
theorem dX6_entry_25 : decode cX6_entry 25 = .ok (.ifCond .ne 6, 3) := by decide +kernel
theorem dX6_entry_28 : decode cX6_entry 28 = .ok (.bipush (-2), 2) := by decide +kernel
theorem dX6_entry_30 : decode cX6_entry 30 = .ok (.ireturn, 1) := by decide +kernel
theorem dX6_entry_31 : decode cX6_entry 31 = .ok (.iconst 0, 1) := by decide +kernel
theorem dX6_entry_32 : decode cX6_entry 32 = .ok (.istore_n 3, 1) := by decide +kernel
theorem dX6_entry_33 : decode cX6_entry 33 = .ok (.iconst 0, 1) := by decide +kernel
theorem dX6_entry_34 : decode cX6_entry 34 = .ok (.istore 4, 2) := by decide +kernel
theorem dX6_entry_36 : decode cX6_entry 36 = .ok (.iload 4, 2) := by decide +kernel
theorem dX6_entry_38 : decode cX6_entry 38 = .ok (.bipush 6, 2) := by decide +kernel
theorem dX6_entry_40 : decode cX6_entry 40 = .ok (.if_icmp .ge 27, 3) := by decide +kernel
theorem dX6_entry_43 : decode cX6_entry 43 = .ok (.iload_n 3, 1) := by decide +kernel
theorem dX6_entry_44 : decode cX6_entry 44 = .ok (.aload_n 0, 1) := by decide +kernel
theorem dX6_entry_45 : decode cX6_entry 45 = .ok (.iload_n 1, 1) := by decide +kernel
theorem dX6_entry_46 : decode cX6_entry 46 = .ok (.iload 4, 2) := by decide +kernel
theorem dX6_entry_48 : decode cX6_entry 48 = .ok (.invokevirtual 148, 3) := by decide +kernel
theorem dX6_entry_51 : decode cX6_entry 51 = .ok (.ifCond .eq 7, 3) := by decide +kernel
theorem dX6_entry_54 : decode cX6_entry 54 = .ok (.iconst 1, 1) := by decide +kernel
theorem dX6_entry_55 : decode cX6_entry 55 = .ok (.goto 4, 3) := by decide +kernel
theorem dX6_entry_58 : decode cX6_entry 58 = .ok (.iconst 0, 1) := by decide +kernel
theorem dX6_entry_59 : decode cX6_entry 59 = .ok (.iadd, 1) := by decide +kernel
theorem dX6_entry_60 : decode cX6_entry 60 = .ok (.istore_n 3, 1) := by decide +kernel
theorem dX6_entry_61 : decode cX6_entry 61 = .ok (.iinc 4 1, 3) := by decide +kernel
theorem dX6_entry_64 : decode cX6_entry 64 = .ok (.goto (-28), 3) := by decide +kernel
theorem dX6_entry_67 : decode cX6_entry 67 = .ok (.iload_n 2, 1) := by decide +kernel
theorem dX6_entry_68 : decode cX6_entry 68 = .ok (.ifCond .ne 18, 3) := by decide +kernel
theorem dX6_entry_71 : decode cX6_entry 71 = .ok (.aload_n 0, 1) := by decide +kernel
theorem dX6_entry_72 : decode cX6_entry 72 = .ok (.getfield 7, 3) := by decide +kernel
theorem dX6_entry_75 : decode cX6_entry 75 = .ok (.bipush 120, 2) := by decide +kernel
theorem dX6_entry_77 : decode cX6_entry 77 = .ok (.bipush 18, 2) := by decide +kernel
theorem dX6_entry_79 : decode cX6_entry 79 = .ok (.iload_n 1, 1) := by decide +kernel
theorem dX6_entry_80 : decode cX6_entry 80 = .ok (.imul, 1) := by decide +kernel
theorem dX6_entry_81 : decode cX6_entry 81 = .ok (.iadd, 1) := by decide +kernel
theorem dX6_entry_82 : decode cX6_entry 82 = .ok (.iaload, 1) := by decide +kernel
theorem dX6_entry_83 : decode cX6_entry 83 = .ok (.goto 27, 3) := by decide +kernel
theorem dX6_entry_86 : decode cX6_entry 86 = .ok (.iload_n 2, 1) := by decide +kernel
theorem dX6_entry_87 : decode cX6_entry 87 = .ok (.iconst 1, 1) := by decide +kernel
theorem dX6_entry_88 : decode cX6_entry 88 = .ok (.if_icmp .ne 21, 3) := by decide +kernel
theorem dX6_entry_91 : decode cX6_entry 91 = .ok (.aload_n 0, 1) := by decide +kernel
theorem dX6_entry_92 : decode cX6_entry 92 = .ok (.getfield 7, 3) := by decide +kernel
theorem dX6_entry_95 : decode cX6_entry 95 = .ok (.bipush 120, 2) := by decide +kernel
theorem dX6_entry_97 : decode cX6_entry 97 = .ok (.bipush 18, 2) := by decide +kernel
theorem dX6_entry_99 : decode cX6_entry 99 = .ok (.iload_n 1, 1) := by decide +kernel
theorem dX6_entry_100 : decode cX6_entry 100 = .ok (.imul, 1) := by decide +kernel
theorem dX6_entry_101 : decode cX6_entry 101 = .ok (.iadd, 1) := by decide +kernel
theorem dX6_entry_102 : decode cX6_entry 102 = .ok (.bipush 17, 2) := by decide +kernel
theorem dX6_entry_104 : decode cX6_entry 104 = .ok (.iadd, 1) := by decide +kernel
theorem dX6_entry_105 : decode cX6_entry 105 = .ok (.iaload, 1) := by decide +kernel
theorem dX6_entry_106 : decode cX6_entry 106 = .ok (.goto 4, 3) := by decide +kernel
theorem dX6_entry_109 : decode cX6_entry 109 = .ok (.iload_n 3, 1) := by decide +kernel
theorem dX6_entry_110 : decode cX6_entry 110 = .ok (.ireturn, 1) := by decide +kernel
set_option maxRecDepth 20000 in
theorem ggX6_ifHung_X6_isSlot : GoodIn wsX6_ifHung wsX6_isSlot := goodIn_r _ [6, 7, 8, 9, 5, 10, 11, 12, 13, 14, 15, 16, 17, 1, 33, 34, 35, 36, 37, 38, 39, 40, 41, 42, 43] (by decide +kernel) (by decide +kernel)
set_option maxRecDepth 20000 in
theorem gX6_ifHung_X6_isSlot : GoodIn wsX6_ifHung (wsV RX6 82 RX6 yX6_isSlot wsX6_isSlot) := goodIn_app (goodIn_of _ (by decide +kernel)) ggX6_ifHung_X6_isSlot
set_option maxRecDepth 20000 in
theorem ggX6_ifHung_X6_in : GoodIn wsX6_ifHung wsX6_in := goodIn_r _ [13] (by decide +kernel) (by decide +kernel)
set_option maxRecDepth 20000 in
theorem gX6_ifHung_X6_in : GoodIn wsX6_ifHung (va_wsS RX6 29 yX6_in wsX6_in) := goodIn_app (goodIn_of _ (by decide +kernel)) ggX6_ifHung_X6_in
set_option maxRecDepth 20000 in
theorem ggX6_ifHung_X6_at : GoodIn wsX6_ifHung wsX6_at := goodIn_r _ [21, 14, 15, 16, 5, 17, 1, 33, 34, 35, 36, 37, 38, 39, 40, 41, 42, 43] (by decide +kernel) (by decide +kernel)
set_option maxRecDepth 20000 in
theorem gX6_ifHung_X6_at : GoodIn wsX6_ifHung (wsV RX6 59 RX6 yX6_at wsX6_at) := goodIn_app (goodIn_of _ (by decide +kernel)) ggX6_ifHung_X6_at
set_option maxRecDepth 20000 in
theorem ggX6_ifHung_X6_places : GoodIn wsX6_ifHung wsX6_places := goodIn_r _ [25, 14, 15, 16, 5, 17, 1, 26, 27, 28, 29, 18, 19, 20, 21, 33, 34, 35, 36, 37, 38, 39, 40, 41, 42, 43] (by decide +kernel) (by decide +kernel)
set_option maxRecDepth 20000 in
theorem gX6_ifHung_X6_places : GoodIn wsX6_ifHung (wsV RX6 142 RX6 yX6_places wsX6_places) := goodIn_app (goodIn_of _ (by decide +kernel)) ggX6_ifHung_X6_places
set_option maxRecDepth 20000 in
theorem ggX6_ifHung_X6_bits : GoodIn wsX6_ifHung wsX6_bits := goodIn_r _ [32] (by decide +kernel) (by decide +kernel)
set_option maxRecDepth 20000 in
theorem gX6_ifHung_X6_bits : GoodIn wsX6_ifHung (va_wsS RX6 145 yX6_bits wsX6_bits) := goodIn_app (goodIn_of _ (by decide +kernel)) ggX6_ifHung_X6_bits
theorem dX6_ifHung_0 : decode cX6_ifHung 0 = .ok (.aload_n 0, 1) := by decide +kernel
theorem dX6_ifHung_1 : decode cX6_ifHung 1 = .ok (.iload_n 1, 1) := by decide +kernel
theorem dX6_ifHung_2 : decode cX6_ifHung 2 = .ok (.iload_n 2, 1) := by decide +kernel
theorem dX6_ifHung_3 : decode cX6_ifHung 3 = .ok (.invokevirtual 82, 3) := by decide +kernel
theorem dX6_ifHung_6 : decode cX6_ifHung 6 = .ok (.ifCond .ne 5, 3) := by decide +kernel
theorem dX6_ifHung_9 : decode cX6_ifHung 9 = .ok (.iconst (-1), 1) := by decide +kernel
theorem dX6_ifHung_10 : decode cX6_ifHung 10 = .ok (.ireturn, 1) := by decide +kernel
theorem dX6_ifHung_11 : decode cX6_ifHung 11 = .ok (.iload_n 3, 1) := by decide +kernel
theorem dX6_ifHung_12 : decode cX6_ifHung 12 = .ok (.iconst 0, 1) := by decide +kernel
theorem dX6_ifHung_13 : decode cX6_ifHung 13 = .ok (.iconst 5, 1) := by decide +kernel
theorem dX6_ifHung_14 : decode cX6_ifHung 14 = .ok (.invokestatic 29, 3) := by decide +kernel
theorem dX6_ifHung_17 : decode cX6_ifHung 17 = .ok (.ifCond .ne 6, 3) := by decide +kernel
theorem dX6_ifHung_20 : decode cX6_ifHung 20 = .ok (.bipush (-2), 2) := by decide +kernel
theorem dX6_ifHung_22 : decode cX6_ifHung 22 = .ok (.ireturn, 1) := by decide +kernel
theorem dX6_ifHung_23 : decode cX6_ifHung 23 = .ok (.aload_n 0, 1) := by decide +kernel
theorem dX6_ifHung_24 : decode cX6_ifHung 24 = .ok (.getfield 7, 3) := by decide +kernel
theorem dX6_ifHung_27 : decode cX6_ifHung 27 = .ok (.aload_n 0, 1) := by decide +kernel
theorem dX6_ifHung_28 : decode cX6_ifHung 28 = .ok (.iload_n 1, 1) := by decide +kernel
theorem dX6_ifHung_29 : decode cX6_ifHung 29 = .ok (.iload_n 2, 1) := by decide +kernel
theorem dX6_ifHung_30 : decode cX6_ifHung 30 = .ok (.invokevirtual 59, 3) := by decide +kernel
theorem dX6_ifHung_33 : decode cX6_ifHung 33 = .ok (.iaload, 1) := by decide +kernel
theorem dX6_ifHung_34 : decode cX6_ifHung 34 = .ok (.istore 4, 2) := by decide +kernel
theorem dX6_ifHung_36 : decode cX6_ifHung 36 = .ok (.aload_n 0, 1) := by decide +kernel
theorem dX6_ifHung_37 : decode cX6_ifHung 37 = .ok (.getfield 7, 3) := by decide +kernel
theorem dX6_ifHung_40 : decode cX6_ifHung 40 = .ok (.aload_n 0, 1) := by decide +kernel
theorem dX6_ifHung_41 : decode cX6_ifHung 41 = .ok (.iload_n 1, 1) := by decide +kernel
theorem dX6_ifHung_42 : decode cX6_ifHung 42 = .ok (.iload_n 2, 1) := by decide +kernel
theorem dX6_ifHung_43 : decode cX6_ifHung 43 = .ok (.invokevirtual 59, 3) := by decide +kernel
theorem dX6_ifHung_46 : decode cX6_ifHung 46 = .ok (.iload_n 3, 1) := by decide +kernel
theorem dX6_ifHung_47 : decode cX6_ifHung 47 = .ok (.iastore, 1) := by decide +kernel
theorem dX6_ifHung_48 : decode cX6_ifHung 48 = .ok (.aload_n 0, 1) := by decide +kernel
theorem dX6_ifHung_49 : decode cX6_ifHung 49 = .ok (.iload_n 1, 1) := by decide +kernel
theorem dX6_ifHung_50 : decode cX6_ifHung 50 = .ok (.invokevirtual 142, 3) := by decide +kernel
theorem dX6_ifHung_53 : decode cX6_ifHung 53 = .ok (.invokestatic 145, 3) := by decide +kernel
theorem dX6_ifHung_56 : decode cX6_ifHung 56 = .ok (.istore 5, 2) := by decide +kernel
theorem dX6_ifHung_58 : decode cX6_ifHung 58 = .ok (.aload_n 0, 1) := by decide +kernel
theorem dX6_ifHung_59 : decode cX6_ifHung 59 = .ok (.getfield 7, 3) := by decide +kernel
theorem dX6_ifHung_62 : decode cX6_ifHung 62 = .ok (.aload_n 0, 1) := by decide +kernel
theorem dX6_ifHung_63 : decode cX6_ifHung 63 = .ok (.iload_n 1, 1) := by decide +kernel
theorem dX6_ifHung_64 : decode cX6_ifHung 64 = .ok (.iload_n 2, 1) := by decide +kernel
theorem dX6_ifHung_65 : decode cX6_ifHung 65 = .ok (.invokevirtual 59, 3) := by decide +kernel
theorem dX6_ifHung_68 : decode cX6_ifHung 68 = .ok (.iload 4, 2) := by decide +kernel
theorem dX6_ifHung_70 : decode cX6_ifHung 70 = .ok (.iastore, 1) := by decide +kernel
theorem dX6_ifHung_71 : decode cX6_ifHung 71 = .ok (.iload 5, 2) := by decide +kernel
theorem dX6_ifHung_73 : decode cX6_ifHung 73 = .ok (.ireturn, 1) := by decide +kernel
set_option maxRecDepth 20000 in
theorem ggX6_bestSwap_X6_isBracelet : GoodIn wsX6_bestSwap wsX6_isBracelet := goodIn_r _ [5, 6, 7, 4, 8, 9, 10, 11, 12, 13, 37, 38, 39, 40, 41, 42, 43, 44, 45, 46, 47] (by decide +kernel) (by decide +kernel)
set_option maxRecDepth 20000 in
theorem gX6_bestSwap_X6_isBracelet : GoodIn wsX6_bestSwap (wsV RX6 37 RX6 yX6_isBracelet wsX6_isBracelet) := goodIn_app (goodIn_of _ (by decide +kernel)) ggX6_bestSwap_X6_isBracelet
set_option maxRecDepth 20000 in
theorem ggX6_bestSwap_X6_lean : GoodIn wsX6_bestSwap wsX6_lean := goodIn_r _ [17, 18, 19, 20, 4, 21, 13, 9, 10, 11, 12, 22, 23, 24, 25, 26, 27, 28, 29, 30, 31, 32, 37, 38, 39, 40, 41, 42, 43, 44, 45, 46, 47] (by decide +kernel) (by decide +kernel)
set_option maxRecDepth 20000 in
theorem gX6_bestSwap_X6_lean : GoodIn wsX6_bestSwap (wsV RX6 99 RX6 yX6_lean wsX6_lean) := goodIn_app (goodIn_of _ (by decide +kernel)) ggX6_bestSwap_X6_lean
set_option maxRecDepth 20000 in
theorem ggX6_bestSwap_X6_slots : GoodIn wsX6_bestSwap wsX6_slots := goodIn_r _ [12, 13, 37, 38, 39, 40, 41, 42, 43, 44, 45, 46, 47] (by decide +kernel) (by decide +kernel)
set_option maxRecDepth 20000 in
theorem gX6_bestSwap_X6_slots : GoodIn wsX6_bestSwap (wsV RX6 33 RX6 yX6_slots wsX6_slots) := goodIn_app (goodIn_of _ (by decide +kernel)) ggX6_bestSwap_X6_slots
set_option maxRecDepth 20000 in
theorem ggX6_bestSwap_X6_exchange : GoodIn wsX6_bestSwap wsX6_exchange := goodIn_r _ [36, 13, 22, 23, 24, 4, 25, 9, 10, 11, 12, 37, 38, 39, 40, 41, 42, 43, 44, 45, 46, 47] (by decide +kernel) (by decide +kernel)
set_option maxRecDepth 20000 in
theorem gX6_bestSwap_X6_exchange : GoodIn wsX6_bestSwap (wsV RX6 95 RX6 yX6_exchange wsX6_exchange) := goodIn_app (goodIn_of _ (by decide +kernel)) ggX6_bestSwap_X6_exchange
theorem dX6_bestSwap_0 : decode cX6_bestSwap 0 = .ok (.aload_n 0, 1) := by decide +kernel
theorem dX6_bestSwap_1 : decode cX6_bestSwap 1 = .ok (.iload_n 1, 1) := by decide +kernel
theorem dX6_bestSwap_2 : decode cX6_bestSwap 2 = .ok (.invokevirtual 37, 3) := by decide +kernel
theorem dX6_bestSwap_5 : decode cX6_bestSwap 5 = .ok (.ifCond .ne 5, 3) := by decide +kernel
theorem dX6_bestSwap_8 : decode cX6_bestSwap 8 = .ok (.iconst (-1), 1) := by decide +kernel
theorem dX6_bestSwap_9 : decode cX6_bestSwap 9 = .ok (.ireturn, 1) := by decide +kernel
theorem dX6_bestSwap_10 : decode cX6_bestSwap 10 = .ok (.bipush (-6), 2) := by decide +kernel
theorem dX6_bestSwap_12 : decode cX6_bestSwap 12 = .ok (.istore_n 2, 1) := by decide +kernel
theorem dX6_bestSwap_13 : decode cX6_bestSwap 13 = .ok (.aload_n 0, 1) := by decide +kernel
theorem dX6_bestSwap_14 : decode cX6_bestSwap 14 = .ok (.iload_n 1, 1) := by decide +kernel
theorem dX6_bestSwap_15 : decode cX6_bestSwap 15 = .ok (.invokevirtual 99, 3) := by decide +kernel
theorem dX6_bestSwap_18 : decode cX6_bestSwap 18 = .ok (.istore_n 3, 1) := by decide +kernel
theorem dX6_bestSwap_19 : decode cX6_bestSwap 19 = .ok (.iconst 0, 1) := by decide +kernel
theorem dX6_bestSwap_20 : decode cX6_bestSwap 20 = .ok (.istore 4, 2) := by decide +kernel
theorem dX6_bestSwap_22 : decode cX6_bestSwap 22 = .ok (.iload 4, 2) := by decide +kernel
theorem dX6_bestSwap_24 : decode cX6_bestSwap 24 = .ok (.aload_n 0, 1) := by decide +kernel
theorem dX6_bestSwap_25 : decode cX6_bestSwap 25 = .ok (.iload_n 1, 1) := by decide +kernel
theorem dX6_bestSwap_26 : decode cX6_bestSwap 26 = .ok (.invokevirtual 33, 3) := by decide +kernel
theorem dX6_bestSwap_29 : decode cX6_bestSwap 29 = .ok (.if_icmp .ge 88, 3) := by decide +kernel
theorem dX6_bestSwap_32 : decode cX6_bestSwap 32 = .ok (.iload 4, 2) := by decide +kernel
theorem dX6_bestSwap_34 : decode cX6_bestSwap 34 = .ok (.iconst 1, 1) := by decide +kernel
theorem dX6_bestSwap_35 : decode cX6_bestSwap 35 = .ok (.iadd, 1) := by decide +kernel
theorem dX6_bestSwap_36 : decode cX6_bestSwap 36 = .ok (.istore 5, 2) := by decide +kernel
theorem dX6_bestSwap_38 : decode cX6_bestSwap 38 = .ok (.iload 5, 2) := by decide +kernel
theorem dX6_bestSwap_40 : decode cX6_bestSwap 40 = .ok (.aload_n 0, 1) := by decide +kernel
theorem dX6_bestSwap_41 : decode cX6_bestSwap 41 = .ok (.iload_n 1, 1) := by decide +kernel
theorem dX6_bestSwap_42 : decode cX6_bestSwap 42 = .ok (.invokevirtual 33, 3) := by decide +kernel
theorem dX6_bestSwap_45 : decode cX6_bestSwap 45 = .ok (.if_icmp .ge 66, 3) := by decide +kernel
theorem dX6_bestSwap_48 : decode cX6_bestSwap 48 = .ok (.aload_n 0, 1) := by decide +kernel
theorem dX6_bestSwap_49 : decode cX6_bestSwap 49 = .ok (.iload_n 1, 1) := by decide +kernel
theorem dX6_bestSwap_50 : decode cX6_bestSwap 50 = .ok (.iload 4, 2) := by decide +kernel
theorem dX6_bestSwap_52 : decode cX6_bestSwap 52 = .ok (.iload 5, 2) := by decide +kernel
theorem dX6_bestSwap_54 : decode cX6_bestSwap 54 = .ok (.invokevirtual 95, 3) := by decide +kernel
theorem dX6_bestSwap_57 : decode cX6_bestSwap 57 = .ok (.aload_n 0, 1) := by decide +kernel
theorem dX6_bestSwap_58 : decode cX6_bestSwap 58 = .ok (.iload_n 1, 1) := by decide +kernel
theorem dX6_bestSwap_59 : decode cX6_bestSwap 59 = .ok (.invokevirtual 99, 3) := by decide +kernel
theorem dX6_bestSwap_62 : decode cX6_bestSwap 62 = .ok (.istore 6, 2) := by decide +kernel
theorem dX6_bestSwap_64 : decode cX6_bestSwap 64 = .ok (.aload_n 0, 1) := by decide +kernel
theorem dX6_bestSwap_65 : decode cX6_bestSwap 65 = .ok (.iload_n 1, 1) := by decide +kernel
theorem dX6_bestSwap_66 : decode cX6_bestSwap 66 = .ok (.iload 4, 2) := by decide +kernel
theorem dX6_bestSwap_68 : decode cX6_bestSwap 68 = .ok (.iload 5, 2) := by decide +kernel
theorem dX6_bestSwap_70 : decode cX6_bestSwap 70 = .ok (.invokevirtual 95, 3) := by decide +kernel
theorem dX6_bestSwap_73 : decode cX6_bestSwap 73 = .ok (.iload 6, 2) := by decide +kernel
theorem dX6_bestSwap_75 : decode cX6_bestSwap 75 = .ok (.iload_n 3, 1) := by decide +kernel
theorem dX6_bestSwap_76 : decode cX6_bestSwap 76 = .ok (.if_icmp .ge 14, 3) := by decide +kernel
theorem dX6_bestSwap_79 : decode cX6_bestSwap 79 = .ok (.bipush 100, 2) := by decide +kernel
theorem dX6_bestSwap_81 : decode cX6_bestSwap 81 = .ok (.iload 4, 2) := by decide +kernel
theorem dX6_bestSwap_83 : decode cX6_bestSwap 83 = .ok (.imul, 1) := by decide +kernel
theorem dX6_bestSwap_84 : decode cX6_bestSwap 84 = .ok (.iload 5, 2) := by decide +kernel
theorem dX6_bestSwap_86 : decode cX6_bestSwap 86 = .ok (.iadd, 1) := by decide +kernel
theorem dX6_bestSwap_87 : decode cX6_bestSwap 87 = .ok (.goto 4, 3) := by decide +kernel
theorem dX6_bestSwap_90 : decode cX6_bestSwap 90 = .ok (.iload_n 2, 1) := by decide +kernel
theorem dX6_bestSwap_91 : decode cX6_bestSwap 91 = .ok (.istore_n 2, 1) := by decide +kernel
theorem dX6_bestSwap_92 : decode cX6_bestSwap 92 = .ok (.iload 6, 2) := by decide +kernel
theorem dX6_bestSwap_94 : decode cX6_bestSwap 94 = .ok (.iload_n 3, 1) := by decide +kernel
theorem dX6_bestSwap_95 : decode cX6_bestSwap 95 = .ok (.if_icmp .ge 8, 3) := by decide +kernel
theorem dX6_bestSwap_98 : decode cX6_bestSwap 98 = .ok (.iload 6, 2) := by decide +kernel
theorem dX6_bestSwap_100 : decode cX6_bestSwap 100 = .ok (.goto 4, 3) := by decide +kernel
theorem dX6_bestSwap_103 : decode cX6_bestSwap 103 = .ok (.iload_n 3, 1) := by decide +kernel
theorem dX6_bestSwap_104 : decode cX6_bestSwap 104 = .ok (.istore_n 3, 1) := by decide +kernel
theorem dX6_bestSwap_105 : decode cX6_bestSwap 105 = .ok (.iinc 5 1, 3) := by decide +kernel
theorem dX6_bestSwap_108 : decode cX6_bestSwap 108 = .ok (.goto (-70), 3) := by decide +kernel
theorem dX6_bestSwap_111 : decode cX6_bestSwap 111 = .ok (.iinc 4 1, 3) := by decide +kernel
theorem dX6_bestSwap_114 : decode cX6_bestSwap 114 = .ok (.goto (-92), 3) := by decide +kernel
theorem dX6_bestSwap_117 : decode cX6_bestSwap 117 = .ok (.iload_n 2, 1) := by decide +kernel
theorem dX6_bestSwap_118 : decode cX6_bestSwap 118 = .ok (.ireturn, 1) := by decide +kernel
set_option maxRecDepth 20000 in
theorem ggX6_append_X6_in : GoodIn wsX6_append wsX6_in := goodIn_r _ [6] (by decide +kernel) (by decide +kernel)
set_option maxRecDepth 20000 in
theorem gX6_append_X6_in : GoodIn wsX6_append (va_wsS RX6 29 yX6_in wsX6_in) := goodIn_app (goodIn_of _ (by decide +kernel)) ggX6_append_X6_in
theorem dX6_append_0 : decode cX6_append 0 = .ok (.iload_n 1, 1) := by decide +kernel
theorem dX6_append_1 : decode cX6_append 1 = .ok (.bipush 33, 2) := by decide +kernel
theorem dX6_append_3 : decode cX6_append 3 = .ok (.bipush 126, 2) := by decide +kernel
theorem dX6_append_5 : decode cX6_append 5 = .ok (.invokestatic 29, 3) := by decide +kernel
theorem dX6_append_8 : decode cX6_append 8 = .ok (.ifCond .ne 6, 3) := by decide +kernel
theorem dX6_append_11 : decode cX6_append 11 = .ok (.bipush (-2), 2) := by decide +kernel
theorem dX6_append_13 : decode cX6_append 13 = .ok (.ireturn, 1) := by decide +kernel
theorem dX6_append_14 : decode cX6_append 14 = .ok (.aload_n 0, 1) := by decide +kernel
theorem dX6_append_15 : decode cX6_append 15 = .ok (.getfield 151, 3) := by decide +kernel
theorem dX6_append_18 : decode cX6_append 18 = .ok (.bipush 60, 2) := by decide +kernel
theorem dX6_append_20 : decode cX6_append 20 = .ok (.if_icmp .ne 6, 3) := by decide +kernel
theorem dX6_append_23 : decode cX6_append 23 = .ok (.bipush (-4), 2) := by decide +kernel
theorem dX6_append_25 : decode cX6_append 25 = .ok (.ireturn, 1) := by decide +kernel
theorem dX6_append_26 : decode cX6_append 26 = .ok (.aload_n 0, 1) := by decide +kernel
theorem dX6_append_27 : decode cX6_append 27 = .ok (.getfield 19, 3) := by decide +kernel
theorem dX6_append_30 : decode cX6_append 30 = .ok (.aload_n 0, 1) := by decide +kernel
theorem dX6_append_31 : decode cX6_append 31 = .ok (.getfield 151, 3) := by decide +kernel
theorem dX6_append_34 : decode cX6_append 34 = .ok (.iload_n 1, 1) := by decide +kernel
theorem dX6_append_35 : decode cX6_append 35 = .ok (.i2c, 1) := by decide +kernel
theorem dX6_append_36 : decode cX6_append 36 = .ok (.castore, 1) := by decide +kernel
theorem dX6_append_37 : decode cX6_append 37 = .ok (.aload_n 0, 1) := by decide +kernel
theorem dX6_append_38 : decode cX6_append 38 = .ok (.dup, 1) := by decide +kernel
theorem dX6_append_39 : decode cX6_append 39 = .ok (.getfield 151, 3) := by decide +kernel
theorem dX6_append_42 : decode cX6_append 42 = .ok (.iconst 1, 1) := by decide +kernel
theorem dX6_append_43 : decode cX6_append 43 = .ok (.iadd, 1) := by decide +kernel
theorem dX6_append_44 : decode cX6_append 44 = .ok (.putfield 151, 3) := by decide +kernel
theorem dX6_append_47 : decode cX6_append 47 = .ok (.aload_n 0, 1) := by decide +kernel
theorem dX6_append_48 : decode cX6_append 48 = .ok (.getfield 151, 3) := by decide +kernel
theorem dX6_append_51 : decode cX6_append 51 = .ok (.ireturn, 1) := by decide +kernel
theorem dX6_clearText_0 : decode cX6_clearText 0 = .ok (.aload_n 0, 1) := by decide +kernel
theorem dX6_clearText_1 : decode cX6_clearText 1 = .ok (.getfield 151, 3) := by decide +kernel
theorem dX6_clearText_4 : decode cX6_clearText 4 = .ok (.istore_n 1, 1) := by decide +kernel
theorem dX6_clearText_5 : decode cX6_clearText 5 = .ok (.aload_n 0, 1) := by decide +kernel
theorem dX6_clearText_6 : decode cX6_clearText 6 = .ok (.iconst 0, 1) := by decide +kernel
theorem dX6_clearText_7 : decode cX6_clearText 7 = .ok (.putfield 151, 3) := by decide +kernel
theorem dX6_clearText_10 : decode cX6_clearText 10 = .ok (.iload_n 1, 1) := by decide +kernel
theorem dX6_clearText_11 : decode cX6_clearText 11 = .ok (.ireturn, 1) := by decide +kernel
set_option maxRecDepth 20000 in
theorem ggX6_readOne_X6_in : GoodIn wsX6_readOne wsX6_in := goodIn_r _ [7] (by decide +kernel) (by decide +kernel)
set_option maxRecDepth 20000 in
theorem gX6_readOne_X6_in : GoodIn wsX6_readOne (va_wsS RX6 29 yX6_in wsX6_in) := goodIn_app (goodIn_of _ (by decide +kernel)) ggX6_readOne_X6_in
theorem dX6_readOne_0 : decode cX6_readOne 0 = .ok (.bipush 16, 2) := by decide +kernel
theorem dX6_readOne_2 : decode cX6_readOne 2 = .ok (.aload_n 0, 1) := by decide +kernel
theorem dX6_readOne_3 : decode cX6_readOne 3 = .ok (.getfield 154, 3) := by decide +kernel
theorem dX6_readOne_6 : decode cX6_readOne 6 = .ok (.isub, 1) := by decide +kernel
theorem dX6_readOne_7 : decode cX6_readOne 7 = .ok (.istore_n 2, 1) := by decide +kernel
theorem dX6_readOne_8 : decode cX6_readOne 8 = .ok (.iload_n 1, 1) := by decide +kernel
theorem dX6_readOne_9 : decode cX6_readOne 9 = .ok (.bipush 48, 2) := by decide +kernel
theorem dX6_readOne_11 : decode cX6_readOne 11 = .ok (.bipush 57, 2) := by decide +kernel
theorem dX6_readOne_13 : decode cX6_readOne 13 = .ok (.invokestatic 29, 3) := by decide +kernel
theorem dX6_readOne_16 : decode cX6_readOne 16 = .ok (.ifCond .eq 90, 3) := by decide +kernel
theorem dX6_readOne_19 : decode cX6_readOne 19 = .ok (.bipush 10, 2) := by decide +kernel
theorem dX6_readOne_21 : decode cX6_readOne 21 = .ok (.aload_n 0, 1) := by decide +kernel
theorem dX6_readOne_22 : decode cX6_readOne 22 = .ok (.getfield 157, 3) := by decide +kernel
theorem dX6_readOne_25 : decode cX6_readOne 25 = .ok (.imul, 1) := by decide +kernel
theorem dX6_readOne_26 : decode cX6_readOne 26 = .ok (.iload_n 1, 1) := by decide +kernel
theorem dX6_readOne_27 : decode cX6_readOne 27 = .ok (.iadd, 1) := by decide +kernel
theorem dX6_readOne_28 : decode cX6_readOne 28 = .ok (.bipush 48, 2) := by decide +kernel
theorem dX6_readOne_30 : decode cX6_readOne 30 = .ok (.isub, 1) := by decide +kernel
theorem dX6_readOne_31 : decode cX6_readOne 31 = .ok (.istore_n 3, 1) := by decide +kernel
theorem dX6_readOne_32 : decode cX6_readOne 32 = .ok (.aload_n 0, 1) := by decide +kernel
theorem dX6_readOne_33 : decode cX6_readOne 33 = .ok (.getfield 157, 3) := by decide +kernel
theorem dX6_readOne_36 : decode cX6_readOne 36 = .ok (.ifCond .ne 30, 3) := by decide +kernel
theorem dX6_readOne_39 : decode cX6_readOne 39 = .ok (.iload_n 3, 1) := by decide +kernel
theorem dX6_readOne_40 : decode cX6_readOne 40 = .ok (.ifCond .le 22, 3) := by decide +kernel
theorem dX6_readOne_43 : decode cX6_readOne 43 = .ok (.iload_n 3, 1) := by decide +kernel
theorem dX6_readOne_44 : decode cX6_readOne 44 = .ok (.iconst 1, 1) := by decide +kernel
theorem dX6_readOne_45 : decode cX6_readOne 45 = .ok (.if_icmp .ne 8, 3) := by decide +kernel
theorem dX6_readOne_48 : decode cX6_readOne 48 = .ok (.bipush 10, 2) := by decide +kernel
theorem dX6_readOne_50 : decode cX6_readOne 50 = .ok (.goto 4, 3) := by decide +kernel
theorem dX6_readOne_53 : decode cX6_readOne 53 = .ok (.iload_n 3, 1) := by decide +kernel
theorem dX6_readOne_54 : decode cX6_readOne 54 = .ok (.iload_n 2, 1) := by decide +kernel
theorem dX6_readOne_55 : decode cX6_readOne 55 = .ok (.if_icmp .gt 7, 3) := by decide +kernel
theorem dX6_readOne_58 : decode cX6_readOne 58 = .ok (.iconst 1, 1) := by decide +kernel
theorem dX6_readOne_59 : decode cX6_readOne 59 = .ok (.goto 25, 3) := by decide +kernel
theorem dX6_readOne_62 : decode cX6_readOne 62 = .ok (.iconst 0, 1) := by decide +kernel
theorem dX6_readOne_63 : decode cX6_readOne 63 = .ok (.goto 21, 3) := by decide +kernel
theorem dX6_readOne_66 : decode cX6_readOne 66 = .ok (.aload_n 0, 1) := by decide +kernel
theorem dX6_readOne_67 : decode cX6_readOne 67 = .ok (.getfield 157, 3) := by decide +kernel
theorem dX6_readOne_70 : decode cX6_readOne 70 = .ok (.iconst 1, 1) := by decide +kernel
theorem dX6_readOne_71 : decode cX6_readOne 71 = .ok (.if_icmp .ne 12, 3) := by decide +kernel
theorem dX6_readOne_74 : decode cX6_readOne 74 = .ok (.iload_n 3, 1) := by decide +kernel
theorem dX6_readOne_75 : decode cX6_readOne 75 = .ok (.iload_n 2, 1) := by decide +kernel
theorem dX6_readOne_76 : decode cX6_readOne 76 = .ok (.if_icmp .gt 7, 3) := by decide +kernel
theorem dX6_readOne_79 : decode cX6_readOne 79 = .ok (.iconst 1, 1) := by decide +kernel
theorem dX6_readOne_80 : decode cX6_readOne 80 = .ok (.goto 4, 3) := by decide +kernel
theorem dX6_readOne_83 : decode cX6_readOne 83 = .ok (.iconst 0, 1) := by decide +kernel
theorem dX6_readOne_84 : decode cX6_readOne 84 = .ok (.istore 4, 2) := by decide +kernel
theorem dX6_readOne_86 : decode cX6_readOne 86 = .ok (.aload_n 0, 1) := by decide +kernel
theorem dX6_readOne_87 : decode cX6_readOne 87 = .ok (.iload 4, 2) := by decide +kernel
theorem dX6_readOne_89 : decode cX6_readOne 89 = .ok (.ifCond .eq 7, 3) := by decide +kernel
theorem dX6_readOne_92 : decode cX6_readOne 92 = .ok (.iload_n 3, 1) := by decide +kernel
theorem dX6_readOne_93 : decode cX6_readOne 93 = .ok (.goto 7, 3) := by decide +kernel
theorem dX6_readOne_96 : decode cX6_readOne 96 = .ok (.aload_n 0, 1) := by decide +kernel
theorem dX6_readOne_97 : decode cX6_readOne 97 = .ok (.getfield 157, 3) := by decide +kernel
theorem dX6_readOne_100 : decode cX6_readOne 100 = .ok (.putfield 157, 3) := by decide +kernel
theorem dX6_readOne_103 : decode cX6_readOne 103 = .ok (.iload 4, 2) := by decide +kernel
theorem dX6_readOne_105 : decode cX6_readOne 105 = .ok (.ireturn, 1) := by decide +kernel
theorem dX6_readOne_106 : decode cX6_readOne 106 = .ok (.iload_n 1, 1) := by decide +kernel
theorem dX6_readOne_107 : decode cX6_readOne 107 = .ok (.bipush 45, 2) := by decide +kernel
theorem dX6_readOne_109 : decode cX6_readOne 109 = .ok (.if_icmp .ne 7, 3) := by decide +kernel
theorem dX6_readOne_112 : decode cX6_readOne 112 = .ok (.iconst 0, 1) := by decide +kernel
theorem dX6_readOne_113 : decode cX6_readOne 113 = .ok (.goto 25, 3) := by decide +kernel
theorem dX6_readOne_116 : decode cX6_readOne 116 = .ok (.iload_n 1, 1) := by decide +kernel
theorem dX6_readOne_117 : decode cX6_readOne 117 = .ok (.bipush 97, 2) := by decide +kernel
theorem dX6_readOne_119 : decode cX6_readOne 119 = .ok (.bipush 101, 2) := by decide +kernel
theorem dX6_readOne_121 : decode cX6_readOne 121 = .ok (.invokestatic 29, 3) := by decide +kernel
theorem dX6_readOne_124 : decode cX6_readOne 124 = .ok (.ifCond .eq 12, 3) := by decide +kernel
theorem dX6_readOne_127 : decode cX6_readOne 127 = .ok (.iload_n 1, 1) := by decide +kernel
theorem dX6_readOne_128 : decode cX6_readOne 128 = .ok (.bipush 97, 2) := by decide +kernel
theorem dX6_readOne_130 : decode cX6_readOne 130 = .ok (.isub, 1) := by decide +kernel
theorem dX6_readOne_131 : decode cX6_readOne 131 = .ok (.iconst 1, 1) := by decide +kernel
theorem dX6_readOne_132 : decode cX6_readOne 132 = .ok (.iadd, 1) := by decide +kernel
theorem dX6_readOne_133 : decode cX6_readOne 133 = .ok (.goto 5, 3) := by decide +kernel
theorem dX6_readOne_136 : decode cX6_readOne 136 = .ok (.bipush (-6), 2) := by decide +kernel
theorem dX6_readOne_138 : decode cX6_readOne 138 = .ok (.istore_n 3, 1) := by decide +kernel
theorem dX6_readOne_139 : decode cX6_readOne 139 = .ok (.aload_n 0, 1) := by decide +kernel
theorem dX6_readOne_140 : decode cX6_readOne 140 = .ok (.getfield 157, 3) := by decide +kernel
theorem dX6_readOne_143 : decode cX6_readOne 143 = .ok (.ifCond .ne 7, 3) := by decide +kernel
theorem dX6_readOne_146 : decode cX6_readOne 146 = .ok (.iconst 1, 1) := by decide +kernel
theorem dX6_readOne_147 : decode cX6_readOne 147 = .ok (.goto 7, 3) := by decide +kernel
theorem dX6_readOne_150 : decode cX6_readOne 150 = .ok (.aload_n 0, 1) := by decide +kernel
theorem dX6_readOne_151 : decode cX6_readOne 151 = .ok (.getfield 157, 3) := by decide +kernel
theorem dX6_readOne_154 : decode cX6_readOne 154 = .ok (.istore 4, 2) := by decide +kernel
theorem dX6_readOne_156 : decode cX6_readOne 156 = .ok (.iload_n 3, 1) := by decide +kernel
theorem dX6_readOne_157 : decode cX6_readOne 157 = .ok (.bipush (-6), 2) := by decide +kernel
theorem dX6_readOne_159 : decode cX6_readOne 159 = .ok (.if_icmp .eq 17, 3) := by decide +kernel
theorem dX6_readOne_162 : decode cX6_readOne 162 = .ok (.aload_n 0, 1) := by decide +kernel
theorem dX6_readOne_163 : decode cX6_readOne 163 = .ok (.getfield 157, 3) := by decide +kernel
theorem dX6_readOne_166 : decode cX6_readOne 166 = .ok (.iconst 1, 1) := by decide +kernel
theorem dX6_readOne_167 : decode cX6_readOne 167 = .ok (.if_icmp .eq 9, 3) := by decide +kernel
theorem dX6_readOne_170 : decode cX6_readOne 170 = .ok (.iload 4, 2) := by decide +kernel
theorem dX6_readOne_172 : decode cX6_readOne 172 = .ok (.iload_n 2, 1) := by decide +kernel
theorem dX6_readOne_173 : decode cX6_readOne 173 = .ok (.if_icmp .le 5, 3) := by decide +kernel
theorem dX6_readOne_176 : decode cX6_readOne 176 = .ok (.iconst 0, 1) := by decide +kernel
theorem dX6_readOne_177 : decode cX6_readOne 177 = .ok (.ireturn, 1) := by decide +kernel
theorem dX6_readOne_178 : decode cX6_readOne 178 = .ok (.iconst 0, 1) := by decide +kernel
theorem dX6_readOne_179 : decode cX6_readOne 179 = .ok (.istore 5, 2) := by decide +kernel
theorem dX6_readOne_181 : decode cX6_readOne 181 = .ok (.iload 5, 2) := by decide +kernel
theorem dX6_readOne_183 : decode cX6_readOne 183 = .ok (.iload 4, 2) := by decide +kernel
theorem dX6_readOne_185 : decode cX6_readOne 185 = .ok (.if_icmp .ge 29, 3) := by decide +kernel
theorem dX6_readOne_188 : decode cX6_readOne 188 = .ok (.aload_n 0, 1) := by decide +kernel
theorem dX6_readOne_189 : decode cX6_readOne 189 = .ok (.getfield 26, 3) := by decide +kernel
theorem dX6_readOne_192 : decode cX6_readOne 192 = .ok (.aload_n 0, 1) := by decide +kernel
theorem dX6_readOne_193 : decode cX6_readOne 193 = .ok (.getfield 154, 3) := by decide +kernel
theorem dX6_readOne_196 : decode cX6_readOne 196 = .ok (.iload_n 3, 1) := by decide +kernel
theorem dX6_readOne_197 : decode cX6_readOne 197 = .ok (.iastore, 1) := by decide +kernel
theorem dX6_readOne_198 : decode cX6_readOne 198 = .ok (.aload_n 0, 1) := by decide +kernel
theorem dX6_readOne_199 : decode cX6_readOne 199 = .ok (.dup, 1) := by decide +kernel
theorem dX6_readOne_200 : decode cX6_readOne 200 = .ok (.getfield 154, 3) := by decide +kernel
theorem dX6_readOne_203 : decode cX6_readOne 203 = .ok (.iconst 1, 1) := by decide +kernel
theorem dX6_readOne_204 : decode cX6_readOne 204 = .ok (.iadd, 1) := by decide +kernel
theorem dX6_readOne_205 : decode cX6_readOne 205 = .ok (.putfield 154, 3) := by decide +kernel
theorem dX6_readOne_208 : decode cX6_readOne 208 = .ok (.iinc 5 1, 3) := by decide +kernel
theorem dX6_readOne_211 : decode cX6_readOne 211 = .ok (.goto (-30), 3) := by decide +kernel
theorem dX6_readOne_214 : decode cX6_readOne 214 = .ok (.aload_n 0, 1) := by decide +kernel
theorem dX6_readOne_215 : decode cX6_readOne 215 = .ok (.iconst 0, 1) := by decide +kernel
theorem dX6_readOne_216 : decode cX6_readOne 216 = .ok (.putfield 157, 3) := by decide +kernel
theorem dX6_readOne_219 : decode cX6_readOne 219 = .ok (.iconst 1, 1) := by decide +kernel
theorem dX6_readOne_220 : decode cX6_readOne 220 = .ok (.ireturn, 1) := by decide +kernel
set_option maxRecDepth 20000 in
theorem ggX6_errorPosition_X6_readOne : GoodIn wsX6_errorPosition wsX6_readOne := goodIn_r _ [9, 1, 2, 10, 11, 12, 8, 13, 17, 18, 19, 20, 21, 22, 23, 24, 25, 26, 27] (by decide +kernel) (by decide +kernel)
set_option maxRecDepth 20000 in
theorem gX6_errorPosition_X6_readOne : GoodIn wsX6_errorPosition (wsV RX6 160 RX6 yX6_readOne wsX6_readOne) := goodIn_app (goodIn_of _ (by decide +kernel)) ggX6_errorPosition_X6_readOne
set_option maxRecDepth 20000 in
theorem ggX6_errorPosition_X6_isRing : GoodIn wsX6_errorPosition wsX6_isRing := goodIn_r _ [16, 11, 12, 8, 13] (by decide +kernel) (by decide +kernel)
set_option maxRecDepth 20000 in
theorem gX6_errorPosition_X6_isRing : GoodIn wsX6_errorPosition (va_wsS RX6 66 yX6_isRing wsX6_isRing) := goodIn_app (goodIn_of _ (by decide +kernel)) ggX6_errorPosition_X6_isRing
theorem dX6_errorPosition_0 : decode cX6_errorPosition 0 = .ok (.aload_n 0, 1) := by decide +kernel
theorem dX6_errorPosition_1 : decode cX6_errorPosition 1 = .ok (.iconst 0, 1) := by decide +kernel
theorem dX6_errorPosition_2 : decode cX6_errorPosition 2 = .ok (.putfield 154, 3) := by decide +kernel
theorem dX6_errorPosition_5 : decode cX6_errorPosition 5 = .ok (.aload_n 0, 1) := by decide +kernel
theorem dX6_errorPosition_6 : decode cX6_errorPosition 6 = .ok (.iconst 0, 1) := by decide +kernel
theorem dX6_errorPosition_7 : decode cX6_errorPosition 7 = .ok (.putfield 157, 3) := by decide +kernel
theorem dX6_errorPosition_10 : decode cX6_errorPosition 10 = .ok (.iconst 0, 1) := by decide +kernel
theorem dX6_errorPosition_11 : decode cX6_errorPosition 11 = .ok (.istore_n 1, 1) := by decide +kernel
theorem dX6_errorPosition_12 : decode cX6_errorPosition 12 = .ok (.iload_n 1, 1) := by decide +kernel
theorem dX6_errorPosition_13 : decode cX6_errorPosition 13 = .ok (.aload_n 0, 1) := by decide +kernel
theorem dX6_errorPosition_14 : decode cX6_errorPosition 14 = .ok (.getfield 151, 3) := by decide +kernel
theorem dX6_errorPosition_17 : decode cX6_errorPosition 17 = .ok (.if_icmp .ge 24, 3) := by decide +kernel
theorem dX6_errorPosition_20 : decode cX6_errorPosition 20 = .ok (.aload_n 0, 1) := by decide +kernel
theorem dX6_errorPosition_21 : decode cX6_errorPosition 21 = .ok (.aload_n 0, 1) := by decide +kernel
theorem dX6_errorPosition_22 : decode cX6_errorPosition 22 = .ok (.getfield 19, 3) := by decide +kernel
theorem dX6_errorPosition_25 : decode cX6_errorPosition 25 = .ok (.iload_n 1, 1) := by decide +kernel
theorem dX6_errorPosition_26 : decode cX6_errorPosition 26 = .ok (.caload, 1) := by decide +kernel
theorem dX6_errorPosition_27 : decode cX6_errorPosition 27 = .ok (.invokevirtual 160, 3) := by decide +kernel
theorem dX6_errorPosition_30 : decode cX6_errorPosition 30 = .ok (.ifCond .ne 5, 3) := by decide +kernel
theorem dX6_errorPosition_33 : decode cX6_errorPosition 33 = .ok (.iload_n 1, 1) := by decide +kernel
theorem dX6_errorPosition_34 : decode cX6_errorPosition 34 = .ok (.ireturn, 1) := by decide +kernel
theorem dX6_errorPosition_35 : decode cX6_errorPosition 35 = .ok (.iinc 1 1, 3) := by decide +kernel
theorem dX6_errorPosition_38 : decode cX6_errorPosition 38 = .ok (.goto (-26), 3) := by decide +kernel
theorem dX6_errorPosition_41 : decode cX6_errorPosition 41 = .ok (.aload_n 0, 1) := by decide +kernel
theorem dX6_errorPosition_42 : decode cX6_errorPosition 42 = .ok (.getfield 157, 3) := by decide +kernel
theorem dX6_errorPosition_45 : decode cX6_errorPosition 45 = .ok (.ifCond .ne 18, 3) := by decide +kernel
theorem dX6_errorPosition_48 : decode cX6_errorPosition 48 = .ok (.aload_n 0, 1) := by decide +kernel
theorem dX6_errorPosition_49 : decode cX6_errorPosition 49 = .ok (.getfield 154, 3) := by decide +kernel
theorem dX6_errorPosition_52 : decode cX6_errorPosition 52 = .ok (.invokestatic 66, 3) := by decide +kernel
theorem dX6_errorPosition_55 : decode cX6_errorPosition 55 = .ok (.ifCond .eq 8, 3) := by decide +kernel
theorem dX6_errorPosition_58 : decode cX6_errorPosition 58 = .ok (.bipush (-6), 2) := by decide +kernel
theorem dX6_errorPosition_60 : decode cX6_errorPosition 60 = .ok (.goto 7, 3) := by decide +kernel
theorem dX6_errorPosition_63 : decode cX6_errorPosition 63 = .ok (.aload_n 0, 1) := by decide +kernel
theorem dX6_errorPosition_64 : decode cX6_errorPosition 64 = .ok (.getfield 151, 3) := by decide +kernel
theorem dX6_errorPosition_67 : decode cX6_errorPosition 67 = .ok (.ireturn, 1) := by decide +kernel
set_option maxRecDepth 20000 in
theorem ggX6_read_X6_errorPosition : GoodIn wsX6_read wsX6_errorPosition := goodIn_r _ [9, 1, 10, 4, 11, 12, 13, 14, 8, 15, 2, 16, 17, 18, 19, 20, 21, 48, 49, 50, 51, 52, 53, 54, 55, 56, 57, 58] (by decide +kernel) (by decide +kernel)
set_option maxRecDepth 20000 in
theorem gX6_read_X6_errorPosition : GoodIn wsX6_read (wsV RX6 163 RX6 yX6_errorPosition wsX6_errorPosition) := goodIn_app (goodIn_of _ (by decide +kernel)) ggX6_read_X6_errorPosition
set_option maxRecDepth 20000 in
theorem ggX6_read_X6_free : GoodIn wsX6_read wsX6_free := goodIn_r _ [25, 26, 27, 28, 8, 29, 3, 48, 49, 50, 51, 52, 53, 54, 55, 56, 57, 58] (by decide +kernel) (by decide +kernel)
set_option maxRecDepth 20000 in
theorem gX6_read_X6_free : GoodIn wsX6_read (wsV RX6 69 RX6 yX6_free wsX6_free) := goodIn_app (goodIn_of _ (by decide +kernel)) ggX6_read_X6_free
set_option maxRecDepth 20000 in
theorem ggX6_read_X6_record : GoodIn wsX6_read wsX6_record := goodIn_r _ [33, 34, 35, 3, 48, 49, 50, 51, 52, 53, 54, 55, 56, 57, 58] (by decide +kernel) (by decide +kernel)
set_option maxRecDepth 20000 in
theorem gX6_read_X6_record : GoodIn wsX6_read (wsV RX6 53 RX6 yX6_record wsX6_record) := goodIn_app (goodIn_of _ (by decide +kernel)) ggX6_read_X6_record
set_option maxRecDepth 20000 in
theorem ggX6_read_X6_lies : GoodIn wsX6_read wsX6_lies := goodIn_r _ [39, 3, 48, 49, 50, 51, 52, 53, 54, 55, 56, 57, 58] (by decide +kernel) (by decide +kernel)
set_option maxRecDepth 20000 in
theorem gX6_read_X6_lies : GoodIn wsX6_read (wsV RX6 72 RX6 yX6_lies wsX6_lies) := goodIn_app (goodIn_of _ (by decide +kernel)) ggX6_read_X6_lies
set_option maxRecDepth 20000 in
theorem ggX6_read_X6_at : GoodIn wsX6_read wsX6_at := goodIn_r _ [43, 26, 27, 28, 8, 29, 3, 48, 49, 50, 51, 52, 53, 54, 55, 56, 57, 58] (by decide +kernel) (by decide +kernel)
set_option maxRecDepth 20000 in
theorem gX6_read_X6_at : GoodIn wsX6_read (wsV RX6 59 RX6 yX6_at wsX6_at) := goodIn_app (goodIn_of _ (by decide +kernel)) ggX6_read_X6_at
set_option maxRecDepth 20000 in
theorem ggX6_read_X6_move : GoodIn wsX6_read wsX6_move := goodIn_r _ [47, 3, 26, 27, 28, 8, 29, 40, 41, 42, 43, 48, 49, 50, 51, 52, 53, 54, 55, 56, 57, 58] (by decide +kernel) (by decide +kernel)
set_option maxRecDepth 20000 in
theorem gX6_read_X6_move : GoodIn wsX6_read (wsV RX6 76 RX6 yX6_move wsX6_move) := goodIn_app (goodIn_of _ (by decide +kernel)) ggX6_read_X6_move
theorem dX6_read_0 : decode cX6_read 0 = .ok (.aload_n 0, 1) := by decide +kernel
theorem dX6_read_1 : decode cX6_read 1 = .ok (.invokevirtual 163, 3) := by decide +kernel
theorem dX6_read_4 : decode cX6_read 4 = .ok (.bipush (-6), 2) := by decide +kernel
theorem dX6_read_6 : decode cX6_read 6 = .ok (.if_icmp .eq 6, 3) := by decide +kernel
theorem dX6_read_9 : decode cX6_read 9 = .ok (.bipush (-5), 2) := by decide +kernel
theorem dX6_read_11 : decode cX6_read 11 = .ok (.ireturn, 1) := by decide +kernel
theorem dX6_read_12 : decode cX6_read 12 = .ok (.iconst 1, 1) := by decide +kernel
theorem dX6_read_13 : decode cX6_read 13 = .ok (.istore_n 1, 1) := by decide +kernel
theorem dX6_read_14 : decode cX6_read 14 = .ok (.iload_n 1, 1) := by decide +kernel
theorem dX6_read_15 : decode cX6_read 15 = .ok (.iconst 5, 1) := by decide +kernel
theorem dX6_read_16 : decode cX6_read 16 = .ok (.if_icmp .gt 62, 3) := by decide +kernel
theorem dX6_read_19 : decode cX6_read 19 = .ok (.iconst 0, 1) := by decide +kernel
theorem dX6_read_20 : decode cX6_read 20 = .ok (.istore_n 2, 1) := by decide +kernel
theorem dX6_read_21 : decode cX6_read 21 = .ok (.iconst 0, 1) := by decide +kernel
theorem dX6_read_22 : decode cX6_read 22 = .ok (.istore_n 3, 1) := by decide +kernel
theorem dX6_read_23 : decode cX6_read 23 = .ok (.iload_n 3, 1) := by decide +kernel
theorem dX6_read_24 : decode cX6_read 24 = .ok (.aload_n 0, 1) := by decide +kernel
theorem dX6_read_25 : decode cX6_read 25 = .ok (.getfield 154, 3) := by decide +kernel
theorem dX6_read_28 : decode cX6_read 28 = .ok (.if_icmp .ge 27, 3) := by decide +kernel
theorem dX6_read_31 : decode cX6_read 31 = .ok (.iload_n 2, 1) := by decide +kernel
theorem dX6_read_32 : decode cX6_read 32 = .ok (.aload_n 0, 1) := by decide +kernel
theorem dX6_read_33 : decode cX6_read 33 = .ok (.getfield 26, 3) := by decide +kernel
theorem dX6_read_36 : decode cX6_read 36 = .ok (.iload_n 3, 1) := by decide +kernel
theorem dX6_read_37 : decode cX6_read 37 = .ok (.iaload, 1) := by decide +kernel
theorem dX6_read_38 : decode cX6_read 38 = .ok (.iload_n 1, 1) := by decide +kernel
theorem dX6_read_39 : decode cX6_read 39 = .ok (.if_icmp .ne 7, 3) := by decide +kernel
theorem dX6_read_42 : decode cX6_read 42 = .ok (.iconst 1, 1) := by decide +kernel
theorem dX6_read_43 : decode cX6_read 43 = .ok (.goto 4, 3) := by decide +kernel
theorem dX6_read_46 : decode cX6_read 46 = .ok (.iconst 0, 1) := by decide +kernel
theorem dX6_read_47 : decode cX6_read 47 = .ok (.iadd, 1) := by decide +kernel
theorem dX6_read_48 : decode cX6_read 48 = .ok (.istore_n 2, 1) := by decide +kernel
theorem dX6_read_49 : decode cX6_read 49 = .ok (.iinc 3 1, 3) := by decide +kernel
theorem dX6_read_52 : decode cX6_read 52 = .ok (.goto (-29), 3) := by decide +kernel
theorem dX6_read_55 : decode cX6_read 55 = .ok (.iload_n 2, 1) := by decide +kernel
theorem dX6_read_56 : decode cX6_read 56 = .ok (.aload_n 0, 1) := by decide +kernel
theorem dX6_read_57 : decode cX6_read 57 = .ok (.getfield 7, 3) := by decide +kernel
theorem dX6_read_60 : decode cX6_read 60 = .ok (.iconst 0, 1) := by decide +kernel
theorem dX6_read_61 : decode cX6_read 61 = .ok (.iload_n 1, 1) := by decide +kernel
theorem dX6_read_62 : decode cX6_read 62 = .ok (.iadd, 1) := by decide +kernel
theorem dX6_read_63 : decode cX6_read 63 = .ok (.iconst 1, 1) := by decide +kernel
theorem dX6_read_64 : decode cX6_read 64 = .ok (.isub, 1) := by decide +kernel
theorem dX6_read_65 : decode cX6_read 65 = .ok (.iaload, 1) := by decide +kernel
theorem dX6_read_66 : decode cX6_read 66 = .ok (.if_icmp .le 6, 3) := by decide +kernel
theorem dX6_read_69 : decode cX6_read 69 = .ok (.bipush (-3), 2) := by decide +kernel
theorem dX6_read_71 : decode cX6_read 71 = .ok (.ireturn, 1) := by decide +kernel
theorem dX6_read_72 : decode cX6_read 72 = .ok (.iinc 1 1, 3) := by decide +kernel
theorem dX6_read_75 : decode cX6_read 75 = .ok (.goto (-61), 3) := by decide +kernel
theorem dX6_read_78 : decode cX6_read 78 = .ok (.aload_n 0, 1) := by decide +kernel
theorem dX6_read_79 : decode cX6_read 79 = .ok (.invokevirtual 69, 3) := by decide +kernel
theorem dX6_read_82 : decode cX6_read 82 = .ok (.istore_n 1, 1) := by decide +kernel
theorem dX6_read_83 : decode cX6_read 83 = .ok (.iload_n 1, 1) := by decide +kernel
theorem dX6_read_84 : decode cX6_read 84 = .ok (.bipush (-6), 2) := by decide +kernel
theorem dX6_read_86 : decode cX6_read 86 = .ok (.if_icmp .ne 6, 3) := by decide +kernel
theorem dX6_read_89 : decode cX6_read 89 = .ok (.bipush (-4), 2) := by decide +kernel
theorem dX6_read_91 : decode cX6_read 91 = .ok (.ireturn, 1) := by decide +kernel
theorem dX6_read_92 : decode cX6_read 92 = .ok (.aload_n 0, 1) := by decide +kernel
theorem dX6_read_93 : decode cX6_read 93 = .ok (.invokevirtual 53, 3) := by decide +kernel
theorem dX6_read_96 : decode cX6_read 96 = .ok (.aload_n 0, 1) := by decide +kernel
theorem dX6_read_97 : decode cX6_read 97 = .ok (.iload_n 1, 1) := by decide +kernel
theorem dX6_read_98 : decode cX6_read 98 = .ok (.aload_n 0, 1) := by decide +kernel
theorem dX6_read_99 : decode cX6_read 99 = .ok (.getfield 154, 3) := by decide +kernel
theorem dX6_read_102 : decode cX6_read 102 = .ok (.invokevirtual 72, 3) := by decide +kernel
theorem dX6_read_105 : decode cX6_read 105 = .ok (.iconst 0, 1) := by decide +kernel
theorem dX6_read_106 : decode cX6_read 106 = .ok (.istore_n 2, 1) := by decide +kernel
theorem dX6_read_107 : decode cX6_read 107 = .ok (.iload_n 2, 1) := by decide +kernel
theorem dX6_read_108 : decode cX6_read 108 = .ok (.aload_n 0, 1) := by decide +kernel
theorem dX6_read_109 : decode cX6_read 109 = .ok (.getfield 154, 3) := by decide +kernel
theorem dX6_read_112 : decode cX6_read 112 = .ok (.if_icmp .ge 26, 3) := by decide +kernel
theorem dX6_read_115 : decode cX6_read 115 = .ok (.aload_n 0, 1) := by decide +kernel
theorem dX6_read_116 : decode cX6_read 116 = .ok (.getfield 7, 3) := by decide +kernel
theorem dX6_read_119 : decode cX6_read 119 = .ok (.aload_n 0, 1) := by decide +kernel
theorem dX6_read_120 : decode cX6_read 120 = .ok (.iload_n 1, 1) := by decide +kernel
theorem dX6_read_121 : decode cX6_read 121 = .ok (.iload_n 2, 1) := by decide +kernel
theorem dX6_read_122 : decode cX6_read 122 = .ok (.invokevirtual 59, 3) := by decide +kernel
theorem dX6_read_125 : decode cX6_read 125 = .ok (.aload_n 0, 1) := by decide +kernel
theorem dX6_read_126 : decode cX6_read 126 = .ok (.getfield 26, 3) := by decide +kernel
theorem dX6_read_129 : decode cX6_read 129 = .ok (.iload_n 2, 1) := by decide +kernel
theorem dX6_read_130 : decode cX6_read 130 = .ok (.iaload, 1) := by decide +kernel
theorem dX6_read_131 : decode cX6_read 131 = .ok (.iastore, 1) := by decide +kernel
theorem dX6_read_132 : decode cX6_read 132 = .ok (.iinc 2 1, 3) := by decide +kernel
theorem dX6_read_135 : decode cX6_read 135 = .ok (.goto (-28), 3) := by decide +kernel
theorem dX6_read_138 : decode cX6_read 138 = .ok (.aload_n 0, 1) := by decide +kernel
theorem dX6_read_139 : decode cX6_read 139 = .ok (.iload_n 1, 1) := by decide +kernel
theorem dX6_read_140 : decode cX6_read 140 = .ok (.iconst (-1), 1) := by decide +kernel
theorem dX6_read_141 : decode cX6_read 141 = .ok (.invokevirtual 76, 3) := by decide +kernel
theorem dX6_read_144 : decode cX6_read 144 = .ok (.aload_n 0, 1) := by decide +kernel
theorem dX6_read_145 : decode cX6_read 145 = .ok (.iconst 0, 1) := by decide +kernel
theorem dX6_read_146 : decode cX6_read 146 = .ok (.putfield 151, 3) := by decide +kernel
theorem dX6_read_149 : decode cX6_read 149 = .ok (.iload_n 1, 1) := by decide +kernel
theorem dX6_read_150 : decode cX6_read 150 = .ok (.ireturn, 1) := by decide +kernel
