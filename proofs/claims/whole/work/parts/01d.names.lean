set_option maxRecDepth 20000 in
theorem ggX7_init_X7_clear : GoodIn wsX7_init wsX7_clear := goodIn_r _ [16, 17, 18, 15, 19] (by decide +kernel) (by decide +kernel)
set_option maxRecDepth 20000 in
theorem gX7_init_X7_clear : GoodIn wsX7_init (va_wsS RX7 32 yX7_clear wsX7_clear) := goodIn_app (goodIn_of _ (by decide +kernel)) ggX7_init_X7_clear
theorem dX7_init_0 : decode cX7_init 0 = .ok (.aload_n 0, 1) := by decide +kernel
theorem dX7_init_1 : decode cX7_init 1 = .ok (.invokespecial 1, 3) := by decide +kernel
theorem dX7_init_4 : decode cX7_init 4 = .ok (.aload_n 0, 1) := by decide +kernel
theorem dX7_init_5 : decode cX7_init 5 = .ok (.bipush 70, 2) := by decide +kernel
theorem dX7_init_7 : decode cX7_init 7 = .ok (.newarray .int, 2) := by decide +kernel
theorem dX7_init_9 : decode cX7_init 9 = .ok (.putfield 7, 3) := by decide +kernel
theorem dX7_init_12 : decode cX7_init 12 = .ok (.aload_n 0, 1) := by decide +kernel
theorem dX7_init_13 : decode cX7_init 13 = .ok (.sipush 131, 3) := by decide +kernel
theorem dX7_init_16 : decode cX7_init 16 = .ok (.newarray .int, 2) := by decide +kernel
theorem dX7_init_18 : decode cX7_init 18 = .ok (.putfield 13, 3) := by decide +kernel
theorem dX7_init_21 : decode cX7_init 21 = .ok (.aload_n 0, 1) := by decide +kernel
theorem dX7_init_22 : decode cX7_init 22 = .ok (.sipush 131, 3) := by decide +kernel
theorem dX7_init_25 : decode cX7_init 25 = .ok (.newarray .int, 2) := by decide +kernel
theorem dX7_init_27 : decode cX7_init 27 = .ok (.putfield 16, 3) := by decide +kernel
theorem dX7_init_30 : decode cX7_init 30 = .ok (.aload_n 0, 1) := by decide +kernel
theorem dX7_init_31 : decode cX7_init 31 = .ok (.sipush 131, 3) := by decide +kernel
theorem dX7_init_34 : decode cX7_init 34 = .ok (.newarray .int, 2) := by decide +kernel
theorem dX7_init_36 : decode cX7_init 36 = .ok (.putfield 19, 3) := by decide +kernel
theorem dX7_init_39 : decode cX7_init 39 = .ok (.aload_n 0, 1) := by decide +kernel
theorem dX7_init_40 : decode cX7_init 40 = .ok (.sipush 1834, 3) := by decide +kernel
theorem dX7_init_43 : decode cX7_init 43 = .ok (.newarray .int, 2) := by decide +kernel
theorem dX7_init_45 : decode cX7_init 45 = .ok (.putfield 22, 3) := by decide +kernel
theorem dX7_init_48 : decode cX7_init 48 = .ok (.aload_n 0, 1) := by decide +kernel
theorem dX7_init_49 : decode cX7_init 49 = .ok (.sipush 262, 3) := by decide +kernel
theorem dX7_init_52 : decode cX7_init 52 = .ok (.newarray .int, 2) := by decide +kernel
theorem dX7_init_54 : decode cX7_init 54 = .ok (.putfield 25, 3) := by decide +kernel
theorem dX7_init_57 : decode cX7_init 57 = .ok (.aload_n 0, 1) := by decide +kernel
theorem dX7_init_58 : decode cX7_init 58 = .ok (.iconst 2, 1) := by decide +kernel
theorem dX7_init_59 : decode cX7_init 59 = .ok (.newarray .boolean, 2) := by decide +kernel
theorem dX7_init_61 : decode cX7_init 61 = .ok (.putfield 28, 3) := by decide +kernel
theorem dX7_init_64 : decode cX7_init 64 = .ok (.aload_n 0, 1) := by decide +kernel
theorem dX7_init_65 : decode cX7_init 65 = .ok (.getfield 16, 3) := by decide +kernel
theorem dX7_init_68 : decode cX7_init 68 = .ok (.iconst 4, 1) := by decide +kernel
theorem dX7_init_69 : decode cX7_init 69 = .ok (.invokestatic 32, 3) := by decide +kernel
theorem dX7_init_72 : decode cX7_init 72 = .ok (.aload_n 0, 1) := by decide +kernel
theorem dX7_init_73 : decode cX7_init 73 = .ok (.getfield 16, 3) := by decide +kernel
theorem dX7_init_76 : decode cX7_init 76 = .ok (.bipush 17, 2) := by decide +kernel
theorem dX7_init_78 : decode cX7_init 78 = .ok (.iconst 1, 1) := by decide +kernel
theorem dX7_init_79 : decode cX7_init 79 = .ok (.iastore, 1) := by decide +kernel
theorem dX7_init_80 : decode cX7_init 80 = .ok (.return_, 1) := by decide +kernel
theorem dX7_thrown_0 : decode cX7_thrown 0 = .ok (.aload_n 0, 1) := by decide +kernel
theorem dX7_thrown_1 : decode cX7_thrown 1 = .ok (.getfield 36, 3) := by decide +kernel
theorem dX7_thrown_4 : decode cX7_thrown 4 = .ok (.ireturn, 1) := by decide +kernel
theorem dX7_refused_0 : decode cX7_refused 0 = .ok (.aload_n 0, 1) := by decide +kernel
theorem dX7_refused_1 : decode cX7_refused 1 = .ok (.iload_n 1, 1) := by decide +kernel
theorem dX7_refused_2 : decode cX7_refused 2 = .ok (.putfield 36, 3) := by decide +kernel
theorem dX7_refused_5 : decode cX7_refused 5 = .ok (.iload_n 1, 1) := by decide +kernel
theorem dX7_refused_6 : decode cX7_refused 6 = .ok (.ifCond .le 7, 3) := by decide +kernel
theorem dX7_refused_9 : decode cX7_refused 9 = .ok (.iconst 1, 1) := by decide +kernel
theorem dX7_refused_10 : decode cX7_refused 10 = .ok (.goto 4, 3) := by decide +kernel
theorem dX7_refused_13 : decode cX7_refused 13 = .ok (.iconst 0, 1) := by decide +kernel
theorem dX7_refused_14 : decode cX7_refused 14 = .ok (.ireturn, 1) := by decide +kernel
theorem dX7_in_0 : decode cX7_in 0 = .ok (.lload_n 0, 1) := by decide +kernel
theorem dX7_in_1 : decode cX7_in 1 = .ok (.lload_n 2, 1) := by decide +kernel
theorem dX7_in_2 : decode cX7_in 2 = .ok (.lcmp, 1) := by decide +kernel
theorem dX7_in_3 : decode cX7_in 3 = .ok (.ifCond .lt 14, 3) := by decide +kernel
theorem dX7_in_6 : decode cX7_in 6 = .ok (.lload_n 0, 1) := by decide +kernel
theorem dX7_in_7 : decode cX7_in 7 = .ok (.lload 4, 2) := by decide +kernel
theorem dX7_in_9 : decode cX7_in 9 = .ok (.lcmp, 1) := by decide +kernel
theorem dX7_in_10 : decode cX7_in 10 = .ok (.ifCond .gt 7, 3) := by decide +kernel
theorem dX7_in_13 : decode cX7_in 13 = .ok (.iconst 1, 1) := by decide +kernel
theorem dX7_in_14 : decode cX7_in 14 = .ok (.goto 4, 3) := by decide +kernel
theorem dX7_in_17 : decode cX7_in 17 = .ok (.iconst 0, 1) := by decide +kernel
theorem dX7_in_18 : decode cX7_in 18 = .ok (.ireturn, 1) := by decide +kernel
theorem dX7_less_0 : decode cX7_less 0 = .ok (.iload_n 0, 1) := by decide +kernel
theorem dX7_less_1 : decode cX7_less 1 = .ok (.iload_n 1, 1) := by decide +kernel
theorem dX7_less_2 : decode cX7_less 2 = .ok (.if_icmp .ge 7, 3) := by decide +kernel
theorem dX7_less_5 : decode cX7_less 5 = .ok (.iload_n 0, 1) := by decide +kernel
theorem dX7_less_6 : decode cX7_less 6 = .ok (.goto 4, 3) := by decide +kernel
theorem dX7_less_9 : decode cX7_less 9 = .ok (.iload_n 1, 1) := by decide +kernel
theorem dX7_less_10 : decode cX7_less 10 = .ok (.ireturn, 1) := by decide +kernel
theorem dX7_more_0 : decode cX7_more 0 = .ok (.iload_n 0, 1) := by decide +kernel
theorem dX7_more_1 : decode cX7_more 1 = .ok (.iload_n 1, 1) := by decide +kernel
theorem dX7_more_2 : decode cX7_more 2 = .ok (.if_icmp .le 7, 3) := by decide +kernel
theorem dX7_more_5 : decode cX7_more 5 = .ok (.iload_n 0, 1) := by decide +kernel
theorem dX7_more_6 : decode cX7_more 6 = .ok (.goto 4, 3) := by decide +kernel
theorem dX7_more_9 : decode cX7_more 9 = .ok (.iload_n 1, 1) := by decide +kernel
theorem dX7_more_10 : decode cX7_more 10 = .ok (.ireturn, 1) := by decide +kernel
theorem dX7_copyPage_0 : decode cX7_copyPage 0 = .ok (.iconst 0, 1) := by decide +kernel
theorem dX7_copyPage_1 : decode cX7_copyPage 1 = .ok (.istore 4, 2) := by decide +kernel
theorem dX7_copyPage_3 : decode cX7_copyPage 3 = .ok (.iload 4, 2) := by decide +kernel
theorem dX7_copyPage_5 : decode cX7_copyPage 5 = .ok (.sipush 131, 3) := by decide +kernel
theorem dX7_copyPage_8 : decode cX7_copyPage 8 = .ok (.if_icmp .ge 21, 3) := by decide +kernel
theorem dX7_copyPage_11 : decode cX7_copyPage 11 = .ok (.aload_n 2, 1) := by decide +kernel
theorem dX7_copyPage_12 : decode cX7_copyPage 12 = .ok (.iload_n 3, 1) := by decide +kernel
theorem dX7_copyPage_13 : decode cX7_copyPage 13 = .ok (.iload 4, 2) := by decide +kernel
theorem dX7_copyPage_15 : decode cX7_copyPage 15 = .ok (.iadd, 1) := by decide +kernel
theorem dX7_copyPage_16 : decode cX7_copyPage 16 = .ok (.aload_n 0, 1) := by decide +kernel
theorem dX7_copyPage_17 : decode cX7_copyPage 17 = .ok (.iload_n 1, 1) := by decide +kernel
theorem dX7_copyPage_18 : decode cX7_copyPage 18 = .ok (.iload 4, 2) := by decide +kernel
theorem dX7_copyPage_20 : decode cX7_copyPage 20 = .ok (.iadd, 1) := by decide +kernel
theorem dX7_copyPage_21 : decode cX7_copyPage 21 = .ok (.iaload, 1) := by decide +kernel
theorem dX7_copyPage_22 : decode cX7_copyPage 22 = .ok (.iastore, 1) := by decide +kernel
theorem dX7_copyPage_23 : decode cX7_copyPage 23 = .ok (.iinc 4 1, 3) := by decide +kernel
theorem dX7_copyPage_26 : decode cX7_copyPage 26 = .ok (.goto (-23), 3) := by decide +kernel
theorem dX7_copyPage_29 : decode cX7_copyPage 29 = .ok (.return_, 1) := by decide +kernel
set_option maxRecDepth 20000 in
theorem ggX7_clear_X7_segmentAt : GoodIn wsX7_clear wsX7_segmentAt := goodIn_r _ [4] (by decide +kernel) (by decide +kernel)
set_option maxRecDepth 20000 in
theorem gX7_clear_X7_segmentAt : GoodIn wsX7_clear (va_wsS RX7 40 yX7_segmentAt wsX7_segmentAt) := goodIn_app (goodIn_of _ (by decide +kernel)) ggX7_clear_X7_segmentAt
theorem dX7_clear_0 : decode cX7_clear 0 = .ok (.iconst 0, 1) := by decide +kernel
theorem dX7_clear_1 : decode cX7_clear 1 = .ok (.istore_n 2, 1) := by decide +kernel
theorem dX7_clear_2 : decode cX7_clear 2 = .ok (.iload_n 2, 1) := by decide +kernel
theorem dX7_clear_3 : decode cX7_clear 3 = .ok (.sipush 131, 3) := by decide +kernel
theorem dX7_clear_6 : decode cX7_clear 6 = .ok (.if_icmp .ge 13, 3) := by decide +kernel
theorem dX7_clear_9 : decode cX7_clear 9 = .ok (.aload_n 0, 1) := by decide +kernel
theorem dX7_clear_10 : decode cX7_clear 10 = .ok (.iload_n 2, 1) := by decide +kernel
theorem dX7_clear_11 : decode cX7_clear 11 = .ok (.iconst 0, 1) := by decide +kernel
theorem dX7_clear_12 : decode cX7_clear 12 = .ok (.iastore, 1) := by decide +kernel
theorem dX7_clear_13 : decode cX7_clear 13 = .ok (.iinc 2 1, 3) := by decide +kernel
theorem dX7_clear_16 : decode cX7_clear 16 = .ok (.goto (-14), 3) := by decide +kernel
theorem dX7_clear_19 : decode cX7_clear 19 = .ok (.aload_n 0, 1) := by decide +kernel
theorem dX7_clear_20 : decode cX7_clear 20 = .ok (.iconst 0, 1) := by decide +kernel
theorem dX7_clear_21 : decode cX7_clear 21 = .ok (.iload_n 1, 1) := by decide +kernel
theorem dX7_clear_22 : decode cX7_clear 22 = .ok (.iastore, 1) := by decide +kernel
theorem dX7_clear_23 : decode cX7_clear 23 = .ok (.aload_n 0, 1) := by decide +kernel
theorem dX7_clear_24 : decode cX7_clear 24 = .ok (.iconst 5, 1) := by decide +kernel
theorem dX7_clear_25 : decode cX7_clear 25 = .ok (.bipush 10, 2) := by decide +kernel
theorem dX7_clear_27 : decode cX7_clear 27 = .ok (.iastore, 1) := by decide +kernel
theorem dX7_clear_28 : decode cX7_clear 28 = .ok (.aload_n 0, 1) := by decide +kernel
theorem dX7_clear_29 : decode cX7_clear 29 = .ok (.bipush 6, 2) := by decide +kernel
theorem dX7_clear_31 : decode cX7_clear 31 = .ok (.iconst 5, 1) := by decide +kernel
theorem dX7_clear_32 : decode cX7_clear 32 = .ok (.iastore, 1) := by decide +kernel
theorem dX7_clear_33 : decode cX7_clear 33 = .ok (.aload_n 0, 1) := by decide +kernel
theorem dX7_clear_34 : decode cX7_clear 34 = .ok (.bipush 7, 2) := by decide +kernel
theorem dX7_clear_36 : decode cX7_clear 36 = .ok (.bipush 50, 2) := by decide +kernel
theorem dX7_clear_38 : decode cX7_clear 38 = .ok (.iastore, 1) := by decide +kernel
theorem dX7_clear_39 : decode cX7_clear 39 = .ok (.aload_n 0, 1) := by decide +kernel
theorem dX7_clear_40 : decode cX7_clear 40 = .ok (.bipush 8, 2) := by decide +kernel
theorem dX7_clear_42 : decode cX7_clear 42 = .ok (.bipush 40, 2) := by decide +kernel
theorem dX7_clear_44 : decode cX7_clear 44 = .ok (.iastore, 1) := by decide +kernel
theorem dX7_clear_45 : decode cX7_clear 45 = .ok (.iconst 0, 1) := by decide +kernel
theorem dX7_clear_46 : decode cX7_clear 46 = .ok (.istore_n 2, 1) := by decide +kernel
theorem dX7_clear_47 : decode cX7_clear 47 = .ok (.iload_n 2, 1) := by decide +kernel
theorem dX7_clear_48 : decode cX7_clear 48 = .ok (.iload_n 1, 1) := by decide +kernel
theorem dX7_clear_49 : decode cX7_clear 49 = .ok (.if_icmp .ge 18, 3) := by decide +kernel
theorem dX7_clear_52 : decode cX7_clear 52 = .ok (.aload_n 0, 1) := by decide +kernel
theorem dX7_clear_53 : decode cX7_clear 53 = .ok (.iload_n 2, 1) := by decide +kernel
theorem dX7_clear_54 : decode cX7_clear 54 = .ok (.invokestatic 40, 3) := by decide +kernel
theorem dX7_clear_57 : decode cX7_clear 57 = .ok (.iconst 1, 1) := by decide +kernel
theorem dX7_clear_58 : decode cX7_clear 58 = .ok (.iadd, 1) := by decide +kernel
theorem dX7_clear_59 : decode cX7_clear 59 = .ok (.iconst 3, 1) := by decide +kernel
theorem dX7_clear_60 : decode cX7_clear 60 = .ok (.iastore, 1) := by decide +kernel
theorem dX7_clear_61 : decode cX7_clear 61 = .ok (.iinc 2 1, 3) := by decide +kernel
theorem dX7_clear_64 : decode cX7_clear 64 = .ok (.goto (-17), 3) := by decide +kernel
theorem dX7_clear_67 : decode cX7_clear 67 = .ok (.return_, 1) := by decide +kernel
theorem dX7_segmentAt_0 : decode cX7_segmentAt 0 = .ok (.bipush 12, 2) := by decide +kernel
theorem dX7_segmentAt_2 : decode cX7_segmentAt 2 = .ok (.bipush 7, 2) := by decide +kernel
theorem dX7_segmentAt_4 : decode cX7_segmentAt 4 = .ok (.iload_n 0, 1) := by decide +kernel
theorem dX7_segmentAt_5 : decode cX7_segmentAt 5 = .ok (.imul, 1) := by decide +kernel
theorem dX7_segmentAt_6 : decode cX7_segmentAt 6 = .ok (.iadd, 1) := by decide +kernel
theorem dX7_segmentAt_7 : decode cX7_segmentAt 7 = .ok (.ireturn, 1) := by decide +kernel
theorem dX7_houseAt_0 : decode cX7_houseAt 0 = .ok (.bipush 82, 2) := by decide +kernel
theorem dX7_houseAt_2 : decode cX7_houseAt 2 = .ok (.iconst 5, 1) := by decide +kernel
theorem dX7_houseAt_3 : decode cX7_houseAt 3 = .ok (.iload_n 0, 1) := by decide +kernel
theorem dX7_houseAt_4 : decode cX7_houseAt 4 = .ok (.imul, 1) := by decide +kernel
theorem dX7_houseAt_5 : decode cX7_houseAt 5 = .ok (.iadd, 1) := by decide +kernel
theorem dX7_houseAt_6 : decode cX7_houseAt 6 = .ok (.ireturn, 1) := by decide +kernel
theorem dX7_wagonAt_0 : decode cX7_wagonAt 0 = .ok (.bipush 122, 2) := by decide +kernel
theorem dX7_wagonAt_2 : decode cX7_wagonAt 2 = .ok (.iconst 3, 1) := by decide +kernel
theorem dX7_wagonAt_3 : decode cX7_wagonAt 3 = .ok (.iload_n 0, 1) := by decide +kernel
theorem dX7_wagonAt_4 : decode cX7_wagonAt 4 = .ok (.imul, 1) := by decide +kernel
theorem dX7_wagonAt_5 : decode cX7_wagonAt 5 = .ok (.iadd, 1) := by decide +kernel
theorem dX7_wagonAt_6 : decode cX7_wagonAt 6 = .ok (.ireturn, 1) := by decide +kernel
set_option maxRecDepth 20000 in
theorem ggX7_isSegment_X7_in : GoodIn wsX7_isSegment wsX7_in := goodIn_r _ [4] (by decide +kernel) (by decide +kernel)
set_option maxRecDepth 20000 in
theorem gX7_isSegment_X7_in : GoodIn wsX7_isSegment (va_wsS RX7 44 yX7_in wsX7_in) := goodIn_app (goodIn_of _ (by decide +kernel)) ggX7_isSegment_X7_in
theorem dX7_isSegment_0 : decode cX7_isSegment 0 = .ok (.iload_n 1, 1) := by decide +kernel
theorem dX7_isSegment_1 : decode cX7_isSegment 1 = .ok (.i2l, 1) := by decide +kernel
theorem dX7_isSegment_2 : decode cX7_isSegment 2 = .ok (.lconst 0, 1) := by decide +kernel
theorem dX7_isSegment_3 : decode cX7_isSegment 3 = .ok (.aload_n 0, 1) := by decide +kernel
theorem dX7_isSegment_4 : decode cX7_isSegment 4 = .ok (.iconst 0, 1) := by decide +kernel
theorem dX7_isSegment_5 : decode cX7_isSegment 5 = .ok (.iaload, 1) := by decide +kernel
theorem dX7_isSegment_6 : decode cX7_isSegment 6 = .ok (.iconst 1, 1) := by decide +kernel
theorem dX7_isSegment_7 : decode cX7_isSegment 7 = .ok (.isub, 1) := by decide +kernel
theorem dX7_isSegment_8 : decode cX7_isSegment 8 = .ok (.i2l, 1) := by decide +kernel
theorem dX7_isSegment_9 : decode cX7_isSegment 9 = .ok (.invokestatic 44, 3) := by decide +kernel
theorem dX7_isSegment_12 : decode cX7_isSegment 12 = .ok (.ireturn, 1) := by decide +kernel
set_option maxRecDepth 20000 in
theorem ggX7_isHouse_X7_in : GoodIn wsX7_isHouse wsX7_in := goodIn_r _ [4] (by decide +kernel) (by decide +kernel)
set_option maxRecDepth 20000 in
theorem gX7_isHouse_X7_in : GoodIn wsX7_isHouse (va_wsS RX7 44 yX7_in wsX7_in) := goodIn_app (goodIn_of _ (by decide +kernel)) ggX7_isHouse_X7_in
theorem dX7_isHouse_0 : decode cX7_isHouse 0 = .ok (.iload_n 1, 1) := by decide +kernel
theorem dX7_isHouse_1 : decode cX7_isHouse 1 = .ok (.i2l, 1) := by decide +kernel
theorem dX7_isHouse_2 : decode cX7_isHouse 2 = .ok (.lconst 0, 1) := by decide +kernel
theorem dX7_isHouse_3 : decode cX7_isHouse 3 = .ok (.aload_n 0, 1) := by decide +kernel
theorem dX7_isHouse_4 : decode cX7_isHouse 4 = .ok (.iconst 1, 1) := by decide +kernel
theorem dX7_isHouse_5 : decode cX7_isHouse 5 = .ok (.iaload, 1) := by decide +kernel
theorem dX7_isHouse_6 : decode cX7_isHouse 6 = .ok (.iconst 1, 1) := by decide +kernel
theorem dX7_isHouse_7 : decode cX7_isHouse 7 = .ok (.isub, 1) := by decide +kernel
theorem dX7_isHouse_8 : decode cX7_isHouse 8 = .ok (.i2l, 1) := by decide +kernel
theorem dX7_isHouse_9 : decode cX7_isHouse 9 = .ok (.invokestatic 44, 3) := by decide +kernel
theorem dX7_isHouse_12 : decode cX7_isHouse 12 = .ok (.ireturn, 1) := by decide +kernel
set_option maxRecDepth 20000 in
theorem ggX7_isWagon_X7_in : GoodIn wsX7_isWagon wsX7_in := goodIn_r _ [4] (by decide +kernel) (by decide +kernel)
set_option maxRecDepth 20000 in
theorem gX7_isWagon_X7_in : GoodIn wsX7_isWagon (va_wsS RX7 44 yX7_in wsX7_in) := goodIn_app (goodIn_of _ (by decide +kernel)) ggX7_isWagon_X7_in
theorem dX7_isWagon_0 : decode cX7_isWagon 0 = .ok (.iload_n 1, 1) := by decide +kernel
theorem dX7_isWagon_1 : decode cX7_isWagon 1 = .ok (.i2l, 1) := by decide +kernel
theorem dX7_isWagon_2 : decode cX7_isWagon 2 = .ok (.lconst 0, 1) := by decide +kernel
theorem dX7_isWagon_3 : decode cX7_isWagon 3 = .ok (.aload_n 0, 1) := by decide +kernel
theorem dX7_isWagon_4 : decode cX7_isWagon 4 = .ok (.iconst 2, 1) := by decide +kernel
theorem dX7_isWagon_5 : decode cX7_isWagon 5 = .ok (.iaload, 1) := by decide +kernel
theorem dX7_isWagon_6 : decode cX7_isWagon 6 = .ok (.iconst 1, 1) := by decide +kernel
theorem dX7_isWagon_7 : decode cX7_isWagon 7 = .ok (.isub, 1) := by decide +kernel
theorem dX7_isWagon_8 : decode cX7_isWagon 8 = .ok (.i2l, 1) := by decide +kernel
theorem dX7_isWagon_9 : decode cX7_isWagon 9 = .ok (.invokestatic 44, 3) := by decide +kernel
theorem dX7_isWagon_12 : decode cX7_isWagon 12 = .ok (.ireturn, 1) := by decide +kernel
set_option maxRecDepth 20000 in
theorem ggX7_dry_X7_segmentAt : GoodIn wsX7_dry wsX7_segmentAt := goodIn_r _ [4] (by decide +kernel) (by decide +kernel)
set_option maxRecDepth 20000 in
theorem gX7_dry_X7_segmentAt : GoodIn wsX7_dry (va_wsS RX7 40 yX7_segmentAt wsX7_segmentAt) := goodIn_app (goodIn_of _ (by decide +kernel)) ggX7_dry_X7_segmentAt
set_option maxRecDepth 20000 in
theorem ggX7_dry_X7_more : GoodIn wsX7_dry wsX7_more := goodIn_r _ [7] (by decide +kernel) (by decide +kernel)
set_option maxRecDepth 20000 in
theorem gX7_dry_X7_more : GoodIn wsX7_dry (va_wsS RX7 48 yX7_more wsX7_more) := goodIn_app (goodIn_of _ (by decide +kernel)) ggX7_dry_X7_more
theorem dX7_dry_0 : decode cX7_dry 0 = .ok (.iconst 0, 1) := by decide +kernel
theorem dX7_dry_1 : decode cX7_dry 1 = .ok (.istore_n 1, 1) := by decide +kernel
theorem dX7_dry_2 : decode cX7_dry 2 = .ok (.iload_n 1, 1) := by decide +kernel
theorem dX7_dry_3 : decode cX7_dry 3 = .ok (.aload_n 0, 1) := by decide +kernel
theorem dX7_dry_4 : decode cX7_dry 4 = .ok (.iconst 0, 1) := by decide +kernel
theorem dX7_dry_5 : decode cX7_dry 5 = .ok (.iaload, 1) := by decide +kernel
theorem dX7_dry_6 : decode cX7_dry 6 = .ok (.if_icmp .ge 80, 3) := by decide +kernel
theorem dX7_dry_9 : decode cX7_dry 9 = .ok (.iload_n 1, 1) := by decide +kernel
theorem dX7_dry_10 : decode cX7_dry 10 = .ok (.invokestatic 40, 3) := by decide +kernel
theorem dX7_dry_13 : decode cX7_dry 13 = .ok (.istore_n 2, 1) := by decide +kernel
theorem dX7_dry_14 : decode cX7_dry 14 = .ok (.aload_n 0, 1) := by decide +kernel
theorem dX7_dry_15 : decode cX7_dry 15 = .ok (.iload_n 2, 1) := by decide +kernel
theorem dX7_dry_16 : decode cX7_dry 16 = .ok (.iaload, 1) := by decide +kernel
theorem dX7_dry_17 : decode cX7_dry 17 = .ok (.ifCond .ne 12, 3) := by decide +kernel
theorem dX7_dry_20 : decode cX7_dry 20 = .ok (.aload_n 0, 1) := by decide +kernel
theorem dX7_dry_21 : decode cX7_dry 21 = .ok (.bipush 6, 2) := by decide +kernel
theorem dX7_dry_23 : decode cX7_dry 23 = .ok (.iaload, 1) := by decide +kernel
theorem dX7_dry_24 : decode cX7_dry 24 = .ok (.iconst 3, 1) := by decide +kernel
theorem dX7_dry_25 : decode cX7_dry 25 = .ok (.idiv, 1) := by decide +kernel
theorem dX7_dry_26 : decode cX7_dry 26 = .ok (.goto 37, 3) := by decide +kernel
theorem dX7_dry_29 : decode cX7_dry 29 = .ok (.aload_n 0, 1) := by decide +kernel
theorem dX7_dry_30 : decode cX7_dry 30 = .ok (.iload_n 2, 1) := by decide +kernel
theorem dX7_dry_31 : decode cX7_dry 31 = .ok (.iaload, 1) := by decide +kernel
theorem dX7_dry_32 : decode cX7_dry 32 = .ok (.iconst 1, 1) := by decide +kernel
theorem dX7_dry_33 : decode cX7_dry 33 = .ok (.if_icmp .ne 12, 3) := by decide +kernel
theorem dX7_dry_36 : decode cX7_dry 36 = .ok (.aload_n 0, 1) := by decide +kernel
theorem dX7_dry_37 : decode cX7_dry 37 = .ok (.bipush 6, 2) := by decide +kernel
theorem dX7_dry_39 : decode cX7_dry 39 = .ok (.iaload, 1) := by decide +kernel
theorem dX7_dry_40 : decode cX7_dry 40 = .ok (.iconst 4, 1) := by decide +kernel
theorem dX7_dry_41 : decode cX7_dry 41 = .ok (.idiv, 1) := by decide +kernel
theorem dX7_dry_42 : decode cX7_dry 42 = .ok (.goto 21, 3) := by decide +kernel
theorem dX7_dry_45 : decode cX7_dry 45 = .ok (.aload_n 0, 1) := by decide +kernel
theorem dX7_dry_46 : decode cX7_dry 46 = .ok (.bipush 6, 2) := by decide +kernel
theorem dX7_dry_48 : decode cX7_dry 48 = .ok (.iaload, 1) := by decide +kernel
theorem dX7_dry_49 : decode cX7_dry 49 = .ok (.iconst 2, 1) := by decide +kernel
theorem dX7_dry_50 : decode cX7_dry 50 = .ok (.idiv, 1) := by decide +kernel
theorem dX7_dry_51 : decode cX7_dry 51 = .ok (.aload_n 0, 1) := by decide +kernel
theorem dX7_dry_52 : decode cX7_dry 52 = .ok (.iconst 5, 1) := by decide +kernel
theorem dX7_dry_53 : decode cX7_dry 53 = .ok (.iaload, 1) := by decide +kernel
theorem dX7_dry_54 : decode cX7_dry 54 = .ok (.ifCond .le 7, 3) := by decide +kernel
theorem dX7_dry_57 : decode cX7_dry 57 = .ok (.iconst 1, 1) := by decide +kernel
theorem dX7_dry_58 : decode cX7_dry 58 = .ok (.goto 4, 3) := by decide +kernel
theorem dX7_dry_61 : decode cX7_dry 61 = .ok (.iconst 0, 1) := by decide +kernel
theorem dX7_dry_62 : decode cX7_dry 62 = .ok (.iadd, 1) := by decide +kernel
theorem dX7_dry_63 : decode cX7_dry 63 = .ok (.istore_n 3, 1) := by decide +kernel
theorem dX7_dry_64 : decode cX7_dry 64 = .ok (.aload_n 0, 1) := by decide +kernel
theorem dX7_dry_65 : decode cX7_dry 65 = .ok (.iload_n 2, 1) := by decide +kernel
theorem dX7_dry_66 : decode cX7_dry 66 = .ok (.iconst 4, 1) := by decide +kernel
theorem dX7_dry_67 : decode cX7_dry 67 = .ok (.iadd, 1) := by decide +kernel
theorem dX7_dry_68 : decode cX7_dry 68 = .ok (.iconst 0, 1) := by decide +kernel
theorem dX7_dry_69 : decode cX7_dry 69 = .ok (.aload_n 0, 1) := by decide +kernel
theorem dX7_dry_70 : decode cX7_dry 70 = .ok (.iload_n 2, 1) := by decide +kernel
theorem dX7_dry_71 : decode cX7_dry 71 = .ok (.iconst 4, 1) := by decide +kernel
theorem dX7_dry_72 : decode cX7_dry 72 = .ok (.iadd, 1) := by decide +kernel
theorem dX7_dry_73 : decode cX7_dry 73 = .ok (.iaload, 1) := by decide +kernel
theorem dX7_dry_74 : decode cX7_dry 74 = .ok (.iload_n 3, 1) := by decide +kernel
theorem dX7_dry_75 : decode cX7_dry 75 = .ok (.isub, 1) := by decide +kernel
theorem dX7_dry_76 : decode cX7_dry 76 = .ok (.invokestatic 48, 3) := by decide +kernel
theorem dX7_dry_79 : decode cX7_dry 79 = .ok (.iastore, 1) := by decide +kernel
theorem dX7_dry_80 : decode cX7_dry 80 = .ok (.iinc 1 1, 3) := by decide +kernel
theorem dX7_dry_83 : decode cX7_dry 83 = .ok (.goto (-81), 3) := by decide +kernel
theorem dX7_dry_86 : decode cX7_dry 86 = .ok (.return_, 1) := by decide +kernel
set_option maxRecDepth 20000 in
theorem ggX7_raise_X7_segmentAt : GoodIn wsX7_raise wsX7_segmentAt := goodIn_r _ [4] (by decide +kernel) (by decide +kernel)
set_option maxRecDepth 20000 in
theorem gX7_raise_X7_segmentAt : GoodIn wsX7_raise (va_wsS RX7 40 yX7_segmentAt wsX7_segmentAt) := goodIn_app (goodIn_of _ (by decide +kernel)) ggX7_raise_X7_segmentAt
set_option maxRecDepth 20000 in
theorem ggX7_raise_X7_less : GoodIn wsX7_raise wsX7_less := goodIn_r _ [7] (by decide +kernel) (by decide +kernel)
set_option maxRecDepth 20000 in
theorem gX7_raise_X7_less : GoodIn wsX7_raise (va_wsS RX7 52 yX7_less wsX7_less) := goodIn_app (goodIn_of _ (by decide +kernel)) ggX7_raise_X7_less
theorem dX7_raise_0 : decode cX7_raise 0 = .ok (.iconst 0, 1) := by decide +kernel
theorem dX7_raise_1 : decode cX7_raise 1 = .ok (.istore_n 1, 1) := by decide +kernel
theorem dX7_raise_2 : decode cX7_raise 2 = .ok (.iload_n 1, 1) := by decide +kernel
theorem dX7_raise_3 : decode cX7_raise 3 = .ok (.aload_n 0, 1) := by decide +kernel
theorem dX7_raise_4 : decode cX7_raise 4 = .ok (.iconst 0, 1) := by decide +kernel
theorem dX7_raise_5 : decode cX7_raise 5 = .ok (.iaload, 1) := by decide +kernel
theorem dX7_raise_6 : decode cX7_raise 6 = .ok (.if_icmp .ge 60, 3) := by decide +kernel
theorem dX7_raise_9 : decode cX7_raise 9 = .ok (.iload_n 1, 1) := by decide +kernel
theorem dX7_raise_10 : decode cX7_raise 10 = .ok (.invokestatic 40, 3) := by decide +kernel
theorem dX7_raise_13 : decode cX7_raise 13 = .ok (.istore_n 2, 1) := by decide +kernel
theorem dX7_raise_14 : decode cX7_raise 14 = .ok (.aload_n 0, 1) := by decide +kernel
theorem dX7_raise_15 : decode cX7_raise 15 = .ok (.iconst 5, 1) := by decide +kernel
theorem dX7_raise_16 : decode cX7_raise 16 = .ok (.iaload, 1) := by decide +kernel
theorem dX7_raise_17 : decode cX7_raise 17 = .ok (.aload_n 0, 1) := by decide +kernel
theorem dX7_raise_18 : decode cX7_raise 18 = .ok (.iload_n 2, 1) := by decide +kernel
theorem dX7_raise_19 : decode cX7_raise 19 = .ok (.iconst 1, 1) := by decide +kernel
theorem dX7_raise_20 : decode cX7_raise 20 = .ok (.iadd, 1) := by decide +kernel
theorem dX7_raise_21 : decode cX7_raise 21 = .ok (.iaload, 1) := by decide +kernel
theorem dX7_raise_22 : decode cX7_raise 22 = .ok (.imul, 1) := by decide +kernel
theorem dX7_raise_23 : decode cX7_raise 23 = .ok (.iconst 3, 1) := by decide +kernel
theorem dX7_raise_24 : decode cX7_raise 24 = .ok (.aload_n 0, 1) := by decide +kernel
theorem dX7_raise_25 : decode cX7_raise 25 = .ok (.iload_n 2, 1) := by decide +kernel
theorem dX7_raise_26 : decode cX7_raise 26 = .ok (.iaload, 1) := by decide +kernel
theorem dX7_raise_27 : decode cX7_raise 27 = .ok (.isub, 1) := by decide +kernel
theorem dX7_raise_28 : decode cX7_raise 28 = .ok (.imul, 1) := by decide +kernel
theorem dX7_raise_29 : decode cX7_raise 29 = .ok (.bipush 10, 2) := by decide +kernel
theorem dX7_raise_31 : decode cX7_raise 31 = .ok (.aload_n 0, 1) := by decide +kernel
theorem dX7_raise_32 : decode cX7_raise 32 = .ok (.iload_n 2, 1) := by decide +kernel
theorem dX7_raise_33 : decode cX7_raise 33 = .ok (.iconst 4, 1) := by decide +kernel
theorem dX7_raise_34 : decode cX7_raise 34 = .ok (.iadd, 1) := by decide +kernel
theorem dX7_raise_35 : decode cX7_raise 35 = .ok (.iaload, 1) := by decide +kernel
theorem dX7_raise_36 : decode cX7_raise 36 = .ok (.isub, 1) := by decide +kernel
theorem dX7_raise_37 : decode cX7_raise 37 = .ok (.imul, 1) := by decide +kernel
theorem dX7_raise_38 : decode cX7_raise 38 = .ok (.bipush 10, 2) := by decide +kernel
theorem dX7_raise_40 : decode cX7_raise 40 = .ok (.idiv, 1) := by decide +kernel
theorem dX7_raise_41 : decode cX7_raise 41 = .ok (.istore_n 3, 1) := by decide +kernel
theorem dX7_raise_42 : decode cX7_raise 42 = .ok (.aload_n 0, 1) := by decide +kernel
theorem dX7_raise_43 : decode cX7_raise 43 = .ok (.iload_n 2, 1) := by decide +kernel
theorem dX7_raise_44 : decode cX7_raise 44 = .ok (.iconst 3, 1) := by decide +kernel
theorem dX7_raise_45 : decode cX7_raise 45 = .ok (.iadd, 1) := by decide +kernel
theorem dX7_raise_46 : decode cX7_raise 46 = .ok (.sipush 999, 3) := by decide +kernel
theorem dX7_raise_49 : decode cX7_raise 49 = .ok (.aload_n 0, 1) := by decide +kernel
theorem dX7_raise_50 : decode cX7_raise 50 = .ok (.iload_n 2, 1) := by decide +kernel
theorem dX7_raise_51 : decode cX7_raise 51 = .ok (.iconst 3, 1) := by decide +kernel
theorem dX7_raise_52 : decode cX7_raise 52 = .ok (.iadd, 1) := by decide +kernel
theorem dX7_raise_53 : decode cX7_raise 53 = .ok (.iaload, 1) := by decide +kernel
theorem dX7_raise_54 : decode cX7_raise 54 = .ok (.iload_n 3, 1) := by decide +kernel
theorem dX7_raise_55 : decode cX7_raise 55 = .ok (.iadd, 1) := by decide +kernel
theorem dX7_raise_56 : decode cX7_raise 56 = .ok (.invokestatic 52, 3) := by decide +kernel
theorem dX7_raise_59 : decode cX7_raise 59 = .ok (.iastore, 1) := by decide +kernel
theorem dX7_raise_60 : decode cX7_raise 60 = .ok (.iinc 1 1, 3) := by decide +kernel
theorem dX7_raise_63 : decode cX7_raise 63 = .ok (.goto (-61), 3) := by decide +kernel
theorem dX7_raise_66 : decode cX7_raise 66 = .ok (.return_, 1) := by decide +kernel
set_option maxRecDepth 20000 in
theorem ggX7_dustOf_X7_isSegment : GoodIn wsX7_dustOf wsX7_isSegment := goodIn_r _ [4, 5, 6, 3, 7] (by decide +kernel) (by decide +kernel)
set_option maxRecDepth 20000 in
theorem gX7_dustOf_X7_isSegment : GoodIn wsX7_dustOf (va_wsS RX7 55 yX7_isSegment wsX7_isSegment) := goodIn_app (goodIn_of _ (by decide +kernel)) ggX7_dustOf_X7_isSegment
set_option maxRecDepth 20000 in
theorem ggX7_dustOf_X7_segmentAt : GoodIn wsX7_dustOf wsX7_segmentAt := goodIn_r _ [10] (by decide +kernel) (by decide +kernel)
set_option maxRecDepth 20000 in
theorem gX7_dustOf_X7_segmentAt : GoodIn wsX7_dustOf (va_wsS RX7 40 yX7_segmentAt wsX7_segmentAt) := goodIn_app (goodIn_of _ (by decide +kernel)) ggX7_dustOf_X7_segmentAt
theorem dX7_dustOf_0 : decode cX7_dustOf 0 = .ok (.aload_n 0, 1) := by decide +kernel
theorem dX7_dustOf_1 : decode cX7_dustOf 1 = .ok (.iload_n 1, 1) := by decide +kernel
theorem dX7_dustOf_2 : decode cX7_dustOf 2 = .ok (.invokestatic 55, 3) := by decide +kernel
theorem dX7_dustOf_5 : decode cX7_dustOf 5 = .ok (.ifCond .eq 14, 3) := by decide +kernel
theorem dX7_dustOf_8 : decode cX7_dustOf 8 = .ok (.aload_n 0, 1) := by decide +kernel
theorem dX7_dustOf_9 : decode cX7_dustOf 9 = .ok (.iload_n 1, 1) := by decide +kernel
theorem dX7_dustOf_10 : decode cX7_dustOf 10 = .ok (.invokestatic 40, 3) := by decide +kernel
theorem dX7_dustOf_13 : decode cX7_dustOf 13 = .ok (.iconst 3, 1) := by decide +kernel
theorem dX7_dustOf_14 : decode cX7_dustOf 14 = .ok (.iadd, 1) := by decide +kernel
theorem dX7_dustOf_15 : decode cX7_dustOf 15 = .ok (.iaload, 1) := by decide +kernel
theorem dX7_dustOf_16 : decode cX7_dustOf 16 = .ok (.goto 4, 3) := by decide +kernel
theorem dX7_dustOf_19 : decode cX7_dustOf 19 = .ok (.iconst 0, 1) := by decide +kernel
theorem dX7_dustOf_20 : decode cX7_dustOf 20 = .ok (.ireturn, 1) := by decide +kernel
set_option maxRecDepth 20000 in
theorem ggX7_gets_X7_houseAt : GoodIn wsX7_gets wsX7_houseAt := goodIn_r _ [4] (by decide +kernel) (by decide +kernel)
set_option maxRecDepth 20000 in
theorem gX7_gets_X7_houseAt : GoodIn wsX7_gets (va_wsS RX7 59 yX7_houseAt wsX7_houseAt) := goodIn_app (goodIn_of _ (by decide +kernel)) ggX7_gets_X7_houseAt
set_option maxRecDepth 20000 in
theorem ggX7_gets_X7_dustOf : GoodIn wsX7_gets wsX7_dustOf := goodIn_r _ [7, 8, 9, 3, 10, 11, 12, 13, 14, 15, 16] (by decide +kernel) (by decide +kernel)
set_option maxRecDepth 20000 in
theorem gX7_gets_X7_dustOf : GoodIn wsX7_gets (va_wsS RX7 62 yX7_dustOf wsX7_dustOf) := goodIn_app (goodIn_of _ (by decide +kernel)) ggX7_gets_X7_dustOf
theorem dX7_gets_0 : decode cX7_gets 0 = .ok (.aload_n 0, 1) := by decide +kernel
theorem dX7_gets_1 : decode cX7_gets 1 = .ok (.iload_n 1, 1) := by decide +kernel
theorem dX7_gets_2 : decode cX7_gets 2 = .ok (.invokestatic 59, 3) := by decide +kernel
theorem dX7_gets_5 : decode cX7_gets 5 = .ok (.iaload, 1) := by decide +kernel
theorem dX7_gets_6 : decode cX7_gets 6 = .ok (.istore_n 2, 1) := by decide +kernel
theorem dX7_gets_7 : decode cX7_gets 7 = .ok (.iconst 2, 1) := by decide +kernel
theorem dX7_gets_8 : decode cX7_gets 8 = .ok (.aload_n 0, 1) := by decide +kernel
theorem dX7_gets_9 : decode cX7_gets 9 = .ok (.iload_n 2, 1) := by decide +kernel
theorem dX7_gets_10 : decode cX7_gets 10 = .ok (.invokestatic 62, 3) := by decide +kernel
theorem dX7_gets_13 : decode cX7_gets 13 = .ok (.imul, 1) := by decide +kernel
theorem dX7_gets_14 : decode cX7_gets 14 = .ok (.aload_n 0, 1) := by decide +kernel
theorem dX7_gets_15 : decode cX7_gets 15 = .ok (.iload_n 2, 1) := by decide +kernel
theorem dX7_gets_16 : decode cX7_gets 16 = .ok (.iconst 1, 1) := by decide +kernel
theorem dX7_gets_17 : decode cX7_gets 17 = .ok (.isub, 1) := by decide +kernel
theorem dX7_gets_18 : decode cX7_gets 18 = .ok (.invokestatic 62, 3) := by decide +kernel
theorem dX7_gets_21 : decode cX7_gets 21 = .ok (.iadd, 1) := by decide +kernel
theorem dX7_gets_22 : decode cX7_gets 22 = .ok (.aload_n 0, 1) := by decide +kernel
theorem dX7_gets_23 : decode cX7_gets 23 = .ok (.iload_n 2, 1) := by decide +kernel
theorem dX7_gets_24 : decode cX7_gets 24 = .ok (.iconst 1, 1) := by decide +kernel
theorem dX7_gets_25 : decode cX7_gets 25 = .ok (.iadd, 1) := by decide +kernel
theorem dX7_gets_26 : decode cX7_gets 26 = .ok (.invokestatic 62, 3) := by decide +kernel
theorem dX7_gets_29 : decode cX7_gets 29 = .ok (.iadd, 1) := by decide +kernel
theorem dX7_gets_30 : decode cX7_gets 30 = .ok (.iconst 2, 1) := by decide +kernel
theorem dX7_gets_31 : decode cX7_gets 31 = .ok (.iconst 1, 1) := by decide +kernel
theorem dX7_gets_32 : decode cX7_gets 32 = .ok (.aload_n 0, 1) := by decide +kernel
theorem dX7_gets_33 : decode cX7_gets 33 = .ok (.iload_n 1, 1) := by decide +kernel
theorem dX7_gets_34 : decode cX7_gets 34 = .ok (.invokestatic 59, 3) := by decide +kernel
theorem dX7_gets_37 : decode cX7_gets 37 = .ok (.iconst 1, 1) := by decide +kernel
theorem dX7_gets_38 : decode cX7_gets 38 = .ok (.iadd, 1) := by decide +kernel
theorem dX7_gets_39 : decode cX7_gets 39 = .ok (.iaload, 1) := by decide +kernel
theorem dX7_gets_40 : decode cX7_gets 40 = .ok (.iadd, 1) := by decide +kernel
theorem dX7_gets_41 : decode cX7_gets 41 = .ok (.imul, 1) := by decide +kernel
theorem dX7_gets_42 : decode cX7_gets 42 = .ok (.idiv, 1) := by decide +kernel
theorem dX7_gets_43 : decode cX7_gets 43 = .ok (.ireturn, 1) := by decide +kernel
set_option maxRecDepth 20000 in
theorem ggX7_complain_X7_houseAt : GoodIn wsX7_complain wsX7_houseAt := goodIn_r _ [4] (by decide +kernel) (by decide +kernel)
set_option maxRecDepth 20000 in
theorem gX7_complain_X7_houseAt : GoodIn wsX7_complain (va_wsS RX7 59 yX7_houseAt wsX7_houseAt) := goodIn_app (goodIn_of _ (by decide +kernel)) ggX7_complain_X7_houseAt
set_option maxRecDepth 20000 in
theorem ggX7_complain_X7_segmentAt : GoodIn wsX7_complain wsX7_segmentAt := goodIn_r _ [7] (by decide +kernel) (by decide +kernel)
set_option maxRecDepth 20000 in
theorem gX7_complain_X7_segmentAt : GoodIn wsX7_complain (va_wsS RX7 40 yX7_segmentAt wsX7_segmentAt) := goodIn_app (goodIn_of _ (by decide +kernel)) ggX7_complain_X7_segmentAt
set_option maxRecDepth 20000 in
theorem ggX7_complain_X7_less : GoodIn wsX7_complain wsX7_less := goodIn_r _ [10] (by decide +kernel) (by decide +kernel)
set_option maxRecDepth 20000 in
theorem gX7_complain_X7_less : GoodIn wsX7_complain (va_wsS RX7 52 yX7_less wsX7_less) := goodIn_app (goodIn_of _ (by decide +kernel)) ggX7_complain_X7_less
theorem dX7_complain_0 : decode cX7_complain 0 = .ok (.aload_n 0, 1) := by decide +kernel
theorem dX7_complain_1 : decode cX7_complain 1 = .ok (.iload_n 1, 1) := by decide +kernel
theorem dX7_complain_2 : decode cX7_complain 2 = .ok (.invokestatic 59, 3) := by decide +kernel
theorem dX7_complain_5 : decode cX7_complain 5 = .ok (.iaload, 1) := by decide +kernel
theorem dX7_complain_6 : decode cX7_complain 6 = .ok (.invokestatic 40, 3) := by decide +kernel
theorem dX7_complain_9 : decode cX7_complain 9 = .ok (.istore_n 2, 1) := by decide +kernel
theorem dX7_complain_10 : decode cX7_complain 10 = .ok (.aload_n 0, 1) := by decide +kernel
theorem dX7_complain_11 : decode cX7_complain 11 = .ok (.iload_n 1, 1) := by decide +kernel
theorem dX7_complain_12 : decode cX7_complain 12 = .ok (.invokestatic 59, 3) := by decide +kernel
theorem dX7_complain_15 : decode cX7_complain 15 = .ok (.iconst 3, 1) := by decide +kernel
theorem dX7_complain_16 : decode cX7_complain 16 = .ok (.iadd, 1) := by decide +kernel
theorem dX7_complain_17 : decode cX7_complain 17 = .ok (.dup2, 1) := by decide +kernel
theorem dX7_complain_18 : decode cX7_complain 18 = .ok (.iaload, 1) := by decide +kernel
theorem dX7_complain_19 : decode cX7_complain 19 = .ok (.iconst 1, 1) := by decide +kernel
theorem dX7_complain_20 : decode cX7_complain 20 = .ok (.iadd, 1) := by decide +kernel
theorem dX7_complain_21 : decode cX7_complain 21 = .ok (.iastore, 1) := by decide +kernel
theorem dX7_complain_22 : decode cX7_complain 22 = .ok (.aload_n 0, 1) := by decide +kernel
theorem dX7_complain_23 : decode cX7_complain 23 = .ok (.bipush 10, 2) := by decide +kernel
theorem dX7_complain_25 : decode cX7_complain 25 = .ok (.dup2, 1) := by decide +kernel
theorem dX7_complain_26 : decode cX7_complain 26 = .ok (.iaload, 1) := by decide +kernel
theorem dX7_complain_27 : decode cX7_complain 27 = .ok (.iconst 1, 1) := by decide +kernel
theorem dX7_complain_28 : decode cX7_complain 28 = .ok (.iadd, 1) := by decide +kernel
theorem dX7_complain_29 : decode cX7_complain 29 = .ok (.iastore, 1) := by decide +kernel
theorem dX7_complain_30 : decode cX7_complain 30 = .ok (.aload_n 0, 1) := by decide +kernel
theorem dX7_complain_31 : decode cX7_complain 31 = .ok (.iload_n 2, 1) := by decide +kernel
theorem dX7_complain_32 : decode cX7_complain 32 = .ok (.bipush 6, 2) := by decide +kernel
theorem dX7_complain_34 : decode cX7_complain 34 = .ok (.iadd, 1) := by decide +kernel
theorem dX7_complain_35 : decode cX7_complain 35 = .ok (.dup2, 1) := by decide +kernel
theorem dX7_complain_36 : decode cX7_complain 36 = .ok (.iaload, 1) := by decide +kernel
theorem dX7_complain_37 : decode cX7_complain 37 = .ok (.iconst 1, 1) := by decide +kernel
theorem dX7_complain_38 : decode cX7_complain 38 = .ok (.iadd, 1) := by decide +kernel
theorem dX7_complain_39 : decode cX7_complain 39 = .ok (.iastore, 1) := by decide +kernel
theorem dX7_complain_40 : decode cX7_complain 40 = .ok (.aload_n 0, 1) := by decide +kernel
theorem dX7_complain_41 : decode cX7_complain 41 = .ok (.iload_n 2, 1) := by decide +kernel
theorem dX7_complain_42 : decode cX7_complain 42 = .ok (.bipush 6, 2) := by decide +kernel
theorem dX7_complain_44 : decode cX7_complain 44 = .ok (.iadd, 1) := by decide +kernel
theorem dX7_complain_45 : decode cX7_complain 45 = .ok (.iaload, 1) := by decide +kernel
theorem dX7_complain_46 : decode cX7_complain 46 = .ok (.iconst 3, 1) := by decide +kernel
theorem dX7_complain_47 : decode cX7_complain 47 = .ok (.irem, 1) := by decide +kernel
theorem dX7_complain_48 : decode cX7_complain 48 = .ok (.ifCond .ne 39, 3) := by decide +kernel
theorem dX7_complain_51 : decode cX7_complain 51 = .ok (.aload_n 0, 1) := by decide +kernel
theorem dX7_complain_52 : decode cX7_complain 52 = .ok (.iload_n 2, 1) := by decide +kernel
theorem dX7_complain_53 : decode cX7_complain 53 = .ok (.iconst 2, 1) := by decide +kernel
theorem dX7_complain_54 : decode cX7_complain 54 = .ok (.iadd, 1) := by decide +kernel
theorem dX7_complain_55 : decode cX7_complain 55 = .ok (.iconst 4, 1) := by decide +kernel
theorem dX7_complain_56 : decode cX7_complain 56 = .ok (.aload_n 0, 1) := by decide +kernel
theorem dX7_complain_57 : decode cX7_complain 57 = .ok (.iload_n 2, 1) := by decide +kernel
theorem dX7_complain_58 : decode cX7_complain 58 = .ok (.iconst 2, 1) := by decide +kernel
theorem dX7_complain_59 : decode cX7_complain 59 = .ok (.iadd, 1) := by decide +kernel
theorem dX7_complain_60 : decode cX7_complain 60 = .ok (.iaload, 1) := by decide +kernel
theorem dX7_complain_61 : decode cX7_complain 61 = .ok (.iconst 1, 1) := by decide +kernel
theorem dX7_complain_62 : decode cX7_complain 62 = .ok (.iadd, 1) := by decide +kernel
theorem dX7_complain_63 : decode cX7_complain 63 = .ok (.invokestatic 52, 3) := by decide +kernel
theorem dX7_complain_66 : decode cX7_complain 66 = .ok (.iastore, 1) := by decide +kernel
theorem dX7_complain_67 : decode cX7_complain 67 = .ok (.aload_n 0, 1) := by decide +kernel
theorem dX7_complain_68 : decode cX7_complain 68 = .ok (.iload_n 2, 1) := by decide +kernel
theorem dX7_complain_69 : decode cX7_complain 69 = .ok (.iconst 1, 1) := by decide +kernel
theorem dX7_complain_70 : decode cX7_complain 70 = .ok (.iadd, 1) := by decide +kernel
theorem dX7_complain_71 : decode cX7_complain 71 = .ok (.aload_n 0, 1) := by decide +kernel
theorem dX7_complain_72 : decode cX7_complain 72 = .ok (.iload_n 2, 1) := by decide +kernel
theorem dX7_complain_73 : decode cX7_complain 73 = .ok (.iconst 1, 1) := by decide +kernel
theorem dX7_complain_74 : decode cX7_complain 74 = .ok (.iadd, 1) := by decide +kernel
theorem dX7_complain_75 : decode cX7_complain 75 = .ok (.iaload, 1) := by decide +kernel
theorem dX7_complain_76 : decode cX7_complain 76 = .ok (.iconst 5, 1) := by decide +kernel
theorem dX7_complain_77 : decode cX7_complain 77 = .ok (.aload_n 0, 1) := by decide +kernel
theorem dX7_complain_78 : decode cX7_complain 78 = .ok (.iload_n 2, 1) := by decide +kernel
theorem dX7_complain_79 : decode cX7_complain 79 = .ok (.iconst 2, 1) := by decide +kernel
theorem dX7_complain_80 : decode cX7_complain 80 = .ok (.iadd, 1) := by decide +kernel
theorem dX7_complain_81 : decode cX7_complain 81 = .ok (.iaload, 1) := by decide +kernel
theorem dX7_complain_82 : decode cX7_complain 82 = .ok (.isub, 1) := by decide +kernel
theorem dX7_complain_83 : decode cX7_complain 83 = .ok (.invokestatic 52, 3) := by decide +kernel
theorem dX7_complain_86 : decode cX7_complain 86 = .ok (.iastore, 1) := by decide +kernel
theorem dX7_complain_87 : decode cX7_complain 87 = .ok (.return_, 1) := by decide +kernel
set_option maxRecDepth 20000 in
theorem ggX7_hourOn_X7_dry : GoodIn wsX7_hourOn wsX7_dry := goodIn_r _ [4, 5, 6, 3, 7, 8, 9, 10] (by decide +kernel) (by decide +kernel)
set_option maxRecDepth 20000 in
theorem gX7_hourOn_X7_dry : GoodIn wsX7_hourOn (va_wsS RX7 66 yX7_dry wsX7_dry) := goodIn_app (goodIn_of _ (by decide +kernel)) ggX7_hourOn_X7_dry
set_option maxRecDepth 20000 in
theorem ggX7_hourOn_X7_raise : GoodIn wsX7_hourOn wsX7_raise := goodIn_r _ [13, 5, 6, 3, 7, 14, 15, 16] (by decide +kernel) (by decide +kernel)
set_option maxRecDepth 20000 in
theorem gX7_hourOn_X7_raise : GoodIn wsX7_hourOn (va_wsS RX7 70 yX7_raise wsX7_raise) := goodIn_app (goodIn_of _ (by decide +kernel)) ggX7_hourOn_X7_raise
set_option maxRecDepth 20000 in
theorem ggX7_hourOn_X7_gets : GoodIn wsX7_hourOn wsX7_gets := goodIn_r _ [19, 20, 21, 3, 22, 23, 24, 25, 26, 27, 28, 29, 30, 31, 5, 6, 7] (by decide +kernel) (by decide +kernel)
set_option maxRecDepth 20000 in
theorem gX7_hourOn_X7_gets : GoodIn wsX7_hourOn (va_wsS RX7 73 yX7_gets wsX7_gets) := goodIn_app (goodIn_of _ (by decide +kernel)) ggX7_hourOn_X7_gets
set_option maxRecDepth 20000 in
theorem ggX7_hourOn_X7_houseAt : GoodIn wsX7_hourOn wsX7_houseAt := goodIn_r _ [22] (by decide +kernel) (by decide +kernel)
set_option maxRecDepth 20000 in
theorem gX7_hourOn_X7_houseAt : GoodIn wsX7_hourOn (va_wsS RX7 59 yX7_houseAt wsX7_houseAt) := goodIn_app (goodIn_of _ (by decide +kernel)) ggX7_hourOn_X7_houseAt
set_option maxRecDepth 20000 in
theorem ggX7_hourOn_X7_complain : GoodIn wsX7_hourOn wsX7_complain := goodIn_r _ [34, 20, 21, 3, 22, 5, 6, 7, 14, 15, 16] (by decide +kernel) (by decide +kernel)
set_option maxRecDepth 20000 in
theorem gX7_hourOn_X7_complain : GoodIn wsX7_hourOn (va_wsS RX7 76 yX7_complain wsX7_complain) := goodIn_app (goodIn_of _ (by decide +kernel)) ggX7_hourOn_X7_complain
set_option maxRecDepth 20000 in
theorem ggX7_hourOn_X7_segmentAt : GoodIn wsX7_hourOn wsX7_segmentAt := goodIn_r _ [7] (by decide +kernel) (by decide +kernel)
set_option maxRecDepth 20000 in
theorem gX7_hourOn_X7_segmentAt : GoodIn wsX7_hourOn (va_wsS RX7 40 yX7_segmentAt wsX7_segmentAt) := goodIn_app (goodIn_of _ (by decide +kernel)) ggX7_hourOn_X7_segmentAt
set_option maxRecDepth 20000 in
theorem ggX7_hourOn_X7_wagonAt : GoodIn wsX7_hourOn wsX7_wagonAt := goodIn_r _ [37] (by decide +kernel) (by decide +kernel)
set_option maxRecDepth 20000 in
theorem gX7_hourOn_X7_wagonAt : GoodIn wsX7_hourOn (va_wsS RX7 79 yX7_wagonAt wsX7_wagonAt) := goodIn_app (goodIn_of _ (by decide +kernel)) ggX7_hourOn_X7_wagonAt
theorem dX7_hourOn_0 : decode cX7_hourOn 0 = .ok (.aload_n 0, 1) := by decide +kernel
theorem dX7_hourOn_1 : decode cX7_hourOn 1 = .ok (.invokestatic 66, 3) := by decide +kernel
theorem dX7_hourOn_4 : decode cX7_hourOn 4 = .ok (.aload_n 0, 1) := by decide +kernel
theorem dX7_hourOn_5 : decode cX7_hourOn 5 = .ok (.invokestatic 70, 3) := by decide +kernel
theorem dX7_hourOn_8 : decode cX7_hourOn 8 = .ok (.iconst 0, 1) := by decide +kernel
theorem dX7_hourOn_9 : decode cX7_hourOn 9 = .ok (.istore_n 1, 1) := by decide +kernel
theorem dX7_hourOn_10 : decode cX7_hourOn 10 = .ok (.iload_n 1, 1) := by decide +kernel
theorem dX7_hourOn_11 : decode cX7_hourOn 11 = .ok (.aload_n 0, 1) := by decide +kernel
theorem dX7_hourOn_12 : decode cX7_hourOn 12 = .ok (.iconst 1, 1) := by decide +kernel
theorem dX7_hourOn_13 : decode cX7_hourOn 13 = .ok (.iaload, 1) := by decide +kernel
theorem dX7_hourOn_14 : decode cX7_hourOn 14 = .ok (.if_icmp .ge 49, 3) := by decide +kernel
theorem dX7_hourOn_17 : decode cX7_hourOn 17 = .ok (.aload_n 0, 1) := by decide +kernel
theorem dX7_hourOn_18 : decode cX7_hourOn 18 = .ok (.iload_n 1, 1) := by decide +kernel
theorem dX7_hourOn_19 : decode cX7_hourOn 19 = .ok (.invokestatic 73, 3) := by decide +kernel
theorem dX7_hourOn_22 : decode cX7_hourOn 22 = .ok (.istore_n 2, 1) := by decide +kernel
theorem dX7_hourOn_23 : decode cX7_hourOn 23 = .ok (.aload_n 0, 1) := by decide +kernel
theorem dX7_hourOn_24 : decode cX7_hourOn 24 = .ok (.iload_n 1, 1) := by decide +kernel
theorem dX7_hourOn_25 : decode cX7_hourOn 25 = .ok (.invokestatic 59, 3) := by decide +kernel
theorem dX7_hourOn_28 : decode cX7_hourOn 28 = .ok (.iconst 4, 1) := by decide +kernel
theorem dX7_hourOn_29 : decode cX7_hourOn 29 = .ok (.iadd, 1) := by decide +kernel
theorem dX7_hourOn_30 : decode cX7_hourOn 30 = .ok (.iload_n 2, 1) := by decide +kernel
theorem dX7_hourOn_31 : decode cX7_hourOn 31 = .ok (.iastore, 1) := by decide +kernel
theorem dX7_hourOn_32 : decode cX7_hourOn 32 = .ok (.aload_n 0, 1) := by decide +kernel
theorem dX7_hourOn_33 : decode cX7_hourOn 33 = .ok (.iload_n 1, 1) := by decide +kernel
theorem dX7_hourOn_34 : decode cX7_hourOn 34 = .ok (.invokestatic 59, 3) := by decide +kernel
theorem dX7_hourOn_37 : decode cX7_hourOn 37 = .ok (.iconst 2, 1) := by decide +kernel
theorem dX7_hourOn_38 : decode cX7_hourOn 38 = .ok (.iadd, 1) := by decide +kernel
theorem dX7_hourOn_39 : decode cX7_hourOn 39 = .ok (.dup2, 1) := by decide +kernel
theorem dX7_hourOn_40 : decode cX7_hourOn 40 = .ok (.iaload, 1) := by decide +kernel
theorem dX7_hourOn_41 : decode cX7_hourOn 41 = .ok (.iload_n 2, 1) := by decide +kernel
theorem dX7_hourOn_42 : decode cX7_hourOn 42 = .ok (.iadd, 1) := by decide +kernel
theorem dX7_hourOn_43 : decode cX7_hourOn 43 = .ok (.iastore, 1) := by decide +kernel
theorem dX7_hourOn_44 : decode cX7_hourOn 44 = .ok (.iload_n 2, 1) := by decide +kernel
theorem dX7_hourOn_45 : decode cX7_hourOn 45 = .ok (.aload_n 0, 1) := by decide +kernel
theorem dX7_hourOn_46 : decode cX7_hourOn 46 = .ok (.bipush 7, 2) := by decide +kernel
theorem dX7_hourOn_48 : decode cX7_hourOn 48 = .ok (.iaload, 1) := by decide +kernel
theorem dX7_hourOn_49 : decode cX7_hourOn 49 = .ok (.if_icmp .lt 8, 3) := by decide +kernel
theorem dX7_hourOn_52 : decode cX7_hourOn 52 = .ok (.aload_n 0, 1) := by decide +kernel
theorem dX7_hourOn_53 : decode cX7_hourOn 53 = .ok (.iload_n 1, 1) := by decide +kernel
theorem dX7_hourOn_54 : decode cX7_hourOn 54 = .ok (.invokestatic 76, 3) := by decide +kernel
theorem dX7_hourOn_57 : decode cX7_hourOn 57 = .ok (.iinc 1 1, 3) := by decide +kernel
theorem dX7_hourOn_60 : decode cX7_hourOn 60 = .ok (.goto (-50), 3) := by decide +kernel
theorem dX7_hourOn_63 : decode cX7_hourOn 63 = .ok (.iconst 0, 1) := by decide +kernel
theorem dX7_hourOn_64 : decode cX7_hourOn 64 = .ok (.istore_n 1, 1) := by decide +kernel
theorem dX7_hourOn_65 : decode cX7_hourOn 65 = .ok (.iload_n 1, 1) := by decide +kernel
theorem dX7_hourOn_66 : decode cX7_hourOn 66 = .ok (.aload_n 0, 1) := by decide +kernel
theorem dX7_hourOn_67 : decode cX7_hourOn 67 = .ok (.iconst 0, 1) := by decide +kernel
theorem dX7_hourOn_68 : decode cX7_hourOn 68 = .ok (.iaload, 1) := by decide +kernel
theorem dX7_hourOn_69 : decode cX7_hourOn 69 = .ok (.if_icmp .ge 29, 3) := by decide +kernel
theorem dX7_hourOn_72 : decode cX7_hourOn 72 = .ok (.aload_n 0, 1) := by decide +kernel
theorem dX7_hourOn_73 : decode cX7_hourOn 73 = .ok (.iload_n 1, 1) := by decide +kernel
theorem dX7_hourOn_74 : decode cX7_hourOn 74 = .ok (.invokestatic 40, 3) := by decide +kernel
theorem dX7_hourOn_77 : decode cX7_hourOn 77 = .ok (.iconst 3, 1) := by decide +kernel
theorem dX7_hourOn_78 : decode cX7_hourOn 78 = .ok (.iadd, 1) := by decide +kernel
theorem dX7_hourOn_79 : decode cX7_hourOn 79 = .ok (.aload_n 0, 1) := by decide +kernel
theorem dX7_hourOn_80 : decode cX7_hourOn 80 = .ok (.iload_n 1, 1) := by decide +kernel
theorem dX7_hourOn_81 : decode cX7_hourOn 81 = .ok (.invokestatic 40, 3) := by decide +kernel
theorem dX7_hourOn_84 : decode cX7_hourOn 84 = .ok (.iconst 3, 1) := by decide +kernel
theorem dX7_hourOn_85 : decode cX7_hourOn 85 = .ok (.iadd, 1) := by decide +kernel
theorem dX7_hourOn_86 : decode cX7_hourOn 86 = .ok (.iaload, 1) := by decide +kernel
theorem dX7_hourOn_87 : decode cX7_hourOn 87 = .ok (.iconst 3, 1) := by decide +kernel
theorem dX7_hourOn_88 : decode cX7_hourOn 88 = .ok (.imul, 1) := by decide +kernel
theorem dX7_hourOn_89 : decode cX7_hourOn 89 = .ok (.iconst 4, 1) := by decide +kernel
theorem dX7_hourOn_90 : decode cX7_hourOn 90 = .ok (.idiv, 1) := by decide +kernel
theorem dX7_hourOn_91 : decode cX7_hourOn 91 = .ok (.iastore, 1) := by decide +kernel
theorem dX7_hourOn_92 : decode cX7_hourOn 92 = .ok (.iinc 1 1, 3) := by decide +kernel
theorem dX7_hourOn_95 : decode cX7_hourOn 95 = .ok (.goto (-30), 3) := by decide +kernel
theorem dX7_hourOn_98 : decode cX7_hourOn 98 = .ok (.aload_n 0, 1) := by decide +kernel
theorem dX7_hourOn_99 : decode cX7_hourOn 99 = .ok (.iconst 4, 1) := by decide +kernel
theorem dX7_hourOn_100 : decode cX7_hourOn 100 = .ok (.dup2, 1) := by decide +kernel
theorem dX7_hourOn_101 : decode cX7_hourOn 101 = .ok (.iaload, 1) := by decide +kernel
theorem dX7_hourOn_102 : decode cX7_hourOn 102 = .ok (.iconst 1, 1) := by decide +kernel
theorem dX7_hourOn_103 : decode cX7_hourOn 103 = .ok (.iadd, 1) := by decide +kernel
theorem dX7_hourOn_104 : decode cX7_hourOn 104 = .ok (.iastore, 1) := by decide +kernel
theorem dX7_hourOn_105 : decode cX7_hourOn 105 = .ok (.aload_n 0, 1) := by decide +kernel
theorem dX7_hourOn_106 : decode cX7_hourOn 106 = .ok (.iconst 4, 1) := by decide +kernel
theorem dX7_hourOn_107 : decode cX7_hourOn 107 = .ok (.iaload, 1) := by decide +kernel
theorem dX7_hourOn_108 : decode cX7_hourOn 108 = .ok (.bipush 10, 2) := by decide +kernel
theorem dX7_hourOn_110 : decode cX7_hourOn 110 = .ok (.if_icmp .ne 19, 3) := by decide +kernel
theorem dX7_hourOn_113 : decode cX7_hourOn 113 = .ok (.aload_n 0, 1) := by decide +kernel
theorem dX7_hourOn_114 : decode cX7_hourOn 114 = .ok (.iconst 4, 1) := by decide +kernel
theorem dX7_hourOn_115 : decode cX7_hourOn 115 = .ok (.iconst 0, 1) := by decide +kernel
theorem dX7_hourOn_116 : decode cX7_hourOn 116 = .ok (.iastore, 1) := by decide +kernel
theorem dX7_hourOn_117 : decode cX7_hourOn 117 = .ok (.aload_n 0, 1) := by decide +kernel
theorem dX7_hourOn_118 : decode cX7_hourOn 118 = .ok (.iconst 3, 1) := by decide +kernel
theorem dX7_hourOn_119 : decode cX7_hourOn 119 = .ok (.dup2, 1) := by decide +kernel
theorem dX7_hourOn_120 : decode cX7_hourOn 120 = .ok (.iaload, 1) := by decide +kernel
theorem dX7_hourOn_121 : decode cX7_hourOn 121 = .ok (.iconst 1, 1) := by decide +kernel
theorem dX7_hourOn_122 : decode cX7_hourOn 122 = .ok (.iadd, 1) := by decide +kernel
theorem dX7_hourOn_123 : decode cX7_hourOn 123 = .ok (.iastore, 1) := by decide +kernel
theorem dX7_hourOn_124 : decode cX7_hourOn 124 = .ok (.aload_n 0, 1) := by decide +kernel
theorem dX7_hourOn_125 : decode cX7_hourOn 125 = .ok (.bipush 9, 2) := by decide +kernel
theorem dX7_hourOn_127 : decode cX7_hourOn 127 = .ok (.iconst 0, 1) := by decide +kernel
theorem dX7_hourOn_128 : decode cX7_hourOn 128 = .ok (.iastore, 1) := by decide +kernel
theorem dX7_hourOn_129 : decode cX7_hourOn 129 = .ok (.iconst 0, 1) := by decide +kernel
theorem dX7_hourOn_130 : decode cX7_hourOn 130 = .ok (.istore_n 1, 1) := by decide +kernel
theorem dX7_hourOn_131 : decode cX7_hourOn 131 = .ok (.iload_n 1, 1) := by decide +kernel
theorem dX7_hourOn_132 : decode cX7_hourOn 132 = .ok (.aload_n 0, 1) := by decide +kernel
theorem dX7_hourOn_133 : decode cX7_hourOn 133 = .ok (.iconst 2, 1) := by decide +kernel
theorem dX7_hourOn_134 : decode cX7_hourOn 134 = .ok (.iaload, 1) := by decide +kernel
theorem dX7_hourOn_135 : decode cX7_hourOn 135 = .ok (.if_icmp .ge 18, 3) := by decide +kernel
theorem dX7_hourOn_138 : decode cX7_hourOn 138 = .ok (.aload_n 0, 1) := by decide +kernel
theorem dX7_hourOn_139 : decode cX7_hourOn 139 = .ok (.iload_n 1, 1) := by decide +kernel
theorem dX7_hourOn_140 : decode cX7_hourOn 140 = .ok (.invokestatic 79, 3) := by decide +kernel
theorem dX7_hourOn_143 : decode cX7_hourOn 143 = .ok (.iconst 2, 1) := by decide +kernel
theorem dX7_hourOn_144 : decode cX7_hourOn 144 = .ok (.iadd, 1) := by decide +kernel
theorem dX7_hourOn_145 : decode cX7_hourOn 145 = .ok (.iconst 4, 1) := by decide +kernel
theorem dX7_hourOn_146 : decode cX7_hourOn 146 = .ok (.iastore, 1) := by decide +kernel
theorem dX7_hourOn_147 : decode cX7_hourOn 147 = .ok (.iinc 1 1, 3) := by decide +kernel
theorem dX7_hourOn_150 : decode cX7_hourOn 150 = .ok (.goto (-19), 3) := by decide +kernel
theorem dX7_hourOn_153 : decode cX7_hourOn 153 = .ok (.return_, 1) := by decide +kernel
set_option maxRecDepth 20000 in
theorem ggX7_wet_X7_segmentAt : GoodIn wsX7_wet wsX7_segmentAt := goodIn_r _ [4] (by decide +kernel) (by decide +kernel)
set_option maxRecDepth 20000 in
theorem gX7_wet_X7_segmentAt : GoodIn wsX7_wet (va_wsS RX7 40 yX7_segmentAt wsX7_segmentAt) := goodIn_app (goodIn_of _ (by decide +kernel)) ggX7_wet_X7_segmentAt
set_option maxRecDepth 20000 in
theorem ggX7_wet_X7_less : GoodIn wsX7_wet wsX7_less := goodIn_r _ [7] (by decide +kernel) (by decide +kernel)
set_option maxRecDepth 20000 in
theorem gX7_wet_X7_less : GoodIn wsX7_wet (va_wsS RX7 52 yX7_less wsX7_less) := goodIn_app (goodIn_of _ (by decide +kernel)) ggX7_wet_X7_less
theorem dX7_wet_0 : decode cX7_wet 0 = .ok (.aload_n 0, 1) := by decide +kernel
theorem dX7_wet_1 : decode cX7_wet 1 = .ok (.iload_n 1, 1) := by decide +kernel
theorem dX7_wet_2 : decode cX7_wet 2 = .ok (.invokestatic 40, 3) := by decide +kernel
theorem dX7_wet_5 : decode cX7_wet 5 = .ok (.iconst 4, 1) := by decide +kernel
theorem dX7_wet_6 : decode cX7_wet 6 = .ok (.iadd, 1) := by decide +kernel
theorem dX7_wet_7 : decode cX7_wet 7 = .ok (.bipush 9, 2) := by decide +kernel
theorem dX7_wet_9 : decode cX7_wet 9 = .ok (.aload_n 0, 1) := by decide +kernel
theorem dX7_wet_10 : decode cX7_wet 10 = .ok (.iload_n 1, 1) := by decide +kernel
theorem dX7_wet_11 : decode cX7_wet 11 = .ok (.invokestatic 40, 3) := by decide +kernel
theorem dX7_wet_14 : decode cX7_wet 14 = .ok (.iconst 4, 1) := by decide +kernel
theorem dX7_wet_15 : decode cX7_wet 15 = .ok (.iadd, 1) := by decide +kernel
theorem dX7_wet_16 : decode cX7_wet 16 = .ok (.iaload, 1) := by decide +kernel
theorem dX7_wet_17 : decode cX7_wet 17 = .ok (.iload_n 2, 1) := by decide +kernel
theorem dX7_wet_18 : decode cX7_wet 18 = .ok (.iadd, 1) := by decide +kernel
theorem dX7_wet_19 : decode cX7_wet 19 = .ok (.invokestatic 52, 3) := by decide +kernel
theorem dX7_wet_22 : decode cX7_wet 22 = .ok (.iastore, 1) := by decide +kernel
theorem dX7_wet_23 : decode cX7_wet 23 = .ok (.return_, 1) := by decide +kernel
set_option maxRecDepth 20000 in
theorem ggX7_far_X7_wagonAt : GoodIn wsX7_far wsX7_wagonAt := goodIn_r _ [4] (by decide +kernel) (by decide +kernel)
set_option maxRecDepth 20000 in
theorem gX7_far_X7_wagonAt : GoodIn wsX7_far (va_wsS RX7 79 yX7_wagonAt wsX7_wagonAt) := goodIn_app (goodIn_of _ (by decide +kernel)) ggX7_far_X7_wagonAt
theorem dX7_far_0 : decode cX7_far 0 = .ok (.aload_n 0, 1) := by decide +kernel
theorem dX7_far_1 : decode cX7_far 1 = .ok (.iload_n 1, 1) := by decide +kernel
theorem dX7_far_2 : decode cX7_far 2 = .ok (.invokestatic 79, 3) := by decide +kernel
theorem dX7_far_5 : decode cX7_far 5 = .ok (.iaload, 1) := by decide +kernel
theorem dX7_far_6 : decode cX7_far 6 = .ok (.iload_n 2, 1) := by decide +kernel
theorem dX7_far_7 : decode cX7_far 7 = .ok (.isub, 1) := by decide +kernel
theorem dX7_far_8 : decode cX7_far 8 = .ok (.istore_n 3, 1) := by decide +kernel
theorem dX7_far_9 : decode cX7_far 9 = .ok (.iload_n 3, 1) := by decide +kernel
theorem dX7_far_10 : decode cX7_far 10 = .ok (.ifCond .ge 8, 3) := by decide +kernel
theorem dX7_far_13 : decode cX7_far 13 = .ok (.iload_n 3, 1) := by decide +kernel
theorem dX7_far_14 : decode cX7_far 14 = .ok (.ineg, 1) := by decide +kernel
theorem dX7_far_15 : decode cX7_far 15 = .ok (.goto 4, 3) := by decide +kernel
theorem dX7_far_18 : decode cX7_far 18 = .ok (.iload_n 3, 1) := by decide +kernel
theorem dX7_far_19 : decode cX7_far 19 = .ok (.ireturn, 1) := by decide +kernel
set_option maxRecDepth 20000 in
theorem ggX7_driveOn_X7_far : GoodIn wsX7_driveOn wsX7_far := goodIn_r _ [4, 5, 6, 3, 7] (by decide +kernel) (by decide +kernel)
set_option maxRecDepth 20000 in
theorem gX7_driveOn_X7_far : GoodIn wsX7_driveOn (va_wsS RX7 82 yX7_far wsX7_far) := goodIn_app (goodIn_of _ (by decide +kernel)) ggX7_driveOn_X7_far
set_option maxRecDepth 20000 in
theorem ggX7_driveOn_X7_wagonAt : GoodIn wsX7_driveOn wsX7_wagonAt := goodIn_r _ [7] (by decide +kernel) (by decide +kernel)
set_option maxRecDepth 20000 in
theorem gX7_driveOn_X7_wagonAt : GoodIn wsX7_driveOn (va_wsS RX7 79 yX7_wagonAt wsX7_wagonAt) := goodIn_app (goodIn_of _ (by decide +kernel)) ggX7_driveOn_X7_wagonAt
theorem dX7_driveOn_0 : decode cX7_driveOn 0 = .ok (.aload_n 0, 1) := by decide +kernel
theorem dX7_driveOn_1 : decode cX7_driveOn 1 = .ok (.iload_n 1, 1) := by decide +kernel
theorem dX7_driveOn_2 : decode cX7_driveOn 2 = .ok (.iload_n 2, 1) := by decide +kernel
theorem dX7_driveOn_3 : decode cX7_driveOn 3 = .ok (.invokestatic 82, 3) := by decide +kernel
theorem dX7_driveOn_6 : decode cX7_driveOn 6 = .ok (.istore_n 3, 1) := by decide +kernel
theorem dX7_driveOn_7 : decode cX7_driveOn 7 = .ok (.iload_n 3, 1) := by decide +kernel
theorem dX7_driveOn_8 : decode cX7_driveOn 8 = .ok (.aload_n 0, 1) := by decide +kernel
theorem dX7_driveOn_9 : decode cX7_driveOn 9 = .ok (.iload_n 1, 1) := by decide +kernel
theorem dX7_driveOn_10 : decode cX7_driveOn 10 = .ok (.invokestatic 79, 3) := by decide +kernel
theorem dX7_driveOn_13 : decode cX7_driveOn 13 = .ok (.iconst 2, 1) := by decide +kernel
theorem dX7_driveOn_14 : decode cX7_driveOn 14 = .ok (.iadd, 1) := by decide +kernel
theorem dX7_driveOn_15 : decode cX7_driveOn 15 = .ok (.iaload, 1) := by decide +kernel
theorem dX7_driveOn_16 : decode cX7_driveOn 16 = .ok (.if_icmp .le 5, 3) := by decide +kernel
theorem dX7_driveOn_19 : decode cX7_driveOn 19 = .ok (.iconst 0, 1) := by decide +kernel
theorem dX7_driveOn_20 : decode cX7_driveOn 20 = .ok (.ireturn, 1) := by decide +kernel
theorem dX7_driveOn_21 : decode cX7_driveOn 21 = .ok (.aload_n 0, 1) := by decide +kernel
theorem dX7_driveOn_22 : decode cX7_driveOn 22 = .ok (.iload_n 1, 1) := by decide +kernel
theorem dX7_driveOn_23 : decode cX7_driveOn 23 = .ok (.invokestatic 79, 3) := by decide +kernel
theorem dX7_driveOn_26 : decode cX7_driveOn 26 = .ok (.iconst 2, 1) := by decide +kernel
theorem dX7_driveOn_27 : decode cX7_driveOn 27 = .ok (.iadd, 1) := by decide +kernel
theorem dX7_driveOn_28 : decode cX7_driveOn 28 = .ok (.dup2, 1) := by decide +kernel
theorem dX7_driveOn_29 : decode cX7_driveOn 29 = .ok (.iaload, 1) := by decide +kernel
theorem dX7_driveOn_30 : decode cX7_driveOn 30 = .ok (.iload_n 3, 1) := by decide +kernel
theorem dX7_driveOn_31 : decode cX7_driveOn 31 = .ok (.isub, 1) := by decide +kernel
theorem dX7_driveOn_32 : decode cX7_driveOn 32 = .ok (.iastore, 1) := by decide +kernel
theorem dX7_driveOn_33 : decode cX7_driveOn 33 = .ok (.aload_n 0, 1) := by decide +kernel
theorem dX7_driveOn_34 : decode cX7_driveOn 34 = .ok (.iload_n 1, 1) := by decide +kernel
theorem dX7_driveOn_35 : decode cX7_driveOn 35 = .ok (.invokestatic 79, 3) := by decide +kernel
theorem dX7_driveOn_38 : decode cX7_driveOn 38 = .ok (.iload_n 2, 1) := by decide +kernel
theorem dX7_driveOn_39 : decode cX7_driveOn 39 = .ok (.iastore, 1) := by decide +kernel
theorem dX7_driveOn_40 : decode cX7_driveOn 40 = .ok (.iconst 1, 1) := by decide +kernel
theorem dX7_driveOn_41 : decode cX7_driveOn 41 = .ok (.ireturn, 1) := by decide +kernel
set_option maxRecDepth 20000 in
theorem ggX7_sprayOn_X7_wagonAt : GoodIn wsX7_sprayOn wsX7_wagonAt := goodIn_r _ [4] (by decide +kernel) (by decide +kernel)
set_option maxRecDepth 20000 in
theorem gX7_sprayOn_X7_wagonAt : GoodIn wsX7_sprayOn (va_wsS RX7 79 yX7_wagonAt wsX7_wagonAt) := goodIn_app (goodIn_of _ (by decide +kernel)) ggX7_sprayOn_X7_wagonAt
set_option maxRecDepth 20000 in
theorem ggX7_sprayOn_X7_wet : GoodIn wsX7_sprayOn wsX7_wet := goodIn_r _ [7, 8, 9, 3, 10, 11, 12, 13] (by decide +kernel) (by decide +kernel)
set_option maxRecDepth 20000 in
theorem gX7_sprayOn_X7_wet : GoodIn wsX7_sprayOn (va_wsS RX7 86 yX7_wet wsX7_wet) := goodIn_app (goodIn_of _ (by decide +kernel)) ggX7_sprayOn_X7_wet
theorem dX7_sprayOn_0 : decode cX7_sprayOn 0 = .ok (.iload_n 1, 1) := by decide +kernel
theorem dX7_sprayOn_1 : decode cX7_sprayOn 1 = .ok (.invokestatic 79, 3) := by decide +kernel
theorem dX7_sprayOn_4 : decode cX7_sprayOn 4 = .ok (.istore_n 3, 1) := by decide +kernel
theorem dX7_sprayOn_5 : decode cX7_sprayOn 5 = .ok (.aload_n 0, 1) := by decide +kernel
theorem dX7_sprayOn_6 : decode cX7_sprayOn 6 = .ok (.iload_n 3, 1) := by decide +kernel
theorem dX7_sprayOn_7 : decode cX7_sprayOn 7 = .ok (.iconst 2, 1) := by decide +kernel
theorem dX7_sprayOn_8 : decode cX7_sprayOn 8 = .ok (.iadd, 1) := by decide +kernel
theorem dX7_sprayOn_9 : decode cX7_sprayOn 9 = .ok (.iaload, 1) := by decide +kernel
theorem dX7_sprayOn_10 : decode cX7_sprayOn 10 = .ok (.ifCond .eq 12, 3) := by decide +kernel
theorem dX7_sprayOn_13 : decode cX7_sprayOn 13 = .ok (.aload_n 0, 1) := by decide +kernel
theorem dX7_sprayOn_14 : decode cX7_sprayOn 14 = .ok (.iload_n 3, 1) := by decide +kernel
theorem dX7_sprayOn_15 : decode cX7_sprayOn 15 = .ok (.iconst 1, 1) := by decide +kernel
theorem dX7_sprayOn_16 : decode cX7_sprayOn 16 = .ok (.iadd, 1) := by decide +kernel
theorem dX7_sprayOn_17 : decode cX7_sprayOn 17 = .ok (.iaload, 1) := by decide +kernel
theorem dX7_sprayOn_18 : decode cX7_sprayOn 18 = .ok (.iload_n 2, 1) := by decide +kernel
theorem dX7_sprayOn_19 : decode cX7_sprayOn 19 = .ok (.if_icmp .ge 5, 3) := by decide +kernel
theorem dX7_sprayOn_22 : decode cX7_sprayOn 22 = .ok (.iconst 0, 1) := by decide +kernel
theorem dX7_sprayOn_23 : decode cX7_sprayOn 23 = .ok (.ireturn, 1) := by decide +kernel
theorem dX7_sprayOn_24 : decode cX7_sprayOn 24 = .ok (.aload_n 0, 1) := by decide +kernel
theorem dX7_sprayOn_25 : decode cX7_sprayOn 25 = .ok (.iload_n 3, 1) := by decide +kernel
theorem dX7_sprayOn_26 : decode cX7_sprayOn 26 = .ok (.iconst 2, 1) := by decide +kernel
theorem dX7_sprayOn_27 : decode cX7_sprayOn 27 = .ok (.iadd, 1) := by decide +kernel
theorem dX7_sprayOn_28 : decode cX7_sprayOn 28 = .ok (.dup2, 1) := by decide +kernel
theorem dX7_sprayOn_29 : decode cX7_sprayOn 29 = .ok (.iaload, 1) := by decide +kernel
theorem dX7_sprayOn_30 : decode cX7_sprayOn 30 = .ok (.iconst 1, 1) := by decide +kernel
theorem dX7_sprayOn_31 : decode cX7_sprayOn 31 = .ok (.isub, 1) := by decide +kernel
theorem dX7_sprayOn_32 : decode cX7_sprayOn 32 = .ok (.iastore, 1) := by decide +kernel
theorem dX7_sprayOn_33 : decode cX7_sprayOn 33 = .ok (.aload_n 0, 1) := by decide +kernel
theorem dX7_sprayOn_34 : decode cX7_sprayOn 34 = .ok (.iload_n 3, 1) := by decide +kernel
theorem dX7_sprayOn_35 : decode cX7_sprayOn 35 = .ok (.iconst 1, 1) := by decide +kernel
theorem dX7_sprayOn_36 : decode cX7_sprayOn 36 = .ok (.iadd, 1) := by decide +kernel
theorem dX7_sprayOn_37 : decode cX7_sprayOn 37 = .ok (.dup2, 1) := by decide +kernel
theorem dX7_sprayOn_38 : decode cX7_sprayOn 38 = .ok (.iaload, 1) := by decide +kernel
theorem dX7_sprayOn_39 : decode cX7_sprayOn 39 = .ok (.iload_n 2, 1) := by decide +kernel
theorem dX7_sprayOn_40 : decode cX7_sprayOn 40 = .ok (.isub, 1) := by decide +kernel
theorem dX7_sprayOn_41 : decode cX7_sprayOn 41 = .ok (.iastore, 1) := by decide +kernel
theorem dX7_sprayOn_42 : decode cX7_sprayOn 42 = .ok (.aload_n 0, 1) := by decide +kernel
theorem dX7_sprayOn_43 : decode cX7_sprayOn 43 = .ok (.bipush 11, 2) := by decide +kernel
theorem dX7_sprayOn_45 : decode cX7_sprayOn 45 = .ok (.dup2, 1) := by decide +kernel
theorem dX7_sprayOn_46 : decode cX7_sprayOn 46 = .ok (.iaload, 1) := by decide +kernel
theorem dX7_sprayOn_47 : decode cX7_sprayOn 47 = .ok (.iload_n 2, 1) := by decide +kernel
theorem dX7_sprayOn_48 : decode cX7_sprayOn 48 = .ok (.iadd, 1) := by decide +kernel
theorem dX7_sprayOn_49 : decode cX7_sprayOn 49 = .ok (.iastore, 1) := by decide +kernel
theorem dX7_sprayOn_50 : decode cX7_sprayOn 50 = .ok (.aload_n 0, 1) := by decide +kernel
theorem dX7_sprayOn_51 : decode cX7_sprayOn 51 = .ok (.aload_n 0, 1) := by decide +kernel
theorem dX7_sprayOn_52 : decode cX7_sprayOn 52 = .ok (.iload_n 3, 1) := by decide +kernel
theorem dX7_sprayOn_53 : decode cX7_sprayOn 53 = .ok (.iaload, 1) := by decide +kernel
theorem dX7_sprayOn_54 : decode cX7_sprayOn 54 = .ok (.iload_n 2, 1) := by decide +kernel
theorem dX7_sprayOn_55 : decode cX7_sprayOn 55 = .ok (.invokestatic 86, 3) := by decide +kernel
theorem dX7_sprayOn_58 : decode cX7_sprayOn 58 = .ok (.iconst 1, 1) := by decide +kernel
theorem dX7_sprayOn_59 : decode cX7_sprayOn 59 = .ok (.ireturn, 1) := by decide +kernel
set_option maxRecDepth 20000 in
theorem ggX7_why_X7_wagonAt : GoodIn wsX7_why wsX7_wagonAt := goodIn_r _ [4] (by decide +kernel) (by decide +kernel)
set_option maxRecDepth 20000 in
theorem gX7_why_X7_wagonAt : GoodIn wsX7_why (va_wsS RX7 79 yX7_wagonAt wsX7_wagonAt) := goodIn_app (goodIn_of _ (by decide +kernel)) ggX7_why_X7_wagonAt
set_option maxRecDepth 20000 in
theorem ggX7_why_X7_segmentAt : GoodIn wsX7_why wsX7_segmentAt := goodIn_r _ [7] (by decide +kernel) (by decide +kernel)
set_option maxRecDepth 20000 in
theorem gX7_why_X7_segmentAt : GoodIn wsX7_why (va_wsS RX7 40 yX7_segmentAt wsX7_segmentAt) := goodIn_app (goodIn_of _ (by decide +kernel)) ggX7_why_X7_segmentAt
theorem dX7_why_0 : decode cX7_why 0 = .ok (.iload_n 1, 1) := by decide +kernel
theorem dX7_why_1 : decode cX7_why 1 = .ok (.invokestatic 79, 3) := by decide +kernel
theorem dX7_why_4 : decode cX7_why 4 = .ok (.istore_n 2, 1) := by decide +kernel
theorem dX7_why_5 : decode cX7_why 5 = .ok (.aload_n 0, 1) := by decide +kernel
theorem dX7_why_6 : decode cX7_why 6 = .ok (.iload_n 2, 1) := by decide +kernel
theorem dX7_why_7 : decode cX7_why 7 = .ok (.iconst 2, 1) := by decide +kernel
theorem dX7_why_8 : decode cX7_why 8 = .ok (.iadd, 1) := by decide +kernel
theorem dX7_why_9 : decode cX7_why 9 = .ok (.iaload, 1) := by decide +kernel
theorem dX7_why_10 : decode cX7_why 10 = .ok (.ifCond .ne 5, 3) := by decide +kernel
theorem dX7_why_13 : decode cX7_why 13 = .ok (.iconst 1, 1) := by decide +kernel
theorem dX7_why_14 : decode cX7_why 14 = .ok (.ireturn, 1) := by decide +kernel
theorem dX7_why_15 : decode cX7_why 15 = .ok (.aload_n 0, 1) := by decide +kernel
theorem dX7_why_16 : decode cX7_why 16 = .ok (.aload_n 0, 1) := by decide +kernel
theorem dX7_why_17 : decode cX7_why 17 = .ok (.iload_n 2, 1) := by decide +kernel
theorem dX7_why_18 : decode cX7_why 18 = .ok (.iaload, 1) := by decide +kernel
theorem dX7_why_19 : decode cX7_why 19 = .ok (.invokestatic 40, 3) := by decide +kernel
theorem dX7_why_22 : decode cX7_why 22 = .ok (.iconst 5, 1) := by decide +kernel
theorem dX7_why_23 : decode cX7_why 23 = .ok (.iadd, 1) := by decide +kernel
theorem dX7_why_24 : decode cX7_why 24 = .ok (.iaload, 1) := by decide +kernel
theorem dX7_why_25 : decode cX7_why 25 = .ok (.ifCond .ne 5, 3) := by decide +kernel
theorem dX7_why_28 : decode cX7_why 28 = .ok (.iconst 2, 1) := by decide +kernel
theorem dX7_why_29 : decode cX7_why 29 = .ok (.ireturn, 1) := by decide +kernel
theorem dX7_why_30 : decode cX7_why 30 = .ok (.aload_n 0, 1) := by decide +kernel
theorem dX7_why_31 : decode cX7_why 31 = .ok (.iload_n 2, 1) := by decide +kernel
theorem dX7_why_32 : decode cX7_why 32 = .ok (.iconst 1, 1) := by decide +kernel
theorem dX7_why_33 : decode cX7_why 33 = .ok (.iadd, 1) := by decide +kernel
theorem dX7_why_34 : decode cX7_why 34 = .ok (.iaload, 1) := by decide +kernel
theorem dX7_why_35 : decode cX7_why 35 = .ok (.bipush 20, 2) := by decide +kernel
theorem dX7_why_37 : decode cX7_why 37 = .ok (.if_icmp .ne 7, 3) := by decide +kernel
theorem dX7_why_40 : decode cX7_why 40 = .ok (.iconst 3, 1) := by decide +kernel
theorem dX7_why_41 : decode cX7_why 41 = .ok (.goto 19, 3) := by decide +kernel
theorem dX7_why_44 : decode cX7_why 44 = .ok (.aload_n 0, 1) := by decide +kernel
theorem dX7_why_45 : decode cX7_why 45 = .ok (.bipush 9, 2) := by decide +kernel
theorem dX7_why_47 : decode cX7_why 47 = .ok (.iaload, 1) := by decide +kernel
theorem dX7_why_48 : decode cX7_why 48 = .ok (.aload_n 0, 1) := by decide +kernel
theorem dX7_why_49 : decode cX7_why 49 = .ok (.bipush 8, 2) := by decide +kernel
theorem dX7_why_51 : decode cX7_why 51 = .ok (.iaload, 1) := by decide +kernel
theorem dX7_why_52 : decode cX7_why 52 = .ok (.if_icmp .lt 7, 3) := by decide +kernel
theorem dX7_why_55 : decode cX7_why 55 = .ok (.iconst 4, 1) := by decide +kernel
theorem dX7_why_56 : decode cX7_why 56 = .ok (.goto 4, 3) := by decide +kernel
theorem dX7_why_59 : decode cX7_why 59 = .ok (.iconst 0, 1) := by decide +kernel
theorem dX7_why_60 : decode cX7_why 60 = .ok (.ireturn, 1) := by decide +kernel
set_option maxRecDepth 20000 in
theorem ggX7_fillOn_X7_wagonAt : GoodIn wsX7_fillOn wsX7_wagonAt := goodIn_r _ [4] (by decide +kernel) (by decide +kernel)
set_option maxRecDepth 20000 in
theorem gX7_fillOn_X7_wagonAt : GoodIn wsX7_fillOn (va_wsS RX7 79 yX7_wagonAt wsX7_wagonAt) := goodIn_app (goodIn_of _ (by decide +kernel)) ggX7_fillOn_X7_wagonAt
set_option maxRecDepth 20000 in
theorem ggX7_fillOn_X7_less : GoodIn wsX7_fillOn wsX7_less := goodIn_r _ [7] (by decide +kernel) (by decide +kernel)
set_option maxRecDepth 20000 in
theorem gX7_fillOn_X7_less : GoodIn wsX7_fillOn (va_wsS RX7 52 yX7_less wsX7_less) := goodIn_app (goodIn_of _ (by decide +kernel)) ggX7_fillOn_X7_less
theorem dX7_fillOn_0 : decode cX7_fillOn 0 = .ok (.iload_n 1, 1) := by decide +kernel
theorem dX7_fillOn_1 : decode cX7_fillOn 1 = .ok (.invokestatic 79, 3) := by decide +kernel
theorem dX7_fillOn_4 : decode cX7_fillOn 4 = .ok (.istore_n 2, 1) := by decide +kernel
theorem dX7_fillOn_5 : decode cX7_fillOn 5 = .ok (.bipush 20, 2) := by decide +kernel
theorem dX7_fillOn_7 : decode cX7_fillOn 7 = .ok (.aload_n 0, 1) := by decide +kernel
theorem dX7_fillOn_8 : decode cX7_fillOn 8 = .ok (.iload_n 2, 1) := by decide +kernel
theorem dX7_fillOn_9 : decode cX7_fillOn 9 = .ok (.iconst 1, 1) := by decide +kernel
theorem dX7_fillOn_10 : decode cX7_fillOn 10 = .ok (.iadd, 1) := by decide +kernel
theorem dX7_fillOn_11 : decode cX7_fillOn 11 = .ok (.iaload, 1) := by decide +kernel
theorem dX7_fillOn_12 : decode cX7_fillOn 12 = .ok (.isub, 1) := by decide +kernel
theorem dX7_fillOn_13 : decode cX7_fillOn 13 = .ok (.aload_n 0, 1) := by decide +kernel
theorem dX7_fillOn_14 : decode cX7_fillOn 14 = .ok (.bipush 8, 2) := by decide +kernel
theorem dX7_fillOn_16 : decode cX7_fillOn 16 = .ok (.iaload, 1) := by decide +kernel
theorem dX7_fillOn_17 : decode cX7_fillOn 17 = .ok (.aload_n 0, 1) := by decide +kernel
theorem dX7_fillOn_18 : decode cX7_fillOn 18 = .ok (.bipush 9, 2) := by decide +kernel
theorem dX7_fillOn_20 : decode cX7_fillOn 20 = .ok (.iaload, 1) := by decide +kernel
theorem dX7_fillOn_21 : decode cX7_fillOn 21 = .ok (.isub, 1) := by decide +kernel
theorem dX7_fillOn_22 : decode cX7_fillOn 22 = .ok (.invokestatic 52, 3) := by decide +kernel
theorem dX7_fillOn_25 : decode cX7_fillOn 25 = .ok (.istore_n 3, 1) := by decide +kernel
theorem dX7_fillOn_26 : decode cX7_fillOn 26 = .ok (.aload_n 0, 1) := by decide +kernel
theorem dX7_fillOn_27 : decode cX7_fillOn 27 = .ok (.iload_n 2, 1) := by decide +kernel
theorem dX7_fillOn_28 : decode cX7_fillOn 28 = .ok (.iconst 1, 1) := by decide +kernel
theorem dX7_fillOn_29 : decode cX7_fillOn 29 = .ok (.iadd, 1) := by decide +kernel
theorem dX7_fillOn_30 : decode cX7_fillOn 30 = .ok (.dup2, 1) := by decide +kernel
theorem dX7_fillOn_31 : decode cX7_fillOn 31 = .ok (.iaload, 1) := by decide +kernel
theorem dX7_fillOn_32 : decode cX7_fillOn 32 = .ok (.iload_n 3, 1) := by decide +kernel
theorem dX7_fillOn_33 : decode cX7_fillOn 33 = .ok (.iadd, 1) := by decide +kernel
theorem dX7_fillOn_34 : decode cX7_fillOn 34 = .ok (.iastore, 1) := by decide +kernel
theorem dX7_fillOn_35 : decode cX7_fillOn 35 = .ok (.aload_n 0, 1) := by decide +kernel
theorem dX7_fillOn_36 : decode cX7_fillOn 36 = .ok (.iload_n 2, 1) := by decide +kernel
theorem dX7_fillOn_37 : decode cX7_fillOn 37 = .ok (.iconst 2, 1) := by decide +kernel
theorem dX7_fillOn_38 : decode cX7_fillOn 38 = .ok (.iadd, 1) := by decide +kernel
theorem dX7_fillOn_39 : decode cX7_fillOn 39 = .ok (.dup2, 1) := by decide +kernel
theorem dX7_fillOn_40 : decode cX7_fillOn 40 = .ok (.iaload, 1) := by decide +kernel
theorem dX7_fillOn_41 : decode cX7_fillOn 41 = .ok (.iconst 1, 1) := by decide +kernel
theorem dX7_fillOn_42 : decode cX7_fillOn 42 = .ok (.isub, 1) := by decide +kernel
theorem dX7_fillOn_43 : decode cX7_fillOn 43 = .ok (.iastore, 1) := by decide +kernel
theorem dX7_fillOn_44 : decode cX7_fillOn 44 = .ok (.aload_n 0, 1) := by decide +kernel
theorem dX7_fillOn_45 : decode cX7_fillOn 45 = .ok (.bipush 9, 2) := by decide +kernel
theorem dX7_fillOn_47 : decode cX7_fillOn 47 = .ok (.dup2, 1) := by decide +kernel
theorem dX7_fillOn_48 : decode cX7_fillOn 48 = .ok (.iaload, 1) := by decide +kernel
theorem dX7_fillOn_49 : decode cX7_fillOn 49 = .ok (.iload_n 3, 1) := by decide +kernel
theorem dX7_fillOn_50 : decode cX7_fillOn 50 = .ok (.iadd, 1) := by decide +kernel
theorem dX7_fillOn_51 : decode cX7_fillOn 51 = .ok (.iastore, 1) := by decide +kernel
theorem dX7_fillOn_52 : decode cX7_fillOn 52 = .ok (.iload_n 3, 1) := by decide +kernel
theorem dX7_fillOn_53 : decode cX7_fillOn 53 = .ok (.ireturn, 1) := by decide +kernel
set_option maxRecDepth 20000 in
theorem ggX7_houseOn_X7_houseAt : GoodIn wsX7_houseOn wsX7_houseAt := goodIn_r _ [4] (by decide +kernel) (by decide +kernel)
set_option maxRecDepth 20000 in
theorem gX7_houseOn_X7_houseAt : GoodIn wsX7_houseOn (va_wsS RX7 59 yX7_houseAt wsX7_houseAt) := goodIn_app (goodIn_of _ (by decide +kernel)) ggX7_houseOn_X7_houseAt
theorem dX7_houseOn_0 : decode cX7_houseOn 0 = .ok (.aload_n 0, 1) := by decide +kernel
theorem dX7_houseOn_1 : decode cX7_houseOn 1 = .ok (.iconst 1, 1) := by decide +kernel
theorem dX7_houseOn_2 : decode cX7_houseOn 2 = .ok (.iaload, 1) := by decide +kernel
theorem dX7_houseOn_3 : decode cX7_houseOn 3 = .ok (.invokestatic 59, 3) := by decide +kernel
theorem dX7_houseOn_6 : decode cX7_houseOn 6 = .ok (.istore_n 3, 1) := by decide +kernel
theorem dX7_houseOn_7 : decode cX7_houseOn 7 = .ok (.iconst 0, 1) := by decide +kernel
theorem dX7_houseOn_8 : decode cX7_houseOn 8 = .ok (.istore 4, 2) := by decide +kernel
theorem dX7_houseOn_10 : decode cX7_houseOn 10 = .ok (.iload 4, 2) := by decide +kernel
theorem dX7_houseOn_12 : decode cX7_houseOn 12 = .ok (.iconst 5, 1) := by decide +kernel
theorem dX7_houseOn_13 : decode cX7_houseOn 13 = .ok (.if_icmp .ge 16, 3) := by decide +kernel
theorem dX7_houseOn_16 : decode cX7_houseOn 16 = .ok (.aload_n 0, 1) := by decide +kernel
theorem dX7_houseOn_17 : decode cX7_houseOn 17 = .ok (.iload_n 3, 1) := by decide +kernel
theorem dX7_houseOn_18 : decode cX7_houseOn 18 = .ok (.iload 4, 2) := by decide +kernel
theorem dX7_houseOn_20 : decode cX7_houseOn 20 = .ok (.iadd, 1) := by decide +kernel
theorem dX7_houseOn_21 : decode cX7_houseOn 21 = .ok (.iconst 0, 1) := by decide +kernel
theorem dX7_houseOn_22 : decode cX7_houseOn 22 = .ok (.iastore, 1) := by decide +kernel
theorem dX7_houseOn_23 : decode cX7_houseOn 23 = .ok (.iinc 4 1, 3) := by decide +kernel
theorem dX7_houseOn_26 : decode cX7_houseOn 26 = .ok (.goto (-16), 3) := by decide +kernel
theorem dX7_houseOn_29 : decode cX7_houseOn 29 = .ok (.aload_n 0, 1) := by decide +kernel
theorem dX7_houseOn_30 : decode cX7_houseOn 30 = .ok (.iload_n 3, 1) := by decide +kernel
theorem dX7_houseOn_31 : decode cX7_houseOn 31 = .ok (.iload_n 1, 1) := by decide +kernel
theorem dX7_houseOn_32 : decode cX7_houseOn 32 = .ok (.iastore, 1) := by decide +kernel
theorem dX7_houseOn_33 : decode cX7_houseOn 33 = .ok (.aload_n 0, 1) := by decide +kernel
theorem dX7_houseOn_34 : decode cX7_houseOn 34 = .ok (.iload_n 3, 1) := by decide +kernel
theorem dX7_houseOn_35 : decode cX7_houseOn 35 = .ok (.iconst 1, 1) := by decide +kernel
theorem dX7_houseOn_36 : decode cX7_houseOn 36 = .ok (.iadd, 1) := by decide +kernel
theorem dX7_houseOn_37 : decode cX7_houseOn 37 = .ok (.iload_n 2, 1) := by decide +kernel
theorem dX7_houseOn_38 : decode cX7_houseOn 38 = .ok (.iastore, 1) := by decide +kernel
theorem dX7_houseOn_39 : decode cX7_houseOn 39 = .ok (.aload_n 0, 1) := by decide +kernel
theorem dX7_houseOn_40 : decode cX7_houseOn 40 = .ok (.iconst 1, 1) := by decide +kernel
theorem dX7_houseOn_41 : decode cX7_houseOn 41 = .ok (.dup2, 1) := by decide +kernel
theorem dX7_houseOn_42 : decode cX7_houseOn 42 = .ok (.iaload, 1) := by decide +kernel
theorem dX7_houseOn_43 : decode cX7_houseOn 43 = .ok (.iconst 1, 1) := by decide +kernel
theorem dX7_houseOn_44 : decode cX7_houseOn 44 = .ok (.iadd, 1) := by decide +kernel
theorem dX7_houseOn_45 : decode cX7_houseOn 45 = .ok (.iastore, 1) := by decide +kernel
theorem dX7_houseOn_46 : decode cX7_houseOn 46 = .ok (.return_, 1) := by decide +kernel
set_option maxRecDepth 20000 in
theorem ggX7_wagonOn_X7_wagonAt : GoodIn wsX7_wagonOn wsX7_wagonAt := goodIn_r _ [4] (by decide +kernel) (by decide +kernel)
set_option maxRecDepth 20000 in
theorem gX7_wagonOn_X7_wagonAt : GoodIn wsX7_wagonOn (va_wsS RX7 79 yX7_wagonAt wsX7_wagonAt) := goodIn_app (goodIn_of _ (by decide +kernel)) ggX7_wagonOn_X7_wagonAt
theorem dX7_wagonOn_0 : decode cX7_wagonOn 0 = .ok (.aload_n 0, 1) := by decide +kernel
theorem dX7_wagonOn_1 : decode cX7_wagonOn 1 = .ok (.iconst 2, 1) := by decide +kernel
theorem dX7_wagonOn_2 : decode cX7_wagonOn 2 = .ok (.iaload, 1) := by decide +kernel
theorem dX7_wagonOn_3 : decode cX7_wagonOn 3 = .ok (.invokestatic 79, 3) := by decide +kernel
theorem dX7_wagonOn_6 : decode cX7_wagonOn 6 = .ok (.istore_n 2, 1) := by decide +kernel
theorem dX7_wagonOn_7 : decode cX7_wagonOn 7 = .ok (.aload_n 0, 1) := by decide +kernel
theorem dX7_wagonOn_8 : decode cX7_wagonOn 8 = .ok (.iload_n 2, 1) := by decide +kernel
theorem dX7_wagonOn_9 : decode cX7_wagonOn 9 = .ok (.iload_n 1, 1) := by decide +kernel
theorem dX7_wagonOn_10 : decode cX7_wagonOn 10 = .ok (.iastore, 1) := by decide +kernel
theorem dX7_wagonOn_11 : decode cX7_wagonOn 11 = .ok (.aload_n 0, 1) := by decide +kernel
theorem dX7_wagonOn_12 : decode cX7_wagonOn 12 = .ok (.iload_n 2, 1) := by decide +kernel
theorem dX7_wagonOn_13 : decode cX7_wagonOn 13 = .ok (.iconst 1, 1) := by decide +kernel
theorem dX7_wagonOn_14 : decode cX7_wagonOn 14 = .ok (.iadd, 1) := by decide +kernel
theorem dX7_wagonOn_15 : decode cX7_wagonOn 15 = .ok (.bipush 20, 2) := by decide +kernel
theorem dX7_wagonOn_17 : decode cX7_wagonOn 17 = .ok (.iastore, 1) := by decide +kernel
theorem dX7_wagonOn_18 : decode cX7_wagonOn 18 = .ok (.aload_n 0, 1) := by decide +kernel
theorem dX7_wagonOn_19 : decode cX7_wagonOn 19 = .ok (.iload_n 2, 1) := by decide +kernel
theorem dX7_wagonOn_20 : decode cX7_wagonOn 20 = .ok (.iconst 2, 1) := by decide +kernel
theorem dX7_wagonOn_21 : decode cX7_wagonOn 21 = .ok (.iadd, 1) := by decide +kernel
theorem dX7_wagonOn_22 : decode cX7_wagonOn 22 = .ok (.iconst 4, 1) := by decide +kernel
theorem dX7_wagonOn_23 : decode cX7_wagonOn 23 = .ok (.iastore, 1) := by decide +kernel
theorem dX7_wagonOn_24 : decode cX7_wagonOn 24 = .ok (.aload_n 0, 1) := by decide +kernel
theorem dX7_wagonOn_25 : decode cX7_wagonOn 25 = .ok (.iconst 2, 1) := by decide +kernel
theorem dX7_wagonOn_26 : decode cX7_wagonOn 26 = .ok (.dup2, 1) := by decide +kernel
theorem dX7_wagonOn_27 : decode cX7_wagonOn 27 = .ok (.iaload, 1) := by decide +kernel
theorem dX7_wagonOn_28 : decode cX7_wagonOn 28 = .ok (.iconst 1, 1) := by decide +kernel
theorem dX7_wagonOn_29 : decode cX7_wagonOn 29 = .ok (.iadd, 1) := by decide +kernel
theorem dX7_wagonOn_30 : decode cX7_wagonOn 30 = .ok (.iastore, 1) := by decide +kernel
theorem dX7_wagonOn_31 : decode cX7_wagonOn 31 = .ok (.return_, 1) := by decide +kernel
set_option maxRecDepth 20000 in
theorem ggX7_append_X7_in : GoodIn wsX7_append wsX7_in := goodIn_r _ [7] (by decide +kernel) (by decide +kernel)
set_option maxRecDepth 20000 in
theorem gX7_append_X7_in : GoodIn wsX7_append (va_wsS RX7 44 yX7_in wsX7_in) := goodIn_app (goodIn_of _ (by decide +kernel)) ggX7_append_X7_in
set_option maxRecDepth 20000 in
theorem ggX7_append_X7_refused : GoodIn wsX7_append wsX7_refused := goodIn_r _ [11, 12, 13, 14, 15, 16, 17, 18, 19, 20, 21, 22, 23] (by decide +kernel) (by decide +kernel)
set_option maxRecDepth 20000 in
theorem gX7_append_X7_refused : GoodIn wsX7_append (wsV RX7 95 RX7 yX7_refused wsX7_refused) := goodIn_app (goodIn_of _ (by decide +kernel)) ggX7_append_X7_refused
theorem dX7_append_0 : decode cX7_append 0 = .ok (.aload_n 0, 1) := by decide +kernel
theorem dX7_append_1 : decode cX7_append 1 = .ok (.iload_n 1, 1) := by decide +kernel
theorem dX7_append_2 : decode cX7_append 2 = .ok (.i2l, 1) := by decide +kernel
theorem dX7_append_3 : decode cX7_append 3 = .ok (.lconst 0, 1) := by decide +kernel
theorem dX7_append_4 : decode cX7_append 4 = .ok (.ldc2_w 90, 3) := by decide +kernel
theorem dX7_append_7 : decode cX7_append 7 = .ok (.invokestatic 44, 3) := by decide +kernel
theorem dX7_append_10 : decode cX7_append 10 = .ok (.ifCond .ne 7, 3) := by decide +kernel
theorem dX7_append_13 : decode cX7_append 13 = .ok (.iconst 1, 1) := by decide +kernel
theorem dX7_append_14 : decode cX7_append 14 = .ok (.goto 17, 3) := by decide +kernel
theorem dX7_append_17 : decode cX7_append 17 = .ok (.aload_n 0, 1) := by decide +kernel
theorem dX7_append_18 : decode cX7_append 18 = .ok (.getfield 92, 3) := by decide +kernel
theorem dX7_append_21 : decode cX7_append 21 = .ok (.bipush 70, 2) := by decide +kernel
theorem dX7_append_23 : decode cX7_append 23 = .ok (.if_icmp .ne 7, 3) := by decide +kernel
theorem dX7_append_26 : decode cX7_append 26 = .ok (.iconst 2, 1) := by decide +kernel
theorem dX7_append_27 : decode cX7_append 27 = .ok (.goto 4, 3) := by decide +kernel
theorem dX7_append_30 : decode cX7_append 30 = .ok (.iconst 0, 1) := by decide +kernel
theorem dX7_append_31 : decode cX7_append 31 = .ok (.invokevirtual 95, 3) := by decide +kernel
theorem dX7_append_34 : decode cX7_append 34 = .ok (.ifCond .eq 5, 3) := by decide +kernel
theorem dX7_append_37 : decode cX7_append 37 = .ok (.iconst 0, 1) := by decide +kernel
theorem dX7_append_38 : decode cX7_append 38 = .ok (.ireturn, 1) := by decide +kernel
theorem dX7_append_39 : decode cX7_append 39 = .ok (.aload_n 0, 1) := by decide +kernel
theorem dX7_append_40 : decode cX7_append 40 = .ok (.getfield 7, 3) := by decide +kernel
theorem dX7_append_43 : decode cX7_append 43 = .ok (.aload_n 0, 1) := by decide +kernel
theorem dX7_append_44 : decode cX7_append 44 = .ok (.getfield 92, 3) := by decide +kernel
theorem dX7_append_47 : decode cX7_append 47 = .ok (.iload_n 1, 1) := by decide +kernel
theorem dX7_append_48 : decode cX7_append 48 = .ok (.iastore, 1) := by decide +kernel
theorem dX7_append_49 : decode cX7_append 49 = .ok (.aload_n 0, 1) := by decide +kernel
theorem dX7_append_50 : decode cX7_append 50 = .ok (.dup, 1) := by decide +kernel
theorem dX7_append_51 : decode cX7_append 51 = .ok (.getfield 92, 3) := by decide +kernel
theorem dX7_append_54 : decode cX7_append 54 = .ok (.iconst 1, 1) := by decide +kernel
theorem dX7_append_55 : decode cX7_append 55 = .ok (.iadd, 1) := by decide +kernel
theorem dX7_append_56 : decode cX7_append 56 = .ok (.putfield 92, 3) := by decide +kernel
theorem dX7_append_59 : decode cX7_append 59 = .ok (.aload_n 0, 1) := by decide +kernel
theorem dX7_append_60 : decode cX7_append 60 = .ok (.getfield 92, 3) := by decide +kernel
theorem dX7_append_63 : decode cX7_append 63 = .ok (.ireturn, 1) := by decide +kernel
theorem dX7_clearText_0 : decode cX7_clearText 0 = .ok (.aload_n 0, 1) := by decide +kernel
theorem dX7_clearText_1 : decode cX7_clearText 1 = .ok (.iconst 0, 1) := by decide +kernel
theorem dX7_clearText_2 : decode cX7_clearText 2 = .ok (.putfield 36, 3) := by decide +kernel
theorem dX7_clearText_5 : decode cX7_clearText 5 = .ok (.aload_n 0, 1) := by decide +kernel
theorem dX7_clearText_6 : decode cX7_clearText 6 = .ok (.getfield 92, 3) := by decide +kernel
theorem dX7_clearText_9 : decode cX7_clearText 9 = .ok (.istore_n 1, 1) := by decide +kernel
theorem dX7_clearText_10 : decode cX7_clearText 10 = .ok (.aload_n 0, 1) := by decide +kernel
theorem dX7_clearText_11 : decode cX7_clearText 11 = .ok (.iconst 0, 1) := by decide +kernel
theorem dX7_clearText_12 : decode cX7_clearText 12 = .ok (.putfield 92, 3) := by decide +kernel
theorem dX7_clearText_15 : decode cX7_clearText 15 = .ok (.iload_n 1, 1) := by decide +kernel
theorem dX7_clearText_16 : decode cX7_clearText 16 = .ok (.ireturn, 1) := by decide +kernel
theorem dX7_eat_0 : decode cX7_eat 0 = .ok (.aload_n 0, 1) := by decide +kernel
theorem dX7_eat_1 : decode cX7_eat 1 = .ok (.getfield 99, 3) := by decide +kernel
theorem dX7_eat_4 : decode cX7_eat 4 = .ok (.aload_n 0, 1) := by decide +kernel
theorem dX7_eat_5 : decode cX7_eat 5 = .ok (.getfield 92, 3) := by decide +kernel
theorem dX7_eat_8 : decode cX7_eat 8 = .ok (.if_icmp .ge 20, 3) := by decide +kernel
theorem dX7_eat_11 : decode cX7_eat 11 = .ok (.aload_n 0, 1) := by decide +kernel
theorem dX7_eat_12 : decode cX7_eat 12 = .ok (.getfield 7, 3) := by decide +kernel
theorem dX7_eat_15 : decode cX7_eat 15 = .ok (.aload_n 0, 1) := by decide +kernel
theorem dX7_eat_16 : decode cX7_eat 16 = .ok (.getfield 99, 3) := by decide +kernel
theorem dX7_eat_19 : decode cX7_eat 19 = .ok (.iaload, 1) := by decide +kernel
theorem dX7_eat_20 : decode cX7_eat 20 = .ok (.iload_n 1, 1) := by decide +kernel
theorem dX7_eat_21 : decode cX7_eat 21 = .ok (.if_icmp .ne 7, 3) := by decide +kernel
theorem dX7_eat_24 : decode cX7_eat 24 = .ok (.iconst 1, 1) := by decide +kernel
theorem dX7_eat_25 : decode cX7_eat 25 = .ok (.goto 4, 3) := by decide +kernel
theorem dX7_eat_28 : decode cX7_eat 28 = .ok (.iconst 0, 1) := by decide +kernel
theorem dX7_eat_29 : decode cX7_eat 29 = .ok (.istore_n 2, 1) := by decide +kernel
theorem dX7_eat_30 : decode cX7_eat 30 = .ok (.aload_n 0, 1) := by decide +kernel
theorem dX7_eat_31 : decode cX7_eat 31 = .ok (.dup, 1) := by decide +kernel
theorem dX7_eat_32 : decode cX7_eat 32 = .ok (.getfield 99, 3) := by decide +kernel
theorem dX7_eat_35 : decode cX7_eat 35 = .ok (.iload_n 2, 1) := by decide +kernel
theorem dX7_eat_36 : decode cX7_eat 36 = .ok (.ifCond .eq 7, 3) := by decide +kernel
theorem dX7_eat_39 : decode cX7_eat 39 = .ok (.iconst 1, 1) := by decide +kernel
theorem dX7_eat_40 : decode cX7_eat 40 = .ok (.goto 4, 3) := by decide +kernel
theorem dX7_eat_43 : decode cX7_eat 43 = .ok (.iconst 0, 1) := by decide +kernel
theorem dX7_eat_44 : decode cX7_eat 44 = .ok (.iadd, 1) := by decide +kernel
theorem dX7_eat_45 : decode cX7_eat 45 = .ok (.putfield 99, 3) := by decide +kernel
theorem dX7_eat_48 : decode cX7_eat 48 = .ok (.iload_n 2, 1) := by decide +kernel
theorem dX7_eat_49 : decode cX7_eat 49 = .ok (.ireturn, 1) := by decide +kernel
set_option maxRecDepth 20000 in
theorem ggX7_digit_X7_in : GoodIn wsX7_digit wsX7_in := goodIn_r _ [8] (by decide +kernel) (by decide +kernel)
set_option maxRecDepth 20000 in
theorem gX7_digit_X7_in : GoodIn wsX7_digit (va_wsS RX7 44 yX7_in wsX7_in) := goodIn_app (goodIn_of _ (by decide +kernel)) ggX7_digit_X7_in
theorem dX7_digit_0 : decode cX7_digit 0 = .ok (.aload_n 0, 1) := by decide +kernel
theorem dX7_digit_1 : decode cX7_digit 1 = .ok (.getfield 99, 3) := by decide +kernel
theorem dX7_digit_4 : decode cX7_digit 4 = .ok (.aload_n 0, 1) := by decide +kernel
theorem dX7_digit_5 : decode cX7_digit 5 = .ok (.getfield 92, 3) := by decide +kernel
theorem dX7_digit_8 : decode cX7_digit 8 = .ok (.if_icmp .ge 18, 3) := by decide +kernel
theorem dX7_digit_11 : decode cX7_digit 11 = .ok (.aload_n 0, 1) := by decide +kernel
theorem dX7_digit_12 : decode cX7_digit 12 = .ok (.getfield 7, 3) := by decide +kernel
theorem dX7_digit_15 : decode cX7_digit 15 = .ok (.aload_n 0, 1) := by decide +kernel
theorem dX7_digit_16 : decode cX7_digit 16 = .ok (.getfield 99, 3) := by decide +kernel
theorem dX7_digit_19 : decode cX7_digit 19 = .ok (.iaload, 1) := by decide +kernel
theorem dX7_digit_20 : decode cX7_digit 20 = .ok (.bipush 48, 2) := by decide +kernel
theorem dX7_digit_22 : decode cX7_digit 22 = .ok (.isub, 1) := by decide +kernel
theorem dX7_digit_23 : decode cX7_digit 23 = .ok (.goto 4, 3) := by decide +kernel
theorem dX7_digit_26 : decode cX7_digit 26 = .ok (.iconst (-1), 1) := by decide +kernel
theorem dX7_digit_27 : decode cX7_digit 27 = .ok (.istore_n 3, 1) := by decide +kernel
theorem dX7_digit_28 : decode cX7_digit 28 = .ok (.iload_n 3, 1) := by decide +kernel
theorem dX7_digit_29 : decode cX7_digit 29 = .ok (.i2l, 1) := by decide +kernel
theorem dX7_digit_30 : decode cX7_digit 30 = .ok (.lconst 0, 1) := by decide +kernel
theorem dX7_digit_31 : decode cX7_digit 31 = .ok (.ldc2_w 102, 3) := by decide +kernel
theorem dX7_digit_34 : decode cX7_digit 34 = .ok (.invokestatic 44, 3) := by decide +kernel
theorem dX7_digit_37 : decode cX7_digit 37 = .ok (.ifCond .eq 19, 3) := by decide +kernel
theorem dX7_digit_40 : decode cX7_digit 40 = .ok (.iload_n 3, 1) := by decide +kernel
theorem dX7_digit_41 : decode cX7_digit 41 = .ok (.i2l, 1) := by decide +kernel
theorem dX7_digit_42 : decode cX7_digit 42 = .ok (.iload_n 1, 1) := by decide +kernel
theorem dX7_digit_43 : decode cX7_digit 43 = .ok (.i2l, 1) := by decide +kernel
theorem dX7_digit_44 : decode cX7_digit 44 = .ok (.iload_n 2, 1) := by decide +kernel
theorem dX7_digit_45 : decode cX7_digit 45 = .ok (.i2l, 1) := by decide +kernel
theorem dX7_digit_46 : decode cX7_digit 46 = .ok (.invokestatic 44, 3) := by decide +kernel
theorem dX7_digit_49 : decode cX7_digit 49 = .ok (.ifCond .eq 7, 3) := by decide +kernel
theorem dX7_digit_52 : decode cX7_digit 52 = .ok (.iconst 1, 1) := by decide +kernel
theorem dX7_digit_53 : decode cX7_digit 53 = .ok (.goto 4, 3) := by decide +kernel
theorem dX7_digit_56 : decode cX7_digit 56 = .ok (.iconst 0, 1) := by decide +kernel
theorem dX7_digit_57 : decode cX7_digit 57 = .ok (.istore 4, 2) := by decide +kernel
theorem dX7_digit_59 : decode cX7_digit 59 = .ok (.aload_n 0, 1) := by decide +kernel
theorem dX7_digit_60 : decode cX7_digit 60 = .ok (.dup, 1) := by decide +kernel
theorem dX7_digit_61 : decode cX7_digit 61 = .ok (.getfield 99, 3) := by decide +kernel
theorem dX7_digit_64 : decode cX7_digit 64 = .ok (.iload 4, 2) := by decide +kernel
theorem dX7_digit_66 : decode cX7_digit 66 = .ok (.ifCond .eq 7, 3) := by decide +kernel
theorem dX7_digit_69 : decode cX7_digit 69 = .ok (.iconst 1, 1) := by decide +kernel
theorem dX7_digit_70 : decode cX7_digit 70 = .ok (.goto 4, 3) := by decide +kernel
theorem dX7_digit_73 : decode cX7_digit 73 = .ok (.iconst 0, 1) := by decide +kernel
theorem dX7_digit_74 : decode cX7_digit 74 = .ok (.iadd, 1) := by decide +kernel
theorem dX7_digit_75 : decode cX7_digit 75 = .ok (.putfield 99, 3) := by decide +kernel
theorem dX7_digit_78 : decode cX7_digit 78 = .ok (.iload 4, 2) := by decide +kernel
theorem dX7_digit_80 : decode cX7_digit 80 = .ok (.ifCond .eq 7, 3) := by decide +kernel
theorem dX7_digit_83 : decode cX7_digit 83 = .ok (.iload_n 3, 1) := by decide +kernel
theorem dX7_digit_84 : decode cX7_digit 84 = .ok (.goto 5, 3) := by decide +kernel
theorem dX7_digit_87 : decode cX7_digit 87 = .ok (.bipush (-9), 2) := by decide +kernel
theorem dX7_digit_89 : decode cX7_digit 89 = .ok (.ireturn, 1) := by decide +kernel
set_option maxRecDepth 20000 in
theorem ggX7_filling_X7_segmentAt : GoodIn wsX7_filling wsX7_segmentAt := goodIn_r _ [5] (by decide +kernel) (by decide +kernel)
set_option maxRecDepth 20000 in
theorem gX7_filling_X7_segmentAt : GoodIn wsX7_filling (va_wsS RX7 40 yX7_segmentAt wsX7_segmentAt) := goodIn_app (goodIn_of _ (by decide +kernel)) ggX7_filling_X7_segmentAt
theorem dX7_filling_0 : decode cX7_filling 0 = .ok (.iconst 0, 1) := by decide +kernel
theorem dX7_filling_1 : decode cX7_filling 1 = .ok (.istore_n 1, 1) := by decide +kernel
theorem dX7_filling_2 : decode cX7_filling 2 = .ok (.iconst 0, 1) := by decide +kernel
theorem dX7_filling_3 : decode cX7_filling 3 = .ok (.istore_n 2, 1) := by decide +kernel
theorem dX7_filling_4 : decode cX7_filling 4 = .ok (.iload_n 2, 1) := by decide +kernel
theorem dX7_filling_5 : decode cX7_filling 5 = .ok (.aload_n 0, 1) := by decide +kernel
theorem dX7_filling_6 : decode cX7_filling 6 = .ok (.getfield 13, 3) := by decide +kernel
theorem dX7_filling_9 : decode cX7_filling 9 = .ok (.iconst 0, 1) := by decide +kernel
theorem dX7_filling_10 : decode cX7_filling 10 = .ok (.iaload, 1) := by decide +kernel
theorem dX7_filling_11 : decode cX7_filling 11 = .ok (.if_icmp .ge 23, 3) := by decide +kernel
theorem dX7_filling_14 : decode cX7_filling 14 = .ok (.iload_n 1, 1) := by decide +kernel
theorem dX7_filling_15 : decode cX7_filling 15 = .ok (.aload_n 0, 1) := by decide +kernel
theorem dX7_filling_16 : decode cX7_filling 16 = .ok (.getfield 13, 3) := by decide +kernel
theorem dX7_filling_19 : decode cX7_filling 19 = .ok (.iload_n 2, 1) := by decide +kernel
theorem dX7_filling_20 : decode cX7_filling 20 = .ok (.invokestatic 40, 3) := by decide +kernel
theorem dX7_filling_23 : decode cX7_filling 23 = .ok (.iconst 5, 1) := by decide +kernel
theorem dX7_filling_24 : decode cX7_filling 24 = .ok (.iadd, 1) := by decide +kernel
theorem dX7_filling_25 : decode cX7_filling 25 = .ok (.iaload, 1) := by decide +kernel
theorem dX7_filling_26 : decode cX7_filling 26 = .ok (.iadd, 1) := by decide +kernel
theorem dX7_filling_27 : decode cX7_filling 27 = .ok (.istore_n 1, 1) := by decide +kernel
theorem dX7_filling_28 : decode cX7_filling 28 = .ok (.iinc 2 1, 3) := by decide +kernel
theorem dX7_filling_31 : decode cX7_filling 31 = .ok (.goto (-27), 3) := by decide +kernel
theorem dX7_filling_34 : decode cX7_filling 34 = .ok (.iload_n 1, 1) := by decide +kernel
theorem dX7_filling_35 : decode cX7_filling 35 = .ok (.ireturn, 1) := by decide +kernel
set_option maxRecDepth 20000 in
theorem ggX7_readHouse_X7_digit : GoodIn wsX7_readHouse wsX7_digit := goodIn_r _ [6, 7, 8, 9, 10, 11, 12, 5, 13, 20, 21, 22, 23, 24, 25, 26, 27, 28, 29, 30] (by decide +kernel) (by decide +kernel)
set_option maxRecDepth 20000 in
theorem gX7_readHouse_X7_digit : GoodIn wsX7_readHouse (wsV RX7 104 RX7 yX7_digit wsX7_digit) := goodIn_app (goodIn_of _ (by decide +kernel)) ggX7_readHouse_X7_digit
set_option maxRecDepth 20000 in
theorem ggX7_readHouse_X7_houseOn : GoodIn wsX7_readHouse wsX7_houseOn := goodIn_r _ [16, 17, 18, 5, 19] (by decide +kernel) (by decide +kernel)
set_option maxRecDepth 20000 in
theorem gX7_readHouse_X7_houseOn : GoodIn wsX7_readHouse (va_wsS RX7 107 yX7_houseOn wsX7_houseOn) := goodIn_app (goodIn_of _ (by decide +kernel)) ggX7_readHouse_X7_houseOn
theorem dX7_readHouse_0 : decode cX7_readHouse 0 = .ok (.aload_n 0, 1) := by decide +kernel
theorem dX7_readHouse_1 : decode cX7_readHouse 1 = .ok (.iconst 0, 1) := by decide +kernel
theorem dX7_readHouse_2 : decode cX7_readHouse 2 = .ok (.aload_n 0, 1) := by decide +kernel
theorem dX7_readHouse_3 : decode cX7_readHouse 3 = .ok (.getfield 13, 3) := by decide +kernel
theorem dX7_readHouse_6 : decode cX7_readHouse 6 = .ok (.iconst 0, 1) := by decide +kernel
theorem dX7_readHouse_7 : decode cX7_readHouse 7 = .ok (.iaload, 1) := by decide +kernel
theorem dX7_readHouse_8 : decode cX7_readHouse 8 = .ok (.iconst 1, 1) := by decide +kernel
theorem dX7_readHouse_9 : decode cX7_readHouse 9 = .ok (.isub, 1) := by decide +kernel
theorem dX7_readHouse_10 : decode cX7_readHouse 10 = .ok (.invokevirtual 104, 3) := by decide +kernel
theorem dX7_readHouse_13 : decode cX7_readHouse 13 = .ok (.istore_n 1, 1) := by decide +kernel
theorem dX7_readHouse_14 : decode cX7_readHouse 14 = .ok (.iload_n 1, 1) := by decide +kernel
theorem dX7_readHouse_15 : decode cX7_readHouse 15 = .ok (.bipush (-9), 2) := by decide +kernel
theorem dX7_readHouse_17 : decode cX7_readHouse 17 = .ok (.if_icmp .ne 8, 3) := by decide +kernel
theorem dX7_readHouse_20 : decode cX7_readHouse 20 = .ok (.bipush (-9), 2) := by decide +kernel
theorem dX7_readHouse_22 : decode cX7_readHouse 22 = .ok (.goto 10, 3) := by decide +kernel
theorem dX7_readHouse_25 : decode cX7_readHouse 25 = .ok (.aload_n 0, 1) := by decide +kernel
theorem dX7_readHouse_26 : decode cX7_readHouse 26 = .ok (.iconst 0, 1) := by decide +kernel
theorem dX7_readHouse_27 : decode cX7_readHouse 27 = .ok (.bipush 9, 2) := by decide +kernel
theorem dX7_readHouse_29 : decode cX7_readHouse 29 = .ok (.invokevirtual 104, 3) := by decide +kernel
theorem dX7_readHouse_32 : decode cX7_readHouse 32 = .ok (.istore_n 2, 1) := by decide +kernel
theorem dX7_readHouse_33 : decode cX7_readHouse 33 = .ok (.iload_n 2, 1) := by decide +kernel
theorem dX7_readHouse_34 : decode cX7_readHouse 34 = .ok (.bipush (-9), 2) := by decide +kernel
theorem dX7_readHouse_36 : decode cX7_readHouse 36 = .ok (.if_icmp .ne 5, 3) := by decide +kernel
theorem dX7_readHouse_39 : decode cX7_readHouse 39 = .ok (.iconst 0, 1) := by decide +kernel
theorem dX7_readHouse_40 : decode cX7_readHouse 40 = .ok (.ireturn, 1) := by decide +kernel
theorem dX7_readHouse_41 : decode cX7_readHouse 41 = .ok (.aload_n 0, 1) := by decide +kernel
theorem dX7_readHouse_42 : decode cX7_readHouse 42 = .ok (.getfield 13, 3) := by decide +kernel
theorem dX7_readHouse_45 : decode cX7_readHouse 45 = .ok (.iload_n 1, 1) := by decide +kernel
theorem dX7_readHouse_46 : decode cX7_readHouse 46 = .ok (.iload_n 2, 1) := by decide +kernel
theorem dX7_readHouse_47 : decode cX7_readHouse 47 = .ok (.invokestatic 107, 3) := by decide +kernel
theorem dX7_readHouse_50 : decode cX7_readHouse 50 = .ok (.iconst 1, 1) := by decide +kernel
theorem dX7_readHouse_51 : decode cX7_readHouse 51 = .ok (.ireturn, 1) := by decide +kernel
set_option maxRecDepth 20000 in
theorem ggX7_readWagon_X7_digit : GoodIn wsX7_readWagon wsX7_digit := goodIn_r _ [6, 7, 8, 9, 10, 11, 12, 5, 13, 20, 21, 22, 23, 24, 25, 26, 27, 28, 29, 30] (by decide +kernel) (by decide +kernel)
set_option maxRecDepth 20000 in
theorem gX7_readWagon_X7_digit : GoodIn wsX7_readWagon (wsV RX7 104 RX7 yX7_digit wsX7_digit) := goodIn_app (goodIn_of _ (by decide +kernel)) ggX7_readWagon_X7_digit
set_option maxRecDepth 20000 in
theorem ggX7_readWagon_X7_wagonOn : GoodIn wsX7_readWagon wsX7_wagonOn := goodIn_r _ [16, 17, 18, 5, 19] (by decide +kernel) (by decide +kernel)
set_option maxRecDepth 20000 in
theorem gX7_readWagon_X7_wagonOn : GoodIn wsX7_readWagon (va_wsS RX7 110 yX7_wagonOn wsX7_wagonOn) := goodIn_app (goodIn_of _ (by decide +kernel)) ggX7_readWagon_X7_wagonOn
theorem dX7_readWagon_0 : decode cX7_readWagon 0 = .ok (.aload_n 0, 1) := by decide +kernel
theorem dX7_readWagon_1 : decode cX7_readWagon 1 = .ok (.iconst 0, 1) := by decide +kernel
theorem dX7_readWagon_2 : decode cX7_readWagon 2 = .ok (.aload_n 0, 1) := by decide +kernel
theorem dX7_readWagon_3 : decode cX7_readWagon 3 = .ok (.getfield 13, 3) := by decide +kernel
theorem dX7_readWagon_6 : decode cX7_readWagon 6 = .ok (.iconst 0, 1) := by decide +kernel
theorem dX7_readWagon_7 : decode cX7_readWagon 7 = .ok (.iaload, 1) := by decide +kernel
theorem dX7_readWagon_8 : decode cX7_readWagon 8 = .ok (.iconst 1, 1) := by decide +kernel
theorem dX7_readWagon_9 : decode cX7_readWagon 9 = .ok (.isub, 1) := by decide +kernel
theorem dX7_readWagon_10 : decode cX7_readWagon 10 = .ok (.invokevirtual 104, 3) := by decide +kernel
theorem dX7_readWagon_13 : decode cX7_readWagon 13 = .ok (.istore_n 1, 1) := by decide +kernel
theorem dX7_readWagon_14 : decode cX7_readWagon 14 = .ok (.iload_n 1, 1) := by decide +kernel
theorem dX7_readWagon_15 : decode cX7_readWagon 15 = .ok (.bipush (-9), 2) := by decide +kernel
theorem dX7_readWagon_17 : decode cX7_readWagon 17 = .ok (.if_icmp .ne 5, 3) := by decide +kernel
theorem dX7_readWagon_20 : decode cX7_readWagon 20 = .ok (.iconst 0, 1) := by decide +kernel
theorem dX7_readWagon_21 : decode cX7_readWagon 21 = .ok (.ireturn, 1) := by decide +kernel
theorem dX7_readWagon_22 : decode cX7_readWagon 22 = .ok (.aload_n 0, 1) := by decide +kernel
theorem dX7_readWagon_23 : decode cX7_readWagon 23 = .ok (.getfield 13, 3) := by decide +kernel
theorem dX7_readWagon_26 : decode cX7_readWagon 26 = .ok (.iload_n 1, 1) := by decide +kernel
theorem dX7_readWagon_27 : decode cX7_readWagon 27 = .ok (.invokestatic 110, 3) := by decide +kernel
theorem dX7_readWagon_30 : decode cX7_readWagon 30 = .ok (.iconst 1, 1) := by decide +kernel
theorem dX7_readWagon_31 : decode cX7_readWagon 31 = .ok (.ireturn, 1) := by decide +kernel
set_option maxRecDepth 20000 in
theorem ggX7_readFilling_X7_digit : GoodIn wsX7_readFilling wsX7_digit := goodIn_r _ [7, 2, 8, 9, 10, 11, 12, 6, 13, 17, 18, 19, 20, 21, 22, 23, 24, 25, 26, 27] (by decide +kernel) (by decide +kernel)
set_option maxRecDepth 20000 in
theorem gX7_readFilling_X7_digit : GoodIn wsX7_readFilling (wsV RX7 104 RX7 yX7_digit wsX7_digit) := goodIn_app (goodIn_of _ (by decide +kernel)) ggX7_readFilling_X7_digit
set_option maxRecDepth 20000 in
theorem ggX7_readFilling_X7_segmentAt : GoodIn wsX7_readFilling wsX7_segmentAt := goodIn_r _ [16] (by decide +kernel) (by decide +kernel)
set_option maxRecDepth 20000 in
theorem gX7_readFilling_X7_segmentAt : GoodIn wsX7_readFilling (va_wsS RX7 40 yX7_segmentAt wsX7_segmentAt) := goodIn_app (goodIn_of _ (by decide +kernel)) ggX7_readFilling_X7_segmentAt
theorem dX7_readFilling_0 : decode cX7_readFilling 0 = .ok (.aload_n 0, 1) := by decide +kernel
theorem dX7_readFilling_1 : decode cX7_readFilling 1 = .ok (.iconst 0, 1) := by decide +kernel
theorem dX7_readFilling_2 : decode cX7_readFilling 2 = .ok (.aload_n 0, 1) := by decide +kernel
theorem dX7_readFilling_3 : decode cX7_readFilling 3 = .ok (.getfield 13, 3) := by decide +kernel
theorem dX7_readFilling_6 : decode cX7_readFilling 6 = .ok (.iconst 0, 1) := by decide +kernel
theorem dX7_readFilling_7 : decode cX7_readFilling 7 = .ok (.iaload, 1) := by decide +kernel
theorem dX7_readFilling_8 : decode cX7_readFilling 8 = .ok (.iconst 1, 1) := by decide +kernel
theorem dX7_readFilling_9 : decode cX7_readFilling 9 = .ok (.isub, 1) := by decide +kernel
theorem dX7_readFilling_10 : decode cX7_readFilling 10 = .ok (.invokevirtual 104, 3) := by decide +kernel
theorem dX7_readFilling_13 : decode cX7_readFilling 13 = .ok (.istore_n 1, 1) := by decide +kernel
theorem dX7_readFilling_14 : decode cX7_readFilling 14 = .ok (.iload_n 1, 1) := by decide +kernel
theorem dX7_readFilling_15 : decode cX7_readFilling 15 = .ok (.bipush (-9), 2) := by decide +kernel
theorem dX7_readFilling_17 : decode cX7_readFilling 17 = .ok (.if_icmp .ne 5, 3) := by decide +kernel
theorem dX7_readFilling_20 : decode cX7_readFilling 20 = .ok (.iconst 0, 1) := by decide +kernel
theorem dX7_readFilling_21 : decode cX7_readFilling 21 = .ok (.ireturn, 1) := by decide +kernel
theorem dX7_readFilling_22 : decode cX7_readFilling 22 = .ok (.aload_n 0, 1) := by decide +kernel
theorem dX7_readFilling_23 : decode cX7_readFilling 23 = .ok (.getfield 13, 3) := by decide +kernel
theorem dX7_readFilling_26 : decode cX7_readFilling 26 = .ok (.iload_n 1, 1) := by decide +kernel
theorem dX7_readFilling_27 : decode cX7_readFilling 27 = .ok (.invokestatic 40, 3) := by decide +kernel
theorem dX7_readFilling_30 : decode cX7_readFilling 30 = .ok (.iconst 5, 1) := by decide +kernel
theorem dX7_readFilling_31 : decode cX7_readFilling 31 = .ok (.iadd, 1) := by decide +kernel
theorem dX7_readFilling_32 : decode cX7_readFilling 32 = .ok (.iaload, 1) := by decide +kernel
theorem dX7_readFilling_33 : decode cX7_readFilling 33 = .ok (.iconst 1, 1) := by decide +kernel
theorem dX7_readFilling_34 : decode cX7_readFilling 34 = .ok (.if_icmp .ne 15, 3) := by decide +kernel
theorem dX7_readFilling_37 : decode cX7_readFilling 37 = .ok (.aload_n 0, 1) := by decide +kernel
theorem dX7_readFilling_38 : decode cX7_readFilling 38 = .ok (.dup, 1) := by decide +kernel
theorem dX7_readFilling_39 : decode cX7_readFilling 39 = .ok (.getfield 99, 3) := by decide +kernel
theorem dX7_readFilling_42 : decode cX7_readFilling 42 = .ok (.iconst 1, 1) := by decide +kernel
theorem dX7_readFilling_43 : decode cX7_readFilling 43 = .ok (.isub, 1) := by decide +kernel
theorem dX7_readFilling_44 : decode cX7_readFilling 44 = .ok (.putfield 99, 3) := by decide +kernel
theorem dX7_readFilling_47 : decode cX7_readFilling 47 = .ok (.iconst 0, 1) := by decide +kernel
theorem dX7_readFilling_48 : decode cX7_readFilling 48 = .ok (.ireturn, 1) := by decide +kernel
theorem dX7_readFilling_49 : decode cX7_readFilling 49 = .ok (.aload_n 0, 1) := by decide +kernel
theorem dX7_readFilling_50 : decode cX7_readFilling 50 = .ok (.getfield 13, 3) := by decide +kernel
theorem dX7_readFilling_53 : decode cX7_readFilling 53 = .ok (.iload_n 1, 1) := by decide +kernel
theorem dX7_readFilling_54 : decode cX7_readFilling 54 = .ok (.invokestatic 40, 3) := by decide +kernel
theorem dX7_readFilling_57 : decode cX7_readFilling 57 = .ok (.iconst 5, 1) := by decide +kernel
theorem dX7_readFilling_58 : decode cX7_readFilling 58 = .ok (.iadd, 1) := by decide +kernel
theorem dX7_readFilling_59 : decode cX7_readFilling 59 = .ok (.iconst 1, 1) := by decide +kernel
theorem dX7_readFilling_60 : decode cX7_readFilling 60 = .ok (.iastore, 1) := by decide +kernel
theorem dX7_readFilling_61 : decode cX7_readFilling 61 = .ok (.iconst 1, 1) := by decide +kernel
theorem dX7_readFilling_62 : decode cX7_readFilling 62 = .ok (.ireturn, 1) := by decide +kernel
set_option maxRecDepth 20000 in
theorem ggX7_readPart_X7_eat : GoodIn wsX7_readPart wsX7_eat := goodIn_r _ [6, 7, 8, 9, 49, 50, 51, 52, 53, 54, 55, 56, 57, 58, 59] (by decide +kernel) (by decide +kernel)
set_option maxRecDepth 20000 in
theorem gX7_readPart_X7_eat : GoodIn wsX7_readPart (wsV RX7 113 RX7 yX7_eat wsX7_eat) := goodIn_app (goodIn_of _ (by decide +kernel)) ggX7_readPart_X7_eat
set_option maxRecDepth 20000 in
theorem ggX7_readPart_X7_readHouse : GoodIn wsX7_readPart wsX7_readHouse := goodIn_r _ [13, 1, 14, 15, 16, 5, 17, 7, 8, 9, 18, 19, 20, 21, 22, 23, 24, 25, 26, 27, 49, 50, 51, 52, 53, 54, 55, 56, 57, 58, 59] (by decide +kernel) (by decide +kernel)
set_option maxRecDepth 20000 in
theorem gX7_readPart_X7_readHouse : GoodIn wsX7_readPart (wsV RX7 116 RX7 yX7_readHouse wsX7_readHouse) := goodIn_app (goodIn_of _ (by decide +kernel)) ggX7_readPart_X7_readHouse
set_option maxRecDepth 20000 in
theorem ggX7_readPart_X7_readWagon : GoodIn wsX7_readPart wsX7_readWagon := goodIn_r _ [31, 1, 14, 15, 16, 5, 17, 7, 8, 9, 18, 19, 20, 21, 32, 33, 34, 35, 36, 37, 49, 50, 51, 52, 53, 54, 55, 56, 57, 58, 59] (by decide +kernel) (by decide +kernel)
set_option maxRecDepth 20000 in
theorem gX7_readPart_X7_readWagon : GoodIn wsX7_readPart (wsV RX7 120 RX7 yX7_readWagon wsX7_readWagon) := goodIn_app (goodIn_of _ (by decide +kernel)) ggX7_readPart_X7_readWagon
set_option maxRecDepth 20000 in
theorem ggX7_readPart_X7_filling : GoodIn wsX7_readPart wsX7_filling := goodIn_r _ [41, 1, 42, 43, 5, 44, 49, 50, 51, 52, 53, 54, 55, 56, 57, 58, 59] (by decide +kernel) (by decide +kernel)
set_option maxRecDepth 20000 in
theorem gX7_readPart_X7_filling : GoodIn wsX7_readPart (wsV RX7 123 RX7 yX7_filling wsX7_filling) := goodIn_app (goodIn_of _ (by decide +kernel)) ggX7_readPart_X7_filling
set_option maxRecDepth 20000 in
theorem ggX7_readPart_X7_readFilling : GoodIn wsX7_readPart wsX7_readFilling := goodIn_r _ [48, 1, 7, 14, 15, 16, 5, 17, 8, 9, 18, 19, 20, 21, 42, 43, 44, 49, 50, 51, 52, 53, 54, 55, 56, 57, 58, 59] (by decide +kernel) (by decide +kernel)
set_option maxRecDepth 20000 in
theorem gX7_readPart_X7_readFilling : GoodIn wsX7_readPart (wsV RX7 127 RX7 yX7_readFilling wsX7_readFilling) := goodIn_app (goodIn_of _ (by decide +kernel)) ggX7_readPart_X7_readFilling
theorem dX7_readPart_0 : decode cX7_readPart 0 = .ok (.aload_n 0, 1) := by decide +kernel
theorem dX7_readPart_1 : decode cX7_readPart 1 = .ok (.getfield 13, 3) := by decide +kernel
theorem dX7_readPart_4 : decode cX7_readPart 4 = .ok (.iconst 1, 1) := by decide +kernel
theorem dX7_readPart_5 : decode cX7_readPart 5 = .ok (.iaload, 1) := by decide +kernel
theorem dX7_readPart_6 : decode cX7_readPart 6 = .ok (.bipush 8, 2) := by decide +kernel
theorem dX7_readPart_8 : decode cX7_readPart 8 = .ok (.if_icmp .ge 17, 3) := by decide +kernel
theorem dX7_readPart_11 : decode cX7_readPart 11 = .ok (.aload_n 0, 1) := by decide +kernel
theorem dX7_readPart_12 : decode cX7_readPart 12 = .ok (.bipush 104, 2) := by decide +kernel
theorem dX7_readPart_14 : decode cX7_readPart 14 = .ok (.invokevirtual 113, 3) := by decide +kernel
theorem dX7_readPart_17 : decode cX7_readPart 17 = .ok (.ifCond .eq 8, 3) := by decide +kernel
theorem dX7_readPart_20 : decode cX7_readPart 20 = .ok (.aload_n 0, 1) := by decide +kernel
theorem dX7_readPart_21 : decode cX7_readPart 21 = .ok (.invokevirtual 116, 3) := by decide +kernel
theorem dX7_readPart_24 : decode cX7_readPart 24 = .ok (.ireturn, 1) := by decide +kernel
theorem dX7_readPart_25 : decode cX7_readPart 25 = .ok (.aload_n 0, 1) := by decide +kernel
theorem dX7_readPart_26 : decode cX7_readPart 26 = .ok (.getfield 13, 3) := by decide +kernel
theorem dX7_readPart_29 : decode cX7_readPart 29 = .ok (.iconst 2, 1) := by decide +kernel
theorem dX7_readPart_30 : decode cX7_readPart 30 = .ok (.iaload, 1) := by decide +kernel
theorem dX7_readPart_31 : decode cX7_readPart 31 = .ok (.iconst 3, 1) := by decide +kernel
theorem dX7_readPart_32 : decode cX7_readPart 32 = .ok (.if_icmp .ge 17, 3) := by decide +kernel
theorem dX7_readPart_35 : decode cX7_readPart 35 = .ok (.aload_n 0, 1) := by decide +kernel
theorem dX7_readPart_36 : decode cX7_readPart 36 = .ok (.bipush 119, 2) := by decide +kernel
theorem dX7_readPart_38 : decode cX7_readPart 38 = .ok (.invokevirtual 113, 3) := by decide +kernel
theorem dX7_readPart_41 : decode cX7_readPart 41 = .ok (.ifCond .eq 8, 3) := by decide +kernel
theorem dX7_readPart_44 : decode cX7_readPart 44 = .ok (.aload_n 0, 1) := by decide +kernel
theorem dX7_readPart_45 : decode cX7_readPart 45 = .ok (.invokevirtual 120, 3) := by decide +kernel
theorem dX7_readPart_48 : decode cX7_readPart 48 = .ok (.ireturn, 1) := by decide +kernel
theorem dX7_readPart_49 : decode cX7_readPart 49 = .ok (.aload_n 0, 1) := by decide +kernel
theorem dX7_readPart_50 : decode cX7_readPart 50 = .ok (.invokevirtual 123, 3) := by decide +kernel
theorem dX7_readPart_53 : decode cX7_readPart 53 = .ok (.aload_n 0, 1) := by decide +kernel
theorem dX7_readPart_54 : decode cX7_readPart 54 = .ok (.getfield 13, 3) := by decide +kernel
theorem dX7_readPart_57 : decode cX7_readPart 57 = .ok (.iconst 0, 1) := by decide +kernel
theorem dX7_readPart_58 : decode cX7_readPart 58 = .ok (.iaload, 1) := by decide +kernel
theorem dX7_readPart_59 : decode cX7_readPart 59 = .ok (.if_icmp .ge 23, 3) := by decide +kernel
theorem dX7_readPart_62 : decode cX7_readPart 62 = .ok (.aload_n 0, 1) := by decide +kernel
theorem dX7_readPart_63 : decode cX7_readPart 63 = .ok (.bipush 102, 2) := by decide +kernel
theorem dX7_readPart_65 : decode cX7_readPart 65 = .ok (.invokevirtual 113, 3) := by decide +kernel
theorem dX7_readPart_68 : decode cX7_readPart 68 = .ok (.ifCond .eq 14, 3) := by decide +kernel
theorem dX7_readPart_71 : decode cX7_readPart 71 = .ok (.aload_n 0, 1) := by decide +kernel
theorem dX7_readPart_72 : decode cX7_readPart 72 = .ok (.invokevirtual 127, 3) := by decide +kernel
theorem dX7_readPart_75 : decode cX7_readPart 75 = .ok (.ifCond .eq 7, 3) := by decide +kernel
theorem dX7_readPart_78 : decode cX7_readPart 78 = .ok (.iconst 1, 1) := by decide +kernel
theorem dX7_readPart_79 : decode cX7_readPart 79 = .ok (.goto 4, 3) := by decide +kernel
theorem dX7_readPart_82 : decode cX7_readPart 82 = .ok (.iconst 0, 1) := by decide +kernel
theorem dX7_readPart_83 : decode cX7_readPart 83 = .ok (.ireturn, 1) := by decide +kernel
set_option maxRecDepth 20000 in
theorem ggX7_readRoad_X7_digit : GoodIn wsX7_readRoad wsX7_digit := goodIn_r _ [6, 7, 8, 9, 10, 11, 12, 5, 13, 20, 21, 22, 23, 24, 25, 26, 27, 28, 29, 30] (by decide +kernel) (by decide +kernel)
set_option maxRecDepth 20000 in
theorem gX7_readRoad_X7_digit : GoodIn wsX7_readRoad (wsV RX7 104 RX7 yX7_digit wsX7_digit) := goodIn_app (goodIn_of _ (by decide +kernel)) ggX7_readRoad_X7_digit
set_option maxRecDepth 20000 in
theorem ggX7_readRoad_X7_clear : GoodIn wsX7_readRoad wsX7_clear := goodIn_r _ [16, 17, 18, 5, 19] (by decide +kernel) (by decide +kernel)
set_option maxRecDepth 20000 in
theorem gX7_readRoad_X7_clear : GoodIn wsX7_readRoad (va_wsS RX7 32 yX7_clear wsX7_clear) := goodIn_app (goodIn_of _ (by decide +kernel)) ggX7_readRoad_X7_clear
set_option maxRecDepth 20000 in
theorem ggX7_readRoad_X7_segmentAt : GoodIn wsX7_readRoad wsX7_segmentAt := goodIn_r _ [19] (by decide +kernel) (by decide +kernel)
set_option maxRecDepth 20000 in
theorem gX7_readRoad_X7_segmentAt : GoodIn wsX7_readRoad (va_wsS RX7 40 yX7_segmentAt wsX7_segmentAt) := goodIn_app (goodIn_of _ (by decide +kernel)) ggX7_readRoad_X7_segmentAt
theorem dX7_readRoad_0 : decode cX7_readRoad 0 = .ok (.aload_n 0, 1) := by decide +kernel
theorem dX7_readRoad_1 : decode cX7_readRoad 1 = .ok (.iconst 0, 1) := by decide +kernel
theorem dX7_readRoad_2 : decode cX7_readRoad 2 = .ok (.iconst 1, 1) := by decide +kernel
theorem dX7_readRoad_3 : decode cX7_readRoad 3 = .ok (.invokevirtual 104, 3) := by decide +kernel
theorem dX7_readRoad_6 : decode cX7_readRoad 6 = .ok (.istore_n 1, 1) := by decide +kernel
theorem dX7_readRoad_7 : decode cX7_readRoad 7 = .ok (.iload_n 1, 1) := by decide +kernel
theorem dX7_readRoad_8 : decode cX7_readRoad 8 = .ok (.bipush (-9), 2) := by decide +kernel
theorem dX7_readRoad_10 : decode cX7_readRoad 10 = .ok (.if_icmp .ne 8, 3) := by decide +kernel
theorem dX7_readRoad_13 : decode cX7_readRoad 13 = .ok (.bipush (-9), 2) := by decide +kernel
theorem dX7_readRoad_15 : decode cX7_readRoad 15 = .ok (.goto 26, 3) := by decide +kernel
theorem dX7_readRoad_18 : decode cX7_readRoad 18 = .ok (.aload_n 0, 1) := by decide +kernel
theorem dX7_readRoad_19 : decode cX7_readRoad 19 = .ok (.iload_n 1, 1) := by decide +kernel
theorem dX7_readRoad_20 : decode cX7_readRoad 20 = .ok (.ifCond .ne 7, 3) := by decide +kernel
theorem dX7_readRoad_23 : decode cX7_readRoad 23 = .ok (.iconst 1, 1) := by decide +kernel
theorem dX7_readRoad_24 : decode cX7_readRoad 24 = .ok (.goto 4, 3) := by decide +kernel
theorem dX7_readRoad_27 : decode cX7_readRoad 27 = .ok (.iconst 0, 1) := by decide +kernel
theorem dX7_readRoad_28 : decode cX7_readRoad 28 = .ok (.iload_n 1, 1) := by decide +kernel
theorem dX7_readRoad_29 : decode cX7_readRoad 29 = .ok (.ifCond .ne 8, 3) := by decide +kernel
theorem dX7_readRoad_32 : decode cX7_readRoad 32 = .ok (.bipush 9, 2) := by decide +kernel
theorem dX7_readRoad_34 : decode cX7_readRoad 34 = .ok (.goto 4, 3) := by decide +kernel
theorem dX7_readRoad_37 : decode cX7_readRoad 37 = .ok (.iconst 0, 1) := by decide +kernel
theorem dX7_readRoad_38 : decode cX7_readRoad 38 = .ok (.invokevirtual 104, 3) := by decide +kernel
theorem dX7_readRoad_41 : decode cX7_readRoad 41 = .ok (.istore_n 2, 1) := by decide +kernel
theorem dX7_readRoad_42 : decode cX7_readRoad 42 = .ok (.iload_n 2, 1) := by decide +kernel
theorem dX7_readRoad_43 : decode cX7_readRoad 43 = .ok (.bipush (-9), 2) := by decide +kernel
theorem dX7_readRoad_45 : decode cX7_readRoad 45 = .ok (.if_icmp .ne 5, 3) := by decide +kernel
theorem dX7_readRoad_48 : decode cX7_readRoad 48 = .ok (.iconst 0, 1) := by decide +kernel
theorem dX7_readRoad_49 : decode cX7_readRoad 49 = .ok (.ireturn, 1) := by decide +kernel
theorem dX7_readRoad_50 : decode cX7_readRoad 50 = .ok (.aload_n 0, 1) := by decide +kernel
theorem dX7_readRoad_51 : decode cX7_readRoad 51 = .ok (.getfield 13, 3) := by decide +kernel
theorem dX7_readRoad_54 : decode cX7_readRoad 54 = .ok (.bipush 10, 2) := by decide +kernel
theorem dX7_readRoad_56 : decode cX7_readRoad 56 = .ok (.iload_n 1, 1) := by decide +kernel
theorem dX7_readRoad_57 : decode cX7_readRoad 57 = .ok (.imul, 1) := by decide +kernel
theorem dX7_readRoad_58 : decode cX7_readRoad 58 = .ok (.iload_n 2, 1) := by decide +kernel
theorem dX7_readRoad_59 : decode cX7_readRoad 59 = .ok (.iadd, 1) := by decide +kernel
theorem dX7_readRoad_60 : decode cX7_readRoad 60 = .ok (.invokestatic 32, 3) := by decide +kernel
theorem dX7_readRoad_63 : decode cX7_readRoad 63 = .ok (.iconst 0, 1) := by decide +kernel
theorem dX7_readRoad_64 : decode cX7_readRoad 64 = .ok (.istore_n 3, 1) := by decide +kernel
theorem dX7_readRoad_65 : decode cX7_readRoad 65 = .ok (.iload_n 3, 1) := by decide +kernel
theorem dX7_readRoad_66 : decode cX7_readRoad 66 = .ok (.aload_n 0, 1) := by decide +kernel
theorem dX7_readRoad_67 : decode cX7_readRoad 67 = .ok (.getfield 13, 3) := by decide +kernel
theorem dX7_readRoad_70 : decode cX7_readRoad 70 = .ok (.iconst 0, 1) := by decide +kernel
theorem dX7_readRoad_71 : decode cX7_readRoad 71 = .ok (.iaload, 1) := by decide +kernel
theorem dX7_readRoad_72 : decode cX7_readRoad 72 = .ok (.if_icmp .ge 37, 3) := by decide +kernel
theorem dX7_readRoad_75 : decode cX7_readRoad 75 = .ok (.aload_n 0, 1) := by decide +kernel
theorem dX7_readRoad_76 : decode cX7_readRoad 76 = .ok (.iconst 0, 1) := by decide +kernel
theorem dX7_readRoad_77 : decode cX7_readRoad 77 = .ok (.iconst 2, 1) := by decide +kernel
theorem dX7_readRoad_78 : decode cX7_readRoad 78 = .ok (.invokevirtual 104, 3) := by decide +kernel
theorem dX7_readRoad_81 : decode cX7_readRoad 81 = .ok (.istore 4, 2) := by decide +kernel
theorem dX7_readRoad_83 : decode cX7_readRoad 83 = .ok (.iload 4, 2) := by decide +kernel
theorem dX7_readRoad_85 : decode cX7_readRoad 85 = .ok (.bipush (-9), 2) := by decide +kernel
theorem dX7_readRoad_87 : decode cX7_readRoad 87 = .ok (.if_icmp .ne 5, 3) := by decide +kernel
theorem dX7_readRoad_90 : decode cX7_readRoad 90 = .ok (.iconst 0, 1) := by decide +kernel
theorem dX7_readRoad_91 : decode cX7_readRoad 91 = .ok (.ireturn, 1) := by decide +kernel
theorem dX7_readRoad_92 : decode cX7_readRoad 92 = .ok (.aload_n 0, 1) := by decide +kernel
theorem dX7_readRoad_93 : decode cX7_readRoad 93 = .ok (.getfield 13, 3) := by decide +kernel
theorem dX7_readRoad_96 : decode cX7_readRoad 96 = .ok (.iload_n 3, 1) := by decide +kernel
theorem dX7_readRoad_97 : decode cX7_readRoad 97 = .ok (.invokestatic 40, 3) := by decide +kernel
theorem dX7_readRoad_100 : decode cX7_readRoad 100 = .ok (.iload 4, 2) := by decide +kernel
theorem dX7_readRoad_102 : decode cX7_readRoad 102 = .ok (.iastore, 1) := by decide +kernel
theorem dX7_readRoad_103 : decode cX7_readRoad 103 = .ok (.iinc 3 1, 3) := by decide +kernel
theorem dX7_readRoad_106 : decode cX7_readRoad 106 = .ok (.goto (-41), 3) := by decide +kernel
theorem dX7_readRoad_109 : decode cX7_readRoad 109 = .ok (.iconst 1, 1) := by decide +kernel
theorem dX7_readRoad_110 : decode cX7_readRoad 110 = .ok (.ireturn, 1) := by decide +kernel
set_option maxRecDepth 20000 in
theorem ggX7_readAll_X7_eat : GoodIn wsX7_readAll wsX7_eat := goodIn_r _ [8, 1, 2, 9, 60, 61, 62, 63, 64, 65, 66, 67, 68, 69, 70] (by decide +kernel) (by decide +kernel)
set_option maxRecDepth 20000 in
theorem gX7_readAll_X7_eat : GoodIn wsX7_readAll (wsV RX7 113 RX7 yX7_eat wsX7_eat) := goodIn_app (goodIn_of _ (by decide +kernel)) ggX7_readAll_X7_eat
set_option maxRecDepth 20000 in
theorem ggX7_readAll_X7_readRoad : GoodIn wsX7_readAll wsX7_readRoad := goodIn_r _ [13, 3, 14, 15, 16, 7, 17, 1, 2, 9, 18, 19, 20, 21, 22, 23, 24, 25, 26, 27, 60, 61, 62, 63, 64, 65, 66, 67, 68, 69, 70] (by decide +kernel) (by decide +kernel)
set_option maxRecDepth 20000 in
theorem gX7_readAll_X7_readRoad : GoodIn wsX7_readAll (wsV RX7 130 RX7 yX7_readRoad wsX7_readRoad) := goodIn_app (goodIn_of _ (by decide +kernel)) ggX7_readAll_X7_readRoad
set_option maxRecDepth 20000 in
theorem ggX7_readAll_X7_readPart : GoodIn wsX7_readAll wsX7_readPart := goodIn_r _ [31, 3, 4, 5, 6, 7, 8, 1, 2, 9, 32, 33, 34, 35, 14, 15, 16, 17, 18, 19, 20, 21, 36, 37, 38, 39, 40, 41, 42, 43, 44, 45, 46, 47, 48, 49, 50, 51, 52, 53, 54, 55, 25, 26, 27, 56, 57, 58, 59, 60, 61, 62, 63, 64, 65, 66, 67, 68, 69, 70] (by decide +kernel) (by decide +kernel)
set_option maxRecDepth 20000 in
theorem gX7_readAll_X7_readPart : GoodIn wsX7_readAll (wsV RX7 133 RX7 yX7_readPart wsX7_readPart) := goodIn_app (goodIn_of _ (by decide +kernel)) ggX7_readAll_X7_readPart
set_option maxRecDepth 20000 in
theorem ggX7_readAll_X7_filling : GoodIn wsX7_readAll wsX7_filling := goodIn_r _ [55, 3, 25, 26, 7, 27, 60, 61, 62, 63, 64, 65, 66, 67, 68, 69, 70] (by decide +kernel) (by decide +kernel)
set_option maxRecDepth 20000 in
theorem gX7_readAll_X7_filling : GoodIn wsX7_readAll (wsV RX7 123 RX7 yX7_filling wsX7_filling) := goodIn_app (goodIn_of _ (by decide +kernel)) ggX7_readAll_X7_filling
theorem dX7_readAll_0 : decode cX7_readAll 0 = .ok (.aload_n 0, 1) := by decide +kernel
theorem dX7_readAll_1 : decode cX7_readAll 1 = .ok (.iconst 0, 1) := by decide +kernel
theorem dX7_readAll_2 : decode cX7_readAll 2 = .ok (.putfield 99, 3) := by decide +kernel
theorem dX7_readAll_5 : decode cX7_readAll 5 = .ok (.aload_n 0, 1) := by decide +kernel
theorem dX7_readAll_6 : decode cX7_readAll 6 = .ok (.bipush 82, 2) := by decide +kernel
theorem dX7_readAll_8 : decode cX7_readAll 8 = .ok (.invokevirtual 113, 3) := by decide +kernel
theorem dX7_readAll_11 : decode cX7_readAll 11 = .ok (.ifCond .eq 10, 3) := by decide +kernel
theorem dX7_readAll_14 : decode cX7_readAll 14 = .ok (.aload_n 0, 1) := by decide +kernel
theorem dX7_readAll_15 : decode cX7_readAll 15 = .ok (.invokevirtual 130, 3) := by decide +kernel
theorem dX7_readAll_18 : decode cX7_readAll 18 = .ok (.ifCond .ne 5, 3) := by decide +kernel
theorem dX7_readAll_21 : decode cX7_readAll 21 = .ok (.iconst 0, 1) := by decide +kernel
theorem dX7_readAll_22 : decode cX7_readAll 22 = .ok (.ireturn, 1) := by decide +kernel
theorem dX7_readAll_23 : decode cX7_readAll 23 = .ok (.aload_n 0, 1) := by decide +kernel
theorem dX7_readAll_24 : decode cX7_readAll 24 = .ok (.getfield 99, 3) := by decide +kernel
theorem dX7_readAll_27 : decode cX7_readAll 27 = .ok (.aload_n 0, 1) := by decide +kernel
theorem dX7_readAll_28 : decode cX7_readAll 28 = .ok (.getfield 92, 3) := by decide +kernel
theorem dX7_readAll_31 : decode cX7_readAll 31 = .ok (.if_icmp .ge 12, 3) := by decide +kernel
theorem dX7_readAll_34 : decode cX7_readAll 34 = .ok (.aload_n 0, 1) := by decide +kernel
theorem dX7_readAll_35 : decode cX7_readAll 35 = .ok (.invokevirtual 133, 3) := by decide +kernel
theorem dX7_readAll_38 : decode cX7_readAll 38 = .ok (.ifCond .ne (-15), 3) := by decide +kernel
theorem dX7_readAll_41 : decode cX7_readAll 41 = .ok (.iconst 0, 1) := by decide +kernel
theorem dX7_readAll_42 : decode cX7_readAll 42 = .ok (.ireturn, 1) := by decide +kernel
theorem dX7_readAll_43 : decode cX7_readAll 43 = .ok (.aload_n 0, 1) := by decide +kernel
theorem dX7_readAll_44 : decode cX7_readAll 44 = .ok (.invokevirtual 123, 3) := by decide +kernel
theorem dX7_readAll_47 : decode cX7_readAll 47 = .ok (.ifCond .ne 11, 3) := by decide +kernel
theorem dX7_readAll_50 : decode cX7_readAll 50 = .ok (.aload_n 0, 1) := by decide +kernel
theorem dX7_readAll_51 : decode cX7_readAll 51 = .ok (.getfield 13, 3) := by decide +kernel
theorem dX7_readAll_54 : decode cX7_readAll 54 = .ok (.bipush 17, 2) := by decide +kernel
theorem dX7_readAll_56 : decode cX7_readAll 56 = .ok (.iconst 1, 1) := by decide +kernel
theorem dX7_readAll_57 : decode cX7_readAll 57 = .ok (.iastore, 1) := by decide +kernel
theorem dX7_readAll_58 : decode cX7_readAll 58 = .ok (.iconst 1, 1) := by decide +kernel
theorem dX7_readAll_59 : decode cX7_readAll 59 = .ok (.ireturn, 1) := by decide +kernel
set_option maxRecDepth 20000 in
theorem ggX7_errorPosition_X7_readAll : GoodIn wsX7_errorPosition wsX7_readAll := goodIn_r _ [7, 2, 8, 9, 10, 11, 12, 6, 13, 14, 15, 16, 17, 18, 19, 20, 21, 22, 23, 24, 25, 26, 27, 28, 29, 30, 31, 32, 33, 34, 35, 36, 37, 38, 39, 40, 41, 42, 43, 44, 45, 46, 47, 48, 49, 50, 51, 52, 53, 54, 55, 56, 57, 58, 59, 60, 61, 62, 63, 64, 65, 66, 67, 68, 69, 70, 71, 72, 73, 74, 75] (by decide +kernel) (by decide +kernel)
set_option maxRecDepth 20000 in
theorem gX7_errorPosition_X7_readAll : GoodIn wsX7_errorPosition (wsV RX7 136 RX7 yX7_readAll wsX7_readAll) := goodIn_app (goodIn_of _ (by decide +kernel)) ggX7_errorPosition_X7_readAll
theorem dX7_errorPosition_0 : decode cX7_errorPosition 0 = .ok (.aload_n 0, 1) := by decide +kernel
theorem dX7_errorPosition_1 : decode cX7_errorPosition 1 = .ok (.iconst 0, 1) := by decide +kernel
theorem dX7_errorPosition_2 : decode cX7_errorPosition 2 = .ok (.putfield 36, 3) := by decide +kernel
theorem dX7_errorPosition_5 : decode cX7_errorPosition 5 = .ok (.aload_n 0, 1) := by decide +kernel
theorem dX7_errorPosition_6 : decode cX7_errorPosition 6 = .ok (.invokevirtual 136, 3) := by decide +kernel
theorem dX7_errorPosition_9 : decode cX7_errorPosition 9 = .ok (.ifCond .eq 8, 3) := by decide +kernel
theorem dX7_errorPosition_12 : decode cX7_errorPosition 12 = .ok (.bipush (-9), 2) := by decide +kernel
theorem dX7_errorPosition_14 : decode cX7_errorPosition 14 = .ok (.goto 7, 3) := by decide +kernel
theorem dX7_errorPosition_17 : decode cX7_errorPosition 17 = .ok (.aload_n 0, 1) := by decide +kernel
theorem dX7_errorPosition_18 : decode cX7_errorPosition 18 = .ok (.getfield 99, 3) := by decide +kernel
theorem dX7_errorPosition_21 : decode cX7_errorPosition 21 = .ok (.ireturn, 1) := by decide +kernel
set_option maxRecDepth 20000 in
theorem ggX7_load_X7_readAll : GoodIn wsX7_load wsX7_readAll := goodIn_r _ [9, 10, 11, 1, 12, 13, 14, 8, 15, 16, 17, 18, 19, 20, 21, 22, 23, 24, 25, 26, 27, 28, 29, 30, 31, 32, 33, 34, 35, 36, 37, 38, 39, 40, 41, 42, 43, 44, 45, 46, 47, 48, 49, 50, 51, 52, 53, 54, 55, 56, 57, 58, 59, 60, 61, 62, 63, 64, 65, 66, 75, 76, 77, 78, 79, 80, 81, 82, 83, 84, 85] (by decide +kernel) (by decide +kernel)
set_option maxRecDepth 20000 in
theorem gX7_load_X7_readAll : GoodIn wsX7_load (wsV RX7 136 RX7 yX7_readAll wsX7_readAll) := goodIn_app (goodIn_of _ (by decide +kernel)) ggX7_load_X7_readAll
set_option maxRecDepth 20000 in
theorem ggX7_load_X7_refused : GoodIn wsX7_load wsX7_refused := goodIn_r _ [70, 71, 75, 76, 77, 78, 79, 80, 81, 82, 83, 84, 85] (by decide +kernel) (by decide +kernel)
set_option maxRecDepth 20000 in
theorem gX7_load_X7_refused : GoodIn wsX7_load (wsV RX7 95 RX7 yX7_refused wsX7_refused) := goodIn_app (goodIn_of _ (by decide +kernel)) ggX7_load_X7_refused
set_option maxRecDepth 20000 in
theorem ggX7_load_X7_copyPage : GoodIn wsX7_load wsX7_copyPage := goodIn_r _ [74] (by decide +kernel) (by decide +kernel)
set_option maxRecDepth 20000 in
theorem gX7_load_X7_copyPage : GoodIn wsX7_load (va_wsS RX7 139 yX7_copyPage wsX7_copyPage) := goodIn_app (goodIn_of _ (by decide +kernel)) ggX7_load_X7_copyPage
theorem dX7_load_0 : decode cX7_load 0 = .ok (.aload_n 0, 1) := by decide +kernel
theorem dX7_load_1 : decode cX7_load 1 = .ok (.aload_n 0, 1) := by decide +kernel
theorem dX7_load_2 : decode cX7_load 2 = .ok (.invokevirtual 136, 3) := by decide +kernel
theorem dX7_load_5 : decode cX7_load 5 = .ok (.ifCond .eq 7, 3) := by decide +kernel
theorem dX7_load_8 : decode cX7_load 8 = .ok (.iconst 0, 1) := by decide +kernel
theorem dX7_load_9 : decode cX7_load 9 = .ok (.goto 4, 3) := by decide +kernel
theorem dX7_load_12 : decode cX7_load 12 = .ok (.iconst 1, 1) := by decide +kernel
theorem dX7_load_13 : decode cX7_load 13 = .ok (.invokevirtual 95, 3) := by decide +kernel
theorem dX7_load_16 : decode cX7_load 16 = .ok (.ifCond .eq 5, 3) := by decide +kernel
theorem dX7_load_19 : decode cX7_load 19 = .ok (.iconst 0, 1) := by decide +kernel
theorem dX7_load_20 : decode cX7_load 20 = .ok (.ireturn, 1) := by decide +kernel
theorem dX7_load_21 : decode cX7_load 21 = .ok (.aload_n 0, 1) := by decide +kernel
theorem dX7_load_22 : decode cX7_load 22 = .ok (.getfield 13, 3) := by decide +kernel
theorem dX7_load_25 : decode cX7_load 25 = .ok (.iconst 0, 1) := by decide +kernel
theorem dX7_load_26 : decode cX7_load 26 = .ok (.aload_n 0, 1) := by decide +kernel
theorem dX7_load_27 : decode cX7_load 27 = .ok (.getfield 16, 3) := by decide +kernel
theorem dX7_load_30 : decode cX7_load 30 = .ok (.iconst 0, 1) := by decide +kernel
theorem dX7_load_31 : decode cX7_load 31 = .ok (.invokestatic 139, 3) := by decide +kernel
theorem dX7_load_34 : decode cX7_load 34 = .ok (.aload_n 0, 1) := by decide +kernel
theorem dX7_load_35 : decode cX7_load 35 = .ok (.iconst 0, 1) := by decide +kernel
theorem dX7_load_36 : decode cX7_load 36 = .ok (.putfield 143, 3) := by decide +kernel
theorem dX7_load_39 : decode cX7_load 39 = .ok (.aload_n 0, 1) := by decide +kernel
theorem dX7_load_40 : decode cX7_load 40 = .ok (.getfield 28, 3) := by decide +kernel
theorem dX7_load_43 : decode cX7_load 43 = .ok (.iconst 0, 1) := by decide +kernel
theorem dX7_load_44 : decode cX7_load 44 = .ok (.iconst 0, 1) := by decide +kernel
theorem dX7_load_45 : decode cX7_load 45 = .ok (.bastore, 1) := by decide +kernel
theorem dX7_load_46 : decode cX7_load 46 = .ok (.aload_n 0, 1) := by decide +kernel
theorem dX7_load_47 : decode cX7_load 47 = .ok (.getfield 28, 3) := by decide +kernel
theorem dX7_load_50 : decode cX7_load 50 = .ok (.iconst 1, 1) := by decide +kernel
theorem dX7_load_51 : decode cX7_load 51 = .ok (.iconst 0, 1) := by decide +kernel
theorem dX7_load_52 : decode cX7_load 52 = .ok (.bastore, 1) := by decide +kernel
theorem dX7_load_53 : decode cX7_load 53 = .ok (.aload_n 0, 1) := by decide +kernel
theorem dX7_load_54 : decode cX7_load 54 = .ok (.getfield 16, 3) := by decide +kernel
theorem dX7_load_57 : decode cX7_load 57 = .ok (.iconst 0, 1) := by decide +kernel
theorem dX7_load_58 : decode cX7_load 58 = .ok (.iaload, 1) := by decide +kernel
theorem dX7_load_59 : decode cX7_load 59 = .ok (.ireturn, 1) := by decide +kernel
set_option maxRecDepth 20000 in
theorem ggX7_about_X7_in : GoodIn wsX7_about wsX7_in := goodIn_r _ [6] (by decide +kernel) (by decide +kernel)
set_option maxRecDepth 20000 in
theorem gX7_about_X7_in : GoodIn wsX7_about (va_wsS RX7 44 yX7_in wsX7_in) := goodIn_app (goodIn_of _ (by decide +kernel)) ggX7_about_X7_in
set_option maxRecDepth 20000 in
theorem ggX7_about_X7_refused : GoodIn wsX7_about wsX7_refused := goodIn_r _ [10, 11, 21, 22, 23, 24, 25, 26, 27, 28, 29, 30, 31] (by decide +kernel) (by decide +kernel)
set_option maxRecDepth 20000 in
theorem gX7_about_X7_refused : GoodIn wsX7_about (wsV RX7 95 RX7 yX7_refused wsX7_refused) := goodIn_app (goodIn_of _ (by decide +kernel)) ggX7_about_X7_refused
set_option maxRecDepth 20000 in
theorem ggX7_about_X7_dustOf : GoodIn wsX7_about wsX7_dustOf := goodIn_r _ [14, 15, 16, 5, 17, 3, 4, 6, 18, 19, 20] (by decide +kernel) (by decide +kernel)
set_option maxRecDepth 20000 in
theorem gX7_about_X7_dustOf : GoodIn wsX7_about (va_wsS RX7 62 yX7_dustOf wsX7_dustOf) := goodIn_app (goodIn_of _ (by decide +kernel)) ggX7_about_X7_dustOf
theorem dX7_about_0 : decode cX7_about 0 = .ok (.aload_n 0, 1) := by decide +kernel
theorem dX7_about_1 : decode cX7_about 1 = .ok (.iload_n 1, 1) := by decide +kernel
theorem dX7_about_2 : decode cX7_about 2 = .ok (.i2l, 1) := by decide +kernel
theorem dX7_about_3 : decode cX7_about 3 = .ok (.lconst 0, 1) := by decide +kernel
theorem dX7_about_4 : decode cX7_about 4 = .ok (.ldc2_w 146, 3) := by decide +kernel
theorem dX7_about_7 : decode cX7_about 7 = .ok (.invokestatic 44, 3) := by decide +kernel
theorem dX7_about_10 : decode cX7_about 10 = .ok (.ifCond .eq 7, 3) := by decide +kernel
theorem dX7_about_13 : decode cX7_about 13 = .ok (.iconst 0, 1) := by decide +kernel
theorem dX7_about_14 : decode cX7_about 14 = .ok (.goto 4, 3) := by decide +kernel
theorem dX7_about_17 : decode cX7_about 17 = .ok (.iconst 1, 1) := by decide +kernel
theorem dX7_about_18 : decode cX7_about 18 = .ok (.invokevirtual 95, 3) := by decide +kernel
theorem dX7_about_21 : decode cX7_about 21 = .ok (.ifCond .eq 5, 3) := by decide +kernel
theorem dX7_about_24 : decode cX7_about 24 = .ok (.iconst 0, 1) := by decide +kernel
theorem dX7_about_25 : decode cX7_about 25 = .ok (.ireturn, 1) := by decide +kernel
theorem dX7_about_26 : decode cX7_about 26 = .ok (.iload_n 1, 1) := by decide +kernel
theorem dX7_about_27 : decode cX7_about 27 = .ok (.bipush 12, 2) := by decide +kernel
theorem dX7_about_29 : decode cX7_about 29 = .ok (.if_icmp .ge 10, 3) := by decide +kernel
theorem dX7_about_32 : decode cX7_about 32 = .ok (.aload_n 0, 1) := by decide +kernel
theorem dX7_about_33 : decode cX7_about 33 = .ok (.getfield 16, 3) := by decide +kernel
theorem dX7_about_36 : decode cX7_about 36 = .ok (.iload_n 1, 1) := by decide +kernel
theorem dX7_about_37 : decode cX7_about 37 = .ok (.iaload, 1) := by decide +kernel
theorem dX7_about_38 : decode cX7_about 38 = .ok (.ireturn, 1) := by decide +kernel
theorem dX7_about_39 : decode cX7_about 39 = .ok (.iconst 0, 1) := by decide +kernel
theorem dX7_about_40 : decode cX7_about 40 = .ok (.istore_n 2, 1) := by decide +kernel
theorem dX7_about_41 : decode cX7_about 41 = .ok (.iconst 0, 1) := by decide +kernel
theorem dX7_about_42 : decode cX7_about 42 = .ok (.istore_n 3, 1) := by decide +kernel
theorem dX7_about_43 : decode cX7_about 43 = .ok (.iload_n 3, 1) := by decide +kernel
theorem dX7_about_44 : decode cX7_about 44 = .ok (.aload_n 0, 1) := by decide +kernel
theorem dX7_about_45 : decode cX7_about 45 = .ok (.getfield 16, 3) := by decide +kernel
theorem dX7_about_48 : decode cX7_about 48 = .ok (.iconst 0, 1) := by decide +kernel
theorem dX7_about_49 : decode cX7_about 49 = .ok (.iaload, 1) := by decide +kernel
theorem dX7_about_50 : decode cX7_about 50 = .ok (.if_icmp .ge 20, 3) := by decide +kernel
theorem dX7_about_53 : decode cX7_about 53 = .ok (.iload_n 2, 1) := by decide +kernel
theorem dX7_about_54 : decode cX7_about 54 = .ok (.aload_n 0, 1) := by decide +kernel
theorem dX7_about_55 : decode cX7_about 55 = .ok (.getfield 16, 3) := by decide +kernel
theorem dX7_about_58 : decode cX7_about 58 = .ok (.iload_n 3, 1) := by decide +kernel
theorem dX7_about_59 : decode cX7_about 59 = .ok (.invokestatic 62, 3) := by decide +kernel
theorem dX7_about_62 : decode cX7_about 62 = .ok (.iadd, 1) := by decide +kernel
theorem dX7_about_63 : decode cX7_about 63 = .ok (.istore_n 2, 1) := by decide +kernel
theorem dX7_about_64 : decode cX7_about 64 = .ok (.iinc 3 1, 3) := by decide +kernel
theorem dX7_about_67 : decode cX7_about 67 = .ok (.goto (-24), 3) := by decide +kernel
theorem dX7_about_70 : decode cX7_about 70 = .ok (.iload_n 2, 1) := by decide +kernel
theorem dX7_about_71 : decode cX7_about 71 = .ok (.ireturn, 1) := by decide +kernel
set_option maxRecDepth 20000 in
theorem ggX7_segment_X7_isSegment : GoodIn wsX7_segment wsX7_isSegment := goodIn_r _ [6, 7, 8, 5, 9] (by decide +kernel) (by decide +kernel)
set_option maxRecDepth 20000 in
theorem gX7_segment_X7_isSegment : GoodIn wsX7_segment (va_wsS RX7 55 yX7_isSegment wsX7_isSegment) := goodIn_app (goodIn_of _ (by decide +kernel)) ggX7_segment_X7_isSegment
set_option maxRecDepth 20000 in
theorem ggX7_segment_X7_in : GoodIn wsX7_segment wsX7_in := goodIn_r _ [9] (by decide +kernel) (by decide +kernel)
set_option maxRecDepth 20000 in
theorem gX7_segment_X7_in : GoodIn wsX7_segment (va_wsS RX7 44 yX7_in wsX7_in) := goodIn_app (goodIn_of _ (by decide +kernel)) ggX7_segment_X7_in
set_option maxRecDepth 20000 in
theorem ggX7_segment_X7_refused : GoodIn wsX7_segment wsX7_refused := goodIn_r _ [13, 14, 18, 19, 20, 21, 22, 23, 24, 25, 26, 27, 28] (by decide +kernel) (by decide +kernel)
set_option maxRecDepth 20000 in
theorem gX7_segment_X7_refused : GoodIn wsX7_segment (wsV RX7 95 RX7 yX7_refused wsX7_refused) := goodIn_app (goodIn_of _ (by decide +kernel)) ggX7_segment_X7_refused
set_option maxRecDepth 20000 in
theorem ggX7_segment_X7_segmentAt : GoodIn wsX7_segment wsX7_segmentAt := goodIn_r _ [17] (by decide +kernel) (by decide +kernel)
set_option maxRecDepth 20000 in
theorem gX7_segment_X7_segmentAt : GoodIn wsX7_segment (va_wsS RX7 40 yX7_segmentAt wsX7_segmentAt) := goodIn_app (goodIn_of _ (by decide +kernel)) ggX7_segment_X7_segmentAt
theorem dX7_segment_0 : decode cX7_segment 0 = .ok (.aload_n 0, 1) := by decide +kernel
theorem dX7_segment_1 : decode cX7_segment 1 = .ok (.aload_n 0, 1) := by decide +kernel
theorem dX7_segment_2 : decode cX7_segment 2 = .ok (.getfield 16, 3) := by decide +kernel
theorem dX7_segment_5 : decode cX7_segment 5 = .ok (.iload_n 1, 1) := by decide +kernel
theorem dX7_segment_6 : decode cX7_segment 6 = .ok (.invokestatic 55, 3) := by decide +kernel
theorem dX7_segment_9 : decode cX7_segment 9 = .ok (.ifCond .ne 7, 3) := by decide +kernel
theorem dX7_segment_12 : decode cX7_segment 12 = .ok (.iconst 1, 1) := by decide +kernel
theorem dX7_segment_13 : decode cX7_segment 13 = .ok (.goto 20, 3) := by decide +kernel
theorem dX7_segment_16 : decode cX7_segment 16 = .ok (.iload_n 2, 1) := by decide +kernel
theorem dX7_segment_17 : decode cX7_segment 17 = .ok (.i2l, 1) := by decide +kernel
theorem dX7_segment_18 : decode cX7_segment 18 = .ok (.lconst 0, 1) := by decide +kernel
theorem dX7_segment_19 : decode cX7_segment 19 = .ok (.ldc2_w 148, 3) := by decide +kernel
theorem dX7_segment_22 : decode cX7_segment 22 = .ok (.invokestatic 44, 3) := by decide +kernel
theorem dX7_segment_25 : decode cX7_segment 25 = .ok (.ifCond .ne 7, 3) := by decide +kernel
theorem dX7_segment_28 : decode cX7_segment 28 = .ok (.iconst 2, 1) := by decide +kernel
theorem dX7_segment_29 : decode cX7_segment 29 = .ok (.goto 4, 3) := by decide +kernel
theorem dX7_segment_32 : decode cX7_segment 32 = .ok (.iconst 0, 1) := by decide +kernel
theorem dX7_segment_33 : decode cX7_segment 33 = .ok (.invokevirtual 95, 3) := by decide +kernel
theorem dX7_segment_36 : decode cX7_segment 36 = .ok (.ifCond .eq 7, 3) := by decide +kernel
theorem dX7_segment_39 : decode cX7_segment 39 = .ok (.iconst 0, 1) := by decide +kernel
theorem dX7_segment_40 : decode cX7_segment 40 = .ok (.goto 14, 3) := by decide +kernel
theorem dX7_segment_43 : decode cX7_segment 43 = .ok (.aload_n 0, 1) := by decide +kernel
theorem dX7_segment_44 : decode cX7_segment 44 = .ok (.getfield 16, 3) := by decide +kernel
theorem dX7_segment_47 : decode cX7_segment 47 = .ok (.iload_n 1, 1) := by decide +kernel
theorem dX7_segment_48 : decode cX7_segment 48 = .ok (.invokestatic 40, 3) := by decide +kernel
theorem dX7_segment_51 : decode cX7_segment 51 = .ok (.iload_n 2, 1) := by decide +kernel
theorem dX7_segment_52 : decode cX7_segment 52 = .ok (.iadd, 1) := by decide +kernel
theorem dX7_segment_53 : decode cX7_segment 53 = .ok (.iaload, 1) := by decide +kernel
theorem dX7_segment_54 : decode cX7_segment 54 = .ok (.ireturn, 1) := by decide +kernel
set_option maxRecDepth 20000 in
theorem ggX7_house_X7_isHouse : GoodIn wsX7_house wsX7_isHouse := goodIn_r _ [6, 7, 8, 5, 9] (by decide +kernel) (by decide +kernel)
set_option maxRecDepth 20000 in
theorem gX7_house_X7_isHouse : GoodIn wsX7_house (va_wsS RX7 150 yX7_isHouse wsX7_isHouse) := goodIn_app (goodIn_of _ (by decide +kernel)) ggX7_house_X7_isHouse
set_option maxRecDepth 20000 in
theorem ggX7_house_X7_in : GoodIn wsX7_house wsX7_in := goodIn_r _ [9] (by decide +kernel) (by decide +kernel)
set_option maxRecDepth 20000 in
theorem gX7_house_X7_in : GoodIn wsX7_house (va_wsS RX7 44 yX7_in wsX7_in) := goodIn_app (goodIn_of _ (by decide +kernel)) ggX7_house_X7_in
set_option maxRecDepth 20000 in
theorem ggX7_house_X7_refused : GoodIn wsX7_house wsX7_refused := goodIn_r _ [13, 14, 18, 19, 20, 21, 22, 23, 24, 25, 26, 27, 28] (by decide +kernel) (by decide +kernel)
set_option maxRecDepth 20000 in
theorem gX7_house_X7_refused : GoodIn wsX7_house (wsV RX7 95 RX7 yX7_refused wsX7_refused) := goodIn_app (goodIn_of _ (by decide +kernel)) ggX7_house_X7_refused
set_option maxRecDepth 20000 in
theorem ggX7_house_X7_houseAt : GoodIn wsX7_house wsX7_houseAt := goodIn_r _ [17] (by decide +kernel) (by decide +kernel)
set_option maxRecDepth 20000 in
theorem gX7_house_X7_houseAt : GoodIn wsX7_house (va_wsS RX7 59 yX7_houseAt wsX7_houseAt) := goodIn_app (goodIn_of _ (by decide +kernel)) ggX7_house_X7_houseAt
theorem dX7_house_0 : decode cX7_house 0 = .ok (.aload_n 0, 1) := by decide +kernel
theorem dX7_house_1 : decode cX7_house 1 = .ok (.aload_n 0, 1) := by decide +kernel
theorem dX7_house_2 : decode cX7_house 2 = .ok (.getfield 16, 3) := by decide +kernel
theorem dX7_house_5 : decode cX7_house 5 = .ok (.iload_n 1, 1) := by decide +kernel
theorem dX7_house_6 : decode cX7_house 6 = .ok (.invokestatic 150, 3) := by decide +kernel
theorem dX7_house_9 : decode cX7_house 9 = .ok (.ifCond .ne 7, 3) := by decide +kernel
theorem dX7_house_12 : decode cX7_house 12 = .ok (.iconst 1, 1) := by decide +kernel
theorem dX7_house_13 : decode cX7_house 13 = .ok (.goto 20, 3) := by decide +kernel
theorem dX7_house_16 : decode cX7_house 16 = .ok (.iload_n 2, 1) := by decide +kernel
theorem dX7_house_17 : decode cX7_house 17 = .ok (.i2l, 1) := by decide +kernel
theorem dX7_house_18 : decode cX7_house 18 = .ok (.lconst 0, 1) := by decide +kernel
theorem dX7_house_19 : decode cX7_house 19 = .ok (.ldc2_w 153, 3) := by decide +kernel
theorem dX7_house_22 : decode cX7_house 22 = .ok (.invokestatic 44, 3) := by decide +kernel
theorem dX7_house_25 : decode cX7_house 25 = .ok (.ifCond .ne 7, 3) := by decide +kernel
theorem dX7_house_28 : decode cX7_house 28 = .ok (.iconst 2, 1) := by decide +kernel
theorem dX7_house_29 : decode cX7_house 29 = .ok (.goto 4, 3) := by decide +kernel
theorem dX7_house_32 : decode cX7_house 32 = .ok (.iconst 0, 1) := by decide +kernel
theorem dX7_house_33 : decode cX7_house 33 = .ok (.invokevirtual 95, 3) := by decide +kernel
theorem dX7_house_36 : decode cX7_house 36 = .ok (.ifCond .eq 7, 3) := by decide +kernel
theorem dX7_house_39 : decode cX7_house 39 = .ok (.iconst 0, 1) := by decide +kernel
theorem dX7_house_40 : decode cX7_house 40 = .ok (.goto 14, 3) := by decide +kernel
theorem dX7_house_43 : decode cX7_house 43 = .ok (.aload_n 0, 1) := by decide +kernel
theorem dX7_house_44 : decode cX7_house 44 = .ok (.getfield 16, 3) := by decide +kernel
theorem dX7_house_47 : decode cX7_house 47 = .ok (.iload_n 1, 1) := by decide +kernel
theorem dX7_house_48 : decode cX7_house 48 = .ok (.invokestatic 59, 3) := by decide +kernel
theorem dX7_house_51 : decode cX7_house 51 = .ok (.iload_n 2, 1) := by decide +kernel
theorem dX7_house_52 : decode cX7_house 52 = .ok (.iadd, 1) := by decide +kernel
theorem dX7_house_53 : decode cX7_house 53 = .ok (.iaload, 1) := by decide +kernel
theorem dX7_house_54 : decode cX7_house 54 = .ok (.ireturn, 1) := by decide +kernel
set_option maxRecDepth 20000 in
theorem ggX7_wagon_X7_isWagon : GoodIn wsX7_wagon wsX7_isWagon := goodIn_r _ [6, 7, 8, 5, 9] (by decide +kernel) (by decide +kernel)
set_option maxRecDepth 20000 in
theorem gX7_wagon_X7_isWagon : GoodIn wsX7_wagon (va_wsS RX7 155 yX7_isWagon wsX7_isWagon) := goodIn_app (goodIn_of _ (by decide +kernel)) ggX7_wagon_X7_isWagon
set_option maxRecDepth 20000 in
theorem ggX7_wagon_X7_in : GoodIn wsX7_wagon wsX7_in := goodIn_r _ [9] (by decide +kernel) (by decide +kernel)
set_option maxRecDepth 20000 in
theorem gX7_wagon_X7_in : GoodIn wsX7_wagon (va_wsS RX7 44 yX7_in wsX7_in) := goodIn_app (goodIn_of _ (by decide +kernel)) ggX7_wagon_X7_in
set_option maxRecDepth 20000 in
theorem ggX7_wagon_X7_refused : GoodIn wsX7_wagon wsX7_refused := goodIn_r _ [13, 14, 18, 19, 20, 21, 22, 23, 24, 25, 26, 27, 28] (by decide +kernel) (by decide +kernel)
set_option maxRecDepth 20000 in
theorem gX7_wagon_X7_refused : GoodIn wsX7_wagon (wsV RX7 95 RX7 yX7_refused wsX7_refused) := goodIn_app (goodIn_of _ (by decide +kernel)) ggX7_wagon_X7_refused
set_option maxRecDepth 20000 in
theorem ggX7_wagon_X7_wagonAt : GoodIn wsX7_wagon wsX7_wagonAt := goodIn_r _ [17] (by decide +kernel) (by decide +kernel)
set_option maxRecDepth 20000 in
theorem gX7_wagon_X7_wagonAt : GoodIn wsX7_wagon (va_wsS RX7 79 yX7_wagonAt wsX7_wagonAt) := goodIn_app (goodIn_of _ (by decide +kernel)) ggX7_wagon_X7_wagonAt
theorem dX7_wagon_0 : decode cX7_wagon 0 = .ok (.aload_n 0, 1) := by decide +kernel
theorem dX7_wagon_1 : decode cX7_wagon 1 = .ok (.aload_n 0, 1) := by decide +kernel
theorem dX7_wagon_2 : decode cX7_wagon 2 = .ok (.getfield 16, 3) := by decide +kernel
theorem dX7_wagon_5 : decode cX7_wagon 5 = .ok (.iload_n 1, 1) := by decide +kernel
theorem dX7_wagon_6 : decode cX7_wagon 6 = .ok (.invokestatic 155, 3) := by decide +kernel
theorem dX7_wagon_9 : decode cX7_wagon 9 = .ok (.ifCond .ne 7, 3) := by decide +kernel
theorem dX7_wagon_12 : decode cX7_wagon 12 = .ok (.iconst 1, 1) := by decide +kernel
theorem dX7_wagon_13 : decode cX7_wagon 13 = .ok (.goto 20, 3) := by decide +kernel
theorem dX7_wagon_16 : decode cX7_wagon 16 = .ok (.iload_n 2, 1) := by decide +kernel
theorem dX7_wagon_17 : decode cX7_wagon 17 = .ok (.i2l, 1) := by decide +kernel
theorem dX7_wagon_18 : decode cX7_wagon 18 = .ok (.lconst 0, 1) := by decide +kernel
theorem dX7_wagon_19 : decode cX7_wagon 19 = .ok (.ldc2_w 158, 3) := by decide +kernel
theorem dX7_wagon_22 : decode cX7_wagon 22 = .ok (.invokestatic 44, 3) := by decide +kernel
theorem dX7_wagon_25 : decode cX7_wagon 25 = .ok (.ifCond .ne 7, 3) := by decide +kernel
theorem dX7_wagon_28 : decode cX7_wagon 28 = .ok (.iconst 2, 1) := by decide +kernel
theorem dX7_wagon_29 : decode cX7_wagon 29 = .ok (.goto 4, 3) := by decide +kernel
theorem dX7_wagon_32 : decode cX7_wagon 32 = .ok (.iconst 0, 1) := by decide +kernel
theorem dX7_wagon_33 : decode cX7_wagon 33 = .ok (.invokevirtual 95, 3) := by decide +kernel
theorem dX7_wagon_36 : decode cX7_wagon 36 = .ok (.ifCond .eq 7, 3) := by decide +kernel
theorem dX7_wagon_39 : decode cX7_wagon 39 = .ok (.iconst 0, 1) := by decide +kernel
theorem dX7_wagon_40 : decode cX7_wagon 40 = .ok (.goto 14, 3) := by decide +kernel
theorem dX7_wagon_43 : decode cX7_wagon 43 = .ok (.aload_n 0, 1) := by decide +kernel
theorem dX7_wagon_44 : decode cX7_wagon 44 = .ok (.getfield 16, 3) := by decide +kernel
theorem dX7_wagon_47 : decode cX7_wagon 47 = .ok (.iload_n 1, 1) := by decide +kernel
theorem dX7_wagon_48 : decode cX7_wagon 48 = .ok (.invokestatic 79, 3) := by decide +kernel
theorem dX7_wagon_51 : decode cX7_wagon 51 = .ok (.iload_n 2, 1) := by decide +kernel
theorem dX7_wagon_52 : decode cX7_wagon 52 = .ok (.iadd, 1) := by decide +kernel
theorem dX7_wagon_53 : decode cX7_wagon 53 = .ok (.iaload, 1) := by decide +kernel
theorem dX7_wagon_54 : decode cX7_wagon 54 = .ok (.ireturn, 1) := by decide +kernel
set_option maxRecDepth 20000 in
theorem ggX7_note_X7_copyPage : GoodIn wsX7_note wsX7_copyPage := goodIn_r _ [7] (by decide +kernel) (by decide +kernel)
set_option maxRecDepth 20000 in
theorem gX7_note_X7_copyPage : GoodIn wsX7_note (va_wsS RX7 139 yX7_copyPage wsX7_copyPage) := goodIn_app (goodIn_of _ (by decide +kernel)) ggX7_note_X7_copyPage
theorem dX7_note_0 : decode cX7_note 0 = .ok (.aload_n 0, 1) := by decide +kernel
theorem dX7_note_1 : decode cX7_note 1 = .ok (.getfield 143, 3) := by decide +kernel
theorem dX7_note_4 : decode cX7_note 4 = .ok (.bipush 14, 2) := by decide +kernel
theorem dX7_note_6 : decode cX7_note 6 = .ok (.if_icmp .ne 44, 3) := by decide +kernel
theorem dX7_note_9 : decode cX7_note 9 = .ok (.iconst 0, 1) := by decide +kernel
theorem dX7_note_10 : decode cX7_note 10 = .ok (.istore_n 1, 1) := by decide +kernel
theorem dX7_note_11 : decode cX7_note 11 = .ok (.iload_n 1, 1) := by decide +kernel
theorem dX7_note_12 : decode cX7_note 12 = .ok (.sipush 1703, 3) := by decide +kernel
theorem dX7_note_15 : decode cX7_note 15 = .ok (.if_icmp .ge 25, 3) := by decide +kernel
theorem dX7_note_18 : decode cX7_note 18 = .ok (.aload_n 0, 1) := by decide +kernel
theorem dX7_note_19 : decode cX7_note 19 = .ok (.getfield 22, 3) := by decide +kernel
theorem dX7_note_22 : decode cX7_note 22 = .ok (.iload_n 1, 1) := by decide +kernel
theorem dX7_note_23 : decode cX7_note 23 = .ok (.aload_n 0, 1) := by decide +kernel
theorem dX7_note_24 : decode cX7_note 24 = .ok (.getfield 22, 3) := by decide +kernel
theorem dX7_note_27 : decode cX7_note 27 = .ok (.iload_n 1, 1) := by decide +kernel
theorem dX7_note_28 : decode cX7_note 28 = .ok (.sipush 131, 3) := by decide +kernel
theorem dX7_note_31 : decode cX7_note 31 = .ok (.iadd, 1) := by decide +kernel
theorem dX7_note_32 : decode cX7_note 32 = .ok (.iaload, 1) := by decide +kernel
theorem dX7_note_33 : decode cX7_note 33 = .ok (.iastore, 1) := by decide +kernel
theorem dX7_note_34 : decode cX7_note 34 = .ok (.iinc 1 1, 3) := by decide +kernel
theorem dX7_note_37 : decode cX7_note 37 = .ok (.goto (-26), 3) := by decide +kernel
theorem dX7_note_40 : decode cX7_note 40 = .ok (.aload_n 0, 1) := by decide +kernel
theorem dX7_note_41 : decode cX7_note 41 = .ok (.dup, 1) := by decide +kernel
theorem dX7_note_42 : decode cX7_note 42 = .ok (.getfield 143, 3) := by decide +kernel
theorem dX7_note_45 : decode cX7_note 45 = .ok (.iconst 1, 1) := by decide +kernel
theorem dX7_note_46 : decode cX7_note 46 = .ok (.isub, 1) := by decide +kernel
theorem dX7_note_47 : decode cX7_note 47 = .ok (.putfield 143, 3) := by decide +kernel
theorem dX7_note_50 : decode cX7_note 50 = .ok (.aload_n 0, 1) := by decide +kernel
theorem dX7_note_51 : decode cX7_note 51 = .ok (.getfield 16, 3) := by decide +kernel
theorem dX7_note_54 : decode cX7_note 54 = .ok (.iconst 0, 1) := by decide +kernel
theorem dX7_note_55 : decode cX7_note 55 = .ok (.aload_n 0, 1) := by decide +kernel
theorem dX7_note_56 : decode cX7_note 56 = .ok (.getfield 22, 3) := by decide +kernel
theorem dX7_note_59 : decode cX7_note 59 = .ok (.sipush 131, 3) := by decide +kernel
theorem dX7_note_62 : decode cX7_note 62 = .ok (.aload_n 0, 1) := by decide +kernel
theorem dX7_note_63 : decode cX7_note 63 = .ok (.getfield 143, 3) := by decide +kernel
theorem dX7_note_66 : decode cX7_note 66 = .ok (.imul, 1) := by decide +kernel
theorem dX7_note_67 : decode cX7_note 67 = .ok (.invokestatic 139, 3) := by decide +kernel
theorem dX7_note_70 : decode cX7_note 70 = .ok (.aload_n 0, 1) := by decide +kernel
theorem dX7_note_71 : decode cX7_note 71 = .ok (.dup, 1) := by decide +kernel
theorem dX7_note_72 : decode cX7_note 72 = .ok (.getfield 143, 3) := by decide +kernel
theorem dX7_note_75 : decode cX7_note 75 = .ok (.iconst 1, 1) := by decide +kernel
theorem dX7_note_76 : decode cX7_note 76 = .ok (.iadd, 1) := by decide +kernel
theorem dX7_note_77 : decode cX7_note 77 = .ok (.putfield 143, 3) := by decide +kernel
theorem dX7_note_80 : decode cX7_note 80 = .ok (.return_, 1) := by decide +kernel
set_option maxRecDepth 20000 in
theorem ggX7_addHouse_X7_isSegment : GoodIn wsX7_addHouse wsX7_isSegment := goodIn_r _ [6, 7, 8, 5, 9] (by decide +kernel) (by decide +kernel)
set_option maxRecDepth 20000 in
theorem gX7_addHouse_X7_isSegment : GoodIn wsX7_addHouse (va_wsS RX7 55 yX7_isSegment wsX7_isSegment) := goodIn_app (goodIn_of _ (by decide +kernel)) ggX7_addHouse_X7_isSegment
set_option maxRecDepth 20000 in
theorem ggX7_addHouse_X7_in : GoodIn wsX7_addHouse wsX7_in := goodIn_r _ [9] (by decide +kernel) (by decide +kernel)
set_option maxRecDepth 20000 in
theorem gX7_addHouse_X7_in : GoodIn wsX7_addHouse (va_wsS RX7 44 yX7_in wsX7_in) := goodIn_app (goodIn_of _ (by decide +kernel)) ggX7_addHouse_X7_in
set_option maxRecDepth 20000 in
theorem ggX7_addHouse_X7_refused : GoodIn wsX7_addHouse wsX7_refused := goodIn_r _ [13, 14, 30, 31, 32, 33, 34, 35, 36, 37, 38, 39, 40] (by decide +kernel) (by decide +kernel)
set_option maxRecDepth 20000 in
theorem gX7_addHouse_X7_refused : GoodIn wsX7_addHouse (wsV RX7 95 RX7 yX7_refused wsX7_refused) := goodIn_app (goodIn_of _ (by decide +kernel)) ggX7_addHouse_X7_refused
set_option maxRecDepth 20000 in
theorem ggX7_addHouse_X7_note : GoodIn wsX7_addHouse wsX7_note := goodIn_r _ [18, 19, 20, 1, 21, 22, 5, 23, 30, 31, 32, 33, 34, 35, 36, 37, 38, 39, 40] (by decide +kernel) (by decide +kernel)
set_option maxRecDepth 20000 in
theorem gX7_addHouse_X7_note : GoodIn wsX7_addHouse (wsV RX7 160 RX7 yX7_note wsX7_note) := goodIn_app (goodIn_of _ (by decide +kernel)) ggX7_addHouse_X7_note
set_option maxRecDepth 20000 in
theorem ggX7_addHouse_X7_houseOn : GoodIn wsX7_addHouse wsX7_houseOn := goodIn_r _ [26, 27, 28, 5, 29] (by decide +kernel) (by decide +kernel)
set_option maxRecDepth 20000 in
theorem gX7_addHouse_X7_houseOn : GoodIn wsX7_addHouse (va_wsS RX7 107 yX7_houseOn wsX7_houseOn) := goodIn_app (goodIn_of _ (by decide +kernel)) ggX7_addHouse_X7_houseOn
theorem dX7_addHouse_0 : decode cX7_addHouse 0 = .ok (.aload_n 0, 1) := by decide +kernel
theorem dX7_addHouse_1 : decode cX7_addHouse 1 = .ok (.aload_n 0, 1) := by decide +kernel
theorem dX7_addHouse_2 : decode cX7_addHouse 2 = .ok (.getfield 16, 3) := by decide +kernel
theorem dX7_addHouse_5 : decode cX7_addHouse 5 = .ok (.iload_n 1, 1) := by decide +kernel
theorem dX7_addHouse_6 : decode cX7_addHouse 6 = .ok (.invokestatic 55, 3) := by decide +kernel
theorem dX7_addHouse_9 : decode cX7_addHouse 9 = .ok (.ifCond .ne 7, 3) := by decide +kernel
theorem dX7_addHouse_12 : decode cX7_addHouse 12 = .ok (.iconst 1, 1) := by decide +kernel
theorem dX7_addHouse_13 : decode cX7_addHouse 13 = .ok (.goto 35, 3) := by decide +kernel
theorem dX7_addHouse_16 : decode cX7_addHouse 16 = .ok (.iload_n 2, 1) := by decide +kernel
theorem dX7_addHouse_17 : decode cX7_addHouse 17 = .ok (.i2l, 1) := by decide +kernel
theorem dX7_addHouse_18 : decode cX7_addHouse 18 = .ok (.lconst 0, 1) := by decide +kernel
theorem dX7_addHouse_19 : decode cX7_addHouse 19 = .ok (.ldc2_w 102, 3) := by decide +kernel
theorem dX7_addHouse_22 : decode cX7_addHouse 22 = .ok (.invokestatic 44, 3) := by decide +kernel
theorem dX7_addHouse_25 : decode cX7_addHouse 25 = .ok (.ifCond .ne 7, 3) := by decide +kernel
theorem dX7_addHouse_28 : decode cX7_addHouse 28 = .ok (.iconst 2, 1) := by decide +kernel
theorem dX7_addHouse_29 : decode cX7_addHouse 29 = .ok (.goto 19, 3) := by decide +kernel
theorem dX7_addHouse_32 : decode cX7_addHouse 32 = .ok (.aload_n 0, 1) := by decide +kernel
theorem dX7_addHouse_33 : decode cX7_addHouse 33 = .ok (.getfield 16, 3) := by decide +kernel
theorem dX7_addHouse_36 : decode cX7_addHouse 36 = .ok (.iconst 1, 1) := by decide +kernel
theorem dX7_addHouse_37 : decode cX7_addHouse 37 = .ok (.iaload, 1) := by decide +kernel
theorem dX7_addHouse_38 : decode cX7_addHouse 38 = .ok (.bipush 8, 2) := by decide +kernel
theorem dX7_addHouse_40 : decode cX7_addHouse 40 = .ok (.if_icmp .ne 7, 3) := by decide +kernel
theorem dX7_addHouse_43 : decode cX7_addHouse 43 = .ok (.iconst 3, 1) := by decide +kernel
theorem dX7_addHouse_44 : decode cX7_addHouse 44 = .ok (.goto 4, 3) := by decide +kernel
theorem dX7_addHouse_47 : decode cX7_addHouse 47 = .ok (.iconst 0, 1) := by decide +kernel
theorem dX7_addHouse_48 : decode cX7_addHouse 48 = .ok (.invokevirtual 95, 3) := by decide +kernel
theorem dX7_addHouse_51 : decode cX7_addHouse 51 = .ok (.ifCond .eq 5, 3) := by decide +kernel
theorem dX7_addHouse_54 : decode cX7_addHouse 54 = .ok (.iconst 0, 1) := by decide +kernel
theorem dX7_addHouse_55 : decode cX7_addHouse 55 = .ok (.ireturn, 1) := by decide +kernel
theorem dX7_addHouse_56 : decode cX7_addHouse 56 = .ok (.aload_n 0, 1) := by decide +kernel
theorem dX7_addHouse_57 : decode cX7_addHouse 57 = .ok (.invokevirtual 160, 3) := by decide +kernel
theorem dX7_addHouse_60 : decode cX7_addHouse 60 = .ok (.aload_n 0, 1) := by decide +kernel
theorem dX7_addHouse_61 : decode cX7_addHouse 61 = .ok (.getfield 16, 3) := by decide +kernel
theorem dX7_addHouse_64 : decode cX7_addHouse 64 = .ok (.iload_n 1, 1) := by decide +kernel
theorem dX7_addHouse_65 : decode cX7_addHouse 65 = .ok (.iload_n 2, 1) := by decide +kernel
theorem dX7_addHouse_66 : decode cX7_addHouse 66 = .ok (.invokestatic 107, 3) := by decide +kernel
theorem dX7_addHouse_69 : decode cX7_addHouse 69 = .ok (.aload_n 0, 1) := by decide +kernel
theorem dX7_addHouse_70 : decode cX7_addHouse 70 = .ok (.getfield 16, 3) := by decide +kernel
theorem dX7_addHouse_73 : decode cX7_addHouse 73 = .ok (.iconst 1, 1) := by decide +kernel
theorem dX7_addHouse_74 : decode cX7_addHouse 74 = .ok (.iaload, 1) := by decide +kernel
theorem dX7_addHouse_75 : decode cX7_addHouse 75 = .ok (.iconst 1, 1) := by decide +kernel
theorem dX7_addHouse_76 : decode cX7_addHouse 76 = .ok (.isub, 1) := by decide +kernel
theorem dX7_addHouse_77 : decode cX7_addHouse 77 = .ok (.ireturn, 1) := by decide +kernel
set_option maxRecDepth 20000 in
theorem ggX7_addWagon_X7_isSegment : GoodIn wsX7_addWagon wsX7_isSegment := goodIn_r _ [5, 6, 7, 4, 8] (by decide +kernel) (by decide +kernel)
set_option maxRecDepth 20000 in
theorem gX7_addWagon_X7_isSegment : GoodIn wsX7_addWagon (va_wsS RX7 55 yX7_isSegment wsX7_isSegment) := goodIn_app (goodIn_of _ (by decide +kernel)) ggX7_addWagon_X7_isSegment
set_option maxRecDepth 20000 in
theorem ggX7_addWagon_X7_refused : GoodIn wsX7_addWagon wsX7_refused := goodIn_r _ [12, 13, 29, 30, 31, 32, 33, 34, 35, 36, 37, 38, 39] (by decide +kernel) (by decide +kernel)
set_option maxRecDepth 20000 in
theorem gX7_addWagon_X7_refused : GoodIn wsX7_addWagon (wsV RX7 95 RX7 yX7_refused wsX7_refused) := goodIn_app (goodIn_of _ (by decide +kernel)) ggX7_addWagon_X7_refused
set_option maxRecDepth 20000 in
theorem ggX7_addWagon_X7_note : GoodIn wsX7_addWagon wsX7_note := goodIn_r _ [17, 18, 19, 1, 20, 21, 4, 22, 29, 30, 31, 32, 33, 34, 35, 36, 37, 38, 39] (by decide +kernel) (by decide +kernel)
set_option maxRecDepth 20000 in
theorem gX7_addWagon_X7_note : GoodIn wsX7_addWagon (wsV RX7 160 RX7 yX7_note wsX7_note) := goodIn_app (goodIn_of _ (by decide +kernel)) ggX7_addWagon_X7_note
set_option maxRecDepth 20000 in
theorem ggX7_addWagon_X7_wagonOn : GoodIn wsX7_addWagon wsX7_wagonOn := goodIn_r _ [25, 26, 27, 4, 28] (by decide +kernel) (by decide +kernel)
set_option maxRecDepth 20000 in
theorem gX7_addWagon_X7_wagonOn : GoodIn wsX7_addWagon (va_wsS RX7 110 yX7_wagonOn wsX7_wagonOn) := goodIn_app (goodIn_of _ (by decide +kernel)) ggX7_addWagon_X7_wagonOn
theorem dX7_addWagon_0 : decode cX7_addWagon 0 = .ok (.aload_n 0, 1) := by decide +kernel
theorem dX7_addWagon_1 : decode cX7_addWagon 1 = .ok (.aload_n 0, 1) := by decide +kernel
theorem dX7_addWagon_2 : decode cX7_addWagon 2 = .ok (.getfield 16, 3) := by decide +kernel
theorem dX7_addWagon_5 : decode cX7_addWagon 5 = .ok (.iload_n 1, 1) := by decide +kernel
theorem dX7_addWagon_6 : decode cX7_addWagon 6 = .ok (.invokestatic 55, 3) := by decide +kernel
theorem dX7_addWagon_9 : decode cX7_addWagon 9 = .ok (.ifCond .ne 7, 3) := by decide +kernel
theorem dX7_addWagon_12 : decode cX7_addWagon 12 = .ok (.iconst 1, 1) := by decide +kernel
theorem dX7_addWagon_13 : decode cX7_addWagon 13 = .ok (.goto 18, 3) := by decide +kernel
theorem dX7_addWagon_16 : decode cX7_addWagon 16 = .ok (.aload_n 0, 1) := by decide +kernel
theorem dX7_addWagon_17 : decode cX7_addWagon 17 = .ok (.getfield 16, 3) := by decide +kernel
theorem dX7_addWagon_20 : decode cX7_addWagon 20 = .ok (.iconst 2, 1) := by decide +kernel
theorem dX7_addWagon_21 : decode cX7_addWagon 21 = .ok (.iaload, 1) := by decide +kernel
theorem dX7_addWagon_22 : decode cX7_addWagon 22 = .ok (.iconst 3, 1) := by decide +kernel
theorem dX7_addWagon_23 : decode cX7_addWagon 23 = .ok (.if_icmp .ne 7, 3) := by decide +kernel
theorem dX7_addWagon_26 : decode cX7_addWagon 26 = .ok (.iconst 2, 1) := by decide +kernel
theorem dX7_addWagon_27 : decode cX7_addWagon 27 = .ok (.goto 4, 3) := by decide +kernel
theorem dX7_addWagon_30 : decode cX7_addWagon 30 = .ok (.iconst 0, 1) := by decide +kernel
theorem dX7_addWagon_31 : decode cX7_addWagon 31 = .ok (.invokevirtual 95, 3) := by decide +kernel
theorem dX7_addWagon_34 : decode cX7_addWagon 34 = .ok (.ifCond .eq 5, 3) := by decide +kernel
theorem dX7_addWagon_37 : decode cX7_addWagon 37 = .ok (.iconst 0, 1) := by decide +kernel
theorem dX7_addWagon_38 : decode cX7_addWagon 38 = .ok (.ireturn, 1) := by decide +kernel
theorem dX7_addWagon_39 : decode cX7_addWagon 39 = .ok (.aload_n 0, 1) := by decide +kernel
theorem dX7_addWagon_40 : decode cX7_addWagon 40 = .ok (.invokevirtual 160, 3) := by decide +kernel
theorem dX7_addWagon_43 : decode cX7_addWagon 43 = .ok (.aload_n 0, 1) := by decide +kernel
theorem dX7_addWagon_44 : decode cX7_addWagon 44 = .ok (.getfield 16, 3) := by decide +kernel
theorem dX7_addWagon_47 : decode cX7_addWagon 47 = .ok (.iload_n 1, 1) := by decide +kernel
theorem dX7_addWagon_48 : decode cX7_addWagon 48 = .ok (.invokestatic 110, 3) := by decide +kernel
theorem dX7_addWagon_51 : decode cX7_addWagon 51 = .ok (.aload_n 0, 1) := by decide +kernel
theorem dX7_addWagon_52 : decode cX7_addWagon 52 = .ok (.getfield 16, 3) := by decide +kernel
theorem dX7_addWagon_55 : decode cX7_addWagon 55 = .ok (.iconst 2, 1) := by decide +kernel
theorem dX7_addWagon_56 : decode cX7_addWagon 56 = .ok (.iaload, 1) := by decide +kernel
theorem dX7_addWagon_57 : decode cX7_addWagon 57 = .ok (.iconst 1, 1) := by decide +kernel
theorem dX7_addWagon_58 : decode cX7_addWagon 58 = .ok (.isub, 1) := by decide +kernel
theorem dX7_addWagon_59 : decode cX7_addWagon 59 = .ok (.ireturn, 1) := by decide +kernel
set_option maxRecDepth 20000 in
theorem ggX7_setSurface_X7_isSegment : GoodIn wsX7_setSurface wsX7_isSegment := goodIn_r _ [6, 7, 8, 5, 9] (by decide +kernel) (by decide +kernel)
set_option maxRecDepth 20000 in
theorem gX7_setSurface_X7_isSegment : GoodIn wsX7_setSurface (va_wsS RX7 55 yX7_isSegment wsX7_isSegment) := goodIn_app (goodIn_of _ (by decide +kernel)) ggX7_setSurface_X7_isSegment
set_option maxRecDepth 20000 in
theorem ggX7_setSurface_X7_in : GoodIn wsX7_setSurface wsX7_in := goodIn_r _ [9] (by decide +kernel) (by decide +kernel)
set_option maxRecDepth 20000 in
theorem gX7_setSurface_X7_in : GoodIn wsX7_setSurface (va_wsS RX7 44 yX7_in wsX7_in) := goodIn_app (goodIn_of _ (by decide +kernel)) ggX7_setSurface_X7_in
set_option maxRecDepth 20000 in
theorem ggX7_setSurface_X7_refused : GoodIn wsX7_setSurface wsX7_refused := goodIn_r _ [13, 14, 27, 28, 29, 30, 31, 32, 33, 34, 35, 36, 37] (by decide +kernel) (by decide +kernel)
set_option maxRecDepth 20000 in
theorem gX7_setSurface_X7_refused : GoodIn wsX7_setSurface (wsV RX7 95 RX7 yX7_refused wsX7_refused) := goodIn_app (goodIn_of _ (by decide +kernel)) ggX7_setSurface_X7_refused
set_option maxRecDepth 20000 in
theorem ggX7_setSurface_X7_note : GoodIn wsX7_setSurface wsX7_note := goodIn_r _ [18, 19, 20, 1, 21, 22, 5, 23, 27, 28, 29, 30, 31, 32, 33, 34, 35, 36, 37] (by decide +kernel) (by decide +kernel)
set_option maxRecDepth 20000 in
theorem gX7_setSurface_X7_note : GoodIn wsX7_setSurface (wsV RX7 160 RX7 yX7_note wsX7_note) := goodIn_app (goodIn_of _ (by decide +kernel)) ggX7_setSurface_X7_note
set_option maxRecDepth 20000 in
theorem ggX7_setSurface_X7_segmentAt : GoodIn wsX7_setSurface wsX7_segmentAt := goodIn_r _ [26] (by decide +kernel) (by decide +kernel)
set_option maxRecDepth 20000 in
theorem gX7_setSurface_X7_segmentAt : GoodIn wsX7_setSurface (va_wsS RX7 40 yX7_segmentAt wsX7_segmentAt) := goodIn_app (goodIn_of _ (by decide +kernel)) ggX7_setSurface_X7_segmentAt
theorem dX7_setSurface_0 : decode cX7_setSurface 0 = .ok (.aload_n 0, 1) := by decide +kernel
theorem dX7_setSurface_1 : decode cX7_setSurface 1 = .ok (.aload_n 0, 1) := by decide +kernel
theorem dX7_setSurface_2 : decode cX7_setSurface 2 = .ok (.getfield 16, 3) := by decide +kernel
theorem dX7_setSurface_5 : decode cX7_setSurface 5 = .ok (.iload_n 1, 1) := by decide +kernel
theorem dX7_setSurface_6 : decode cX7_setSurface 6 = .ok (.invokestatic 55, 3) := by decide +kernel
theorem dX7_setSurface_9 : decode cX7_setSurface 9 = .ok (.ifCond .ne 7, 3) := by decide +kernel
theorem dX7_setSurface_12 : decode cX7_setSurface 12 = .ok (.iconst 1, 1) := by decide +kernel
theorem dX7_setSurface_13 : decode cX7_setSurface 13 = .ok (.goto 20, 3) := by decide +kernel
theorem dX7_setSurface_16 : decode cX7_setSurface 16 = .ok (.iload_n 2, 1) := by decide +kernel
theorem dX7_setSurface_17 : decode cX7_setSurface 17 = .ok (.i2l, 1) := by decide +kernel
theorem dX7_setSurface_18 : decode cX7_setSurface 18 = .ok (.lconst 0, 1) := by decide +kernel
theorem dX7_setSurface_19 : decode cX7_setSurface 19 = .ok (.ldc2_w 158, 3) := by decide +kernel
theorem dX7_setSurface_22 : decode cX7_setSurface 22 = .ok (.invokestatic 44, 3) := by decide +kernel
theorem dX7_setSurface_25 : decode cX7_setSurface 25 = .ok (.ifCond .ne 7, 3) := by decide +kernel
theorem dX7_setSurface_28 : decode cX7_setSurface 28 = .ok (.iconst 2, 1) := by decide +kernel
theorem dX7_setSurface_29 : decode cX7_setSurface 29 = .ok (.goto 4, 3) := by decide +kernel
theorem dX7_setSurface_32 : decode cX7_setSurface 32 = .ok (.iconst 0, 1) := by decide +kernel
theorem dX7_setSurface_33 : decode cX7_setSurface 33 = .ok (.invokevirtual 95, 3) := by decide +kernel
theorem dX7_setSurface_36 : decode cX7_setSurface 36 = .ok (.ifCond .eq 5, 3) := by decide +kernel
theorem dX7_setSurface_39 : decode cX7_setSurface 39 = .ok (.iconst 0, 1) := by decide +kernel
theorem dX7_setSurface_40 : decode cX7_setSurface 40 = .ok (.ireturn, 1) := by decide +kernel
theorem dX7_setSurface_41 : decode cX7_setSurface 41 = .ok (.aload_n 0, 1) := by decide +kernel
theorem dX7_setSurface_42 : decode cX7_setSurface 42 = .ok (.invokevirtual 160, 3) := by decide +kernel
theorem dX7_setSurface_45 : decode cX7_setSurface 45 = .ok (.aload_n 0, 1) := by decide +kernel
theorem dX7_setSurface_46 : decode cX7_setSurface 46 = .ok (.getfield 16, 3) := by decide +kernel
theorem dX7_setSurface_49 : decode cX7_setSurface 49 = .ok (.iload_n 1, 1) := by decide +kernel
theorem dX7_setSurface_50 : decode cX7_setSurface 50 = .ok (.invokestatic 40, 3) := by decide +kernel
theorem dX7_setSurface_53 : decode cX7_setSurface 53 = .ok (.iaload, 1) := by decide +kernel
theorem dX7_setSurface_54 : decode cX7_setSurface 54 = .ok (.istore_n 3, 1) := by decide +kernel
theorem dX7_setSurface_55 : decode cX7_setSurface 55 = .ok (.aload_n 0, 1) := by decide +kernel
theorem dX7_setSurface_56 : decode cX7_setSurface 56 = .ok (.getfield 16, 3) := by decide +kernel
theorem dX7_setSurface_59 : decode cX7_setSurface 59 = .ok (.iload_n 1, 1) := by decide +kernel
theorem dX7_setSurface_60 : decode cX7_setSurface 60 = .ok (.invokestatic 40, 3) := by decide +kernel
theorem dX7_setSurface_63 : decode cX7_setSurface 63 = .ok (.iload_n 2, 1) := by decide +kernel
theorem dX7_setSurface_64 : decode cX7_setSurface 64 = .ok (.iastore, 1) := by decide +kernel
theorem dX7_setSurface_65 : decode cX7_setSurface 65 = .ok (.iload_n 3, 1) := by decide +kernel
theorem dX7_setSurface_66 : decode cX7_setSurface 66 = .ok (.ireturn, 1) := by decide +kernel
set_option maxRecDepth 20000 in
theorem ggX7_setLimit_X7_isSegment : GoodIn wsX7_setLimit wsX7_isSegment := goodIn_r _ [6, 7, 8, 5, 9] (by decide +kernel) (by decide +kernel)
set_option maxRecDepth 20000 in
theorem gX7_setLimit_X7_isSegment : GoodIn wsX7_setLimit (va_wsS RX7 55 yX7_isSegment wsX7_isSegment) := goodIn_app (goodIn_of _ (by decide +kernel)) ggX7_setLimit_X7_isSegment
set_option maxRecDepth 20000 in
theorem ggX7_setLimit_X7_in : GoodIn wsX7_setLimit wsX7_in := goodIn_r _ [9] (by decide +kernel) (by decide +kernel)
set_option maxRecDepth 20000 in
theorem gX7_setLimit_X7_in : GoodIn wsX7_setLimit (va_wsS RX7 44 yX7_in wsX7_in) := goodIn_app (goodIn_of _ (by decide +kernel)) ggX7_setLimit_X7_in
set_option maxRecDepth 20000 in
theorem ggX7_setLimit_X7_segmentAt : GoodIn wsX7_setLimit wsX7_segmentAt := goodIn_r _ [12] (by decide +kernel) (by decide +kernel)
set_option maxRecDepth 20000 in
theorem gX7_setLimit_X7_segmentAt : GoodIn wsX7_setLimit (va_wsS RX7 40 yX7_segmentAt wsX7_segmentAt) := goodIn_app (goodIn_of _ (by decide +kernel)) ggX7_setLimit_X7_segmentAt
set_option maxRecDepth 20000 in
theorem ggX7_setLimit_X7_refused : GoodIn wsX7_setLimit wsX7_refused := goodIn_r _ [16, 17, 27, 28, 29, 30, 31, 32, 33, 34, 35, 36, 37] (by decide +kernel) (by decide +kernel)
set_option maxRecDepth 20000 in
theorem gX7_setLimit_X7_refused : GoodIn wsX7_setLimit (wsV RX7 95 RX7 yX7_refused wsX7_refused) := goodIn_app (goodIn_of _ (by decide +kernel)) ggX7_setLimit_X7_refused
set_option maxRecDepth 20000 in
theorem ggX7_setLimit_X7_note : GoodIn wsX7_setLimit wsX7_note := goodIn_r _ [21, 22, 23, 1, 24, 25, 5, 26, 27, 28, 29, 30, 31, 32, 33, 34, 35, 36, 37] (by decide +kernel) (by decide +kernel)
set_option maxRecDepth 20000 in
theorem gX7_setLimit_X7_note : GoodIn wsX7_setLimit (wsV RX7 160 RX7 yX7_note wsX7_note) := goodIn_app (goodIn_of _ (by decide +kernel)) ggX7_setLimit_X7_note
theorem dX7_setLimit_0 : decode cX7_setLimit 0 = .ok (.aload_n 0, 1) := by decide +kernel
theorem dX7_setLimit_1 : decode cX7_setLimit 1 = .ok (.aload_n 0, 1) := by decide +kernel
theorem dX7_setLimit_2 : decode cX7_setLimit 2 = .ok (.getfield 16, 3) := by decide +kernel
theorem dX7_setLimit_5 : decode cX7_setLimit 5 = .ok (.iload_n 1, 1) := by decide +kernel
theorem dX7_setLimit_6 : decode cX7_setLimit 6 = .ok (.invokestatic 55, 3) := by decide +kernel
theorem dX7_setLimit_9 : decode cX7_setLimit 9 = .ok (.ifCond .ne 7, 3) := by decide +kernel
theorem dX7_setLimit_12 : decode cX7_setLimit 12 = .ok (.iconst 1, 1) := by decide +kernel
theorem dX7_setLimit_13 : decode cX7_setLimit 13 = .ok (.goto 41, 3) := by decide +kernel
theorem dX7_setLimit_16 : decode cX7_setLimit 16 = .ok (.iload_n 2, 1) := by decide +kernel
theorem dX7_setLimit_17 : decode cX7_setLimit 17 = .ok (.i2l, 1) := by decide +kernel
theorem dX7_setLimit_18 : decode cX7_setLimit 18 = .ok (.lconst 1, 1) := by decide +kernel
theorem dX7_setLimit_19 : decode cX7_setLimit 19 = .ok (.ldc2_w 163, 3) := by decide +kernel
theorem dX7_setLimit_22 : decode cX7_setLimit 22 = .ok (.invokestatic 44, 3) := by decide +kernel
theorem dX7_setLimit_25 : decode cX7_setLimit 25 = .ok (.ifCond .ne 7, 3) := by decide +kernel
theorem dX7_setLimit_28 : decode cX7_setLimit 28 = .ok (.iconst 2, 1) := by decide +kernel
theorem dX7_setLimit_29 : decode cX7_setLimit 29 = .ok (.goto 25, 3) := by decide +kernel
theorem dX7_setLimit_32 : decode cX7_setLimit 32 = .ok (.iload_n 2, 1) := by decide +kernel
theorem dX7_setLimit_33 : decode cX7_setLimit 33 = .ok (.iconst 5, 1) := by decide +kernel
theorem dX7_setLimit_34 : decode cX7_setLimit 34 = .ok (.aload_n 0, 1) := by decide +kernel
theorem dX7_setLimit_35 : decode cX7_setLimit 35 = .ok (.getfield 16, 3) := by decide +kernel
theorem dX7_setLimit_38 : decode cX7_setLimit 38 = .ok (.iload_n 1, 1) := by decide +kernel
theorem dX7_setLimit_39 : decode cX7_setLimit 39 = .ok (.invokestatic 40, 3) := by decide +kernel
theorem dX7_setLimit_42 : decode cX7_setLimit 42 = .ok (.iconst 2, 1) := by decide +kernel
theorem dX7_setLimit_43 : decode cX7_setLimit 43 = .ok (.iadd, 1) := by decide +kernel
theorem dX7_setLimit_44 : decode cX7_setLimit 44 = .ok (.iaload, 1) := by decide +kernel
theorem dX7_setLimit_45 : decode cX7_setLimit 45 = .ok (.isub, 1) := by decide +kernel
theorem dX7_setLimit_46 : decode cX7_setLimit 46 = .ok (.if_icmp .le 7, 3) := by decide +kernel
theorem dX7_setLimit_49 : decode cX7_setLimit 49 = .ok (.iconst 3, 1) := by decide +kernel
theorem dX7_setLimit_50 : decode cX7_setLimit 50 = .ok (.goto 4, 3) := by decide +kernel
theorem dX7_setLimit_53 : decode cX7_setLimit 53 = .ok (.iconst 0, 1) := by decide +kernel
theorem dX7_setLimit_54 : decode cX7_setLimit 54 = .ok (.invokevirtual 95, 3) := by decide +kernel
theorem dX7_setLimit_57 : decode cX7_setLimit 57 = .ok (.ifCond .eq 5, 3) := by decide +kernel
theorem dX7_setLimit_60 : decode cX7_setLimit 60 = .ok (.iconst 0, 1) := by decide +kernel
theorem dX7_setLimit_61 : decode cX7_setLimit 61 = .ok (.ireturn, 1) := by decide +kernel
theorem dX7_setLimit_62 : decode cX7_setLimit 62 = .ok (.aload_n 0, 1) := by decide +kernel
theorem dX7_setLimit_63 : decode cX7_setLimit 63 = .ok (.invokevirtual 160, 3) := by decide +kernel
theorem dX7_setLimit_66 : decode cX7_setLimit 66 = .ok (.aload_n 0, 1) := by decide +kernel
theorem dX7_setLimit_67 : decode cX7_setLimit 67 = .ok (.getfield 16, 3) := by decide +kernel
theorem dX7_setLimit_70 : decode cX7_setLimit 70 = .ok (.iload_n 1, 1) := by decide +kernel
theorem dX7_setLimit_71 : decode cX7_setLimit 71 = .ok (.invokestatic 40, 3) := by decide +kernel
theorem dX7_setLimit_74 : decode cX7_setLimit 74 = .ok (.iconst 1, 1) := by decide +kernel
theorem dX7_setLimit_75 : decode cX7_setLimit 75 = .ok (.iadd, 1) := by decide +kernel
theorem dX7_setLimit_76 : decode cX7_setLimit 76 = .ok (.iaload, 1) := by decide +kernel
theorem dX7_setLimit_77 : decode cX7_setLimit 77 = .ok (.istore_n 3, 1) := by decide +kernel
theorem dX7_setLimit_78 : decode cX7_setLimit 78 = .ok (.aload_n 0, 1) := by decide +kernel
theorem dX7_setLimit_79 : decode cX7_setLimit 79 = .ok (.getfield 16, 3) := by decide +kernel
theorem dX7_setLimit_82 : decode cX7_setLimit 82 = .ok (.iload_n 1, 1) := by decide +kernel
theorem dX7_setLimit_83 : decode cX7_setLimit 83 = .ok (.invokestatic 40, 3) := by decide +kernel
theorem dX7_setLimit_86 : decode cX7_setLimit 86 = .ok (.iconst 1, 1) := by decide +kernel
theorem dX7_setLimit_87 : decode cX7_setLimit 87 = .ok (.iadd, 1) := by decide +kernel
theorem dX7_setLimit_88 : decode cX7_setLimit 88 = .ok (.iload_n 2, 1) := by decide +kernel
theorem dX7_setLimit_89 : decode cX7_setLimit 89 = .ok (.iastore, 1) := by decide +kernel
theorem dX7_setLimit_90 : decode cX7_setLimit 90 = .ok (.iload_n 3, 1) := by decide +kernel
theorem dX7_setLimit_91 : decode cX7_setLimit 91 = .ok (.ireturn, 1) := by decide +kernel
set_option maxRecDepth 20000 in
theorem ggX7_isSetting_X7_in : GoodIn wsX7_isSetting wsX7_in := goodIn_r _ [8] (by decide +kernel) (by decide +kernel)
set_option maxRecDepth 20000 in
theorem gX7_isSetting_X7_in : GoodIn wsX7_isSetting (va_wsS RX7 44 yX7_in wsX7_in) := goodIn_app (goodIn_of _ (by decide +kernel)) ggX7_isSetting_X7_in
theorem dX7_isSetting_0 : decode cX7_isSetting 0 = .ok (.iload_n 0, 1) := by decide +kernel
theorem dX7_isSetting_1 : decode cX7_isSetting 1 = .ok (.tableswitch 71 5 8 #[31, 41, 51, 61], 31) := by decide +kernel
theorem dX7_isSetting_32 : decode cX7_isSetting 32 = .ok (.iload_n 1, 1) := by decide +kernel
theorem dX7_isSetting_33 : decode cX7_isSetting 33 = .ok (.i2l, 1) := by decide +kernel
theorem dX7_isSetting_34 : decode cX7_isSetting 34 = .ok (.lconst 0, 1) := by decide +kernel
theorem dX7_isSetting_35 : decode cX7_isSetting 35 = .ok (.ldc2_w 165, 3) := by decide +kernel
theorem dX7_isSetting_38 : decode cX7_isSetting 38 = .ok (.invokestatic 44, 3) := by decide +kernel
theorem dX7_isSetting_41 : decode cX7_isSetting 41 = .ok (.ireturn, 1) := by decide +kernel
theorem dX7_isSetting_42 : decode cX7_isSetting 42 = .ok (.iload_n 1, 1) := by decide +kernel
theorem dX7_isSetting_43 : decode cX7_isSetting 43 = .ok (.i2l, 1) := by decide +kernel
theorem dX7_isSetting_44 : decode cX7_isSetting 44 = .ok (.lconst 0, 1) := by decide +kernel
theorem dX7_isSetting_45 : decode cX7_isSetting 45 = .ok (.ldc2_w 102, 3) := by decide +kernel
theorem dX7_isSetting_48 : decode cX7_isSetting 48 = .ok (.invokestatic 44, 3) := by decide +kernel
theorem dX7_isSetting_51 : decode cX7_isSetting 51 = .ok (.ireturn, 1) := by decide +kernel
theorem dX7_isSetting_52 : decode cX7_isSetting 52 = .ok (.iload_n 1, 1) := by decide +kernel
theorem dX7_isSetting_53 : decode cX7_isSetting 53 = .ok (.i2l, 1) := by decide +kernel
theorem dX7_isSetting_54 : decode cX7_isSetting 54 = .ok (.lconst 1, 1) := by decide +kernel
theorem dX7_isSetting_55 : decode cX7_isSetting 55 = .ok (.ldc2_w 167, 3) := by decide +kernel
theorem dX7_isSetting_58 : decode cX7_isSetting 58 = .ok (.invokestatic 44, 3) := by decide +kernel
theorem dX7_isSetting_61 : decode cX7_isSetting 61 = .ok (.ireturn, 1) := by decide +kernel
theorem dX7_isSetting_62 : decode cX7_isSetting 62 = .ok (.iload_n 1, 1) := by decide +kernel
theorem dX7_isSetting_63 : decode cX7_isSetting 63 = .ok (.i2l, 1) := by decide +kernel
theorem dX7_isSetting_64 : decode cX7_isSetting 64 = .ok (.lconst 0, 1) := by decide +kernel
theorem dX7_isSetting_65 : decode cX7_isSetting 65 = .ok (.ldc2_w 169, 3) := by decide +kernel
theorem dX7_isSetting_68 : decode cX7_isSetting 68 = .ok (.invokestatic 44, 3) := by decide +kernel
theorem dX7_isSetting_71 : decode cX7_isSetting 71 = .ok (.ireturn, 1) := by decide +kernel
theorem dX7_isSetting_72 : decode cX7_isSetting 72 = .ok (.iconst 0, 1) := by decide +kernel
theorem dX7_isSetting_73 : decode cX7_isSetting 73 = .ok (.ireturn, 1) := by decide +kernel
set_option maxRecDepth 20000 in
theorem ggX7_set_X7_isSetting : GoodIn wsX7_set wsX7_isSetting := goodIn_r _ [5, 6, 7, 8, 9, 10, 11, 4, 12] (by decide +kernel) (by decide +kernel)
set_option maxRecDepth 20000 in
theorem gX7_set_X7_isSetting : GoodIn wsX7_set (va_wsS RX7 171 yX7_isSetting wsX7_isSetting) := goodIn_app (goodIn_of _ (by decide +kernel)) ggX7_set_X7_isSetting
set_option maxRecDepth 20000 in
theorem ggX7_set_X7_refused : GoodIn wsX7_set wsX7_refused := goodIn_r _ [16, 17, 27, 28, 29, 30, 31, 32, 33, 34, 35, 36, 37] (by decide +kernel) (by decide +kernel)
set_option maxRecDepth 20000 in
theorem gX7_set_X7_refused : GoodIn wsX7_set (wsV RX7 95 RX7 yX7_refused wsX7_refused) := goodIn_app (goodIn_of _ (by decide +kernel)) ggX7_set_X7_refused
set_option maxRecDepth 20000 in
theorem ggX7_set_X7_note : GoodIn wsX7_set wsX7_note := goodIn_r _ [21, 22, 23, 1, 24, 25, 4, 26, 27, 28, 29, 30, 31, 32, 33, 34, 35, 36, 37] (by decide +kernel) (by decide +kernel)
set_option maxRecDepth 20000 in
theorem gX7_set_X7_note : GoodIn wsX7_set (wsV RX7 160 RX7 yX7_note wsX7_note) := goodIn_app (goodIn_of _ (by decide +kernel)) ggX7_set_X7_note
theorem dX7_set_0 : decode cX7_set 0 = .ok (.aload_n 0, 1) := by decide +kernel
theorem dX7_set_1 : decode cX7_set 1 = .ok (.iload_n 1, 1) := by decide +kernel
theorem dX7_set_2 : decode cX7_set 2 = .ok (.iload_n 2, 1) := by decide +kernel
theorem dX7_set_3 : decode cX7_set 3 = .ok (.invokestatic 171, 3) := by decide +kernel
theorem dX7_set_6 : decode cX7_set 6 = .ok (.ifCond .eq 7, 3) := by decide +kernel
theorem dX7_set_9 : decode cX7_set 9 = .ok (.iconst 0, 1) := by decide +kernel
theorem dX7_set_10 : decode cX7_set 10 = .ok (.goto 4, 3) := by decide +kernel
theorem dX7_set_13 : decode cX7_set 13 = .ok (.iconst 1, 1) := by decide +kernel
theorem dX7_set_14 : decode cX7_set 14 = .ok (.invokevirtual 95, 3) := by decide +kernel
theorem dX7_set_17 : decode cX7_set 17 = .ok (.ifCond .eq 5, 3) := by decide +kernel
theorem dX7_set_20 : decode cX7_set 20 = .ok (.iconst 0, 1) := by decide +kernel
theorem dX7_set_21 : decode cX7_set 21 = .ok (.ireturn, 1) := by decide +kernel
theorem dX7_set_22 : decode cX7_set 22 = .ok (.aload_n 0, 1) := by decide +kernel
theorem dX7_set_23 : decode cX7_set 23 = .ok (.invokevirtual 160, 3) := by decide +kernel
theorem dX7_set_26 : decode cX7_set 26 = .ok (.aload_n 0, 1) := by decide +kernel
theorem dX7_set_27 : decode cX7_set 27 = .ok (.getfield 16, 3) := by decide +kernel
theorem dX7_set_30 : decode cX7_set 30 = .ok (.iload_n 1, 1) := by decide +kernel
theorem dX7_set_31 : decode cX7_set 31 = .ok (.iaload, 1) := by decide +kernel
theorem dX7_set_32 : decode cX7_set 32 = .ok (.istore_n 3, 1) := by decide +kernel
theorem dX7_set_33 : decode cX7_set 33 = .ok (.aload_n 0, 1) := by decide +kernel
theorem dX7_set_34 : decode cX7_set 34 = .ok (.getfield 16, 3) := by decide +kernel
theorem dX7_set_37 : decode cX7_set 37 = .ok (.iload_n 1, 1) := by decide +kernel
theorem dX7_set_38 : decode cX7_set 38 = .ok (.iload_n 2, 1) := by decide +kernel
theorem dX7_set_39 : decode cX7_set 39 = .ok (.iastore, 1) := by decide +kernel
theorem dX7_set_40 : decode cX7_set 40 = .ok (.iload_n 3, 1) := by decide +kernel
theorem dX7_set_41 : decode cX7_set 41 = .ok (.ireturn, 1) := by decide +kernel
set_option maxRecDepth 20000 in
theorem ggX7_drive_X7_isWagon : GoodIn wsX7_drive wsX7_isWagon := goodIn_r _ [5, 6, 7, 4, 8] (by decide +kernel) (by decide +kernel)
set_option maxRecDepth 20000 in
theorem gX7_drive_X7_isWagon : GoodIn wsX7_drive (va_wsS RX7 155 yX7_isWagon wsX7_isWagon) := goodIn_app (goodIn_of _ (by decide +kernel)) ggX7_drive_X7_isWagon
set_option maxRecDepth 20000 in
theorem ggX7_drive_X7_isSegment : GoodIn wsX7_drive wsX7_isSegment := goodIn_r _ [11, 6, 7, 4, 8] (by decide +kernel) (by decide +kernel)
set_option maxRecDepth 20000 in
theorem gX7_drive_X7_isSegment : GoodIn wsX7_drive (va_wsS RX7 55 yX7_isSegment wsX7_isSegment) := goodIn_app (goodIn_of _ (by decide +kernel)) ggX7_drive_X7_isSegment
set_option maxRecDepth 20000 in
theorem ggX7_drive_X7_far : GoodIn wsX7_drive wsX7_far := goodIn_r _ [14, 15, 16, 4, 17] (by decide +kernel) (by decide +kernel)
set_option maxRecDepth 20000 in
theorem gX7_drive_X7_far : GoodIn wsX7_drive (va_wsS RX7 82 yX7_far wsX7_far) := goodIn_app (goodIn_of _ (by decide +kernel)) ggX7_drive_X7_far
set_option maxRecDepth 20000 in
theorem ggX7_drive_X7_wagonAt : GoodIn wsX7_drive wsX7_wagonAt := goodIn_r _ [17] (by decide +kernel) (by decide +kernel)
set_option maxRecDepth 20000 in
theorem gX7_drive_X7_wagonAt : GoodIn wsX7_drive (va_wsS RX7 79 yX7_wagonAt wsX7_wagonAt) := goodIn_app (goodIn_of _ (by decide +kernel)) ggX7_drive_X7_wagonAt
set_option maxRecDepth 20000 in
theorem ggX7_drive_X7_refused : GoodIn wsX7_drive wsX7_refused := goodIn_r _ [21, 22, 35, 36, 37, 38, 39, 40, 41, 42, 43, 44, 45] (by decide +kernel) (by decide +kernel)
set_option maxRecDepth 20000 in
theorem gX7_drive_X7_refused : GoodIn wsX7_drive (wsV RX7 95 RX7 yX7_refused wsX7_refused) := goodIn_app (goodIn_of _ (by decide +kernel)) ggX7_drive_X7_refused
set_option maxRecDepth 20000 in
theorem ggX7_drive_X7_note : GoodIn wsX7_drive wsX7_note := goodIn_r _ [26, 27, 28, 1, 29, 30, 4, 31, 35, 36, 37, 38, 39, 40, 41, 42, 43, 44, 45] (by decide +kernel) (by decide +kernel)
set_option maxRecDepth 20000 in
theorem gX7_drive_X7_note : GoodIn wsX7_drive (wsV RX7 160 RX7 yX7_note wsX7_note) := goodIn_app (goodIn_of _ (by decide +kernel)) ggX7_drive_X7_note
set_option maxRecDepth 20000 in
theorem ggX7_drive_X7_driveOn : GoodIn wsX7_drive wsX7_driveOn := goodIn_r _ [34, 12, 13, 4, 14, 15, 16, 17] (by decide +kernel) (by decide +kernel)
set_option maxRecDepth 20000 in
theorem gX7_drive_X7_driveOn : GoodIn wsX7_drive (va_wsS RX7 175 yX7_driveOn wsX7_driveOn) := goodIn_app (goodIn_of _ (by decide +kernel)) ggX7_drive_X7_driveOn
theorem dX7_drive_0 : decode cX7_drive 0 = .ok (.aload_n 0, 1) := by decide +kernel
theorem dX7_drive_1 : decode cX7_drive 1 = .ok (.getfield 16, 3) := by decide +kernel
theorem dX7_drive_4 : decode cX7_drive 4 = .ok (.iload_n 1, 1) := by decide +kernel
theorem dX7_drive_5 : decode cX7_drive 5 = .ok (.invokestatic 155, 3) := by decide +kernel
theorem dX7_drive_8 : decode cX7_drive 8 = .ok (.ifCond .eq 18, 3) := by decide +kernel
theorem dX7_drive_11 : decode cX7_drive 11 = .ok (.aload_n 0, 1) := by decide +kernel
theorem dX7_drive_12 : decode cX7_drive 12 = .ok (.getfield 16, 3) := by decide +kernel
theorem dX7_drive_15 : decode cX7_drive 15 = .ok (.iload_n 2, 1) := by decide +kernel
theorem dX7_drive_16 : decode cX7_drive 16 = .ok (.invokestatic 55, 3) := by decide +kernel
theorem dX7_drive_19 : decode cX7_drive 19 = .ok (.ifCond .eq 7, 3) := by decide +kernel
theorem dX7_drive_22 : decode cX7_drive 22 = .ok (.iconst 1, 1) := by decide +kernel
theorem dX7_drive_23 : decode cX7_drive 23 = .ok (.goto 4, 3) := by decide +kernel
theorem dX7_drive_26 : decode cX7_drive 26 = .ok (.iconst 0, 1) := by decide +kernel
theorem dX7_drive_27 : decode cX7_drive 27 = .ok (.istore_n 3, 1) := by decide +kernel
theorem dX7_drive_28 : decode cX7_drive 28 = .ok (.aload_n 0, 1) := by decide +kernel
theorem dX7_drive_29 : decode cX7_drive 29 = .ok (.iload_n 3, 1) := by decide +kernel
theorem dX7_drive_30 : decode cX7_drive 30 = .ok (.ifCond .ne 7, 3) := by decide +kernel
theorem dX7_drive_33 : decode cX7_drive 33 = .ok (.iconst 1, 1) := by decide +kernel
theorem dX7_drive_34 : decode cX7_drive 34 = .ok (.goto 31, 3) := by decide +kernel
theorem dX7_drive_37 : decode cX7_drive 37 = .ok (.aload_n 0, 1) := by decide +kernel
theorem dX7_drive_38 : decode cX7_drive 38 = .ok (.getfield 16, 3) := by decide +kernel
theorem dX7_drive_41 : decode cX7_drive 41 = .ok (.iload_n 1, 1) := by decide +kernel
theorem dX7_drive_42 : decode cX7_drive 42 = .ok (.iload_n 2, 1) := by decide +kernel
theorem dX7_drive_43 : decode cX7_drive 43 = .ok (.invokestatic 82, 3) := by decide +kernel
theorem dX7_drive_46 : decode cX7_drive 46 = .ok (.aload_n 0, 1) := by decide +kernel
theorem dX7_drive_47 : decode cX7_drive 47 = .ok (.getfield 16, 3) := by decide +kernel
theorem dX7_drive_50 : decode cX7_drive 50 = .ok (.iload_n 1, 1) := by decide +kernel
theorem dX7_drive_51 : decode cX7_drive 51 = .ok (.invokestatic 79, 3) := by decide +kernel
theorem dX7_drive_54 : decode cX7_drive 54 = .ok (.iconst 2, 1) := by decide +kernel
theorem dX7_drive_55 : decode cX7_drive 55 = .ok (.iadd, 1) := by decide +kernel
theorem dX7_drive_56 : decode cX7_drive 56 = .ok (.iaload, 1) := by decide +kernel
theorem dX7_drive_57 : decode cX7_drive 57 = .ok (.if_icmp .le 7, 3) := by decide +kernel
theorem dX7_drive_60 : decode cX7_drive 60 = .ok (.iconst 2, 1) := by decide +kernel
theorem dX7_drive_61 : decode cX7_drive 61 = .ok (.goto 4, 3) := by decide +kernel
theorem dX7_drive_64 : decode cX7_drive 64 = .ok (.iconst 0, 1) := by decide +kernel
theorem dX7_drive_65 : decode cX7_drive 65 = .ok (.invokevirtual 95, 3) := by decide +kernel
theorem dX7_drive_68 : decode cX7_drive 68 = .ok (.ifCond .eq 5, 3) := by decide +kernel
theorem dX7_drive_71 : decode cX7_drive 71 = .ok (.iconst 0, 1) := by decide +kernel
theorem dX7_drive_72 : decode cX7_drive 72 = .ok (.ireturn, 1) := by decide +kernel
theorem dX7_drive_73 : decode cX7_drive 73 = .ok (.aload_n 0, 1) := by decide +kernel
theorem dX7_drive_74 : decode cX7_drive 74 = .ok (.invokevirtual 160, 3) := by decide +kernel
theorem dX7_drive_77 : decode cX7_drive 77 = .ok (.aload_n 0, 1) := by decide +kernel
theorem dX7_drive_78 : decode cX7_drive 78 = .ok (.getfield 16, 3) := by decide +kernel
theorem dX7_drive_81 : decode cX7_drive 81 = .ok (.iload_n 1, 1) := by decide +kernel
theorem dX7_drive_82 : decode cX7_drive 82 = .ok (.iload_n 2, 1) := by decide +kernel
theorem dX7_drive_83 : decode cX7_drive 83 = .ok (.invokestatic 175, 3) := by decide +kernel
theorem dX7_drive_86 : decode cX7_drive 86 = .ok (.pop, 1) := by decide +kernel
theorem dX7_drive_87 : decode cX7_drive 87 = .ok (.aload_n 0, 1) := by decide +kernel
theorem dX7_drive_88 : decode cX7_drive 88 = .ok (.getfield 16, 3) := by decide +kernel
theorem dX7_drive_91 : decode cX7_drive 91 = .ok (.iload_n 1, 1) := by decide +kernel
theorem dX7_drive_92 : decode cX7_drive 92 = .ok (.invokestatic 79, 3) := by decide +kernel
theorem dX7_drive_95 : decode cX7_drive 95 = .ok (.iconst 2, 1) := by decide +kernel
theorem dX7_drive_96 : decode cX7_drive 96 = .ok (.iadd, 1) := by decide +kernel
theorem dX7_drive_97 : decode cX7_drive 97 = .ok (.iaload, 1) := by decide +kernel
theorem dX7_drive_98 : decode cX7_drive 98 = .ok (.ireturn, 1) := by decide +kernel
set_option maxRecDepth 20000 in
theorem ggX7_spray_X7_isWagon : GoodIn wsX7_spray wsX7_isWagon := goodIn_r _ [6, 7, 8, 5, 9] (by decide +kernel) (by decide +kernel)
set_option maxRecDepth 20000 in
theorem gX7_spray_X7_isWagon : GoodIn wsX7_spray (va_wsS RX7 155 yX7_isWagon wsX7_isWagon) := goodIn_app (goodIn_of _ (by decide +kernel)) ggX7_spray_X7_isWagon
set_option maxRecDepth 20000 in
theorem ggX7_spray_X7_in : GoodIn wsX7_spray wsX7_in := goodIn_r _ [9] (by decide +kernel) (by decide +kernel)
set_option maxRecDepth 20000 in
theorem gX7_spray_X7_in : GoodIn wsX7_spray (va_wsS RX7 44 yX7_in wsX7_in) := goodIn_app (goodIn_of _ (by decide +kernel)) ggX7_spray_X7_in
set_option maxRecDepth 20000 in
theorem ggX7_spray_X7_wagonAt : GoodIn wsX7_spray wsX7_wagonAt := goodIn_r _ [12] (by decide +kernel) (by decide +kernel)
set_option maxRecDepth 20000 in
theorem gX7_spray_X7_wagonAt : GoodIn wsX7_spray (va_wsS RX7 79 yX7_wagonAt wsX7_wagonAt) := goodIn_app (goodIn_of _ (by decide +kernel)) ggX7_spray_X7_wagonAt
set_option maxRecDepth 20000 in
theorem ggX7_spray_X7_refused : GoodIn wsX7_spray wsX7_refused := goodIn_r _ [16, 17, 39, 40, 41, 42, 43, 44, 45, 46, 47, 48, 49] (by decide +kernel) (by decide +kernel)
set_option maxRecDepth 20000 in
theorem gX7_spray_X7_refused : GoodIn wsX7_spray (wsV RX7 95 RX7 yX7_refused wsX7_refused) := goodIn_app (goodIn_of _ (by decide +kernel)) ggX7_spray_X7_refused
set_option maxRecDepth 20000 in
theorem ggX7_spray_X7_note : GoodIn wsX7_spray wsX7_note := goodIn_r _ [21, 22, 23, 1, 24, 25, 5, 26, 39, 40, 41, 42, 43, 44, 45, 46, 47, 48, 49] (by decide +kernel) (by decide +kernel)
set_option maxRecDepth 20000 in
theorem gX7_spray_X7_note : GoodIn wsX7_spray (wsV RX7 160 RX7 yX7_note wsX7_note) := goodIn_app (goodIn_of _ (by decide +kernel)) ggX7_spray_X7_note
set_option maxRecDepth 20000 in
theorem ggX7_spray_X7_sprayOn : GoodIn wsX7_spray wsX7_sprayOn := goodIn_r _ [29, 10, 11, 5, 12, 30, 31, 32, 33, 34, 35, 36, 37, 38] (by decide +kernel) (by decide +kernel)
set_option maxRecDepth 20000 in
theorem gX7_spray_X7_sprayOn : GoodIn wsX7_spray (va_wsS RX7 179 yX7_sprayOn wsX7_sprayOn) := goodIn_app (goodIn_of _ (by decide +kernel)) ggX7_spray_X7_sprayOn
set_option maxRecDepth 20000 in
theorem ggX7_spray_X7_segmentAt : GoodIn wsX7_spray wsX7_segmentAt := goodIn_r _ [35] (by decide +kernel) (by decide +kernel)
set_option maxRecDepth 20000 in
theorem gX7_spray_X7_segmentAt : GoodIn wsX7_spray (va_wsS RX7 40 yX7_segmentAt wsX7_segmentAt) := goodIn_app (goodIn_of _ (by decide +kernel)) ggX7_spray_X7_segmentAt
theorem dX7_spray_0 : decode cX7_spray 0 = .ok (.aload_n 0, 1) := by decide +kernel
theorem dX7_spray_1 : decode cX7_spray 1 = .ok (.aload_n 0, 1) := by decide +kernel
theorem dX7_spray_2 : decode cX7_spray 2 = .ok (.getfield 16, 3) := by decide +kernel
theorem dX7_spray_5 : decode cX7_spray 5 = .ok (.iload_n 1, 1) := by decide +kernel
theorem dX7_spray_6 : decode cX7_spray 6 = .ok (.invokestatic 155, 3) := by decide +kernel
theorem dX7_spray_9 : decode cX7_spray 9 = .ok (.ifCond .ne 7, 3) := by decide +kernel
theorem dX7_spray_12 : decode cX7_spray 12 = .ok (.iconst 1, 1) := by decide +kernel
theorem dX7_spray_13 : decode cX7_spray 13 = .ok (.goto 53, 3) := by decide +kernel
theorem dX7_spray_16 : decode cX7_spray 16 = .ok (.iload_n 2, 1) := by decide +kernel
theorem dX7_spray_17 : decode cX7_spray 17 = .ok (.i2l, 1) := by decide +kernel
theorem dX7_spray_18 : decode cX7_spray 18 = .ok (.lconst 1, 1) := by decide +kernel
theorem dX7_spray_19 : decode cX7_spray 19 = .ok (.ldc2_w 102, 3) := by decide +kernel
theorem dX7_spray_22 : decode cX7_spray 22 = .ok (.invokestatic 44, 3) := by decide +kernel
theorem dX7_spray_25 : decode cX7_spray 25 = .ok (.ifCond .ne 7, 3) := by decide +kernel
theorem dX7_spray_28 : decode cX7_spray 28 = .ok (.iconst 2, 1) := by decide +kernel
theorem dX7_spray_29 : decode cX7_spray 29 = .ok (.goto 37, 3) := by decide +kernel
theorem dX7_spray_32 : decode cX7_spray 32 = .ok (.aload_n 0, 1) := by decide +kernel
theorem dX7_spray_33 : decode cX7_spray 33 = .ok (.getfield 16, 3) := by decide +kernel
theorem dX7_spray_36 : decode cX7_spray 36 = .ok (.iload_n 1, 1) := by decide +kernel
theorem dX7_spray_37 : decode cX7_spray 37 = .ok (.invokestatic 79, 3) := by decide +kernel
theorem dX7_spray_40 : decode cX7_spray 40 = .ok (.iconst 2, 1) := by decide +kernel
theorem dX7_spray_41 : decode cX7_spray 41 = .ok (.iadd, 1) := by decide +kernel
theorem dX7_spray_42 : decode cX7_spray 42 = .ok (.iaload, 1) := by decide +kernel
theorem dX7_spray_43 : decode cX7_spray 43 = .ok (.ifCond .eq 18, 3) := by decide +kernel
theorem dX7_spray_46 : decode cX7_spray 46 = .ok (.aload_n 0, 1) := by decide +kernel
theorem dX7_spray_47 : decode cX7_spray 47 = .ok (.getfield 16, 3) := by decide +kernel
theorem dX7_spray_50 : decode cX7_spray 50 = .ok (.iload_n 1, 1) := by decide +kernel
theorem dX7_spray_51 : decode cX7_spray 51 = .ok (.invokestatic 79, 3) := by decide +kernel
theorem dX7_spray_54 : decode cX7_spray 54 = .ok (.iconst 1, 1) := by decide +kernel
theorem dX7_spray_55 : decode cX7_spray 55 = .ok (.iadd, 1) := by decide +kernel
theorem dX7_spray_56 : decode cX7_spray 56 = .ok (.iaload, 1) := by decide +kernel
theorem dX7_spray_57 : decode cX7_spray 57 = .ok (.iload_n 2, 1) := by decide +kernel
theorem dX7_spray_58 : decode cX7_spray 58 = .ok (.if_icmp .ge 7, 3) := by decide +kernel
theorem dX7_spray_61 : decode cX7_spray 61 = .ok (.iconst 3, 1) := by decide +kernel
theorem dX7_spray_62 : decode cX7_spray 62 = .ok (.goto 4, 3) := by decide +kernel
theorem dX7_spray_65 : decode cX7_spray 65 = .ok (.iconst 0, 1) := by decide +kernel
theorem dX7_spray_66 : decode cX7_spray 66 = .ok (.invokevirtual 95, 3) := by decide +kernel
theorem dX7_spray_69 : decode cX7_spray 69 = .ok (.ifCond .eq 5, 3) := by decide +kernel
theorem dX7_spray_72 : decode cX7_spray 72 = .ok (.iconst 0, 1) := by decide +kernel
theorem dX7_spray_73 : decode cX7_spray 73 = .ok (.ireturn, 1) := by decide +kernel
theorem dX7_spray_74 : decode cX7_spray 74 = .ok (.aload_n 0, 1) := by decide +kernel
theorem dX7_spray_75 : decode cX7_spray 75 = .ok (.invokevirtual 160, 3) := by decide +kernel
theorem dX7_spray_78 : decode cX7_spray 78 = .ok (.aload_n 0, 1) := by decide +kernel
theorem dX7_spray_79 : decode cX7_spray 79 = .ok (.getfield 16, 3) := by decide +kernel
theorem dX7_spray_82 : decode cX7_spray 82 = .ok (.iload_n 1, 1) := by decide +kernel
theorem dX7_spray_83 : decode cX7_spray 83 = .ok (.iload_n 2, 1) := by decide +kernel
theorem dX7_spray_84 : decode cX7_spray 84 = .ok (.invokestatic 179, 3) := by decide +kernel
theorem dX7_spray_87 : decode cX7_spray 87 = .ok (.pop, 1) := by decide +kernel
theorem dX7_spray_88 : decode cX7_spray 88 = .ok (.aload_n 0, 1) := by decide +kernel
theorem dX7_spray_89 : decode cX7_spray 89 = .ok (.getfield 16, 3) := by decide +kernel
theorem dX7_spray_92 : decode cX7_spray 92 = .ok (.aload_n 0, 1) := by decide +kernel
theorem dX7_spray_93 : decode cX7_spray 93 = .ok (.getfield 16, 3) := by decide +kernel
theorem dX7_spray_96 : decode cX7_spray 96 = .ok (.iload_n 1, 1) := by decide +kernel
theorem dX7_spray_97 : decode cX7_spray 97 = .ok (.invokestatic 79, 3) := by decide +kernel
theorem dX7_spray_100 : decode cX7_spray 100 = .ok (.iaload, 1) := by decide +kernel
theorem dX7_spray_101 : decode cX7_spray 101 = .ok (.invokestatic 40, 3) := by decide +kernel
theorem dX7_spray_104 : decode cX7_spray 104 = .ok (.iconst 4, 1) := by decide +kernel
theorem dX7_spray_105 : decode cX7_spray 105 = .ok (.iadd, 1) := by decide +kernel
theorem dX7_spray_106 : decode cX7_spray 106 = .ok (.iaload, 1) := by decide +kernel
theorem dX7_spray_107 : decode cX7_spray 107 = .ok (.ireturn, 1) := by decide +kernel
set_option maxRecDepth 20000 in
theorem ggX7_fill_X7_isWagon : GoodIn wsX7_fill wsX7_isWagon := goodIn_r _ [5, 6, 7, 4, 8] (by decide +kernel) (by decide +kernel)
set_option maxRecDepth 20000 in
theorem gX7_fill_X7_isWagon : GoodIn wsX7_fill (va_wsS RX7 155 yX7_isWagon wsX7_isWagon) := goodIn_app (goodIn_of _ (by decide +kernel)) ggX7_fill_X7_isWagon
set_option maxRecDepth 20000 in
theorem ggX7_fill_X7_why : GoodIn wsX7_fill wsX7_why := goodIn_r _ [11, 12, 13, 4, 14, 15, 16, 17] (by decide +kernel) (by decide +kernel)
set_option maxRecDepth 20000 in
theorem gX7_fill_X7_why : GoodIn wsX7_fill (va_wsS RX7 182 yX7_why wsX7_why) := goodIn_app (goodIn_of _ (by decide +kernel)) ggX7_fill_X7_why
set_option maxRecDepth 20000 in
theorem ggX7_fill_X7_refused : GoodIn wsX7_fill wsX7_refused := goodIn_r _ [21, 22, 38, 39, 40, 41, 42, 43, 44, 45, 46, 47, 48] (by decide +kernel) (by decide +kernel)
set_option maxRecDepth 20000 in
theorem gX7_fill_X7_refused : GoodIn wsX7_fill (wsV RX7 95 RX7 yX7_refused wsX7_refused) := goodIn_app (goodIn_of _ (by decide +kernel)) ggX7_fill_X7_refused
set_option maxRecDepth 20000 in
theorem ggX7_fill_X7_note : GoodIn wsX7_fill wsX7_note := goodIn_r _ [26, 27, 28, 1, 29, 30, 4, 31, 38, 39, 40, 41, 42, 43, 44, 45, 46, 47, 48] (by decide +kernel) (by decide +kernel)
set_option maxRecDepth 20000 in
theorem gX7_fill_X7_note : GoodIn wsX7_fill (wsV RX7 160 RX7 yX7_note wsX7_note) := goodIn_app (goodIn_of _ (by decide +kernel)) ggX7_fill_X7_note
set_option maxRecDepth 20000 in
theorem ggX7_fill_X7_fillOn : GoodIn wsX7_fill wsX7_fillOn := goodIn_r _ [34, 12, 13, 4, 14, 35, 36, 37] (by decide +kernel) (by decide +kernel)
set_option maxRecDepth 20000 in
theorem gX7_fill_X7_fillOn : GoodIn wsX7_fill (va_wsS RX7 185 yX7_fillOn wsX7_fillOn) := goodIn_app (goodIn_of _ (by decide +kernel)) ggX7_fill_X7_fillOn
theorem dX7_fill_0 : decode cX7_fill 0 = .ok (.aload_n 0, 1) := by decide +kernel
theorem dX7_fill_1 : decode cX7_fill 1 = .ok (.aload_n 0, 1) := by decide +kernel
theorem dX7_fill_2 : decode cX7_fill 2 = .ok (.getfield 16, 3) := by decide +kernel
theorem dX7_fill_5 : decode cX7_fill 5 = .ok (.iload_n 1, 1) := by decide +kernel
theorem dX7_fill_6 : decode cX7_fill 6 = .ok (.invokestatic 155, 3) := by decide +kernel
theorem dX7_fill_9 : decode cX7_fill 9 = .ok (.ifCond .ne 7, 3) := by decide +kernel
theorem dX7_fill_12 : decode cX7_fill 12 = .ok (.iconst 1, 1) := by decide +kernel
theorem dX7_fill_13 : decode cX7_fill 13 = .ok (.goto 19, 3) := by decide +kernel
theorem dX7_fill_16 : decode cX7_fill 16 = .ok (.aload_n 0, 1) := by decide +kernel
theorem dX7_fill_17 : decode cX7_fill 17 = .ok (.getfield 16, 3) := by decide +kernel
theorem dX7_fill_20 : decode cX7_fill 20 = .ok (.iload_n 1, 1) := by decide +kernel
theorem dX7_fill_21 : decode cX7_fill 21 = .ok (.invokestatic 182, 3) := by decide +kernel
theorem dX7_fill_24 : decode cX7_fill 24 = .ok (.ifCond .eq 7, 3) := by decide +kernel
theorem dX7_fill_27 : decode cX7_fill 27 = .ok (.iconst 2, 1) := by decide +kernel
theorem dX7_fill_28 : decode cX7_fill 28 = .ok (.goto 4, 3) := by decide +kernel
theorem dX7_fill_31 : decode cX7_fill 31 = .ok (.iconst 0, 1) := by decide +kernel
theorem dX7_fill_32 : decode cX7_fill 32 = .ok (.invokevirtual 95, 3) := by decide +kernel
theorem dX7_fill_35 : decode cX7_fill 35 = .ok (.ifCond .eq 5, 3) := by decide +kernel
theorem dX7_fill_38 : decode cX7_fill 38 = .ok (.iconst 0, 1) := by decide +kernel
theorem dX7_fill_39 : decode cX7_fill 39 = .ok (.ireturn, 1) := by decide +kernel
theorem dX7_fill_40 : decode cX7_fill 40 = .ok (.aload_n 0, 1) := by decide +kernel
theorem dX7_fill_41 : decode cX7_fill 41 = .ok (.invokevirtual 160, 3) := by decide +kernel
theorem dX7_fill_44 : decode cX7_fill 44 = .ok (.aload_n 0, 1) := by decide +kernel
theorem dX7_fill_45 : decode cX7_fill 45 = .ok (.getfield 16, 3) := by decide +kernel
theorem dX7_fill_48 : decode cX7_fill 48 = .ok (.iload_n 1, 1) := by decide +kernel
theorem dX7_fill_49 : decode cX7_fill 49 = .ok (.invokestatic 185, 3) := by decide +kernel
theorem dX7_fill_52 : decode cX7_fill 52 = .ok (.ireturn, 1) := by decide +kernel
set_option maxRecDepth 20000 in
theorem ggX7_pass_X7_in : GoodIn wsX7_pass wsX7_in := goodIn_r _ [6] (by decide +kernel) (by decide +kernel)
set_option maxRecDepth 20000 in
theorem gX7_pass_X7_in : GoodIn wsX7_pass (va_wsS RX7 44 yX7_in wsX7_in) := goodIn_app (goodIn_of _ (by decide +kernel)) ggX7_pass_X7_in
set_option maxRecDepth 20000 in
theorem ggX7_pass_X7_refused : GoodIn wsX7_pass wsX7_refused := goodIn_r _ [10, 11, 57, 58, 59, 60, 61, 62, 63, 64, 65, 66, 67] (by decide +kernel) (by decide +kernel)
set_option maxRecDepth 20000 in
theorem gX7_pass_X7_refused : GoodIn wsX7_pass (wsV RX7 95 RX7 yX7_refused wsX7_refused) := goodIn_app (goodIn_of _ (by decide +kernel)) ggX7_pass_X7_refused
set_option maxRecDepth 20000 in
theorem ggX7_pass_X7_note : GoodIn wsX7_pass wsX7_note := goodIn_r _ [15, 16, 17, 2, 18, 19, 5, 20, 57, 58, 59, 60, 61, 62, 63, 64, 65, 66, 67] (by decide +kernel) (by decide +kernel)
set_option maxRecDepth 20000 in
theorem gX7_pass_X7_note : GoodIn wsX7_pass (wsV RX7 160 RX7 yX7_note wsX7_note) := goodIn_app (goodIn_of _ (by decide +kernel)) ggX7_pass_X7_note
set_option maxRecDepth 20000 in
theorem ggX7_pass_X7_hourOn : GoodIn wsX7_pass wsX7_hourOn := goodIn_r _ [23, 24, 25, 5, 26, 27, 28, 29, 30, 31, 32, 33, 34, 35, 36, 37, 38, 39, 40, 41, 42, 43, 44, 45, 46, 47, 48, 49, 50, 3, 4, 6, 51, 52, 53, 54, 55, 56] (by decide +kernel) (by decide +kernel)
set_option maxRecDepth 20000 in
theorem gX7_pass_X7_hourOn : GoodIn wsX7_pass (va_wsS RX7 190 yX7_hourOn wsX7_hourOn) := goodIn_app (goodIn_of _ (by decide +kernel)) ggX7_pass_X7_hourOn
theorem dX7_pass_0 : decode cX7_pass 0 = .ok (.aload_n 0, 1) := by decide +kernel
theorem dX7_pass_1 : decode cX7_pass 1 = .ok (.iload_n 1, 1) := by decide +kernel
theorem dX7_pass_2 : decode cX7_pass 2 = .ok (.i2l, 1) := by decide +kernel
theorem dX7_pass_3 : decode cX7_pass 3 = .ok (.lconst 1, 1) := by decide +kernel
theorem dX7_pass_4 : decode cX7_pass 4 = .ok (.ldc2_w 188, 3) := by decide +kernel
theorem dX7_pass_7 : decode cX7_pass 7 = .ok (.invokestatic 44, 3) := by decide +kernel
theorem dX7_pass_10 : decode cX7_pass 10 = .ok (.ifCond .eq 7, 3) := by decide +kernel
theorem dX7_pass_13 : decode cX7_pass 13 = .ok (.iconst 0, 1) := by decide +kernel
theorem dX7_pass_14 : decode cX7_pass 14 = .ok (.goto 4, 3) := by decide +kernel
theorem dX7_pass_17 : decode cX7_pass 17 = .ok (.iconst 1, 1) := by decide +kernel
theorem dX7_pass_18 : decode cX7_pass 18 = .ok (.invokevirtual 95, 3) := by decide +kernel
theorem dX7_pass_21 : decode cX7_pass 21 = .ok (.ifCond .eq 5, 3) := by decide +kernel
theorem dX7_pass_24 : decode cX7_pass 24 = .ok (.iconst 0, 1) := by decide +kernel
theorem dX7_pass_25 : decode cX7_pass 25 = .ok (.ireturn, 1) := by decide +kernel
theorem dX7_pass_26 : decode cX7_pass 26 = .ok (.aload_n 0, 1) := by decide +kernel
theorem dX7_pass_27 : decode cX7_pass 27 = .ok (.invokevirtual 160, 3) := by decide +kernel
theorem dX7_pass_30 : decode cX7_pass 30 = .ok (.aload_n 0, 1) := by decide +kernel
theorem dX7_pass_31 : decode cX7_pass 31 = .ok (.getfield 16, 3) := by decide +kernel
theorem dX7_pass_34 : decode cX7_pass 34 = .ok (.bipush 10, 2) := by decide +kernel
theorem dX7_pass_36 : decode cX7_pass 36 = .ok (.iaload, 1) := by decide +kernel
theorem dX7_pass_37 : decode cX7_pass 37 = .ok (.istore_n 2, 1) := by decide +kernel
theorem dX7_pass_38 : decode cX7_pass 38 = .ok (.iconst 0, 1) := by decide +kernel
theorem dX7_pass_39 : decode cX7_pass 39 = .ok (.istore_n 3, 1) := by decide +kernel
theorem dX7_pass_40 : decode cX7_pass 40 = .ok (.iload_n 3, 1) := by decide +kernel
theorem dX7_pass_41 : decode cX7_pass 41 = .ok (.iload_n 1, 1) := by decide +kernel
theorem dX7_pass_42 : decode cX7_pass 42 = .ok (.if_icmp .ge 16, 3) := by decide +kernel
theorem dX7_pass_45 : decode cX7_pass 45 = .ok (.aload_n 0, 1) := by decide +kernel
theorem dX7_pass_46 : decode cX7_pass 46 = .ok (.getfield 16, 3) := by decide +kernel
theorem dX7_pass_49 : decode cX7_pass 49 = .ok (.invokestatic 190, 3) := by decide +kernel
theorem dX7_pass_52 : decode cX7_pass 52 = .ok (.iinc 3 1, 3) := by decide +kernel
theorem dX7_pass_55 : decode cX7_pass 55 = .ok (.goto (-15), 3) := by decide +kernel
theorem dX7_pass_58 : decode cX7_pass 58 = .ok (.aload_n 0, 1) := by decide +kernel
theorem dX7_pass_59 : decode cX7_pass 59 = .ok (.getfield 16, 3) := by decide +kernel
theorem dX7_pass_62 : decode cX7_pass 62 = .ok (.bipush 10, 2) := by decide +kernel
theorem dX7_pass_64 : decode cX7_pass 64 = .ok (.iaload, 1) := by decide +kernel
theorem dX7_pass_65 : decode cX7_pass 65 = .ok (.iload_n 2, 1) := by decide +kernel
theorem dX7_pass_66 : decode cX7_pass 66 = .ok (.isub, 1) := by decide +kernel
theorem dX7_pass_67 : decode cX7_pass 67 = .ok (.ireturn, 1) := by decide +kernel
set_option maxRecDepth 20000 in
theorem ggX7_undo_X7_refused : GoodIn wsX7_undo wsX7_refused := goodIn_r _ [8, 9, 13, 14, 15, 16, 17, 18, 19, 20, 21, 22, 23] (by decide +kernel) (by decide +kernel)
set_option maxRecDepth 20000 in
theorem gX7_undo_X7_refused : GoodIn wsX7_undo (wsV RX7 95 RX7 yX7_refused wsX7_refused) := goodIn_app (goodIn_of _ (by decide +kernel)) ggX7_undo_X7_refused
set_option maxRecDepth 20000 in
theorem ggX7_undo_X7_copyPage : GoodIn wsX7_undo wsX7_copyPage := goodIn_r _ [12] (by decide +kernel) (by decide +kernel)
set_option maxRecDepth 20000 in
theorem gX7_undo_X7_copyPage : GoodIn wsX7_undo (va_wsS RX7 139 yX7_copyPage wsX7_copyPage) := goodIn_app (goodIn_of _ (by decide +kernel)) ggX7_undo_X7_copyPage
theorem dX7_undo_0 : decode cX7_undo 0 = .ok (.aload_n 0, 1) := by decide +kernel
theorem dX7_undo_1 : decode cX7_undo 1 = .ok (.aload_n 0, 1) := by decide +kernel
theorem dX7_undo_2 : decode cX7_undo 2 = .ok (.getfield 143, 3) := by decide +kernel
theorem dX7_undo_5 : decode cX7_undo 5 = .ok (.ifCond .ne 7, 3) := by decide +kernel
theorem dX7_undo_8 : decode cX7_undo 8 = .ok (.iconst 1, 1) := by decide +kernel
theorem dX7_undo_9 : decode cX7_undo 9 = .ok (.goto 4, 3) := by decide +kernel
theorem dX7_undo_12 : decode cX7_undo 12 = .ok (.iconst 0, 1) := by decide +kernel
theorem dX7_undo_13 : decode cX7_undo 13 = .ok (.invokevirtual 95, 3) := by decide +kernel
theorem dX7_undo_16 : decode cX7_undo 16 = .ok (.ifCond .eq 5, 3) := by decide +kernel
theorem dX7_undo_19 : decode cX7_undo 19 = .ok (.iconst 0, 1) := by decide +kernel
theorem dX7_undo_20 : decode cX7_undo 20 = .ok (.ireturn, 1) := by decide +kernel
theorem dX7_undo_21 : decode cX7_undo 21 = .ok (.aload_n 0, 1) := by decide +kernel
theorem dX7_undo_22 : decode cX7_undo 22 = .ok (.dup, 1) := by decide +kernel
theorem dX7_undo_23 : decode cX7_undo 23 = .ok (.getfield 143, 3) := by decide +kernel
theorem dX7_undo_26 : decode cX7_undo 26 = .ok (.iconst 1, 1) := by decide +kernel
theorem dX7_undo_27 : decode cX7_undo 27 = .ok (.isub, 1) := by decide +kernel
theorem dX7_undo_28 : decode cX7_undo 28 = .ok (.putfield 143, 3) := by decide +kernel
theorem dX7_undo_31 : decode cX7_undo 31 = .ok (.aload_n 0, 1) := by decide +kernel
theorem dX7_undo_32 : decode cX7_undo 32 = .ok (.getfield 22, 3) := by decide +kernel
theorem dX7_undo_35 : decode cX7_undo 35 = .ok (.sipush 131, 3) := by decide +kernel
theorem dX7_undo_38 : decode cX7_undo 38 = .ok (.aload_n 0, 1) := by decide +kernel
theorem dX7_undo_39 : decode cX7_undo 39 = .ok (.getfield 143, 3) := by decide +kernel
theorem dX7_undo_42 : decode cX7_undo 42 = .ok (.imul, 1) := by decide +kernel
theorem dX7_undo_43 : decode cX7_undo 43 = .ok (.aload_n 0, 1) := by decide +kernel
theorem dX7_undo_44 : decode cX7_undo 44 = .ok (.getfield 16, 3) := by decide +kernel
theorem dX7_undo_47 : decode cX7_undo 47 = .ok (.iconst 0, 1) := by decide +kernel
theorem dX7_undo_48 : decode cX7_undo 48 = .ok (.invokestatic 139, 3) := by decide +kernel
theorem dX7_undo_51 : decode cX7_undo 51 = .ok (.aload_n 0, 1) := by decide +kernel
theorem dX7_undo_52 : decode cX7_undo 52 = .ok (.getfield 143, 3) := by decide +kernel
theorem dX7_undo_55 : decode cX7_undo 55 = .ok (.ireturn, 1) := by decide +kernel
set_option maxRecDepth 20000 in
theorem ggX7_whyNoFill_X7_isWagon : GoodIn wsX7_whyNoFill wsX7_isWagon := goodIn_r _ [5, 6, 7, 4, 8] (by decide +kernel) (by decide +kernel)
set_option maxRecDepth 20000 in
theorem gX7_whyNoFill_X7_isWagon : GoodIn wsX7_whyNoFill (va_wsS RX7 155 yX7_isWagon wsX7_isWagon) := goodIn_app (goodIn_of _ (by decide +kernel)) ggX7_whyNoFill_X7_isWagon
set_option maxRecDepth 20000 in
theorem ggX7_whyNoFill_X7_refused : GoodIn wsX7_whyNoFill wsX7_refused := goodIn_r _ [12, 13, 23, 24, 25, 26, 27, 28, 29, 30, 31, 32, 33] (by decide +kernel) (by decide +kernel)
set_option maxRecDepth 20000 in
theorem gX7_whyNoFill_X7_refused : GoodIn wsX7_whyNoFill (wsV RX7 95 RX7 yX7_refused wsX7_refused) := goodIn_app (goodIn_of _ (by decide +kernel)) ggX7_whyNoFill_X7_refused
set_option maxRecDepth 20000 in
theorem ggX7_whyNoFill_X7_why : GoodIn wsX7_whyNoFill wsX7_why := goodIn_r _ [16, 17, 18, 4, 19, 20, 21, 22] (by decide +kernel) (by decide +kernel)
set_option maxRecDepth 20000 in
theorem gX7_whyNoFill_X7_why : GoodIn wsX7_whyNoFill (va_wsS RX7 182 yX7_why wsX7_why) := goodIn_app (goodIn_of _ (by decide +kernel)) ggX7_whyNoFill_X7_why
theorem dX7_whyNoFill_0 : decode cX7_whyNoFill 0 = .ok (.aload_n 0, 1) := by decide +kernel
theorem dX7_whyNoFill_1 : decode cX7_whyNoFill 1 = .ok (.aload_n 0, 1) := by decide +kernel
theorem dX7_whyNoFill_2 : decode cX7_whyNoFill 2 = .ok (.getfield 16, 3) := by decide +kernel
theorem dX7_whyNoFill_5 : decode cX7_whyNoFill 5 = .ok (.iload_n 1, 1) := by decide +kernel
theorem dX7_whyNoFill_6 : decode cX7_whyNoFill 6 = .ok (.invokestatic 155, 3) := by decide +kernel
theorem dX7_whyNoFill_9 : decode cX7_whyNoFill 9 = .ok (.ifCond .eq 7, 3) := by decide +kernel
theorem dX7_whyNoFill_12 : decode cX7_whyNoFill 12 = .ok (.iconst 0, 1) := by decide +kernel
theorem dX7_whyNoFill_13 : decode cX7_whyNoFill 13 = .ok (.goto 4, 3) := by decide +kernel
theorem dX7_whyNoFill_16 : decode cX7_whyNoFill 16 = .ok (.iconst 1, 1) := by decide +kernel
theorem dX7_whyNoFill_17 : decode cX7_whyNoFill 17 = .ok (.invokevirtual 95, 3) := by decide +kernel
theorem dX7_whyNoFill_20 : decode cX7_whyNoFill 20 = .ok (.ifCond .eq 7, 3) := by decide +kernel
theorem dX7_whyNoFill_23 : decode cX7_whyNoFill 23 = .ok (.iconst 0, 1) := by decide +kernel
theorem dX7_whyNoFill_24 : decode cX7_whyNoFill 24 = .ok (.goto 11, 3) := by decide +kernel
theorem dX7_whyNoFill_27 : decode cX7_whyNoFill 27 = .ok (.aload_n 0, 1) := by decide +kernel
theorem dX7_whyNoFill_28 : decode cX7_whyNoFill 28 = .ok (.getfield 16, 3) := by decide +kernel
theorem dX7_whyNoFill_31 : decode cX7_whyNoFill 31 = .ok (.iload_n 1, 1) := by decide +kernel
theorem dX7_whyNoFill_32 : decode cX7_whyNoFill 32 = .ok (.invokestatic 182, 3) := by decide +kernel
theorem dX7_whyNoFill_35 : decode cX7_whyNoFill 35 = .ok (.ireturn, 1) := by decide +kernel
set_option maxRecDepth 20000 in
theorem ggX7_ahead_X7_isHouse : GoodIn wsX7_ahead wsX7_isHouse := goodIn_r _ [7, 8, 9, 6, 10] (by decide +kernel) (by decide +kernel)
set_option maxRecDepth 20000 in
theorem gX7_ahead_X7_isHouse : GoodIn wsX7_ahead (va_wsS RX7 150 yX7_isHouse wsX7_isHouse) := goodIn_app (goodIn_of _ (by decide +kernel)) ggX7_ahead_X7_isHouse
set_option maxRecDepth 20000 in
theorem ggX7_ahead_X7_in : GoodIn wsX7_ahead wsX7_in := goodIn_r _ [10] (by decide +kernel) (by decide +kernel)
set_option maxRecDepth 20000 in
theorem gX7_ahead_X7_in : GoodIn wsX7_ahead (va_wsS RX7 44 yX7_in wsX7_in) := goodIn_app (goodIn_of _ (by decide +kernel)) ggX7_ahead_X7_in
set_option maxRecDepth 20000 in
theorem ggX7_ahead_X7_refused : GoodIn wsX7_ahead wsX7_refused := goodIn_r _ [14, 15, 55, 56, 57, 58, 59, 60, 61, 62, 63, 64, 65] (by decide +kernel) (by decide +kernel)
set_option maxRecDepth 20000 in
theorem gX7_ahead_X7_refused : GoodIn wsX7_ahead (wsV RX7 95 RX7 yX7_refused wsX7_refused) := goodIn_app (goodIn_of _ (by decide +kernel)) ggX7_ahead_X7_refused
set_option maxRecDepth 20000 in
theorem ggX7_ahead_X7_copyPage : GoodIn wsX7_ahead wsX7_copyPage := goodIn_r _ [18] (by decide +kernel) (by decide +kernel)
set_option maxRecDepth 20000 in
theorem gX7_ahead_X7_copyPage : GoodIn wsX7_ahead (va_wsS RX7 139 yX7_copyPage wsX7_copyPage) := goodIn_app (goodIn_of _ (by decide +kernel)) ggX7_ahead_X7_copyPage
set_option maxRecDepth 20000 in
theorem ggX7_ahead_X7_hourOn : GoodIn wsX7_ahead wsX7_hourOn := goodIn_r _ [21, 22, 23, 6, 24, 25, 26, 27, 28, 29, 30, 31, 32, 33, 34, 35, 36, 37, 38, 39, 40, 41, 42, 43, 44, 45, 46, 47, 48, 8, 9, 10, 49, 50, 51, 52, 53, 54] (by decide +kernel) (by decide +kernel)
set_option maxRecDepth 20000 in
theorem gX7_ahead_X7_hourOn : GoodIn wsX7_ahead (va_wsS RX7 190 yX7_hourOn wsX7_hourOn) := goodIn_app (goodIn_of _ (by decide +kernel)) ggX7_ahead_X7_hourOn
set_option maxRecDepth 20000 in
theorem ggX7_ahead_X7_houseAt : GoodIn wsX7_ahead wsX7_houseAt := goodIn_r _ [42] (by decide +kernel) (by decide +kernel)
set_option maxRecDepth 20000 in
theorem gX7_ahead_X7_houseAt : GoodIn wsX7_ahead (va_wsS RX7 59 yX7_houseAt wsX7_houseAt) := goodIn_app (goodIn_of _ (by decide +kernel)) ggX7_ahead_X7_houseAt
theorem dX7_ahead_0 : decode cX7_ahead 0 = .ok (.aload_n 0, 1) := by decide +kernel
theorem dX7_ahead_1 : decode cX7_ahead 1 = .ok (.aload_n 0, 1) := by decide +kernel
theorem dX7_ahead_2 : decode cX7_ahead 2 = .ok (.getfield 16, 3) := by decide +kernel
theorem dX7_ahead_5 : decode cX7_ahead 5 = .ok (.iload_n 1, 1) := by decide +kernel
theorem dX7_ahead_6 : decode cX7_ahead 6 = .ok (.invokestatic 150, 3) := by decide +kernel
theorem dX7_ahead_9 : decode cX7_ahead 9 = .ok (.ifCond .ne 7, 3) := by decide +kernel
theorem dX7_ahead_12 : decode cX7_ahead 12 = .ok (.iconst 1, 1) := by decide +kernel
theorem dX7_ahead_13 : decode cX7_ahead 13 = .ok (.goto 20, 3) := by decide +kernel
theorem dX7_ahead_16 : decode cX7_ahead 16 = .ok (.iload_n 2, 1) := by decide +kernel
theorem dX7_ahead_17 : decode cX7_ahead 17 = .ok (.i2l, 1) := by decide +kernel
theorem dX7_ahead_18 : decode cX7_ahead 18 = .ok (.lconst 1, 1) := by decide +kernel
theorem dX7_ahead_19 : decode cX7_ahead 19 = .ok (.ldc2_w 165, 3) := by decide +kernel
theorem dX7_ahead_22 : decode cX7_ahead 22 = .ok (.invokestatic 44, 3) := by decide +kernel
theorem dX7_ahead_25 : decode cX7_ahead 25 = .ok (.ifCond .ne 7, 3) := by decide +kernel
theorem dX7_ahead_28 : decode cX7_ahead 28 = .ok (.iconst 2, 1) := by decide +kernel
theorem dX7_ahead_29 : decode cX7_ahead 29 = .ok (.goto 4, 3) := by decide +kernel
theorem dX7_ahead_32 : decode cX7_ahead 32 = .ok (.iconst 0, 1) := by decide +kernel
theorem dX7_ahead_33 : decode cX7_ahead 33 = .ok (.invokevirtual 95, 3) := by decide +kernel
theorem dX7_ahead_36 : decode cX7_ahead 36 = .ok (.ifCond .eq 5, 3) := by decide +kernel
theorem dX7_ahead_39 : decode cX7_ahead 39 = .ok (.iconst 0, 1) := by decide +kernel
theorem dX7_ahead_40 : decode cX7_ahead 40 = .ok (.ireturn, 1) := by decide +kernel
theorem dX7_ahead_41 : decode cX7_ahead 41 = .ok (.aload_n 0, 1) := by decide +kernel
theorem dX7_ahead_42 : decode cX7_ahead 42 = .ok (.getfield 16, 3) := by decide +kernel
theorem dX7_ahead_45 : decode cX7_ahead 45 = .ok (.iconst 0, 1) := by decide +kernel
theorem dX7_ahead_46 : decode cX7_ahead 46 = .ok (.aload_n 0, 1) := by decide +kernel
theorem dX7_ahead_47 : decode cX7_ahead 47 = .ok (.getfield 19, 3) := by decide +kernel
theorem dX7_ahead_50 : decode cX7_ahead 50 = .ok (.iconst 0, 1) := by decide +kernel
theorem dX7_ahead_51 : decode cX7_ahead 51 = .ok (.invokestatic 139, 3) := by decide +kernel
theorem dX7_ahead_54 : decode cX7_ahead 54 = .ok (.iconst 0, 1) := by decide +kernel
theorem dX7_ahead_55 : decode cX7_ahead 55 = .ok (.istore_n 3, 1) := by decide +kernel
theorem dX7_ahead_56 : decode cX7_ahead 56 = .ok (.iload_n 3, 1) := by decide +kernel
theorem dX7_ahead_57 : decode cX7_ahead 57 = .ok (.iload_n 2, 1) := by decide +kernel
theorem dX7_ahead_58 : decode cX7_ahead 58 = .ok (.if_icmp .ge 16, 3) := by decide +kernel
theorem dX7_ahead_61 : decode cX7_ahead 61 = .ok (.aload_n 0, 1) := by decide +kernel
theorem dX7_ahead_62 : decode cX7_ahead 62 = .ok (.getfield 19, 3) := by decide +kernel
theorem dX7_ahead_65 : decode cX7_ahead 65 = .ok (.invokestatic 190, 3) := by decide +kernel
theorem dX7_ahead_68 : decode cX7_ahead 68 = .ok (.iinc 3 1, 3) := by decide +kernel
theorem dX7_ahead_71 : decode cX7_ahead 71 = .ok (.goto (-15), 3) := by decide +kernel
theorem dX7_ahead_74 : decode cX7_ahead 74 = .ok (.aload_n 0, 1) := by decide +kernel
theorem dX7_ahead_75 : decode cX7_ahead 75 = .ok (.getfield 19, 3) := by decide +kernel
theorem dX7_ahead_78 : decode cX7_ahead 78 = .ok (.iload_n 1, 1) := by decide +kernel
theorem dX7_ahead_79 : decode cX7_ahead 79 = .ok (.invokestatic 59, 3) := by decide +kernel
theorem dX7_ahead_82 : decode cX7_ahead 82 = .ok (.iconst 4, 1) := by decide +kernel
theorem dX7_ahead_83 : decode cX7_ahead 83 = .ok (.iadd, 1) := by decide +kernel
theorem dX7_ahead_84 : decode cX7_ahead 84 = .ok (.iaload, 1) := by decide +kernel
theorem dX7_ahead_85 : decode cX7_ahead 85 = .ok (.ireturn, 1) := by decide +kernel
set_option maxRecDepth 20000 in
theorem ggX7_nextFor_X7_hourOn : GoodIn wsX7_nextFor wsX7_hourOn := goodIn_r _ [5, 6, 7, 4, 8, 9, 10, 11, 12, 13, 14, 15, 16, 17, 18, 19, 20, 21, 22, 23, 24, 25, 26, 27, 28, 29, 30, 31, 32, 33, 34, 35, 36, 37, 38, 39, 40, 41] (by decide +kernel) (by decide +kernel)
set_option maxRecDepth 20000 in
theorem gX7_nextFor_X7_hourOn : GoodIn wsX7_nextFor (va_wsS RX7 190 yX7_hourOn wsX7_hourOn) := goodIn_app (goodIn_of _ (by decide +kernel)) ggX7_nextFor_X7_hourOn
set_option maxRecDepth 20000 in
theorem ggX7_nextFor_X7_houseAt : GoodIn wsX7_nextFor wsX7_houseAt := goodIn_r _ [26] (by decide +kernel) (by decide +kernel)
set_option maxRecDepth 20000 in
theorem gX7_nextFor_X7_houseAt : GoodIn wsX7_nextFor (va_wsS RX7 59 yX7_houseAt wsX7_houseAt) := goodIn_app (goodIn_of _ (by decide +kernel)) ggX7_nextFor_X7_houseAt
theorem dX7_nextFor_0 : decode cX7_nextFor 0 = .ok (.aload_n 0, 1) := by decide +kernel
theorem dX7_nextFor_1 : decode cX7_nextFor 1 = .ok (.getfield 19, 3) := by decide +kernel
theorem dX7_nextFor_4 : decode cX7_nextFor 4 = .ok (.invokestatic 190, 3) := by decide +kernel
theorem dX7_nextFor_7 : decode cX7_nextFor 7 = .ok (.aload_n 0, 1) := by decide +kernel
theorem dX7_nextFor_8 : decode cX7_nextFor 8 = .ok (.getfield 19, 3) := by decide +kernel
theorem dX7_nextFor_11 : decode cX7_nextFor 11 = .ok (.iload_n 1, 1) := by decide +kernel
theorem dX7_nextFor_12 : decode cX7_nextFor 12 = .ok (.invokestatic 59, 3) := by decide +kernel
theorem dX7_nextFor_15 : decode cX7_nextFor 15 = .ok (.iconst 4, 1) := by decide +kernel
theorem dX7_nextFor_16 : decode cX7_nextFor 16 = .ok (.iadd, 1) := by decide +kernel
theorem dX7_nextFor_17 : decode cX7_nextFor 17 = .ok (.iaload, 1) := by decide +kernel
theorem dX7_nextFor_18 : decode cX7_nextFor 18 = .ok (.ireturn, 1) := by decide +kernel
set_option maxRecDepth 20000 in
theorem ggX7_waterFor_X7_isHouse : GoodIn wsX7_waterFor wsX7_isHouse := goodIn_r _ [6, 7, 8, 5, 9] (by decide +kernel) (by decide +kernel)
set_option maxRecDepth 20000 in
theorem gX7_waterFor_X7_isHouse : GoodIn wsX7_waterFor (va_wsS RX7 150 yX7_isHouse wsX7_isHouse) := goodIn_app (goodIn_of _ (by decide +kernel)) ggX7_waterFor_X7_isHouse
set_option maxRecDepth 20000 in
theorem ggX7_waterFor_X7_refused : GoodIn wsX7_waterFor wsX7_refused := goodIn_r _ [13, 14, 61, 62, 63, 64, 65, 66, 67, 68, 69, 70, 71] (by decide +kernel) (by decide +kernel)
set_option maxRecDepth 20000 in
theorem gX7_waterFor_X7_refused : GoodIn wsX7_waterFor (wsV RX7 95 RX7 yX7_refused wsX7_refused) := goodIn_app (goodIn_of _ (by decide +kernel)) ggX7_waterFor_X7_refused
set_option maxRecDepth 20000 in
theorem ggX7_waterFor_X7_copyPage : GoodIn wsX7_waterFor wsX7_copyPage := goodIn_r _ [17] (by decide +kernel) (by decide +kernel)
set_option maxRecDepth 20000 in
theorem gX7_waterFor_X7_copyPage : GoodIn wsX7_waterFor (va_wsS RX7 139 yX7_copyPage wsX7_copyPage) := goodIn_app (goodIn_of _ (by decide +kernel)) ggX7_waterFor_X7_copyPage
set_option maxRecDepth 20000 in
theorem ggX7_waterFor_X7_houseAt : GoodIn wsX7_waterFor wsX7_houseAt := goodIn_r _ [20] (by decide +kernel) (by decide +kernel)
set_option maxRecDepth 20000 in
theorem gX7_waterFor_X7_houseAt : GoodIn wsX7_waterFor (va_wsS RX7 59 yX7_houseAt wsX7_houseAt) := goodIn_app (goodIn_of _ (by decide +kernel)) ggX7_waterFor_X7_houseAt
set_option maxRecDepth 20000 in
theorem ggX7_waterFor_X7_wet : GoodIn wsX7_waterFor wsX7_wet := goodIn_r _ [23, 24, 25, 5, 26, 27, 28, 29] (by decide +kernel) (by decide +kernel)
set_option maxRecDepth 20000 in
theorem gX7_waterFor_X7_wet : GoodIn wsX7_waterFor (va_wsS RX7 86 yX7_wet wsX7_wet) := goodIn_app (goodIn_of _ (by decide +kernel)) ggX7_waterFor_X7_wet
set_option maxRecDepth 20000 in
theorem ggX7_waterFor_X7_nextFor : GoodIn wsX7_waterFor wsX7_nextFor := goodIn_r _ [33, 2, 34, 35, 5, 36, 37, 38, 39, 24, 25, 26, 40, 41, 42, 43, 44, 45, 27, 28, 29, 46, 47, 48, 18, 19, 20, 49, 50, 51, 52, 53, 54, 7, 8, 9, 55, 56, 57, 58, 59, 60, 61, 62, 63, 64, 65, 66, 67, 68, 69, 70, 71] (by decide +kernel) (by decide +kernel)
set_option maxRecDepth 20000 in
theorem gX7_waterFor_X7_nextFor : GoodIn wsX7_waterFor (wsV RX7 193 RX7 yX7_nextFor wsX7_nextFor) := goodIn_app (goodIn_of _ (by decide +kernel)) ggX7_waterFor_X7_nextFor
theorem dX7_waterFor_0 : decode cX7_waterFor 0 = .ok (.aload_n 0, 1) := by decide +kernel
theorem dX7_waterFor_1 : decode cX7_waterFor 1 = .ok (.aload_n 0, 1) := by decide +kernel
theorem dX7_waterFor_2 : decode cX7_waterFor 2 = .ok (.getfield 16, 3) := by decide +kernel
theorem dX7_waterFor_5 : decode cX7_waterFor 5 = .ok (.iload_n 1, 1) := by decide +kernel
theorem dX7_waterFor_6 : decode cX7_waterFor 6 = .ok (.invokestatic 150, 3) := by decide +kernel
theorem dX7_waterFor_9 : decode cX7_waterFor 9 = .ok (.ifCond .eq 7, 3) := by decide +kernel
theorem dX7_waterFor_12 : decode cX7_waterFor 12 = .ok (.iconst 0, 1) := by decide +kernel
theorem dX7_waterFor_13 : decode cX7_waterFor 13 = .ok (.goto 4, 3) := by decide +kernel
theorem dX7_waterFor_16 : decode cX7_waterFor 16 = .ok (.iconst 1, 1) := by decide +kernel
theorem dX7_waterFor_17 : decode cX7_waterFor 17 = .ok (.invokevirtual 95, 3) := by decide +kernel
theorem dX7_waterFor_20 : decode cX7_waterFor 20 = .ok (.ifCond .eq 5, 3) := by decide +kernel
theorem dX7_waterFor_23 : decode cX7_waterFor 23 = .ok (.iconst 0, 1) := by decide +kernel
theorem dX7_waterFor_24 : decode cX7_waterFor 24 = .ok (.ireturn, 1) := by decide +kernel
theorem dX7_waterFor_25 : decode cX7_waterFor 25 = .ok (.iconst 0, 1) := by decide +kernel
theorem dX7_waterFor_26 : decode cX7_waterFor 26 = .ok (.istore_n 2, 1) := by decide +kernel
theorem dX7_waterFor_27 : decode cX7_waterFor 27 = .ok (.iload_n 2, 1) := by decide +kernel
theorem dX7_waterFor_28 : decode cX7_waterFor 28 = .ok (.bipush 9, 2) := by decide +kernel
theorem dX7_waterFor_30 : decode cX7_waterFor 30 = .ok (.if_icmp .gt 56, 3) := by decide +kernel
theorem dX7_waterFor_33 : decode cX7_waterFor 33 = .ok (.aload_n 0, 1) := by decide +kernel
theorem dX7_waterFor_34 : decode cX7_waterFor 34 = .ok (.getfield 16, 3) := by decide +kernel
theorem dX7_waterFor_37 : decode cX7_waterFor 37 = .ok (.iconst 0, 1) := by decide +kernel
theorem dX7_waterFor_38 : decode cX7_waterFor 38 = .ok (.aload_n 0, 1) := by decide +kernel
theorem dX7_waterFor_39 : decode cX7_waterFor 39 = .ok (.getfield 19, 3) := by decide +kernel
theorem dX7_waterFor_42 : decode cX7_waterFor 42 = .ok (.iconst 0, 1) := by decide +kernel
theorem dX7_waterFor_43 : decode cX7_waterFor 43 = .ok (.invokestatic 139, 3) := by decide +kernel
theorem dX7_waterFor_46 : decode cX7_waterFor 46 = .ok (.aload_n 0, 1) := by decide +kernel
theorem dX7_waterFor_47 : decode cX7_waterFor 47 = .ok (.getfield 19, 3) := by decide +kernel
theorem dX7_waterFor_50 : decode cX7_waterFor 50 = .ok (.aload_n 0, 1) := by decide +kernel
theorem dX7_waterFor_51 : decode cX7_waterFor 51 = .ok (.getfield 16, 3) := by decide +kernel
theorem dX7_waterFor_54 : decode cX7_waterFor 54 = .ok (.iload_n 1, 1) := by decide +kernel
theorem dX7_waterFor_55 : decode cX7_waterFor 55 = .ok (.invokestatic 59, 3) := by decide +kernel
theorem dX7_waterFor_58 : decode cX7_waterFor 58 = .ok (.iaload, 1) := by decide +kernel
theorem dX7_waterFor_59 : decode cX7_waterFor 59 = .ok (.iload_n 2, 1) := by decide +kernel
theorem dX7_waterFor_60 : decode cX7_waterFor 60 = .ok (.invokestatic 86, 3) := by decide +kernel
theorem dX7_waterFor_63 : decode cX7_waterFor 63 = .ok (.aload_n 0, 1) := by decide +kernel
theorem dX7_waterFor_64 : decode cX7_waterFor 64 = .ok (.iload_n 1, 1) := by decide +kernel
theorem dX7_waterFor_65 : decode cX7_waterFor 65 = .ok (.invokevirtual 193, 3) := by decide +kernel
theorem dX7_waterFor_68 : decode cX7_waterFor 68 = .ok (.aload_n 0, 1) := by decide +kernel
theorem dX7_waterFor_69 : decode cX7_waterFor 69 = .ok (.getfield 16, 3) := by decide +kernel
theorem dX7_waterFor_72 : decode cX7_waterFor 72 = .ok (.bipush 7, 2) := by decide +kernel
theorem dX7_waterFor_74 : decode cX7_waterFor 74 = .ok (.iaload, 1) := by decide +kernel
theorem dX7_waterFor_75 : decode cX7_waterFor 75 = .ok (.if_icmp .ge 5, 3) := by decide +kernel
theorem dX7_waterFor_78 : decode cX7_waterFor 78 = .ok (.iload_n 2, 1) := by decide +kernel
theorem dX7_waterFor_79 : decode cX7_waterFor 79 = .ok (.ireturn, 1) := by decide +kernel
theorem dX7_waterFor_80 : decode cX7_waterFor 80 = .ok (.iinc 2 1, 3) := by decide +kernel
theorem dX7_waterFor_83 : decode cX7_waterFor 83 = .ok (.goto (-56), 3) := by decide +kernel
theorem dX7_waterFor_86 : decode cX7_waterFor 86 = .ok (.bipush (-9), 2) := by decide +kernel
theorem dX7_waterFor_88 : decode cX7_waterFor 88 = .ok (.ireturn, 1) := by decide +kernel
set_option maxRecDepth 20000 in
theorem ggX7_limitFor_X7_isHouse : GoodIn wsX7_limitFor wsX7_isHouse := goodIn_r _ [6, 7, 8, 5, 9] (by decide +kernel) (by decide +kernel)
set_option maxRecDepth 20000 in
theorem gX7_limitFor_X7_isHouse : GoodIn wsX7_limitFor (va_wsS RX7 150 yX7_isHouse wsX7_isHouse) := goodIn_app (goodIn_of _ (by decide +kernel)) ggX7_limitFor_X7_isHouse
set_option maxRecDepth 20000 in
theorem ggX7_limitFor_X7_refused : GoodIn wsX7_limitFor wsX7_refused := goodIn_r _ [13, 14, 58, 59, 60, 61, 62, 63, 64, 65, 66, 67, 68] (by decide +kernel) (by decide +kernel)
set_option maxRecDepth 20000 in
theorem gX7_limitFor_X7_refused : GoodIn wsX7_limitFor (wsV RX7 95 RX7 yX7_refused wsX7_refused) := goodIn_app (goodIn_of _ (by decide +kernel)) ggX7_limitFor_X7_refused
set_option maxRecDepth 20000 in
theorem ggX7_limitFor_X7_houseAt : GoodIn wsX7_limitFor wsX7_houseAt := goodIn_r _ [17] (by decide +kernel) (by decide +kernel)
set_option maxRecDepth 20000 in
theorem gX7_limitFor_X7_houseAt : GoodIn wsX7_limitFor (va_wsS RX7 59 yX7_houseAt wsX7_houseAt) := goodIn_app (goodIn_of _ (by decide +kernel)) ggX7_limitFor_X7_houseAt
set_option maxRecDepth 20000 in
theorem ggX7_limitFor_X7_segmentAt : GoodIn wsX7_limitFor wsX7_segmentAt := goodIn_r _ [20] (by decide +kernel) (by decide +kernel)
set_option maxRecDepth 20000 in
theorem gX7_limitFor_X7_segmentAt : GoodIn wsX7_limitFor (va_wsS RX7 40 yX7_segmentAt wsX7_segmentAt) := goodIn_app (goodIn_of _ (by decide +kernel)) ggX7_limitFor_X7_segmentAt
set_option maxRecDepth 20000 in
theorem ggX7_limitFor_X7_copyPage : GoodIn wsX7_limitFor wsX7_copyPage := goodIn_r _ [23] (by decide +kernel) (by decide +kernel)
set_option maxRecDepth 20000 in
theorem gX7_limitFor_X7_copyPage : GoodIn wsX7_limitFor (va_wsS RX7 139 yX7_copyPage wsX7_copyPage) := goodIn_app (goodIn_of _ (by decide +kernel)) ggX7_limitFor_X7_copyPage
set_option maxRecDepth 20000 in
theorem ggX7_limitFor_X7_nextFor : GoodIn wsX7_limitFor wsX7_nextFor := goodIn_r _ [27, 2, 28, 29, 5, 30, 31, 32, 33, 18, 19, 20, 34, 35, 36, 37, 38, 39, 40, 41, 42, 43, 44, 45, 15, 16, 17, 46, 47, 48, 49, 50, 51, 7, 8, 9, 52, 53, 54, 55, 56, 57, 58, 59, 60, 61, 62, 63, 64, 65, 66, 67, 68] (by decide +kernel) (by decide +kernel)
set_option maxRecDepth 20000 in
theorem gX7_limitFor_X7_nextFor : GoodIn wsX7_limitFor (wsV RX7 193 RX7 yX7_nextFor wsX7_nextFor) := goodIn_app (goodIn_of _ (by decide +kernel)) ggX7_limitFor_X7_nextFor
theorem dX7_limitFor_0 : decode cX7_limitFor 0 = .ok (.aload_n 0, 1) := by decide +kernel
theorem dX7_limitFor_1 : decode cX7_limitFor 1 = .ok (.aload_n 0, 1) := by decide +kernel
theorem dX7_limitFor_2 : decode cX7_limitFor 2 = .ok (.getfield 16, 3) := by decide +kernel
theorem dX7_limitFor_5 : decode cX7_limitFor 5 = .ok (.iload_n 1, 1) := by decide +kernel
theorem dX7_limitFor_6 : decode cX7_limitFor 6 = .ok (.invokestatic 150, 3) := by decide +kernel
theorem dX7_limitFor_9 : decode cX7_limitFor 9 = .ok (.ifCond .eq 7, 3) := by decide +kernel
theorem dX7_limitFor_12 : decode cX7_limitFor 12 = .ok (.iconst 0, 1) := by decide +kernel
theorem dX7_limitFor_13 : decode cX7_limitFor 13 = .ok (.goto 4, 3) := by decide +kernel
theorem dX7_limitFor_16 : decode cX7_limitFor 16 = .ok (.iconst 1, 1) := by decide +kernel
theorem dX7_limitFor_17 : decode cX7_limitFor 17 = .ok (.invokevirtual 95, 3) := by decide +kernel
theorem dX7_limitFor_20 : decode cX7_limitFor 20 = .ok (.ifCond .eq 5, 3) := by decide +kernel
theorem dX7_limitFor_23 : decode cX7_limitFor 23 = .ok (.iconst 0, 1) := by decide +kernel
theorem dX7_limitFor_24 : decode cX7_limitFor 24 = .ok (.ireturn, 1) := by decide +kernel
theorem dX7_limitFor_25 : decode cX7_limitFor 25 = .ok (.aload_n 0, 1) := by decide +kernel
theorem dX7_limitFor_26 : decode cX7_limitFor 26 = .ok (.getfield 16, 3) := by decide +kernel
theorem dX7_limitFor_29 : decode cX7_limitFor 29 = .ok (.iload_n 1, 1) := by decide +kernel
theorem dX7_limitFor_30 : decode cX7_limitFor 30 = .ok (.invokestatic 59, 3) := by decide +kernel
theorem dX7_limitFor_33 : decode cX7_limitFor 33 = .ok (.iaload, 1) := by decide +kernel
theorem dX7_limitFor_34 : decode cX7_limitFor 34 = .ok (.invokestatic 40, 3) := by decide +kernel
theorem dX7_limitFor_37 : decode cX7_limitFor 37 = .ok (.istore_n 2, 1) := by decide +kernel
theorem dX7_limitFor_38 : decode cX7_limitFor 38 = .ok (.iconst 5, 1) := by decide +kernel
theorem dX7_limitFor_39 : decode cX7_limitFor 39 = .ok (.aload_n 0, 1) := by decide +kernel
theorem dX7_limitFor_40 : decode cX7_limitFor 40 = .ok (.getfield 16, 3) := by decide +kernel
theorem dX7_limitFor_43 : decode cX7_limitFor 43 = .ok (.iload_n 2, 1) := by decide +kernel
theorem dX7_limitFor_44 : decode cX7_limitFor 44 = .ok (.iconst 2, 1) := by decide +kernel
theorem dX7_limitFor_45 : decode cX7_limitFor 45 = .ok (.iadd, 1) := by decide +kernel
theorem dX7_limitFor_46 : decode cX7_limitFor 46 = .ok (.iaload, 1) := by decide +kernel
theorem dX7_limitFor_47 : decode cX7_limitFor 47 = .ok (.isub, 1) := by decide +kernel
theorem dX7_limitFor_48 : decode cX7_limitFor 48 = .ok (.istore_n 3, 1) := by decide +kernel
theorem dX7_limitFor_49 : decode cX7_limitFor 49 = .ok (.iload_n 3, 1) := by decide +kernel
theorem dX7_limitFor_50 : decode cX7_limitFor 50 = .ok (.iconst 1, 1) := by decide +kernel
theorem dX7_limitFor_51 : decode cX7_limitFor 51 = .ok (.if_icmp .lt 48, 3) := by decide +kernel
theorem dX7_limitFor_54 : decode cX7_limitFor 54 = .ok (.aload_n 0, 1) := by decide +kernel
theorem dX7_limitFor_55 : decode cX7_limitFor 55 = .ok (.getfield 16, 3) := by decide +kernel
theorem dX7_limitFor_58 : decode cX7_limitFor 58 = .ok (.iconst 0, 1) := by decide +kernel
theorem dX7_limitFor_59 : decode cX7_limitFor 59 = .ok (.aload_n 0, 1) := by decide +kernel
theorem dX7_limitFor_60 : decode cX7_limitFor 60 = .ok (.getfield 19, 3) := by decide +kernel
theorem dX7_limitFor_63 : decode cX7_limitFor 63 = .ok (.iconst 0, 1) := by decide +kernel
theorem dX7_limitFor_64 : decode cX7_limitFor 64 = .ok (.invokestatic 139, 3) := by decide +kernel
theorem dX7_limitFor_67 : decode cX7_limitFor 67 = .ok (.aload_n 0, 1) := by decide +kernel
theorem dX7_limitFor_68 : decode cX7_limitFor 68 = .ok (.getfield 19, 3) := by decide +kernel
theorem dX7_limitFor_71 : decode cX7_limitFor 71 = .ok (.iload_n 2, 1) := by decide +kernel
theorem dX7_limitFor_72 : decode cX7_limitFor 72 = .ok (.iconst 1, 1) := by decide +kernel
theorem dX7_limitFor_73 : decode cX7_limitFor 73 = .ok (.iadd, 1) := by decide +kernel
theorem dX7_limitFor_74 : decode cX7_limitFor 74 = .ok (.iload_n 3, 1) := by decide +kernel
theorem dX7_limitFor_75 : decode cX7_limitFor 75 = .ok (.iastore, 1) := by decide +kernel
theorem dX7_limitFor_76 : decode cX7_limitFor 76 = .ok (.aload_n 0, 1) := by decide +kernel
theorem dX7_limitFor_77 : decode cX7_limitFor 77 = .ok (.iload_n 1, 1) := by decide +kernel
theorem dX7_limitFor_78 : decode cX7_limitFor 78 = .ok (.invokevirtual 193, 3) := by decide +kernel
theorem dX7_limitFor_81 : decode cX7_limitFor 81 = .ok (.aload_n 0, 1) := by decide +kernel
theorem dX7_limitFor_82 : decode cX7_limitFor 82 = .ok (.getfield 16, 3) := by decide +kernel
theorem dX7_limitFor_85 : decode cX7_limitFor 85 = .ok (.bipush 7, 2) := by decide +kernel
theorem dX7_limitFor_87 : decode cX7_limitFor 87 = .ok (.iaload, 1) := by decide +kernel
theorem dX7_limitFor_88 : decode cX7_limitFor 88 = .ok (.if_icmp .ge 5, 3) := by decide +kernel
theorem dX7_limitFor_91 : decode cX7_limitFor 91 = .ok (.iload_n 3, 1) := by decide +kernel
theorem dX7_limitFor_92 : decode cX7_limitFor 92 = .ok (.ireturn, 1) := by decide +kernel
theorem dX7_limitFor_93 : decode cX7_limitFor 93 = .ok (.iinc 3 (-1), 3) := by decide +kernel
theorem dX7_limitFor_96 : decode cX7_limitFor 96 = .ok (.goto (-47), 3) := by decide +kernel
theorem dX7_limitFor_99 : decode cX7_limitFor 99 = .ok (.bipush (-9), 2) := by decide +kernel
theorem dX7_limitFor_101 : decode cX7_limitFor 101 = .ok (.ireturn, 1) := by decide +kernel
set_option maxRecDepth 20000 in
theorem ggX7_nextForAll_X7_hourOn : GoodIn wsX7_nextForAll wsX7_hourOn := goodIn_r _ [5, 6, 7, 4, 8, 9, 10, 11, 12, 13, 14, 15, 16, 17, 18, 19, 20, 21, 22, 23, 24, 25, 26, 27, 28, 29, 30, 31, 32, 33, 34, 35, 36, 37, 38, 39, 40, 41] (by decide +kernel) (by decide +kernel)
set_option maxRecDepth 20000 in
theorem gX7_nextForAll_X7_hourOn : GoodIn wsX7_nextForAll (va_wsS RX7 190 yX7_hourOn wsX7_hourOn) := goodIn_app (goodIn_of _ (by decide +kernel)) ggX7_nextForAll_X7_hourOn
set_option maxRecDepth 20000 in
theorem ggX7_nextForAll_X7_houseAt : GoodIn wsX7_nextForAll wsX7_houseAt := goodIn_r _ [26] (by decide +kernel) (by decide +kernel)
set_option maxRecDepth 20000 in
theorem gX7_nextForAll_X7_houseAt : GoodIn wsX7_nextForAll (va_wsS RX7 59 yX7_houseAt wsX7_houseAt) := goodIn_app (goodIn_of _ (by decide +kernel)) ggX7_nextForAll_X7_houseAt
theorem dX7_nextForAll_0 : decode cX7_nextForAll 0 = .ok (.aload_n 0, 1) := by decide +kernel
theorem dX7_nextForAll_1 : decode cX7_nextForAll 1 = .ok (.getfield 19, 3) := by decide +kernel
theorem dX7_nextForAll_4 : decode cX7_nextForAll 4 = .ok (.invokestatic 190, 3) := by decide +kernel
theorem dX7_nextForAll_7 : decode cX7_nextForAll 7 = .ok (.iconst 0, 1) := by decide +kernel
theorem dX7_nextForAll_8 : decode cX7_nextForAll 8 = .ok (.istore_n 1, 1) := by decide +kernel
theorem dX7_nextForAll_9 : decode cX7_nextForAll 9 = .ok (.iconst 0, 1) := by decide +kernel
theorem dX7_nextForAll_10 : decode cX7_nextForAll 10 = .ok (.istore_n 2, 1) := by decide +kernel
theorem dX7_nextForAll_11 : decode cX7_nextForAll 11 = .ok (.iload_n 2, 1) := by decide +kernel
theorem dX7_nextForAll_12 : decode cX7_nextForAll 12 = .ok (.aload_n 0, 1) := by decide +kernel
theorem dX7_nextForAll_13 : decode cX7_nextForAll 13 = .ok (.getfield 19, 3) := by decide +kernel
theorem dX7_nextForAll_16 : decode cX7_nextForAll 16 = .ok (.iconst 1, 1) := by decide +kernel
theorem dX7_nextForAll_17 : decode cX7_nextForAll 17 = .ok (.iaload, 1) := by decide +kernel
theorem dX7_nextForAll_18 : decode cX7_nextForAll 18 = .ok (.if_icmp .ge 23, 3) := by decide +kernel
theorem dX7_nextForAll_21 : decode cX7_nextForAll 21 = .ok (.iload_n 1, 1) := by decide +kernel
theorem dX7_nextForAll_22 : decode cX7_nextForAll 22 = .ok (.aload_n 0, 1) := by decide +kernel
theorem dX7_nextForAll_23 : decode cX7_nextForAll 23 = .ok (.getfield 19, 3) := by decide +kernel
theorem dX7_nextForAll_26 : decode cX7_nextForAll 26 = .ok (.iload_n 2, 1) := by decide +kernel
theorem dX7_nextForAll_27 : decode cX7_nextForAll 27 = .ok (.invokestatic 59, 3) := by decide +kernel
theorem dX7_nextForAll_30 : decode cX7_nextForAll 30 = .ok (.iconst 4, 1) := by decide +kernel
theorem dX7_nextForAll_31 : decode cX7_nextForAll 31 = .ok (.iadd, 1) := by decide +kernel
theorem dX7_nextForAll_32 : decode cX7_nextForAll 32 = .ok (.iaload, 1) := by decide +kernel
theorem dX7_nextForAll_33 : decode cX7_nextForAll 33 = .ok (.iadd, 1) := by decide +kernel
theorem dX7_nextForAll_34 : decode cX7_nextForAll 34 = .ok (.istore_n 1, 1) := by decide +kernel
theorem dX7_nextForAll_35 : decode cX7_nextForAll 35 = .ok (.iinc 2 1, 3) := by decide +kernel
theorem dX7_nextForAll_38 : decode cX7_nextForAll 38 = .ok (.goto (-27), 3) := by decide +kernel
theorem dX7_nextForAll_41 : decode cX7_nextForAll 41 = .ok (.iload_n 1, 1) := by decide +kernel
theorem dX7_nextForAll_42 : decode cX7_nextForAll 42 = .ok (.ireturn, 1) := by decide +kernel
set_option maxRecDepth 20000 in
theorem ggX7_bestSpray_X7_isWagon : GoodIn wsX7_bestSpray wsX7_isWagon := goodIn_r _ [7, 8, 9, 6, 10] (by decide +kernel) (by decide +kernel)
set_option maxRecDepth 20000 in
theorem gX7_bestSpray_X7_isWagon : GoodIn wsX7_bestSpray (va_wsS RX7 155 yX7_isWagon wsX7_isWagon) := goodIn_app (goodIn_of _ (by decide +kernel)) ggX7_bestSpray_X7_isWagon
set_option maxRecDepth 20000 in
theorem ggX7_bestSpray_X7_in : GoodIn wsX7_bestSpray wsX7_in := goodIn_r _ [10] (by decide +kernel) (by decide +kernel)
set_option maxRecDepth 20000 in
theorem gX7_bestSpray_X7_in : GoodIn wsX7_bestSpray (va_wsS RX7 44 yX7_in wsX7_in) := goodIn_app (goodIn_of _ (by decide +kernel)) ggX7_bestSpray_X7_in
set_option maxRecDepth 20000 in
theorem ggX7_bestSpray_X7_refused : GoodIn wsX7_bestSpray wsX7_refused := goodIn_r _ [14, 15, 71, 72, 73, 74, 75, 76, 77, 78, 79, 80, 81] (by decide +kernel) (by decide +kernel)
set_option maxRecDepth 20000 in
theorem gX7_bestSpray_X7_refused : GoodIn wsX7_bestSpray (wsV RX7 95 RX7 yX7_refused wsX7_refused) := goodIn_app (goodIn_of _ (by decide +kernel)) ggX7_bestSpray_X7_refused
set_option maxRecDepth 20000 in
theorem ggX7_bestSpray_X7_copyPage : GoodIn wsX7_bestSpray wsX7_copyPage := goodIn_r _ [18] (by decide +kernel) (by decide +kernel)
set_option maxRecDepth 20000 in
theorem gX7_bestSpray_X7_copyPage : GoodIn wsX7_bestSpray (va_wsS RX7 139 yX7_copyPage wsX7_copyPage) := goodIn_app (goodIn_of _ (by decide +kernel)) ggX7_bestSpray_X7_copyPage
set_option maxRecDepth 20000 in
theorem ggX7_bestSpray_X7_driveOn : GoodIn wsX7_bestSpray wsX7_driveOn := goodIn_r _ [21, 22, 23, 6, 24, 25, 26, 27] (by decide +kernel) (by decide +kernel)
set_option maxRecDepth 20000 in
theorem gX7_bestSpray_X7_driveOn : GoodIn wsX7_bestSpray (va_wsS RX7 175 yX7_driveOn wsX7_driveOn) := goodIn_app (goodIn_of _ (by decide +kernel)) ggX7_bestSpray_X7_driveOn
set_option maxRecDepth 20000 in
theorem ggX7_bestSpray_X7_sprayOn : GoodIn wsX7_bestSpray wsX7_sprayOn := goodIn_r _ [30, 25, 26, 6, 27, 31, 32, 33, 34, 35, 36, 37, 38, 39] (by decide +kernel) (by decide +kernel)
set_option maxRecDepth 20000 in
theorem gX7_bestSpray_X7_sprayOn : GoodIn wsX7_bestSpray (va_wsS RX7 179 yX7_sprayOn wsX7_sprayOn) := goodIn_app (goodIn_of _ (by decide +kernel)) ggX7_bestSpray_X7_sprayOn
set_option maxRecDepth 20000 in
theorem ggX7_bestSpray_X7_nextForAll : GoodIn wsX7_bestSpray wsX7_nextForAll := goodIn_r _ [43, 3, 44, 45, 6, 46, 47, 48, 49, 34, 35, 36, 50, 51, 52, 53, 54, 55, 37, 38, 39, 56, 57, 58, 59, 60, 61, 62, 63, 64, 65, 66, 67, 8, 9, 10, 68, 69, 70, 25, 26, 27, 71, 72, 73, 74, 75, 76, 77, 78, 79, 80, 81] (by decide +kernel) (by decide +kernel)
set_option maxRecDepth 20000 in
theorem gX7_bestSpray_X7_nextForAll : GoodIn wsX7_bestSpray (wsV RX7 196 RX7 yX7_nextForAll wsX7_nextForAll) := goodIn_app (goodIn_of _ (by decide +kernel)) ggX7_bestSpray_X7_nextForAll
set_option maxRecDepth 20000 in
theorem ggX7_bestSpray_X7_far : GoodIn wsX7_bestSpray wsX7_far := goodIn_r _ [24, 25, 26, 6, 27] (by decide +kernel) (by decide +kernel)
set_option maxRecDepth 20000 in
theorem gX7_bestSpray_X7_far : GoodIn wsX7_bestSpray (va_wsS RX7 82 yX7_far wsX7_far) := goodIn_app (goodIn_of _ (by decide +kernel)) ggX7_bestSpray_X7_far
theorem dX7_bestSpray_0 : decode cX7_bestSpray 0 = .ok (.aload_n 0, 1) := by decide +kernel
theorem dX7_bestSpray_1 : decode cX7_bestSpray 1 = .ok (.aload_n 0, 1) := by decide +kernel
theorem dX7_bestSpray_2 : decode cX7_bestSpray 2 = .ok (.getfield 16, 3) := by decide +kernel
theorem dX7_bestSpray_5 : decode cX7_bestSpray 5 = .ok (.iload_n 1, 1) := by decide +kernel
theorem dX7_bestSpray_6 : decode cX7_bestSpray 6 = .ok (.invokestatic 155, 3) := by decide +kernel
theorem dX7_bestSpray_9 : decode cX7_bestSpray 9 = .ok (.ifCond .ne 7, 3) := by decide +kernel
theorem dX7_bestSpray_12 : decode cX7_bestSpray 12 = .ok (.iconst 1, 1) := by decide +kernel
theorem dX7_bestSpray_13 : decode cX7_bestSpray 13 = .ok (.goto 20, 3) := by decide +kernel
theorem dX7_bestSpray_16 : decode cX7_bestSpray 16 = .ok (.iload_n 2, 1) := by decide +kernel
theorem dX7_bestSpray_17 : decode cX7_bestSpray 17 = .ok (.i2l, 1) := by decide +kernel
theorem dX7_bestSpray_18 : decode cX7_bestSpray 18 = .ok (.lconst 1, 1) := by decide +kernel
theorem dX7_bestSpray_19 : decode cX7_bestSpray 19 = .ok (.ldc2_w 102, 3) := by decide +kernel
theorem dX7_bestSpray_22 : decode cX7_bestSpray 22 = .ok (.invokestatic 44, 3) := by decide +kernel
theorem dX7_bestSpray_25 : decode cX7_bestSpray 25 = .ok (.ifCond .ne 7, 3) := by decide +kernel
theorem dX7_bestSpray_28 : decode cX7_bestSpray 28 = .ok (.iconst 2, 1) := by decide +kernel
theorem dX7_bestSpray_29 : decode cX7_bestSpray 29 = .ok (.goto 4, 3) := by decide +kernel
theorem dX7_bestSpray_32 : decode cX7_bestSpray 32 = .ok (.iconst 0, 1) := by decide +kernel
theorem dX7_bestSpray_33 : decode cX7_bestSpray 33 = .ok (.invokevirtual 95, 3) := by decide +kernel
theorem dX7_bestSpray_36 : decode cX7_bestSpray 36 = .ok (.ifCond .eq 5, 3) := by decide +kernel
theorem dX7_bestSpray_39 : decode cX7_bestSpray 39 = .ok (.iconst 0, 1) := by decide +kernel
theorem dX7_bestSpray_40 : decode cX7_bestSpray 40 = .ok (.ireturn, 1) := by decide +kernel
theorem dX7_bestSpray_41 : decode cX7_bestSpray 41 = .ok (.bipush (-9), 2) := by decide +kernel
theorem dX7_bestSpray_43 : decode cX7_bestSpray 43 = .ok (.istore_n 3, 1) := by decide +kernel
theorem dX7_bestSpray_44 : decode cX7_bestSpray 44 = .ok (.iconst 0, 1) := by decide +kernel
theorem dX7_bestSpray_45 : decode cX7_bestSpray 45 = .ok (.istore 4, 2) := by decide +kernel
theorem dX7_bestSpray_47 : decode cX7_bestSpray 47 = .ok (.iconst 0, 1) := by decide +kernel
theorem dX7_bestSpray_48 : decode cX7_bestSpray 48 = .ok (.istore 5, 2) := by decide +kernel
theorem dX7_bestSpray_50 : decode cX7_bestSpray 50 = .ok (.iload 5, 2) := by decide +kernel
theorem dX7_bestSpray_52 : decode cX7_bestSpray 52 = .ok (.aload_n 0, 1) := by decide +kernel
theorem dX7_bestSpray_53 : decode cX7_bestSpray 53 = .ok (.getfield 16, 3) := by decide +kernel
theorem dX7_bestSpray_56 : decode cX7_bestSpray 56 = .ok (.iconst 0, 1) := by decide +kernel
theorem dX7_bestSpray_57 : decode cX7_bestSpray 57 = .ok (.iaload, 1) := by decide +kernel
theorem dX7_bestSpray_58 : decode cX7_bestSpray 58 = .ok (.if_icmp .ge 102, 3) := by decide +kernel
theorem dX7_bestSpray_61 : decode cX7_bestSpray 61 = .ok (.aload_n 0, 1) := by decide +kernel
theorem dX7_bestSpray_62 : decode cX7_bestSpray 62 = .ok (.getfield 16, 3) := by decide +kernel
theorem dX7_bestSpray_65 : decode cX7_bestSpray 65 = .ok (.iconst 0, 1) := by decide +kernel
theorem dX7_bestSpray_66 : decode cX7_bestSpray 66 = .ok (.aload_n 0, 1) := by decide +kernel
theorem dX7_bestSpray_67 : decode cX7_bestSpray 67 = .ok (.getfield 19, 3) := by decide +kernel
theorem dX7_bestSpray_70 : decode cX7_bestSpray 70 = .ok (.iconst 0, 1) := by decide +kernel
theorem dX7_bestSpray_71 : decode cX7_bestSpray 71 = .ok (.invokestatic 139, 3) := by decide +kernel
theorem dX7_bestSpray_74 : decode cX7_bestSpray 74 = .ok (.aload_n 0, 1) := by decide +kernel
theorem dX7_bestSpray_75 : decode cX7_bestSpray 75 = .ok (.getfield 19, 3) := by decide +kernel
theorem dX7_bestSpray_78 : decode cX7_bestSpray 78 = .ok (.iload_n 1, 1) := by decide +kernel
theorem dX7_bestSpray_79 : decode cX7_bestSpray 79 = .ok (.iload 5, 2) := by decide +kernel
theorem dX7_bestSpray_81 : decode cX7_bestSpray 81 = .ok (.invokestatic 175, 3) := by decide +kernel
theorem dX7_bestSpray_84 : decode cX7_bestSpray 84 = .ok (.ifCond .eq 70, 3) := by decide +kernel
theorem dX7_bestSpray_87 : decode cX7_bestSpray 87 = .ok (.aload_n 0, 1) := by decide +kernel
theorem dX7_bestSpray_88 : decode cX7_bestSpray 88 = .ok (.getfield 19, 3) := by decide +kernel
theorem dX7_bestSpray_91 : decode cX7_bestSpray 91 = .ok (.iload_n 1, 1) := by decide +kernel
theorem dX7_bestSpray_92 : decode cX7_bestSpray 92 = .ok (.iload_n 2, 1) := by decide +kernel
theorem dX7_bestSpray_93 : decode cX7_bestSpray 93 = .ok (.invokestatic 179, 3) := by decide +kernel
theorem dX7_bestSpray_96 : decode cX7_bestSpray 96 = .ok (.ifCond .eq 58, 3) := by decide +kernel
theorem dX7_bestSpray_99 : decode cX7_bestSpray 99 = .ok (.aload_n 0, 1) := by decide +kernel
theorem dX7_bestSpray_100 : decode cX7_bestSpray 100 = .ok (.invokevirtual 196, 3) := by decide +kernel
theorem dX7_bestSpray_103 : decode cX7_bestSpray 103 = .ok (.istore 6, 2) := by decide +kernel
theorem dX7_bestSpray_105 : decode cX7_bestSpray 105 = .ok (.iload_n 3, 1) := by decide +kernel
theorem dX7_bestSpray_106 : decode cX7_bestSpray 106 = .ok (.bipush (-9), 2) := by decide +kernel
theorem dX7_bestSpray_108 : decode cX7_bestSpray 108 = .ok (.if_icmp .eq 39, 3) := by decide +kernel
theorem dX7_bestSpray_111 : decode cX7_bestSpray 111 = .ok (.iload 6, 2) := by decide +kernel
theorem dX7_bestSpray_113 : decode cX7_bestSpray 113 = .ok (.iload 4, 2) := by decide +kernel
theorem dX7_bestSpray_115 : decode cX7_bestSpray 115 = .ok (.if_icmp .lt 32, 3) := by decide +kernel
theorem dX7_bestSpray_118 : decode cX7_bestSpray 118 = .ok (.iload 6, 2) := by decide +kernel
theorem dX7_bestSpray_120 : decode cX7_bestSpray 120 = .ok (.iload 4, 2) := by decide +kernel
theorem dX7_bestSpray_122 : decode cX7_bestSpray 122 = .ok (.if_icmp .ne 32, 3) := by decide +kernel
theorem dX7_bestSpray_125 : decode cX7_bestSpray 125 = .ok (.aload_n 0, 1) := by decide +kernel
theorem dX7_bestSpray_126 : decode cX7_bestSpray 126 = .ok (.getfield 16, 3) := by decide +kernel
theorem dX7_bestSpray_129 : decode cX7_bestSpray 129 = .ok (.iload_n 1, 1) := by decide +kernel
theorem dX7_bestSpray_130 : decode cX7_bestSpray 130 = .ok (.iload 5, 2) := by decide +kernel
theorem dX7_bestSpray_132 : decode cX7_bestSpray 132 = .ok (.invokestatic 82, 3) := by decide +kernel
theorem dX7_bestSpray_135 : decode cX7_bestSpray 135 = .ok (.aload_n 0, 1) := by decide +kernel
theorem dX7_bestSpray_136 : decode cX7_bestSpray 136 = .ok (.getfield 16, 3) := by decide +kernel
theorem dX7_bestSpray_139 : decode cX7_bestSpray 139 = .ok (.iload_n 1, 1) := by decide +kernel
theorem dX7_bestSpray_140 : decode cX7_bestSpray 140 = .ok (.iload_n 3, 1) := by decide +kernel
theorem dX7_bestSpray_141 : decode cX7_bestSpray 141 = .ok (.invokestatic 82, 3) := by decide +kernel
theorem dX7_bestSpray_144 : decode cX7_bestSpray 144 = .ok (.if_icmp .ge 10, 3) := by decide +kernel
theorem dX7_bestSpray_147 : decode cX7_bestSpray 147 = .ok (.iload 5, 2) := by decide +kernel
theorem dX7_bestSpray_149 : decode cX7_bestSpray 149 = .ok (.istore_n 3, 1) := by decide +kernel
theorem dX7_bestSpray_150 : decode cX7_bestSpray 150 = .ok (.iload 6, 2) := by decide +kernel
theorem dX7_bestSpray_152 : decode cX7_bestSpray 152 = .ok (.istore 4, 2) := by decide +kernel
theorem dX7_bestSpray_154 : decode cX7_bestSpray 154 = .ok (.iinc 5 1, 3) := by decide +kernel
theorem dX7_bestSpray_157 : decode cX7_bestSpray 157 = .ok (.goto (-107), 3) := by decide +kernel
theorem dX7_bestSpray_160 : decode cX7_bestSpray 160 = .ok (.iload_n 3, 1) := by decide +kernel
theorem dX7_bestSpray_161 : decode cX7_bestSpray 161 = .ok (.ireturn, 1) := by decide +kernel
set_option maxRecDepth 20000 in
theorem ggX7_complainsIn_X7_isHouse : GoodIn wsX7_complainsIn wsX7_isHouse := goodIn_r _ [6, 7, 8, 5, 9] (by decide +kernel) (by decide +kernel)
set_option maxRecDepth 20000 in
theorem gX7_complainsIn_X7_isHouse : GoodIn wsX7_complainsIn (va_wsS RX7 150 yX7_isHouse wsX7_isHouse) := goodIn_app (goodIn_of _ (by decide +kernel)) ggX7_complainsIn_X7_isHouse
set_option maxRecDepth 20000 in
theorem ggX7_complainsIn_X7_refused : GoodIn wsX7_complainsIn wsX7_refused := goodIn_r _ [13, 14, 58, 59, 60, 61, 62, 63, 64, 65, 66, 67, 68] (by decide +kernel) (by decide +kernel)
set_option maxRecDepth 20000 in
theorem gX7_complainsIn_X7_refused : GoodIn wsX7_complainsIn (wsV RX7 95 RX7 yX7_refused wsX7_refused) := goodIn_app (goodIn_of _ (by decide +kernel)) ggX7_complainsIn_X7_refused
set_option maxRecDepth 20000 in
theorem ggX7_complainsIn_X7_copyPage : GoodIn wsX7_complainsIn wsX7_copyPage := goodIn_r _ [17] (by decide +kernel) (by decide +kernel)
set_option maxRecDepth 20000 in
theorem gX7_complainsIn_X7_copyPage : GoodIn wsX7_complainsIn (va_wsS RX7 139 yX7_copyPage wsX7_copyPage) := goodIn_app (goodIn_of _ (by decide +kernel)) ggX7_complainsIn_X7_copyPage
set_option maxRecDepth 20000 in
theorem ggX7_complainsIn_X7_nextFor : GoodIn wsX7_complainsIn wsX7_nextFor := goodIn_r _ [21, 2, 22, 23, 5, 24, 25, 26, 27, 28, 29, 30, 31, 32, 33, 34, 35, 36, 37, 38, 39, 40, 41, 42, 43, 44, 45, 46, 47, 48, 49, 50, 51, 7, 8, 9, 52, 53, 54, 55, 56, 57, 58, 59, 60, 61, 62, 63, 64, 65, 66, 67, 68] (by decide +kernel) (by decide +kernel)
set_option maxRecDepth 20000 in
theorem gX7_complainsIn_X7_nextFor : GoodIn wsX7_complainsIn (wsV RX7 193 RX7 yX7_nextFor wsX7_nextFor) := goodIn_app (goodIn_of _ (by decide +kernel)) ggX7_complainsIn_X7_nextFor
theorem dX7_complainsIn_0 : decode cX7_complainsIn 0 = .ok (.aload_n 0, 1) := by decide +kernel
theorem dX7_complainsIn_1 : decode cX7_complainsIn 1 = .ok (.aload_n 0, 1) := by decide +kernel
theorem dX7_complainsIn_2 : decode cX7_complainsIn 2 = .ok (.getfield 16, 3) := by decide +kernel
theorem dX7_complainsIn_5 : decode cX7_complainsIn 5 = .ok (.iload_n 1, 1) := by decide +kernel
theorem dX7_complainsIn_6 : decode cX7_complainsIn 6 = .ok (.invokestatic 150, 3) := by decide +kernel
theorem dX7_complainsIn_9 : decode cX7_complainsIn 9 = .ok (.ifCond .eq 7, 3) := by decide +kernel
theorem dX7_complainsIn_12 : decode cX7_complainsIn 12 = .ok (.iconst 0, 1) := by decide +kernel
theorem dX7_complainsIn_13 : decode cX7_complainsIn 13 = .ok (.goto 4, 3) := by decide +kernel
theorem dX7_complainsIn_16 : decode cX7_complainsIn 16 = .ok (.iconst 1, 1) := by decide +kernel
theorem dX7_complainsIn_17 : decode cX7_complainsIn 17 = .ok (.invokevirtual 95, 3) := by decide +kernel
theorem dX7_complainsIn_20 : decode cX7_complainsIn 20 = .ok (.ifCond .eq 5, 3) := by decide +kernel
theorem dX7_complainsIn_23 : decode cX7_complainsIn 23 = .ok (.iconst 0, 1) := by decide +kernel
theorem dX7_complainsIn_24 : decode cX7_complainsIn 24 = .ok (.ireturn, 1) := by decide +kernel
theorem dX7_complainsIn_25 : decode cX7_complainsIn 25 = .ok (.aload_n 0, 1) := by decide +kernel
theorem dX7_complainsIn_26 : decode cX7_complainsIn 26 = .ok (.getfield 16, 3) := by decide +kernel
theorem dX7_complainsIn_29 : decode cX7_complainsIn 29 = .ok (.iconst 0, 1) := by decide +kernel
theorem dX7_complainsIn_30 : decode cX7_complainsIn 30 = .ok (.aload_n 0, 1) := by decide +kernel
theorem dX7_complainsIn_31 : decode cX7_complainsIn 31 = .ok (.getfield 19, 3) := by decide +kernel
theorem dX7_complainsIn_34 : decode cX7_complainsIn 34 = .ok (.iconst 0, 1) := by decide +kernel
theorem dX7_complainsIn_35 : decode cX7_complainsIn 35 = .ok (.invokestatic 139, 3) := by decide +kernel
theorem dX7_complainsIn_38 : decode cX7_complainsIn 38 = .ok (.iconst 1, 1) := by decide +kernel
theorem dX7_complainsIn_39 : decode cX7_complainsIn 39 = .ok (.istore_n 2, 1) := by decide +kernel
theorem dX7_complainsIn_40 : decode cX7_complainsIn 40 = .ok (.iload_n 2, 1) := by decide +kernel
theorem dX7_complainsIn_41 : decode cX7_complainsIn 41 = .ok (.bipush 50, 2) := by decide +kernel
theorem dX7_complainsIn_43 : decode cX7_complainsIn 43 = .ok (.if_icmp .gt 26, 3) := by decide +kernel
theorem dX7_complainsIn_46 : decode cX7_complainsIn 46 = .ok (.aload_n 0, 1) := by decide +kernel
theorem dX7_complainsIn_47 : decode cX7_complainsIn 47 = .ok (.iload_n 1, 1) := by decide +kernel
theorem dX7_complainsIn_48 : decode cX7_complainsIn 48 = .ok (.invokevirtual 193, 3) := by decide +kernel
theorem dX7_complainsIn_51 : decode cX7_complainsIn 51 = .ok (.aload_n 0, 1) := by decide +kernel
theorem dX7_complainsIn_52 : decode cX7_complainsIn 52 = .ok (.getfield 16, 3) := by decide +kernel
theorem dX7_complainsIn_55 : decode cX7_complainsIn 55 = .ok (.bipush 7, 2) := by decide +kernel
theorem dX7_complainsIn_57 : decode cX7_complainsIn 57 = .ok (.iaload, 1) := by decide +kernel
theorem dX7_complainsIn_58 : decode cX7_complainsIn 58 = .ok (.if_icmp .lt 5, 3) := by decide +kernel
theorem dX7_complainsIn_61 : decode cX7_complainsIn 61 = .ok (.iload_n 2, 1) := by decide +kernel
theorem dX7_complainsIn_62 : decode cX7_complainsIn 62 = .ok (.ireturn, 1) := by decide +kernel
theorem dX7_complainsIn_63 : decode cX7_complainsIn 63 = .ok (.iinc 2 1, 3) := by decide +kernel
theorem dX7_complainsIn_66 : decode cX7_complainsIn 66 = .ok (.goto (-26), 3) := by decide +kernel
theorem dX7_complainsIn_69 : decode cX7_complainsIn 69 = .ok (.bipush (-9), 2) := by decide +kernel
theorem dX7_complainsIn_71 : decode cX7_complainsIn 71 = .ok (.ireturn, 1) := by decide +kernel
set_option maxRecDepth 20000 in
theorem ggX7_dustiest_X7_copyPage : GoodIn wsX7_dustiest wsX7_copyPage := goodIn_r _ [7] (by decide +kernel) (by decide +kernel)
set_option maxRecDepth 20000 in
theorem gX7_dustiest_X7_copyPage : GoodIn wsX7_dustiest (va_wsS RX7 139 yX7_copyPage wsX7_copyPage) := goodIn_app (goodIn_of _ (by decide +kernel)) ggX7_dustiest_X7_copyPage
set_option maxRecDepth 20000 in
theorem ggX7_dustiest_X7_dry : GoodIn wsX7_dustiest wsX7_dry := goodIn_r _ [10, 11, 12, 6, 13, 14, 15, 16] (by decide +kernel) (by decide +kernel)
set_option maxRecDepth 20000 in
theorem gX7_dustiest_X7_dry : GoodIn wsX7_dustiest (va_wsS RX7 66 yX7_dry wsX7_dry) := goodIn_app (goodIn_of _ (by decide +kernel)) ggX7_dustiest_X7_dry
set_option maxRecDepth 20000 in
theorem ggX7_dustiest_X7_raise : GoodIn wsX7_dustiest wsX7_raise := goodIn_r _ [19, 11, 12, 6, 13, 20, 21, 22] (by decide +kernel) (by decide +kernel)
set_option maxRecDepth 20000 in
theorem gX7_dustiest_X7_raise : GoodIn wsX7_dustiest (va_wsS RX7 70 yX7_raise wsX7_raise) := goodIn_app (goodIn_of _ (by decide +kernel)) ggX7_dustiest_X7_raise
set_option maxRecDepth 20000 in
theorem ggX7_dustiest_X7_segmentAt : GoodIn wsX7_dustiest wsX7_segmentAt := goodIn_r _ [13] (by decide +kernel) (by decide +kernel)
set_option maxRecDepth 20000 in
theorem gX7_dustiest_X7_segmentAt : GoodIn wsX7_dustiest (va_wsS RX7 40 yX7_segmentAt wsX7_segmentAt) := goodIn_app (goodIn_of _ (by decide +kernel)) ggX7_dustiest_X7_segmentAt
set_option maxRecDepth 20000 in
theorem ggX7_dustiest_X7_gets : GoodIn wsX7_dustiest wsX7_gets := goodIn_r _ [25, 26, 27, 6, 28, 29, 30, 31, 32, 33, 34, 35, 36, 37, 11, 12, 13] (by decide +kernel) (by decide +kernel)
set_option maxRecDepth 20000 in
theorem gX7_dustiest_X7_gets : GoodIn wsX7_dustiest (va_wsS RX7 73 yX7_gets wsX7_gets) := goodIn_app (goodIn_of _ (by decide +kernel)) ggX7_dustiest_X7_gets
theorem dX7_dustiest_0 : decode cX7_dustiest 0 = .ok (.aload_n 0, 1) := by decide +kernel
theorem dX7_dustiest_1 : decode cX7_dustiest 1 = .ok (.iconst 0, 1) := by decide +kernel
theorem dX7_dustiest_2 : decode cX7_dustiest 2 = .ok (.putfield 36, 3) := by decide +kernel
theorem dX7_dustiest_5 : decode cX7_dustiest 5 = .ok (.iconst 0, 1) := by decide +kernel
theorem dX7_dustiest_6 : decode cX7_dustiest 6 = .ok (.istore_n 1, 1) := by decide +kernel
theorem dX7_dustiest_7 : decode cX7_dustiest 7 = .ok (.iconst 0, 1) := by decide +kernel
theorem dX7_dustiest_8 : decode cX7_dustiest 8 = .ok (.istore_n 2, 1) := by decide +kernel
theorem dX7_dustiest_9 : decode cX7_dustiest 9 = .ok (.iconst 0, 1) := by decide +kernel
theorem dX7_dustiest_10 : decode cX7_dustiest 10 = .ok (.istore_n 3, 1) := by decide +kernel
theorem dX7_dustiest_11 : decode cX7_dustiest 11 = .ok (.iload_n 3, 1) := by decide +kernel
theorem dX7_dustiest_12 : decode cX7_dustiest 12 = .ok (.aload_n 0, 1) := by decide +kernel
theorem dX7_dustiest_13 : decode cX7_dustiest 13 = .ok (.getfield 16, 3) := by decide +kernel
theorem dX7_dustiest_16 : decode cX7_dustiest 16 = .ok (.iconst 0, 1) := by decide +kernel
theorem dX7_dustiest_17 : decode cX7_dustiest 17 = .ok (.iaload, 1) := by decide +kernel
theorem dX7_dustiest_18 : decode cX7_dustiest 18 = .ok (.if_icmp .ge 118, 3) := by decide +kernel
theorem dX7_dustiest_21 : decode cX7_dustiest 21 = .ok (.aload_n 0, 1) := by decide +kernel
theorem dX7_dustiest_22 : decode cX7_dustiest 22 = .ok (.getfield 16, 3) := by decide +kernel
theorem dX7_dustiest_25 : decode cX7_dustiest 25 = .ok (.iconst 0, 1) := by decide +kernel
theorem dX7_dustiest_26 : decode cX7_dustiest 26 = .ok (.aload_n 0, 1) := by decide +kernel
theorem dX7_dustiest_27 : decode cX7_dustiest 27 = .ok (.getfield 19, 3) := by decide +kernel
theorem dX7_dustiest_30 : decode cX7_dustiest 30 = .ok (.iconst 0, 1) := by decide +kernel
theorem dX7_dustiest_31 : decode cX7_dustiest 31 = .ok (.invokestatic 139, 3) := by decide +kernel
theorem dX7_dustiest_34 : decode cX7_dustiest 34 = .ok (.aload_n 0, 1) := by decide +kernel
theorem dX7_dustiest_35 : decode cX7_dustiest 35 = .ok (.getfield 19, 3) := by decide +kernel
theorem dX7_dustiest_38 : decode cX7_dustiest 38 = .ok (.invokestatic 66, 3) := by decide +kernel
theorem dX7_dustiest_41 : decode cX7_dustiest 41 = .ok (.aload_n 0, 1) := by decide +kernel
theorem dX7_dustiest_42 : decode cX7_dustiest 42 = .ok (.getfield 19, 3) := by decide +kernel
theorem dX7_dustiest_45 : decode cX7_dustiest 45 = .ok (.invokestatic 70, 3) := by decide +kernel
theorem dX7_dustiest_48 : decode cX7_dustiest 48 = .ok (.aload_n 0, 1) := by decide +kernel
theorem dX7_dustiest_49 : decode cX7_dustiest 49 = .ok (.getfield 19, 3) := by decide +kernel
theorem dX7_dustiest_52 : decode cX7_dustiest 52 = .ok (.iload_n 3, 1) := by decide +kernel
theorem dX7_dustiest_53 : decode cX7_dustiest 53 = .ok (.invokestatic 40, 3) := by decide +kernel
theorem dX7_dustiest_56 : decode cX7_dustiest 56 = .ok (.iconst 3, 1) := by decide +kernel
theorem dX7_dustiest_57 : decode cX7_dustiest 57 = .ok (.iadd, 1) := by decide +kernel
theorem dX7_dustiest_58 : decode cX7_dustiest 58 = .ok (.iconst 0, 1) := by decide +kernel
theorem dX7_dustiest_59 : decode cX7_dustiest 59 = .ok (.iastore, 1) := by decide +kernel
theorem dX7_dustiest_60 : decode cX7_dustiest 60 = .ok (.iconst 0, 1) := by decide +kernel
theorem dX7_dustiest_61 : decode cX7_dustiest 61 = .ok (.istore 4, 2) := by decide +kernel
theorem dX7_dustiest_63 : decode cX7_dustiest 63 = .ok (.iconst 0, 1) := by decide +kernel
theorem dX7_dustiest_64 : decode cX7_dustiest 64 = .ok (.istore 5, 2) := by decide +kernel
theorem dX7_dustiest_66 : decode cX7_dustiest 66 = .ok (.iload 5, 2) := by decide +kernel
theorem dX7_dustiest_68 : decode cX7_dustiest 68 = .ok (.aload_n 0, 1) := by decide +kernel
theorem dX7_dustiest_69 : decode cX7_dustiest 69 = .ok (.getfield 16, 3) := by decide +kernel
theorem dX7_dustiest_72 : decode cX7_dustiest 72 = .ok (.iconst 1, 1) := by decide +kernel
theorem dX7_dustiest_73 : decode cX7_dustiest 73 = .ok (.iaload, 1) := by decide +kernel
theorem dX7_dustiest_74 : decode cX7_dustiest 74 = .ok (.if_icmp .ge 23, 3) := by decide +kernel
theorem dX7_dustiest_77 : decode cX7_dustiest 77 = .ok (.iload 4, 2) := by decide +kernel
theorem dX7_dustiest_79 : decode cX7_dustiest 79 = .ok (.aload_n 0, 1) := by decide +kernel
theorem dX7_dustiest_80 : decode cX7_dustiest 80 = .ok (.getfield 19, 3) := by decide +kernel
theorem dX7_dustiest_83 : decode cX7_dustiest 83 = .ok (.iload 5, 2) := by decide +kernel
theorem dX7_dustiest_85 : decode cX7_dustiest 85 = .ok (.invokestatic 73, 3) := by decide +kernel
theorem dX7_dustiest_88 : decode cX7_dustiest 88 = .ok (.iadd, 1) := by decide +kernel
theorem dX7_dustiest_89 : decode cX7_dustiest 89 = .ok (.istore 4, 2) := by decide +kernel
theorem dX7_dustiest_91 : decode cX7_dustiest 91 = .ok (.iinc 5 1, 3) := by decide +kernel
theorem dX7_dustiest_94 : decode cX7_dustiest 94 = .ok (.goto (-28), 3) := by decide +kernel
theorem dX7_dustiest_97 : decode cX7_dustiest 97 = .ok (.iload_n 3, 1) := by decide +kernel
theorem dX7_dustiest_98 : decode cX7_dustiest 98 = .ok (.ifCond .eq 9, 3) := by decide +kernel
theorem dX7_dustiest_101 : decode cX7_dustiest 101 = .ok (.iload 4, 2) := by decide +kernel
theorem dX7_dustiest_103 : decode cX7_dustiest 103 = .ok (.iload_n 2, 1) := by decide +kernel
theorem dX7_dustiest_104 : decode cX7_dustiest 104 = .ok (.if_icmp .ge 7, 3) := by decide +kernel
theorem dX7_dustiest_107 : decode cX7_dustiest 107 = .ok (.iload_n 3, 1) := by decide +kernel
theorem dX7_dustiest_108 : decode cX7_dustiest 108 = .ok (.goto 4, 3) := by decide +kernel
theorem dX7_dustiest_111 : decode cX7_dustiest 111 = .ok (.iload_n 1, 1) := by decide +kernel
theorem dX7_dustiest_112 : decode cX7_dustiest 112 = .ok (.istore_n 1, 1) := by decide +kernel
theorem dX7_dustiest_113 : decode cX7_dustiest 113 = .ok (.iload_n 3, 1) := by decide +kernel
theorem dX7_dustiest_114 : decode cX7_dustiest 114 = .ok (.ifCond .eq 9, 3) := by decide +kernel
theorem dX7_dustiest_117 : decode cX7_dustiest 117 = .ok (.iload 4, 2) := by decide +kernel
theorem dX7_dustiest_119 : decode cX7_dustiest 119 = .ok (.iload_n 2, 1) := by decide +kernel
theorem dX7_dustiest_120 : decode cX7_dustiest 120 = .ok (.if_icmp .ge 8, 3) := by decide +kernel
theorem dX7_dustiest_123 : decode cX7_dustiest 123 = .ok (.iload 4, 2) := by decide +kernel
theorem dX7_dustiest_125 : decode cX7_dustiest 125 = .ok (.goto 4, 3) := by decide +kernel
theorem dX7_dustiest_128 : decode cX7_dustiest 128 = .ok (.iload_n 2, 1) := by decide +kernel
theorem dX7_dustiest_129 : decode cX7_dustiest 129 = .ok (.istore_n 2, 1) := by decide +kernel
theorem dX7_dustiest_130 : decode cX7_dustiest 130 = .ok (.iinc 3 1, 3) := by decide +kernel
theorem dX7_dustiest_133 : decode cX7_dustiest 133 = .ok (.goto (-122), 3) := by decide +kernel
theorem dX7_dustiest_136 : decode cX7_dustiest 136 = .ok (.iload_n 1, 1) := by decide +kernel
theorem dX7_dustiest_137 : decode cX7_dustiest 137 = .ok (.ireturn, 1) := by decide +kernel
set_option maxRecDepth 20000 in
theorem ggX7_does_X7_isSegment : GoodIn wsX7_does wsX7_isSegment := goodIn_r _ [7, 8, 9, 6, 10] (by decide +kernel) (by decide +kernel)
set_option maxRecDepth 20000 in
theorem gX7_does_X7_isSegment : GoodIn wsX7_does (va_wsS RX7 55 yX7_isSegment wsX7_isSegment) := goodIn_app (goodIn_of _ (by decide +kernel)) ggX7_does_X7_isSegment
set_option maxRecDepth 20000 in
theorem ggX7_does_X7_isWagon : GoodIn wsX7_does wsX7_isWagon := goodIn_r _ [13, 8, 9, 6, 10] (by decide +kernel) (by decide +kernel)
set_option maxRecDepth 20000 in
theorem gX7_does_X7_isWagon : GoodIn wsX7_does (va_wsS RX7 155 yX7_isWagon wsX7_isWagon) := goodIn_app (goodIn_of _ (by decide +kernel)) ggX7_does_X7_isWagon
set_option maxRecDepth 20000 in
theorem ggX7_does_X7_in : GoodIn wsX7_does wsX7_in := goodIn_r _ [10] (by decide +kernel) (by decide +kernel)
set_option maxRecDepth 20000 in
theorem gX7_does_X7_in : GoodIn wsX7_does (va_wsS RX7 44 yX7_in wsX7_in) := goodIn_app (goodIn_of _ (by decide +kernel)) ggX7_does_X7_in
set_option maxRecDepth 20000 in
theorem ggX7_does_X7_hourOn : GoodIn wsX7_does wsX7_hourOn := goodIn_r _ [16, 17, 18, 6, 19, 20, 21, 22, 23, 24, 25, 26, 27, 28, 29, 30, 31, 32, 33, 34, 35, 36, 37, 38, 39, 40, 4, 5, 7, 8, 9, 10, 41, 42, 43, 44, 45, 46] (by decide +kernel) (by decide +kernel)
set_option maxRecDepth 20000 in
theorem gX7_does_X7_hourOn : GoodIn wsX7_does (va_wsS RX7 190 yX7_hourOn wsX7_hourOn) := goodIn_app (goodIn_of _ (by decide +kernel)) ggX7_does_X7_hourOn
set_option maxRecDepth 20000 in
theorem ggX7_does_X7_driveOn : GoodIn wsX7_does wsX7_driveOn := goodIn_r _ [49, 50, 51, 6, 52, 44, 45, 46] (by decide +kernel) (by decide +kernel)
set_option maxRecDepth 20000 in
theorem gX7_does_X7_driveOn : GoodIn wsX7_does (va_wsS RX7 175 yX7_driveOn wsX7_driveOn) := goodIn_app (goodIn_of _ (by decide +kernel)) ggX7_does_X7_driveOn
set_option maxRecDepth 20000 in
theorem ggX7_does_X7_sprayOn : GoodIn wsX7_does wsX7_sprayOn := goodIn_r _ [55, 44, 45, 6, 46, 56, 57, 58, 20, 21, 22, 29, 30, 31] (by decide +kernel) (by decide +kernel)
set_option maxRecDepth 20000 in
theorem gX7_does_X7_sprayOn : GoodIn wsX7_does (va_wsS RX7 179 yX7_sprayOn wsX7_sprayOn) := goodIn_app (goodIn_of _ (by decide +kernel)) ggX7_does_X7_sprayOn
set_option maxRecDepth 20000 in
theorem ggX7_does_X7_why : GoodIn wsX7_does wsX7_why := goodIn_r _ [61, 44, 45, 6, 46, 20, 21, 22] (by decide +kernel) (by decide +kernel)
set_option maxRecDepth 20000 in
theorem gX7_does_X7_why : GoodIn wsX7_does (va_wsS RX7 182 yX7_why wsX7_why) := goodIn_app (goodIn_of _ (by decide +kernel)) ggX7_does_X7_why
set_option maxRecDepth 20000 in
theorem ggX7_does_X7_fillOn : GoodIn wsX7_does wsX7_fillOn := goodIn_r _ [64, 44, 45, 6, 46, 29, 30, 31] (by decide +kernel) (by decide +kernel)
set_option maxRecDepth 20000 in
theorem gX7_does_X7_fillOn : GoodIn wsX7_does (va_wsS RX7 185 yX7_fillOn wsX7_fillOn) := goodIn_app (goodIn_of _ (by decide +kernel)) ggX7_does_X7_fillOn
set_option maxRecDepth 20000 in
theorem ggX7_does_X7_segmentAt : GoodIn wsX7_does wsX7_segmentAt := goodIn_r _ [22] (by decide +kernel) (by decide +kernel)
set_option maxRecDepth 20000 in
theorem gX7_does_X7_segmentAt : GoodIn wsX7_does (va_wsS RX7 40 yX7_segmentAt wsX7_segmentAt) := goodIn_app (goodIn_of _ (by decide +kernel)) ggX7_does_X7_segmentAt
set_option maxRecDepth 20000 in
theorem ggX7_does_X7_isSetting : GoodIn wsX7_does wsX7_isSetting := goodIn_r _ [67, 68, 3, 69, 70, 8, 9, 6, 10] (by decide +kernel) (by decide +kernel)
set_option maxRecDepth 20000 in
theorem gX7_does_X7_isSetting : GoodIn wsX7_does (va_wsS RX7 171 yX7_isSetting wsX7_isSetting) := goodIn_app (goodIn_of _ (by decide +kernel)) ggX7_does_X7_isSetting
set_option maxRecDepth 20000 in
theorem ggX7_does_X7_isHouse : GoodIn wsX7_does wsX7_isHouse := goodIn_r _ [73, 8, 9, 6, 10] (by decide +kernel) (by decide +kernel)
set_option maxRecDepth 20000 in
theorem gX7_does_X7_isHouse : GoodIn wsX7_does (va_wsS RX7 150 yX7_isHouse wsX7_isHouse) := goodIn_app (goodIn_of _ (by decide +kernel)) ggX7_does_X7_isHouse
set_option maxRecDepth 20000 in
theorem ggX7_does_X7_houseAt : GoodIn wsX7_does wsX7_houseAt := goodIn_r _ [37] (by decide +kernel) (by decide +kernel)
set_option maxRecDepth 20000 in
theorem gX7_does_X7_houseAt : GoodIn wsX7_does (va_wsS RX7 59 yX7_houseAt wsX7_houseAt) := goodIn_app (goodIn_of _ (by decide +kernel)) ggX7_does_X7_houseAt
set_option maxRecDepth 20000 in
theorem ggX7_does_X7_dustOf : GoodIn wsX7_does wsX7_dustOf := goodIn_r _ [40, 4, 5, 6, 7, 8, 9, 10, 20, 21, 22] (by decide +kernel) (by decide +kernel)
set_option maxRecDepth 20000 in
theorem gX7_does_X7_dustOf : GoodIn wsX7_does (va_wsS RX7 62 yX7_dustOf wsX7_dustOf) := goodIn_app (goodIn_of _ (by decide +kernel)) ggX7_does_X7_dustOf
theorem dX7_does_0 : decode cX7_does 0 = .ok (.aload_n 0, 1) := by decide +kernel
theorem dX7_does_1 : decode cX7_does 1 = .ok (.getfield 19, 3) := by decide +kernel
theorem dX7_does_4 : decode cX7_does 4 = .ok (.iload_n 2, 1) := by decide +kernel
theorem dX7_does_5 : decode cX7_does 5 = .ok (.invokestatic 55, 3) := by decide +kernel
theorem dX7_does_8 : decode cX7_does 8 = .ok (.istore 4, 2) := by decide +kernel
theorem dX7_does_10 : decode cX7_does 10 = .ok (.aload_n 0, 1) := by decide +kernel
theorem dX7_does_11 : decode cX7_does 11 = .ok (.getfield 19, 3) := by decide +kernel
theorem dX7_does_14 : decode cX7_does 14 = .ok (.iload_n 2, 1) := by decide +kernel
theorem dX7_does_15 : decode cX7_does 15 = .ok (.invokestatic 155, 3) := by decide +kernel
theorem dX7_does_18 : decode cX7_does 18 = .ok (.istore 5, 2) := by decide +kernel
theorem dX7_does_20 : decode cX7_does 20 = .ok (.iload_n 1, 1) := by decide +kernel
theorem dX7_does_21 : decode cX7_does 21 = .ok (.tableswitch 354 1 9 #[51, 93, 133, 168, 205, 249, 273, 296, 328], 51) := by decide +kernel
theorem dX7_does_72 : decode cX7_does 72 = .ok (.iload_n 2, 1) := by decide +kernel
theorem dX7_does_73 : decode cX7_does 73 = .ok (.ifCond .ne 15, 3) := by decide +kernel
theorem dX7_does_76 : decode cX7_does 76 = .ok (.iload_n 3, 1) := by decide +kernel
theorem dX7_does_77 : decode cX7_does 77 = .ok (.i2l, 1) := by decide +kernel
theorem dX7_does_78 : decode cX7_does 78 = .ok (.lconst 1, 1) := by decide +kernel
theorem dX7_does_79 : decode cX7_does 79 = .ok (.ldc2_w 188, 3) := by decide +kernel
theorem dX7_does_82 : decode cX7_does 82 = .ok (.invokestatic 44, 3) := by decide +kernel
theorem dX7_does_85 : decode cX7_does 85 = .ok (.ifCond .ne 5, 3) := by decide +kernel
theorem dX7_does_88 : decode cX7_does 88 = .ok (.iconst 0, 1) := by decide +kernel
theorem dX7_does_89 : decode cX7_does 89 = .ok (.ireturn, 1) := by decide +kernel
theorem dX7_does_90 : decode cX7_does 90 = .ok (.iconst 0, 1) := by decide +kernel
theorem dX7_does_91 : decode cX7_does 91 = .ok (.istore 6, 2) := by decide +kernel
theorem dX7_does_93 : decode cX7_does 93 = .ok (.iload 6, 2) := by decide +kernel
theorem dX7_does_95 : decode cX7_does 95 = .ok (.iload_n 3, 1) := by decide +kernel
theorem dX7_does_96 : decode cX7_does 96 = .ok (.if_icmp .ge 16, 3) := by decide +kernel
theorem dX7_does_99 : decode cX7_does 99 = .ok (.aload_n 0, 1) := by decide +kernel
theorem dX7_does_100 : decode cX7_does 100 = .ok (.getfield 19, 3) := by decide +kernel
theorem dX7_does_103 : decode cX7_does 103 = .ok (.invokestatic 190, 3) := by decide +kernel
theorem dX7_does_106 : decode cX7_does 106 = .ok (.iinc 6 1, 3) := by decide +kernel
theorem dX7_does_109 : decode cX7_does 109 = .ok (.goto (-16), 3) := by decide +kernel
theorem dX7_does_112 : decode cX7_does 112 = .ok (.iconst 1, 1) := by decide +kernel
theorem dX7_does_113 : decode cX7_does 113 = .ok (.ireturn, 1) := by decide +kernel
theorem dX7_does_114 : decode cX7_does 114 = .ok (.iload 5, 2) := by decide +kernel
theorem dX7_does_116 : decode cX7_does 116 = .ok (.ifCond .eq 36, 3) := by decide +kernel
theorem dX7_does_119 : decode cX7_does 119 = .ok (.aload_n 0, 1) := by decide +kernel
theorem dX7_does_120 : decode cX7_does 120 = .ok (.getfield 19, 3) := by decide +kernel
theorem dX7_does_123 : decode cX7_does 123 = .ok (.iload_n 3, 1) := by decide +kernel
theorem dX7_does_124 : decode cX7_does 124 = .ok (.invokestatic 55, 3) := by decide +kernel
theorem dX7_does_127 : decode cX7_does 127 = .ok (.ifCond .eq 25, 3) := by decide +kernel
theorem dX7_does_130 : decode cX7_does 130 = .ok (.iload_n 3, 1) := by decide +kernel
theorem dX7_does_131 : decode cX7_does 131 = .ok (.bipush 10, 2) := by decide +kernel
theorem dX7_does_133 : decode cX7_does 133 = .ok (.if_icmp .ge 19, 3) := by decide +kernel
theorem dX7_does_136 : decode cX7_does 136 = .ok (.aload_n 0, 1) := by decide +kernel
theorem dX7_does_137 : decode cX7_does 137 = .ok (.getfield 19, 3) := by decide +kernel
theorem dX7_does_140 : decode cX7_does 140 = .ok (.iload_n 2, 1) := by decide +kernel
theorem dX7_does_141 : decode cX7_does 141 = .ok (.iload_n 3, 1) := by decide +kernel
theorem dX7_does_142 : decode cX7_does 142 = .ok (.invokestatic 175, 3) := by decide +kernel
theorem dX7_does_145 : decode cX7_does 145 = .ok (.ifCond .eq 7, 3) := by decide +kernel
theorem dX7_does_148 : decode cX7_does 148 = .ok (.iconst 1, 1) := by decide +kernel
theorem dX7_does_149 : decode cX7_does 149 = .ok (.goto 4, 3) := by decide +kernel
theorem dX7_does_152 : decode cX7_does 152 = .ok (.iconst 0, 1) := by decide +kernel
theorem dX7_does_153 : decode cX7_does 153 = .ok (.ireturn, 1) := by decide +kernel
theorem dX7_does_154 : decode cX7_does 154 = .ok (.iload 5, 2) := by decide +kernel
theorem dX7_does_156 : decode cX7_does 156 = .ok (.ifCond .eq 31, 3) := by decide +kernel
theorem dX7_does_159 : decode cX7_does 159 = .ok (.iload_n 3, 1) := by decide +kernel
theorem dX7_does_160 : decode cX7_does 160 = .ok (.i2l, 1) := by decide +kernel
theorem dX7_does_161 : decode cX7_does 161 = .ok (.lconst 1, 1) := by decide +kernel
theorem dX7_does_162 : decode cX7_does 162 = .ok (.ldc2_w 102, 3) := by decide +kernel
theorem dX7_does_165 : decode cX7_does 165 = .ok (.invokestatic 44, 3) := by decide +kernel
theorem dX7_does_168 : decode cX7_does 168 = .ok (.ifCond .eq 19, 3) := by decide +kernel
theorem dX7_does_171 : decode cX7_does 171 = .ok (.aload_n 0, 1) := by decide +kernel
theorem dX7_does_172 : decode cX7_does 172 = .ok (.getfield 19, 3) := by decide +kernel
theorem dX7_does_175 : decode cX7_does 175 = .ok (.iload_n 2, 1) := by decide +kernel
theorem dX7_does_176 : decode cX7_does 176 = .ok (.iload_n 3, 1) := by decide +kernel
theorem dX7_does_177 : decode cX7_does 177 = .ok (.invokestatic 179, 3) := by decide +kernel
theorem dX7_does_180 : decode cX7_does 180 = .ok (.ifCond .eq 7, 3) := by decide +kernel
theorem dX7_does_183 : decode cX7_does 183 = .ok (.iconst 1, 1) := by decide +kernel
theorem dX7_does_184 : decode cX7_does 184 = .ok (.goto 4, 3) := by decide +kernel
theorem dX7_does_187 : decode cX7_does 187 = .ok (.iconst 0, 1) := by decide +kernel
theorem dX7_does_188 : decode cX7_does 188 = .ok (.ireturn, 1) := by decide +kernel
theorem dX7_does_189 : decode cX7_does 189 = .ok (.iload 5, 2) := by decide +kernel
theorem dX7_does_191 : decode cX7_does 191 = .ok (.ifCond .eq 33, 3) := by decide +kernel
theorem dX7_does_194 : decode cX7_does 194 = .ok (.iload_n 3, 1) := by decide +kernel
theorem dX7_does_195 : decode cX7_does 195 = .ok (.ifCond .ne 29, 3) := by decide +kernel
theorem dX7_does_198 : decode cX7_does 198 = .ok (.aload_n 0, 1) := by decide +kernel
theorem dX7_does_199 : decode cX7_does 199 = .ok (.getfield 19, 3) := by decide +kernel
theorem dX7_does_202 : decode cX7_does 202 = .ok (.iload_n 2, 1) := by decide +kernel
theorem dX7_does_203 : decode cX7_does 203 = .ok (.invokestatic 182, 3) := by decide +kernel
theorem dX7_does_206 : decode cX7_does 206 = .ok (.ifCond .ne 18, 3) := by decide +kernel
theorem dX7_does_209 : decode cX7_does 209 = .ok (.aload_n 0, 1) := by decide +kernel
theorem dX7_does_210 : decode cX7_does 210 = .ok (.getfield 19, 3) := by decide +kernel
theorem dX7_does_213 : decode cX7_does 213 = .ok (.iload_n 2, 1) := by decide +kernel
theorem dX7_does_214 : decode cX7_does 214 = .ok (.invokestatic 185, 3) := by decide +kernel
theorem dX7_does_217 : decode cX7_does 217 = .ok (.ifCond .le 7, 3) := by decide +kernel
theorem dX7_does_220 : decode cX7_does 220 = .ok (.iconst 1, 1) := by decide +kernel
theorem dX7_does_221 : decode cX7_does 221 = .ok (.goto 4, 3) := by decide +kernel
theorem dX7_does_224 : decode cX7_does 224 = .ok (.iconst 0, 1) := by decide +kernel
theorem dX7_does_225 : decode cX7_does 225 = .ok (.ireturn, 1) := by decide +kernel
theorem dX7_does_226 : decode cX7_does 226 = .ok (.iload 4, 2) := by decide +kernel
theorem dX7_does_228 : decode cX7_does 228 = .ok (.ifCond .eq 26, 3) := by decide +kernel
theorem dX7_does_231 : decode cX7_does 231 = .ok (.iload_n 3, 1) := by decide +kernel
theorem dX7_does_232 : decode cX7_does 232 = .ok (.i2l, 1) := by decide +kernel
theorem dX7_does_233 : decode cX7_does 233 = .ok (.lconst 1, 1) := by decide +kernel
theorem dX7_does_234 : decode cX7_does 234 = .ok (.iconst 5, 1) := by decide +kernel
theorem dX7_does_235 : decode cX7_does 235 = .ok (.aload_n 0, 1) := by decide +kernel
theorem dX7_does_236 : decode cX7_does 236 = .ok (.getfield 19, 3) := by decide +kernel
theorem dX7_does_239 : decode cX7_does 239 = .ok (.iload_n 2, 1) := by decide +kernel
theorem dX7_does_240 : decode cX7_does 240 = .ok (.invokestatic 40, 3) := by decide +kernel
theorem dX7_does_243 : decode cX7_does 243 = .ok (.iconst 2, 1) := by decide +kernel
theorem dX7_does_244 : decode cX7_does 244 = .ok (.iadd, 1) := by decide +kernel
theorem dX7_does_245 : decode cX7_does 245 = .ok (.iaload, 1) := by decide +kernel
theorem dX7_does_246 : decode cX7_does 246 = .ok (.isub, 1) := by decide +kernel
theorem dX7_does_247 : decode cX7_does 247 = .ok (.i2l, 1) := by decide +kernel
theorem dX7_does_248 : decode cX7_does 248 = .ok (.invokestatic 44, 3) := by decide +kernel
theorem dX7_does_251 : decode cX7_does 251 = .ok (.ifCond .ne 5, 3) := by decide +kernel
theorem dX7_does_254 : decode cX7_does 254 = .ok (.iconst 0, 1) := by decide +kernel
theorem dX7_does_255 : decode cX7_does 255 = .ok (.ireturn, 1) := by decide +kernel
theorem dX7_does_256 : decode cX7_does 256 = .ok (.aload_n 0, 1) := by decide +kernel
theorem dX7_does_257 : decode cX7_does 257 = .ok (.getfield 19, 3) := by decide +kernel
theorem dX7_does_260 : decode cX7_does 260 = .ok (.iload_n 2, 1) := by decide +kernel
theorem dX7_does_261 : decode cX7_does 261 = .ok (.invokestatic 40, 3) := by decide +kernel
theorem dX7_does_264 : decode cX7_does 264 = .ok (.iconst 1, 1) := by decide +kernel
theorem dX7_does_265 : decode cX7_does 265 = .ok (.iadd, 1) := by decide +kernel
theorem dX7_does_266 : decode cX7_does 266 = .ok (.iload_n 3, 1) := by decide +kernel
theorem dX7_does_267 : decode cX7_does 267 = .ok (.iastore, 1) := by decide +kernel
theorem dX7_does_268 : decode cX7_does 268 = .ok (.iconst 1, 1) := by decide +kernel
theorem dX7_does_269 : decode cX7_does 269 = .ok (.ireturn, 1) := by decide +kernel
theorem dX7_does_270 : decode cX7_does 270 = .ok (.iload 4, 2) := by decide +kernel
theorem dX7_does_272 : decode cX7_does 272 = .ok (.ifCond .eq 8, 3) := by decide +kernel
theorem dX7_does_275 : decode cX7_does 275 = .ok (.iload_n 3, 1) := by decide +kernel
theorem dX7_does_276 : decode cX7_does 276 = .ok (.iconst 2, 1) := by decide +kernel
theorem dX7_does_277 : decode cX7_does 277 = .ok (.if_icmp .le 5, 3) := by decide +kernel
theorem dX7_does_280 : decode cX7_does 280 = .ok (.iconst 0, 1) := by decide +kernel
theorem dX7_does_281 : decode cX7_does 281 = .ok (.ireturn, 1) := by decide +kernel
theorem dX7_does_282 : decode cX7_does 282 = .ok (.aload_n 0, 1) := by decide +kernel
theorem dX7_does_283 : decode cX7_does 283 = .ok (.getfield 19, 3) := by decide +kernel
theorem dX7_does_286 : decode cX7_does 286 = .ok (.iload_n 2, 1) := by decide +kernel
theorem dX7_does_287 : decode cX7_does 287 = .ok (.invokestatic 40, 3) := by decide +kernel
theorem dX7_does_290 : decode cX7_does 290 = .ok (.iload_n 3, 1) := by decide +kernel
theorem dX7_does_291 : decode cX7_does 291 = .ok (.iastore, 1) := by decide +kernel
theorem dX7_does_292 : decode cX7_does 292 = .ok (.iconst 1, 1) := by decide +kernel
theorem dX7_does_293 : decode cX7_does 293 = .ok (.ireturn, 1) := by decide +kernel
theorem dX7_does_294 : decode cX7_does 294 = .ok (.iload_n 2, 1) := by decide +kernel
theorem dX7_does_295 : decode cX7_does 295 = .ok (.ifCond .ne 11, 3) := by decide +kernel
theorem dX7_does_298 : decode cX7_does 298 = .ok (.iconst 5, 1) := by decide +kernel
theorem dX7_does_299 : decode cX7_does 299 = .ok (.iload_n 3, 1) := by decide +kernel
theorem dX7_does_300 : decode cX7_does 300 = .ok (.invokestatic 171, 3) := by decide +kernel
theorem dX7_does_303 : decode cX7_does 303 = .ok (.ifCond .ne 5, 3) := by decide +kernel
theorem dX7_does_306 : decode cX7_does 306 = .ok (.iconst 0, 1) := by decide +kernel
theorem dX7_does_307 : decode cX7_does 307 = .ok (.ireturn, 1) := by decide +kernel
theorem dX7_does_308 : decode cX7_does 308 = .ok (.aload_n 0, 1) := by decide +kernel
theorem dX7_does_309 : decode cX7_does 309 = .ok (.getfield 19, 3) := by decide +kernel
theorem dX7_does_312 : decode cX7_does 312 = .ok (.iconst 5, 1) := by decide +kernel
theorem dX7_does_313 : decode cX7_does 313 = .ok (.iload_n 3, 1) := by decide +kernel
theorem dX7_does_314 : decode cX7_does 314 = .ok (.iastore, 1) := by decide +kernel
theorem dX7_does_315 : decode cX7_does 315 = .ok (.iconst 1, 1) := by decide +kernel
theorem dX7_does_316 : decode cX7_does 316 = .ok (.ireturn, 1) := by decide +kernel
theorem dX7_does_317 : decode cX7_does 317 = .ok (.aload_n 0, 1) := by decide +kernel
theorem dX7_does_318 : decode cX7_does 318 = .ok (.getfield 19, 3) := by decide +kernel
theorem dX7_does_321 : decode cX7_does 321 = .ok (.iload_n 2, 1) := by decide +kernel
theorem dX7_does_322 : decode cX7_does 322 = .ok (.invokestatic 150, 3) := by decide +kernel
theorem dX7_does_325 : decode cX7_does 325 = .ok (.ifCond .eq 22, 3) := by decide +kernel
theorem dX7_does_328 : decode cX7_does 328 = .ok (.aload_n 0, 1) := by decide +kernel
theorem dX7_does_329 : decode cX7_does 329 = .ok (.getfield 19, 3) := by decide +kernel
theorem dX7_does_332 : decode cX7_does 332 = .ok (.iload_n 2, 1) := by decide +kernel
theorem dX7_does_333 : decode cX7_does 333 = .ok (.invokestatic 59, 3) := by decide +kernel
theorem dX7_does_336 : decode cX7_does 336 = .ok (.iconst 3, 1) := by decide +kernel
theorem dX7_does_337 : decode cX7_does 337 = .ok (.iadd, 1) := by decide +kernel
theorem dX7_does_338 : decode cX7_does 338 = .ok (.iaload, 1) := by decide +kernel
theorem dX7_does_339 : decode cX7_does 339 = .ok (.iload_n 3, 1) := by decide +kernel
theorem dX7_does_340 : decode cX7_does 340 = .ok (.if_icmp .gt 7, 3) := by decide +kernel
theorem dX7_does_343 : decode cX7_does 343 = .ok (.iconst 1, 1) := by decide +kernel
theorem dX7_does_344 : decode cX7_does 344 = .ok (.goto 4, 3) := by decide +kernel
theorem dX7_does_347 : decode cX7_does 347 = .ok (.iconst 0, 1) := by decide +kernel
theorem dX7_does_348 : decode cX7_does 348 = .ok (.ireturn, 1) := by decide +kernel
theorem dX7_does_349 : decode cX7_does 349 = .ok (.iload 4, 2) := by decide +kernel
theorem dX7_does_351 : decode cX7_does 351 = .ok (.ifCond .eq 22, 3) := by decide +kernel
theorem dX7_does_354 : decode cX7_does 354 = .ok (.aload_n 0, 1) := by decide +kernel
theorem dX7_does_355 : decode cX7_does 355 = .ok (.getfield 19, 3) := by decide +kernel
theorem dX7_does_358 : decode cX7_does 358 = .ok (.iload_n 2, 1) := by decide +kernel
theorem dX7_does_359 : decode cX7_does 359 = .ok (.invokestatic 62, 3) := by decide +kernel
theorem dX7_does_362 : decode cX7_does 362 = .ok (.bipush 10, 2) := by decide +kernel
theorem dX7_does_364 : decode cX7_does 364 = .ok (.iload_n 3, 1) := by decide +kernel
theorem dX7_does_365 : decode cX7_does 365 = .ok (.imul, 1) := by decide +kernel
theorem dX7_does_366 : decode cX7_does 366 = .ok (.if_icmp .gt 7, 3) := by decide +kernel
theorem dX7_does_369 : decode cX7_does 369 = .ok (.iconst 1, 1) := by decide +kernel
theorem dX7_does_370 : decode cX7_does 370 = .ok (.goto 4, 3) := by decide +kernel
theorem dX7_does_373 : decode cX7_does 373 = .ok (.iconst 0, 1) := by decide +kernel
theorem dX7_does_374 : decode cX7_does 374 = .ok (.ireturn, 1) := by decide +kernel
theorem dX7_does_375 : decode cX7_does 375 = .ok (.iconst 0, 1) := by decide +kernel
theorem dX7_does_376 : decode cX7_does 376 = .ok (.ireturn, 1) := by decide +kernel
set_option maxRecDepth 20000 in
theorem ggX7_runScript_X7_in : GoodIn wsX7_runScript wsX7_in := goodIn_r _ [11] (by decide +kernel) (by decide +kernel)
set_option maxRecDepth 20000 in
theorem gX7_runScript_X7_in : GoodIn wsX7_runScript (va_wsS RX7 44 yX7_in wsX7_in) := goodIn_app (goodIn_of _ (by decide +kernel)) ggX7_runScript_X7_in
set_option maxRecDepth 20000 in
theorem ggX7_runScript_X7_refused : GoodIn wsX7_runScript wsX7_refused := goodIn_r _ [15, 16, 92, 93, 94, 95, 96, 97, 98, 99, 100, 101, 102] (by decide +kernel) (by decide +kernel)
set_option maxRecDepth 20000 in
theorem gX7_runScript_X7_refused : GoodIn wsX7_runScript (wsV RX7 95 RX7 yX7_refused wsX7_refused) := goodIn_app (goodIn_of _ (by decide +kernel)) ggX7_runScript_X7_refused
set_option maxRecDepth 20000 in
theorem ggX7_runScript_X7_copyPage : GoodIn wsX7_runScript wsX7_copyPage := goodIn_r _ [19] (by decide +kernel) (by decide +kernel)
set_option maxRecDepth 20000 in
theorem gX7_runScript_X7_copyPage : GoodIn wsX7_runScript (va_wsS RX7 139 yX7_copyPage wsX7_copyPage) := goodIn_app (goodIn_of _ (by decide +kernel)) ggX7_runScript_X7_copyPage
set_option maxRecDepth 20000 in
theorem ggX7_runScript_X7_does : GoodIn wsX7_runScript wsX7_does := goodIn_r _ [23, 7, 24, 25, 26, 27, 10, 28, 8, 9, 11, 29, 30, 31, 32, 33, 34, 35, 36, 37, 38, 39, 40, 41, 42, 43, 44, 45, 46, 47, 48, 49, 50, 51, 52, 53, 54, 55, 56, 57, 58, 59, 60, 61, 62, 63, 64, 65, 66, 67, 68, 69, 70, 71, 72, 73, 74, 75, 76, 77, 78, 79, 80, 81, 82, 83, 84, 85, 86, 87, 88, 89, 90, 91, 92, 93, 94, 95, 96, 97, 98, 99, 100, 101, 102] (by decide +kernel) (by decide +kernel)
set_option maxRecDepth 20000 in
theorem gX7_runScript_X7_does : GoodIn wsX7_runScript (wsV RX7 207 RX7 yX7_does wsX7_does) := goodIn_app (goodIn_of _ (by decide +kernel)) ggX7_runScript_X7_does
theorem dX7_runScript_0 : decode cX7_runScript 0 = .ok (.iload_n 1, 1) := by decide +kernel
theorem dX7_runScript_1 : decode cX7_runScript 1 = .ok (.iconst 1, 1) := by decide +kernel
theorem dX7_runScript_2 : decode cX7_runScript 2 = .ok (.if_icmp .ne 9, 3) := by decide +kernel
theorem dX7_runScript_5 : decode cX7_runScript 5 = .ok (.ldc2_w 199, 3) := by decide +kernel
theorem dX7_runScript_8 : decode cX7_runScript 8 = .ok (.goto 28, 3) := by decide +kernel
theorem dX7_runScript_11 : decode cX7_runScript 11 = .ok (.iload_n 1, 1) := by decide +kernel
theorem dX7_runScript_12 : decode cX7_runScript 12 = .ok (.iconst 2, 1) := by decide +kernel
theorem dX7_runScript_13 : decode cX7_runScript 13 = .ok (.if_icmp .ne 9, 3) := by decide +kernel
theorem dX7_runScript_16 : decode cX7_runScript 16 = .ok (.ldc2_w 201, 3) := by decide +kernel
theorem dX7_runScript_19 : decode cX7_runScript 19 = .ok (.goto 17, 3) := by decide +kernel
theorem dX7_runScript_22 : decode cX7_runScript 22 = .ok (.iload_n 1, 1) := by decide +kernel
theorem dX7_runScript_23 : decode cX7_runScript 23 = .ok (.iconst 3, 1) := by decide +kernel
theorem dX7_runScript_24 : decode cX7_runScript 24 = .ok (.if_icmp .ne 9, 3) := by decide +kernel
theorem dX7_runScript_27 : decode cX7_runScript 27 = .ok (.ldc2_w 203, 3) := by decide +kernel
theorem dX7_runScript_30 : decode cX7_runScript 30 = .ok (.goto 6, 3) := by decide +kernel
theorem dX7_runScript_33 : decode cX7_runScript 33 = .ok (.ldc2_w 205, 3) := by decide +kernel
theorem dX7_runScript_36 : decode cX7_runScript 36 = .ok (.lstore 4, 2) := by decide +kernel
theorem dX7_runScript_38 : decode cX7_runScript 38 = .ok (.aload_n 0, 1) := by decide +kernel
theorem dX7_runScript_39 : decode cX7_runScript 39 = .ok (.iload_n 1, 1) := by decide +kernel
theorem dX7_runScript_40 : decode cX7_runScript 40 = .ok (.i2l, 1) := by decide +kernel
theorem dX7_runScript_41 : decode cX7_runScript 41 = .ok (.lconst 1, 1) := by decide +kernel
theorem dX7_runScript_42 : decode cX7_runScript 42 = .ok (.ldc2_w 153, 3) := by decide +kernel
theorem dX7_runScript_45 : decode cX7_runScript 45 = .ok (.invokestatic 44, 3) := by decide +kernel
theorem dX7_runScript_48 : decode cX7_runScript 48 = .ok (.ifCond .eq 19, 3) := by decide +kernel
theorem dX7_runScript_51 : decode cX7_runScript 51 = .ok (.lload_n 2, 1) := by decide +kernel
theorem dX7_runScript_52 : decode cX7_runScript 52 = .ok (.lconst 0, 1) := by decide +kernel
theorem dX7_runScript_53 : decode cX7_runScript 53 = .ok (.lload 4, 2) := by decide +kernel
theorem dX7_runScript_55 : decode cX7_runScript 55 = .ok (.lconst 1, 1) := by decide +kernel
theorem dX7_runScript_56 : decode cX7_runScript 56 = .ok (.lsub, 1) := by decide +kernel
theorem dX7_runScript_57 : decode cX7_runScript 57 = .ok (.invokestatic 44, 3) := by decide +kernel
theorem dX7_runScript_60 : decode cX7_runScript 60 = .ok (.ifCond .eq 7, 3) := by decide +kernel
theorem dX7_runScript_63 : decode cX7_runScript 63 = .ok (.iconst 0, 1) := by decide +kernel
theorem dX7_runScript_64 : decode cX7_runScript 64 = .ok (.goto 4, 3) := by decide +kernel
theorem dX7_runScript_67 : decode cX7_runScript 67 = .ok (.iconst 1, 1) := by decide +kernel
theorem dX7_runScript_68 : decode cX7_runScript 68 = .ok (.invokevirtual 95, 3) := by decide +kernel
theorem dX7_runScript_71 : decode cX7_runScript 71 = .ok (.ifCond .eq 5, 3) := by decide +kernel
theorem dX7_runScript_74 : decode cX7_runScript 74 = .ok (.iconst 0, 1) := by decide +kernel
theorem dX7_runScript_75 : decode cX7_runScript 75 = .ok (.ireturn, 1) := by decide +kernel
theorem dX7_runScript_76 : decode cX7_runScript 76 = .ok (.aload_n 0, 1) := by decide +kernel
theorem dX7_runScript_77 : decode cX7_runScript 77 = .ok (.getfield 16, 3) := by decide +kernel
theorem dX7_runScript_80 : decode cX7_runScript 80 = .ok (.iconst 0, 1) := by decide +kernel
theorem dX7_runScript_81 : decode cX7_runScript 81 = .ok (.aload_n 0, 1) := by decide +kernel
theorem dX7_runScript_82 : decode cX7_runScript 82 = .ok (.getfield 19, 3) := by decide +kernel
theorem dX7_runScript_85 : decode cX7_runScript 85 = .ok (.iconst 0, 1) := by decide +kernel
theorem dX7_runScript_86 : decode cX7_runScript 86 = .ok (.invokestatic 139, 3) := by decide +kernel
theorem dX7_runScript_89 : decode cX7_runScript 89 = .ok (.lload_n 2, 1) := by decide +kernel
theorem dX7_runScript_90 : decode cX7_runScript 90 = .ok (.lstore 6, 2) := by decide +kernel
theorem dX7_runScript_92 : decode cX7_runScript 92 = .ok (.iconst 0, 1) := by decide +kernel
theorem dX7_runScript_93 : decode cX7_runScript 93 = .ok (.istore 8, 2) := by decide +kernel
theorem dX7_runScript_95 : decode cX7_runScript 95 = .ok (.iload 8, 2) := by decide +kernel
theorem dX7_runScript_97 : decode cX7_runScript 97 = .ok (.iload_n 1, 1) := by decide +kernel
theorem dX7_runScript_98 : decode cX7_runScript 98 = .ok (.if_icmp .ge 61, 3) := by decide +kernel
theorem dX7_runScript_101 : decode cX7_runScript 101 = .ok (.lload 4, 2) := by decide +kernel
theorem dX7_runScript_103 : decode cX7_runScript 103 = .ok (.ldc2_w 199, 3) := by decide +kernel
theorem dX7_runScript_106 : decode cX7_runScript 106 = .ok (.ldiv, 1) := by decide +kernel
theorem dX7_runScript_107 : decode cX7_runScript 107 = .ok (.lstore 4, 2) := by decide +kernel
theorem dX7_runScript_109 : decode cX7_runScript 109 = .ok (.lload 6, 2) := by decide +kernel
theorem dX7_runScript_111 : decode cX7_runScript 111 = .ok (.lload 4, 2) := by decide +kernel
theorem dX7_runScript_113 : decode cX7_runScript 113 = .ok (.ldiv, 1) := by decide +kernel
theorem dX7_runScript_114 : decode cX7_runScript 114 = .ok (.l2i, 1) := by decide +kernel
theorem dX7_runScript_115 : decode cX7_runScript 115 = .ok (.istore 9, 2) := by decide +kernel
theorem dX7_runScript_117 : decode cX7_runScript 117 = .ok (.lload 6, 2) := by decide +kernel
theorem dX7_runScript_119 : decode cX7_runScript 119 = .ok (.lload 4, 2) := by decide +kernel
theorem dX7_runScript_121 : decode cX7_runScript 121 = .ok (.lrem, 1) := by decide +kernel
theorem dX7_runScript_122 : decode cX7_runScript 122 = .ok (.lstore 6, 2) := by decide +kernel
theorem dX7_runScript_124 : decode cX7_runScript 124 = .ok (.aload_n 0, 1) := by decide +kernel
theorem dX7_runScript_125 : decode cX7_runScript 125 = .ok (.iload 9, 2) := by decide +kernel
theorem dX7_runScript_127 : decode cX7_runScript 127 = .ok (.sipush 1000, 3) := by decide +kernel
theorem dX7_runScript_130 : decode cX7_runScript 130 = .ok (.idiv, 1) := by decide +kernel
theorem dX7_runScript_131 : decode cX7_runScript 131 = .ok (.iload 9, 2) := by decide +kernel
theorem dX7_runScript_133 : decode cX7_runScript 133 = .ok (.bipush 100, 2) := by decide +kernel
theorem dX7_runScript_135 : decode cX7_runScript 135 = .ok (.idiv, 1) := by decide +kernel
theorem dX7_runScript_136 : decode cX7_runScript 136 = .ok (.bipush 10, 2) := by decide +kernel
theorem dX7_runScript_138 : decode cX7_runScript 138 = .ok (.irem, 1) := by decide +kernel
theorem dX7_runScript_139 : decode cX7_runScript 139 = .ok (.iload 9, 2) := by decide +kernel
theorem dX7_runScript_141 : decode cX7_runScript 141 = .ok (.bipush 100, 2) := by decide +kernel
theorem dX7_runScript_143 : decode cX7_runScript 143 = .ok (.irem, 1) := by decide +kernel
theorem dX7_runScript_144 : decode cX7_runScript 144 = .ok (.invokevirtual 207, 3) := by decide +kernel
theorem dX7_runScript_147 : decode cX7_runScript 147 = .ok (.ifCond .ne 6, 3) := by decide +kernel
theorem dX7_runScript_150 : decode cX7_runScript 150 = .ok (.iload 8, 2) := by decide +kernel
theorem dX7_runScript_152 : decode cX7_runScript 152 = .ok (.ireturn, 1) := by decide +kernel
theorem dX7_runScript_153 : decode cX7_runScript 153 = .ok (.iinc 8 1, 3) := by decide +kernel
theorem dX7_runScript_156 : decode cX7_runScript 156 = .ok (.goto (-61), 3) := by decide +kernel
theorem dX7_runScript_159 : decode cX7_runScript 159 = .ok (.bipush (-9), 2) := by decide +kernel
theorem dX7_runScript_161 : decode cX7_runScript 161 = .ok (.ireturn, 1) := by decide +kernel
set_option maxRecDepth 20000 in
theorem ggX7_change_X7_wagonAt : GoodIn wsX7_change wsX7_wagonAt := goodIn_r _ [5] (by decide +kernel) (by decide +kernel)
set_option maxRecDepth 20000 in
theorem gX7_change_X7_wagonAt : GoodIn wsX7_change (va_wsS RX7 79 yX7_wagonAt wsX7_wagonAt) := goodIn_app (goodIn_of _ (by decide +kernel)) ggX7_change_X7_wagonAt
set_option maxRecDepth 20000 in
theorem ggX7_change_X7_less : GoodIn wsX7_change wsX7_less := goodIn_r _ [8] (by decide +kernel) (by decide +kernel)
set_option maxRecDepth 20000 in
theorem gX7_change_X7_less : GoodIn wsX7_change (va_wsS RX7 52 yX7_less wsX7_less) := goodIn_app (goodIn_of _ (by decide +kernel)) ggX7_change_X7_less
set_option maxRecDepth 20000 in
theorem ggX7_change_X7_driveOn : GoodIn wsX7_change wsX7_driveOn := goodIn_r _ [11, 12, 13, 4, 14, 2, 3, 5] (by decide +kernel) (by decide +kernel)
set_option maxRecDepth 20000 in
theorem gX7_change_X7_driveOn : GoodIn wsX7_change (va_wsS RX7 175 yX7_driveOn wsX7_driveOn) := goodIn_app (goodIn_of _ (by decide +kernel)) ggX7_change_X7_driveOn
set_option maxRecDepth 20000 in
theorem ggX7_change_X7_sprayOn : GoodIn wsX7_change wsX7_sprayOn := goodIn_r _ [17, 2, 3, 4, 5, 18, 19, 20, 21, 22, 23, 6, 7, 8] (by decide +kernel) (by decide +kernel)
set_option maxRecDepth 20000 in
theorem gX7_change_X7_sprayOn : GoodIn wsX7_change (va_wsS RX7 179 yX7_sprayOn wsX7_sprayOn) := goodIn_app (goodIn_of _ (by decide +kernel)) ggX7_change_X7_sprayOn
theorem dX7_change_0 : decode cX7_change 0 = .ok (.aload_n 0, 1) := by decide +kernel
theorem dX7_change_1 : decode cX7_change 1 = .ok (.getfield 19, 3) := by decide +kernel
theorem dX7_change_4 : decode cX7_change 4 = .ok (.iconst 5, 1) := by decide +kernel
theorem dX7_change_5 : decode cX7_change 5 = .ok (.iload_n 1, 1) := by decide +kernel
theorem dX7_change_6 : decode cX7_change 6 = .ok (.bipush 21, 2) := by decide +kernel
theorem dX7_change_8 : decode cX7_change 8 = .ok (.irem, 1) := by decide +kernel
theorem dX7_change_9 : decode cX7_change 9 = .ok (.iastore, 1) := by decide +kernel
theorem dX7_change_10 : decode cX7_change 10 = .ok (.aload_n 0, 1) := by decide +kernel
theorem dX7_change_11 : decode cX7_change 11 = .ok (.getfield 19, 3) := by decide +kernel
theorem dX7_change_14 : decode cX7_change 14 = .ok (.bipush 6, 2) := by decide +kernel
theorem dX7_change_16 : decode cX7_change 16 = .ok (.iload_n 1, 1) := by decide +kernel
theorem dX7_change_17 : decode cX7_change 17 = .ok (.bipush 32, 2) := by decide +kernel
theorem dX7_change_19 : decode cX7_change 19 = .ok (.idiv, 1) := by decide +kernel
theorem dX7_change_20 : decode cX7_change 20 = .ok (.bipush 10, 2) := by decide +kernel
theorem dX7_change_22 : decode cX7_change 22 = .ok (.irem, 1) := by decide +kernel
theorem dX7_change_23 : decode cX7_change 23 = .ok (.iastore, 1) := by decide +kernel
theorem dX7_change_24 : decode cX7_change 24 = .ok (.aload_n 0, 1) := by decide +kernel
theorem dX7_change_25 : decode cX7_change 25 = .ok (.getfield 19, 3) := by decide +kernel
theorem dX7_change_28 : decode cX7_change 28 = .ok (.iconst 2, 1) := by decide +kernel
theorem dX7_change_29 : decode cX7_change 29 = .ok (.iaload, 1) := by decide +kernel
theorem dX7_change_30 : decode cX7_change 30 = .ok (.ifCond .ne 4, 3) := by decide +kernel
theorem dX7_change_33 : decode cX7_change 33 = .ok (.return_, 1) := by decide +kernel
theorem dX7_change_34 : decode cX7_change 34 = .ok (.iload_n 1, 1) := by decide +kernel
theorem dX7_change_35 : decode cX7_change 35 = .ok (.sipush 512, 3) := by decide +kernel
theorem dX7_change_38 : decode cX7_change 38 = .ok (.idiv, 1) := by decide +kernel
theorem dX7_change_39 : decode cX7_change 39 = .ok (.aload_n 0, 1) := by decide +kernel
theorem dX7_change_40 : decode cX7_change 40 = .ok (.getfield 19, 3) := by decide +kernel
theorem dX7_change_43 : decode cX7_change 43 = .ok (.iconst 2, 1) := by decide +kernel
theorem dX7_change_44 : decode cX7_change 44 = .ok (.iaload, 1) := by decide +kernel
theorem dX7_change_45 : decode cX7_change 45 = .ok (.irem, 1) := by decide +kernel
theorem dX7_change_46 : decode cX7_change 46 = .ok (.istore_n 2, 1) := by decide +kernel
theorem dX7_change_47 : decode cX7_change 47 = .ok (.iconst 5, 1) := by decide +kernel
theorem dX7_change_48 : decode cX7_change 48 = .ok (.aload_n 0, 1) := by decide +kernel
theorem dX7_change_49 : decode cX7_change 49 = .ok (.getfield 19, 3) := by decide +kernel
theorem dX7_change_52 : decode cX7_change 52 = .ok (.iload_n 2, 1) := by decide +kernel
theorem dX7_change_53 : decode cX7_change 53 = .ok (.invokestatic 79, 3) := by decide +kernel
theorem dX7_change_56 : decode cX7_change 56 = .ok (.iconst 1, 1) := by decide +kernel
theorem dX7_change_57 : decode cX7_change 57 = .ok (.iadd, 1) := by decide +kernel
theorem dX7_change_58 : decode cX7_change 58 = .ok (.iaload, 1) := by decide +kernel
theorem dX7_change_59 : decode cX7_change 59 = .ok (.invokestatic 52, 3) := by decide +kernel
theorem dX7_change_62 : decode cX7_change 62 = .ok (.istore_n 3, 1) := by decide +kernel
theorem dX7_change_63 : decode cX7_change 63 = .ok (.iload_n 3, 1) := by decide +kernel
theorem dX7_change_64 : decode cX7_change 64 = .ok (.ifCond .le 34, 3) := by decide +kernel
theorem dX7_change_67 : decode cX7_change 67 = .ok (.aload_n 0, 1) := by decide +kernel
theorem dX7_change_68 : decode cX7_change 68 = .ok (.getfield 19, 3) := by decide +kernel
theorem dX7_change_71 : decode cX7_change 71 = .ok (.iload_n 2, 1) := by decide +kernel
theorem dX7_change_72 : decode cX7_change 72 = .ok (.iload_n 1, 1) := by decide +kernel
theorem dX7_change_73 : decode cX7_change 73 = .ok (.sipush 2048, 3) := by decide +kernel
theorem dX7_change_76 : decode cX7_change 76 = .ok (.idiv, 1) := by decide +kernel
theorem dX7_change_77 : decode cX7_change 77 = .ok (.aload_n 0, 1) := by decide +kernel
theorem dX7_change_78 : decode cX7_change 78 = .ok (.getfield 19, 3) := by decide +kernel
theorem dX7_change_81 : decode cX7_change 81 = .ok (.iconst 0, 1) := by decide +kernel
theorem dX7_change_82 : decode cX7_change 82 = .ok (.iaload, 1) := by decide +kernel
theorem dX7_change_83 : decode cX7_change 83 = .ok (.irem, 1) := by decide +kernel
theorem dX7_change_84 : decode cX7_change 84 = .ok (.invokestatic 175, 3) := by decide +kernel
theorem dX7_change_87 : decode cX7_change 87 = .ok (.pop, 1) := by decide +kernel
theorem dX7_change_88 : decode cX7_change 88 = .ok (.aload_n 0, 1) := by decide +kernel
theorem dX7_change_89 : decode cX7_change 89 = .ok (.getfield 19, 3) := by decide +kernel
theorem dX7_change_92 : decode cX7_change 92 = .ok (.iload_n 2, 1) := by decide +kernel
theorem dX7_change_93 : decode cX7_change 93 = .ok (.iload_n 3, 1) := by decide +kernel
theorem dX7_change_94 : decode cX7_change 94 = .ok (.invokestatic 179, 3) := by decide +kernel
theorem dX7_change_97 : decode cX7_change 97 = .ok (.pop, 1) := by decide +kernel
theorem dX7_change_98 : decode cX7_change 98 = .ok (.return_, 1) := by decide +kernel
set_option maxRecDepth 20000 in
theorem ggX7_simulate_X7_in : GoodIn wsX7_simulate wsX7_in := goodIn_r _ [9] (by decide +kernel) (by decide +kernel)
set_option maxRecDepth 20000 in
theorem gX7_simulate_X7_in : GoodIn wsX7_simulate (va_wsS RX7 44 yX7_in wsX7_in) := goodIn_app (goodIn_of _ (by decide +kernel)) ggX7_simulate_X7_in
set_option maxRecDepth 20000 in
theorem ggX7_simulate_X7_refused : GoodIn wsX7_simulate wsX7_refused := goodIn_r _ [13, 14, 70, 71, 72, 73, 74, 75, 76, 77, 78, 79, 80] (by decide +kernel) (by decide +kernel)
set_option maxRecDepth 20000 in
theorem gX7_simulate_X7_refused : GoodIn wsX7_simulate (wsV RX7 95 RX7 yX7_refused wsX7_refused) := goodIn_app (goodIn_of _ (by decide +kernel)) ggX7_simulate_X7_refused
set_option maxRecDepth 20000 in
theorem ggX7_simulate_X7_copyPage : GoodIn wsX7_simulate wsX7_copyPage := goodIn_r _ [17] (by decide +kernel) (by decide +kernel)
set_option maxRecDepth 20000 in
theorem gX7_simulate_X7_copyPage : GoodIn wsX7_simulate (va_wsS RX7 139 yX7_copyPage wsX7_copyPage) := goodIn_app (goodIn_of _ (by decide +kernel)) ggX7_simulate_X7_copyPage
set_option maxRecDepth 20000 in
theorem ggX7_simulate_X7_change : GoodIn wsX7_simulate wsX7_change := goodIn_r _ [21, 3, 22, 23, 8, 24, 25, 26, 27, 28, 29, 30, 31, 32, 33, 34, 35, 36, 37, 38, 39, 40, 41, 42, 70, 71, 72, 73, 74, 75, 76, 77, 78, 79, 80] (by decide +kernel) (by decide +kernel)
set_option maxRecDepth 20000 in
theorem gX7_simulate_X7_change : GoodIn wsX7_simulate (wsV RX7 215 RX7 yX7_change wsX7_change) := goodIn_app (goodIn_of _ (by decide +kernel)) ggX7_simulate_X7_change
set_option maxRecDepth 20000 in
theorem ggX7_simulate_X7_hourOn : GoodIn wsX7_simulate wsX7_hourOn := goodIn_r _ [45, 46, 47, 8, 48, 40, 41, 42, 49, 50, 51, 52, 53, 54, 25, 26, 27, 55, 56, 57, 58, 59, 60, 61, 62, 63, 64, 65, 66, 6, 7, 9, 67, 68, 69, 22, 23, 24] (by decide +kernel) (by decide +kernel)
set_option maxRecDepth 20000 in
theorem gX7_simulate_X7_hourOn : GoodIn wsX7_simulate (va_wsS RX7 190 yX7_hourOn wsX7_hourOn) := goodIn_app (goodIn_of _ (by decide +kernel)) ggX7_simulate_X7_hourOn
set_option maxRecDepth 20000 in
theorem ggX7_simulate_X7_less : GoodIn wsX7_simulate wsX7_less := goodIn_r _ [27] (by decide +kernel) (by decide +kernel)
set_option maxRecDepth 20000 in
theorem gX7_simulate_X7_less : GoodIn wsX7_simulate (va_wsS RX7 52 yX7_less wsX7_less) := goodIn_app (goodIn_of _ (by decide +kernel)) ggX7_simulate_X7_less
theorem dX7_simulate_0 : decode cX7_simulate 0 = .ok (.aload_n 0, 1) := by decide +kernel
theorem dX7_simulate_1 : decode cX7_simulate 1 = .ok (.iload_n 3, 1) := by decide +kernel
theorem dX7_simulate_2 : decode cX7_simulate 2 = .ok (.i2l, 1) := by decide +kernel
theorem dX7_simulate_3 : decode cX7_simulate 3 = .ok (.lconst 1, 1) := by decide +kernel
theorem dX7_simulate_4 : decode cX7_simulate 4 = .ok (.ldc2_w 169, 3) := by decide +kernel
theorem dX7_simulate_7 : decode cX7_simulate 7 = .ok (.invokestatic 44, 3) := by decide +kernel
theorem dX7_simulate_10 : decode cX7_simulate 10 = .ok (.ifCond .eq 7, 3) := by decide +kernel
theorem dX7_simulate_13 : decode cX7_simulate 13 = .ok (.iconst 0, 1) := by decide +kernel
theorem dX7_simulate_14 : decode cX7_simulate 14 = .ok (.goto 4, 3) := by decide +kernel
theorem dX7_simulate_17 : decode cX7_simulate 17 = .ok (.iconst 1, 1) := by decide +kernel
theorem dX7_simulate_18 : decode cX7_simulate 18 = .ok (.invokevirtual 95, 3) := by decide +kernel
theorem dX7_simulate_21 : decode cX7_simulate 21 = .ok (.ifCond .eq 5, 3) := by decide +kernel
theorem dX7_simulate_24 : decode cX7_simulate 24 = .ok (.iconst 0, 1) := by decide +kernel
theorem dX7_simulate_25 : decode cX7_simulate 25 = .ok (.ireturn, 1) := by decide +kernel
theorem dX7_simulate_26 : decode cX7_simulate 26 = .ok (.aload_n 0, 1) := by decide +kernel
theorem dX7_simulate_27 : decode cX7_simulate 27 = .ok (.getfield 16, 3) := by decide +kernel
theorem dX7_simulate_30 : decode cX7_simulate 30 = .ok (.iconst 0, 1) := by decide +kernel
theorem dX7_simulate_31 : decode cX7_simulate 31 = .ok (.aload_n 0, 1) := by decide +kernel
theorem dX7_simulate_32 : decode cX7_simulate 32 = .ok (.getfield 19, 3) := by decide +kernel
theorem dX7_simulate_35 : decode cX7_simulate 35 = .ok (.iconst 0, 1) := by decide +kernel
theorem dX7_simulate_36 : decode cX7_simulate 36 = .ok (.invokestatic 139, 3) := by decide +kernel
theorem dX7_simulate_39 : decode cX7_simulate 39 = .ok (.lload_n 1, 1) := by decide +kernel
theorem dX7_simulate_40 : decode cX7_simulate 40 = .ok (.lstore 4, 2) := by decide +kernel
theorem dX7_simulate_42 : decode cX7_simulate 42 = .ok (.iconst 0, 1) := by decide +kernel
theorem dX7_simulate_43 : decode cX7_simulate 43 = .ok (.istore 6, 2) := by decide +kernel
theorem dX7_simulate_45 : decode cX7_simulate 45 = .ok (.iload 6, 2) := by decide +kernel
theorem dX7_simulate_47 : decode cX7_simulate 47 = .ok (.iload_n 3, 1) := by decide +kernel
theorem dX7_simulate_48 : decode cX7_simulate 48 = .ok (.if_icmp .ge 38, 3) := by decide +kernel
theorem dX7_simulate_51 : decode cX7_simulate 51 = .ok (.lload 4, 2) := by decide +kernel
theorem dX7_simulate_53 : decode cX7_simulate 53 = .ok (.ldc2_w 211, 3) := by decide +kernel
theorem dX7_simulate_56 : decode cX7_simulate 56 = .ok (.lmul, 1) := by decide +kernel
theorem dX7_simulate_57 : decode cX7_simulate 57 = .ok (.ldc2_w 213, 3) := by decide +kernel
theorem dX7_simulate_60 : decode cX7_simulate 60 = .ok (.ladd, 1) := by decide +kernel
theorem dX7_simulate_61 : decode cX7_simulate 61 = .ok (.lstore 4, 2) := by decide +kernel
theorem dX7_simulate_63 : decode cX7_simulate 63 = .ok (.aload_n 0, 1) := by decide +kernel
theorem dX7_simulate_64 : decode cX7_simulate 64 = .ok (.lload 4, 2) := by decide +kernel
theorem dX7_simulate_66 : decode cX7_simulate 66 = .ok (.bipush 33, 2) := by decide +kernel
theorem dX7_simulate_68 : decode cX7_simulate 68 = .ok (.lushr, 1) := by decide +kernel
theorem dX7_simulate_69 : decode cX7_simulate 69 = .ok (.l2i, 1) := by decide +kernel
theorem dX7_simulate_70 : decode cX7_simulate 70 = .ok (.invokevirtual 215, 3) := by decide +kernel
theorem dX7_simulate_73 : decode cX7_simulate 73 = .ok (.aload_n 0, 1) := by decide +kernel
theorem dX7_simulate_74 : decode cX7_simulate 74 = .ok (.getfield 19, 3) := by decide +kernel
theorem dX7_simulate_77 : decode cX7_simulate 77 = .ok (.invokestatic 190, 3) := by decide +kernel
theorem dX7_simulate_80 : decode cX7_simulate 80 = .ok (.iinc 6 1, 3) := by decide +kernel
theorem dX7_simulate_83 : decode cX7_simulate 83 = .ok (.goto (-38), 3) := by decide +kernel
theorem dX7_simulate_86 : decode cX7_simulate 86 = .ok (.aload_n 0, 1) := by decide +kernel
theorem dX7_simulate_87 : decode cX7_simulate 87 = .ok (.getfield 16, 3) := by decide +kernel
theorem dX7_simulate_90 : decode cX7_simulate 90 = .ok (.iconst 1, 1) := by decide +kernel
theorem dX7_simulate_91 : decode cX7_simulate 91 = .ok (.iaload, 1) := by decide +kernel
theorem dX7_simulate_92 : decode cX7_simulate 92 = .ok (.ifCond .ne 7, 3) := by decide +kernel
theorem dX7_simulate_95 : decode cX7_simulate 95 = .ok (.iconst 0, 1) := by decide +kernel
theorem dX7_simulate_96 : decode cX7_simulate 96 = .ok (.goto 18, 3) := by decide +kernel
theorem dX7_simulate_99 : decode cX7_simulate 99 = .ok (.aload_n 0, 1) := by decide +kernel
theorem dX7_simulate_100 : decode cX7_simulate 100 = .ok (.getfield 19, 3) := by decide +kernel
theorem dX7_simulate_103 : decode cX7_simulate 103 = .ok (.bipush 84, 2) := by decide +kernel
theorem dX7_simulate_105 : decode cX7_simulate 105 = .ok (.iaload, 1) := by decide +kernel
theorem dX7_simulate_106 : decode cX7_simulate 106 = .ok (.aload_n 0, 1) := by decide +kernel
theorem dX7_simulate_107 : decode cX7_simulate 107 = .ok (.getfield 16, 3) := by decide +kernel
theorem dX7_simulate_110 : decode cX7_simulate 110 = .ok (.bipush 84, 2) := by decide +kernel
theorem dX7_simulate_112 : decode cX7_simulate 112 = .ok (.iaload, 1) := by decide +kernel
theorem dX7_simulate_113 : decode cX7_simulate 113 = .ok (.isub, 1) := by decide +kernel
theorem dX7_simulate_114 : decode cX7_simulate 114 = .ok (.istore 6, 2) := by decide +kernel
theorem dX7_simulate_116 : decode cX7_simulate 116 = .ok (.sipush 10000, 3) := by decide +kernel
theorem dX7_simulate_119 : decode cX7_simulate 119 = .ok (.aload_n 0, 1) := by decide +kernel
theorem dX7_simulate_120 : decode cX7_simulate 120 = .ok (.getfield 19, 3) := by decide +kernel
theorem dX7_simulate_123 : decode cX7_simulate 123 = .ok (.bipush 10, 2) := by decide +kernel
theorem dX7_simulate_125 : decode cX7_simulate 125 = .ok (.iaload, 1) := by decide +kernel
theorem dX7_simulate_126 : decode cX7_simulate 126 = .ok (.aload_n 0, 1) := by decide +kernel
theorem dX7_simulate_127 : decode cX7_simulate 127 = .ok (.getfield 16, 3) := by decide +kernel
theorem dX7_simulate_130 : decode cX7_simulate 130 = .ok (.bipush 10, 2) := by decide +kernel
theorem dX7_simulate_132 : decode cX7_simulate 132 = .ok (.iaload, 1) := by decide +kernel
theorem dX7_simulate_133 : decode cX7_simulate 133 = .ok (.isub, 1) := by decide +kernel
theorem dX7_simulate_134 : decode cX7_simulate 134 = .ok (.imul, 1) := by decide +kernel
theorem dX7_simulate_135 : decode cX7_simulate 135 = .ok (.iload 6, 2) := by decide +kernel
theorem dX7_simulate_137 : decode cX7_simulate 137 = .ok (.sipush 9999, 3) := by decide +kernel
theorem dX7_simulate_140 : decode cX7_simulate 140 = .ok (.invokestatic 52, 3) := by decide +kernel
theorem dX7_simulate_143 : decode cX7_simulate 143 = .ok (.iadd, 1) := by decide +kernel
theorem dX7_simulate_144 : decode cX7_simulate 144 = .ok (.ireturn, 1) := by decide +kernel
set_option maxRecDepth 20000 in
theorem ggX7_save_X7_in : GoodIn wsX7_save wsX7_in := goodIn_r _ [7] (by decide +kernel) (by decide +kernel)
set_option maxRecDepth 20000 in
theorem gX7_save_X7_in : GoodIn wsX7_save (va_wsS RX7 44 yX7_in wsX7_in) := goodIn_app (goodIn_of _ (by decide +kernel)) ggX7_save_X7_in
set_option maxRecDepth 20000 in
theorem ggX7_save_X7_refused : GoodIn wsX7_save wsX7_refused := goodIn_r _ [11, 12, 16, 17, 18, 19, 20, 21, 22, 23, 24, 25, 26] (by decide +kernel) (by decide +kernel)
set_option maxRecDepth 20000 in
theorem gX7_save_X7_refused : GoodIn wsX7_save (wsV RX7 95 RX7 yX7_refused wsX7_refused) := goodIn_app (goodIn_of _ (by decide +kernel)) ggX7_save_X7_refused
set_option maxRecDepth 20000 in
theorem ggX7_save_X7_copyPage : GoodIn wsX7_save wsX7_copyPage := goodIn_r _ [15] (by decide +kernel) (by decide +kernel)
set_option maxRecDepth 20000 in
theorem gX7_save_X7_copyPage : GoodIn wsX7_save (va_wsS RX7 139 yX7_copyPage wsX7_copyPage) := goodIn_app (goodIn_of _ (by decide +kernel)) ggX7_save_X7_copyPage
theorem dX7_save_0 : decode cX7_save 0 = .ok (.aload_n 0, 1) := by decide +kernel
theorem dX7_save_1 : decode cX7_save 1 = .ok (.iload_n 1, 1) := by decide +kernel
theorem dX7_save_2 : decode cX7_save 2 = .ok (.i2l, 1) := by decide +kernel
theorem dX7_save_3 : decode cX7_save 3 = .ok (.lconst 0, 1) := by decide +kernel
theorem dX7_save_4 : decode cX7_save 4 = .ok (.lconst 1, 1) := by decide +kernel
theorem dX7_save_5 : decode cX7_save 5 = .ok (.invokestatic 44, 3) := by decide +kernel
theorem dX7_save_8 : decode cX7_save 8 = .ok (.ifCond .eq 7, 3) := by decide +kernel
theorem dX7_save_11 : decode cX7_save 11 = .ok (.iconst 0, 1) := by decide +kernel
theorem dX7_save_12 : decode cX7_save 12 = .ok (.goto 4, 3) := by decide +kernel
theorem dX7_save_15 : decode cX7_save 15 = .ok (.iconst 1, 1) := by decide +kernel
theorem dX7_save_16 : decode cX7_save 16 = .ok (.invokevirtual 95, 3) := by decide +kernel
theorem dX7_save_19 : decode cX7_save 19 = .ok (.ifCond .eq 5, 3) := by decide +kernel
theorem dX7_save_22 : decode cX7_save 22 = .ok (.iconst 0, 1) := by decide +kernel
theorem dX7_save_23 : decode cX7_save 23 = .ok (.ireturn, 1) := by decide +kernel
theorem dX7_save_24 : decode cX7_save 24 = .ok (.aload_n 0, 1) := by decide +kernel
theorem dX7_save_25 : decode cX7_save 25 = .ok (.getfield 28, 3) := by decide +kernel
theorem dX7_save_28 : decode cX7_save 28 = .ok (.iload_n 1, 1) := by decide +kernel
theorem dX7_save_29 : decode cX7_save 29 = .ok (.iconst 1, 1) := by decide +kernel
theorem dX7_save_30 : decode cX7_save 30 = .ok (.bastore, 1) := by decide +kernel
theorem dX7_save_31 : decode cX7_save 31 = .ok (.aload_n 0, 1) := by decide +kernel
theorem dX7_save_32 : decode cX7_save 32 = .ok (.getfield 16, 3) := by decide +kernel
theorem dX7_save_35 : decode cX7_save 35 = .ok (.iconst 0, 1) := by decide +kernel
theorem dX7_save_36 : decode cX7_save 36 = .ok (.aload_n 0, 1) := by decide +kernel
theorem dX7_save_37 : decode cX7_save 37 = .ok (.getfield 25, 3) := by decide +kernel
theorem dX7_save_40 : decode cX7_save 40 = .ok (.sipush 131, 3) := by decide +kernel
theorem dX7_save_43 : decode cX7_save 43 = .ok (.iload_n 1, 1) := by decide +kernel
theorem dX7_save_44 : decode cX7_save 44 = .ok (.imul, 1) := by decide +kernel
theorem dX7_save_45 : decode cX7_save 45 = .ok (.invokestatic 139, 3) := by decide +kernel
theorem dX7_save_48 : decode cX7_save 48 = .ok (.bipush 10, 2) := by decide +kernel
theorem dX7_save_50 : decode cX7_save 50 = .ok (.aload_n 0, 1) := by decide +kernel
theorem dX7_save_51 : decode cX7_save 51 = .ok (.getfield 16, 3) := by decide +kernel
theorem dX7_save_54 : decode cX7_save 54 = .ok (.iconst 3, 1) := by decide +kernel
theorem dX7_save_55 : decode cX7_save 55 = .ok (.iaload, 1) := by decide +kernel
theorem dX7_save_56 : decode cX7_save 56 = .ok (.imul, 1) := by decide +kernel
theorem dX7_save_57 : decode cX7_save 57 = .ok (.aload_n 0, 1) := by decide +kernel
theorem dX7_save_58 : decode cX7_save 58 = .ok (.getfield 16, 3) := by decide +kernel
theorem dX7_save_61 : decode cX7_save 61 = .ok (.iconst 4, 1) := by decide +kernel
theorem dX7_save_62 : decode cX7_save 62 = .ok (.iaload, 1) := by decide +kernel
theorem dX7_save_63 : decode cX7_save 63 = .ok (.iadd, 1) := by decide +kernel
theorem dX7_save_64 : decode cX7_save 64 = .ok (.ireturn, 1) := by decide +kernel
set_option maxRecDepth 20000 in
theorem ggX7_restore_X7_in : GoodIn wsX7_restore wsX7_in := goodIn_r _ [8] (by decide +kernel) (by decide +kernel)
set_option maxRecDepth 20000 in
theorem gX7_restore_X7_in : GoodIn wsX7_restore (va_wsS RX7 44 yX7_in wsX7_in) := goodIn_app (goodIn_of _ (by decide +kernel)) ggX7_restore_X7_in
set_option maxRecDepth 20000 in
theorem ggX7_restore_X7_refused : GoodIn wsX7_restore wsX7_refused := goodIn_r _ [12, 13, 17, 18, 19, 20, 21, 22, 23, 24, 25, 26, 27] (by decide +kernel) (by decide +kernel)
set_option maxRecDepth 20000 in
theorem gX7_restore_X7_refused : GoodIn wsX7_restore (wsV RX7 95 RX7 yX7_refused wsX7_refused) := goodIn_app (goodIn_of _ (by decide +kernel)) ggX7_restore_X7_refused
set_option maxRecDepth 20000 in
theorem ggX7_restore_X7_copyPage : GoodIn wsX7_restore wsX7_copyPage := goodIn_r _ [16] (by decide +kernel) (by decide +kernel)
set_option maxRecDepth 20000 in
theorem gX7_restore_X7_copyPage : GoodIn wsX7_restore (va_wsS RX7 139 yX7_copyPage wsX7_copyPage) := goodIn_app (goodIn_of _ (by decide +kernel)) ggX7_restore_X7_copyPage
theorem dX7_restore_0 : decode cX7_restore 0 = .ok (.aload_n 0, 1) := by decide +kernel
theorem dX7_restore_1 : decode cX7_restore 1 = .ok (.iload_n 1, 1) := by decide +kernel
theorem dX7_restore_2 : decode cX7_restore 2 = .ok (.i2l, 1) := by decide +kernel
theorem dX7_restore_3 : decode cX7_restore 3 = .ok (.lconst 0, 1) := by decide +kernel
theorem dX7_restore_4 : decode cX7_restore 4 = .ok (.lconst 1, 1) := by decide +kernel
theorem dX7_restore_5 : decode cX7_restore 5 = .ok (.invokestatic 44, 3) := by decide +kernel
theorem dX7_restore_8 : decode cX7_restore 8 = .ok (.ifCond .ne 7, 3) := by decide +kernel
theorem dX7_restore_11 : decode cX7_restore 11 = .ok (.iconst 1, 1) := by decide +kernel
theorem dX7_restore_12 : decode cX7_restore 12 = .ok (.goto 17, 3) := by decide +kernel
theorem dX7_restore_15 : decode cX7_restore 15 = .ok (.aload_n 0, 1) := by decide +kernel
theorem dX7_restore_16 : decode cX7_restore 16 = .ok (.getfield 28, 3) := by decide +kernel
theorem dX7_restore_19 : decode cX7_restore 19 = .ok (.iload_n 1, 1) := by decide +kernel
theorem dX7_restore_20 : decode cX7_restore 20 = .ok (.baload, 1) := by decide +kernel
theorem dX7_restore_21 : decode cX7_restore 21 = .ok (.ifCond .ne 7, 3) := by decide +kernel
theorem dX7_restore_24 : decode cX7_restore 24 = .ok (.iconst 2, 1) := by decide +kernel
theorem dX7_restore_25 : decode cX7_restore 25 = .ok (.goto 4, 3) := by decide +kernel
theorem dX7_restore_28 : decode cX7_restore 28 = .ok (.iconst 0, 1) := by decide +kernel
theorem dX7_restore_29 : decode cX7_restore 29 = .ok (.invokevirtual 95, 3) := by decide +kernel
theorem dX7_restore_32 : decode cX7_restore 32 = .ok (.ifCond .eq 5, 3) := by decide +kernel
theorem dX7_restore_35 : decode cX7_restore 35 = .ok (.iconst 0, 1) := by decide +kernel
theorem dX7_restore_36 : decode cX7_restore 36 = .ok (.ireturn, 1) := by decide +kernel
theorem dX7_restore_37 : decode cX7_restore 37 = .ok (.aload_n 0, 1) := by decide +kernel
theorem dX7_restore_38 : decode cX7_restore 38 = .ok (.getfield 25, 3) := by decide +kernel
theorem dX7_restore_41 : decode cX7_restore 41 = .ok (.sipush 131, 3) := by decide +kernel
theorem dX7_restore_44 : decode cX7_restore 44 = .ok (.iload_n 1, 1) := by decide +kernel
theorem dX7_restore_45 : decode cX7_restore 45 = .ok (.imul, 1) := by decide +kernel
theorem dX7_restore_46 : decode cX7_restore 46 = .ok (.aload_n 0, 1) := by decide +kernel
theorem dX7_restore_47 : decode cX7_restore 47 = .ok (.getfield 16, 3) := by decide +kernel
theorem dX7_restore_50 : decode cX7_restore 50 = .ok (.iconst 0, 1) := by decide +kernel
theorem dX7_restore_51 : decode cX7_restore 51 = .ok (.invokestatic 139, 3) := by decide +kernel
theorem dX7_restore_54 : decode cX7_restore 54 = .ok (.aload_n 0, 1) := by decide +kernel
theorem dX7_restore_55 : decode cX7_restore 55 = .ok (.iconst 0, 1) := by decide +kernel
theorem dX7_restore_56 : decode cX7_restore 56 = .ok (.putfield 143, 3) := by decide +kernel
theorem dX7_restore_59 : decode cX7_restore 59 = .ok (.bipush 10, 2) := by decide +kernel
theorem dX7_restore_61 : decode cX7_restore 61 = .ok (.aload_n 0, 1) := by decide +kernel
theorem dX7_restore_62 : decode cX7_restore 62 = .ok (.getfield 16, 3) := by decide +kernel
theorem dX7_restore_65 : decode cX7_restore 65 = .ok (.iconst 3, 1) := by decide +kernel
theorem dX7_restore_66 : decode cX7_restore 66 = .ok (.iaload, 1) := by decide +kernel
theorem dX7_restore_67 : decode cX7_restore 67 = .ok (.imul, 1) := by decide +kernel
theorem dX7_restore_68 : decode cX7_restore 68 = .ok (.aload_n 0, 1) := by decide +kernel
theorem dX7_restore_69 : decode cX7_restore 69 = .ok (.getfield 16, 3) := by decide +kernel
theorem dX7_restore_72 : decode cX7_restore 72 = .ok (.iconst 4, 1) := by decide +kernel
theorem dX7_restore_73 : decode cX7_restore 73 = .ok (.iaload, 1) := by decide +kernel
theorem dX7_restore_74 : decode cX7_restore 74 = .ok (.iadd, 1) := by decide +kernel
theorem dX7_restore_75 : decode cX7_restore 75 = .ok (.ireturn, 1) := by decide +kernel
theorem dJ9_abs_0f7a4_0 : decode cJ9_abs_0f7a4 0 = .ok (.iload_n 0, 1) := by decide +kernel
theorem dJ9_abs_0f7a4_1 : decode cJ9_abs_0f7a4 1 = .ok (.ifCond .ge 8, 3) := by decide +kernel
theorem dJ9_abs_0f7a4_4 : decode cJ9_abs_0f7a4 4 = .ok (.iload_n 0, 1) := by decide +kernel
theorem dJ9_abs_0f7a4_5 : decode cJ9_abs_0f7a4 5 = .ok (.ineg, 1) := by decide +kernel
theorem dJ9_abs_0f7a4_6 : decode cJ9_abs_0f7a4 6 = .ok (.goto 4, 3) := by decide +kernel
theorem dJ9_abs_0f7a4_9 : decode cJ9_abs_0f7a4 9 = .ok (.iload_n 0, 1) := by decide +kernel
theorem dJ9_abs_0f7a4_10 : decode cJ9_abs_0f7a4 10 = .ok (.ireturn, 1) := by decide +kernel
theorem dJ9_max_7cf53_0 : decode cJ9_max_7cf53 0 = .ok (.iload_n 0, 1) := by decide +kernel
theorem dJ9_max_7cf53_1 : decode cJ9_max_7cf53 1 = .ok (.iload_n 1, 1) := by decide +kernel
theorem dJ9_max_7cf53_2 : decode cJ9_max_7cf53 2 = .ok (.if_icmp .lt 7, 3) := by decide +kernel
theorem dJ9_max_7cf53_5 : decode cJ9_max_7cf53 5 = .ok (.iload_n 0, 1) := by decide +kernel
theorem dJ9_max_7cf53_6 : decode cJ9_max_7cf53 6 = .ok (.goto 4, 3) := by decide +kernel
theorem dJ9_max_7cf53_9 : decode cJ9_max_7cf53 9 = .ok (.iload_n 1, 1) := by decide +kernel
theorem dJ9_max_7cf53_10 : decode cJ9_max_7cf53 10 = .ok (.ireturn, 1) := by decide +kernel
theorem dJ9_min_7cf53_0 : decode cJ9_min_7cf53 0 = .ok (.iload_n 0, 1) := by decide +kernel
theorem dJ9_min_7cf53_1 : decode cJ9_min_7cf53 1 = .ok (.iload_n 1, 1) := by decide +kernel
theorem dJ9_min_7cf53_2 : decode cJ9_min_7cf53 2 = .ok (.if_icmp .gt 7, 3) := by decide +kernel
theorem dJ9_min_7cf53_5 : decode cJ9_min_7cf53 5 = .ok (.iload_n 0, 1) := by decide +kernel
theorem dJ9_min_7cf53_6 : decode cJ9_min_7cf53 6 = .ok (.goto 4, 3) := by decide +kernel
theorem dJ9_min_7cf53_9 : decode cJ9_min_7cf53 9 = .ok (.iload_n 1, 1) := by decide +kernel
theorem dJ9_min_7cf53_10 : decode cJ9_min_7cf53 10 = .ok (.ireturn, 1) := by decide +kernel
