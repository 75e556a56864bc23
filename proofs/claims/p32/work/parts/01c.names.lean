set_option maxRecDepth 20000 in
theorem ggX0_init_X2_init : GoodIn wsX0_init wsX2_init := goodIn_r _ [10, 11, 2, 3, 12, 13, 14, 15, 16, 17, 18, 19, 20, 21, 22, 23, 24, 25, 26, 27, 28, 29, 30, 31, 32, 33, 34, 35, 7, 36, 37, 38, 39, 40, 41, 42, 43, 44, 45, 46, 47, 48, 49, 50, 51, 52, 53, 54, 55, 56, 57, 58, 59, 60, 61, 62, 63, 64, 67, 68, 69, 70, 71, 72, 73, 74, 75, 76, 77, 78, 79, 80, 81, 82, 83, 84, 85, 86, 87, 88, 89, 90, 91, 92, 93, 94, 95, 96] (by decide +kernel) (by decide +kernel)
set_option maxRecDepth 20000 in
theorem gX0_init_X2_init : GoodIn wsX0_init (wsX2_init) := ggX0_init_X2_init
theorem dX0_init_0 : decode cX0_init 0 = .ok (.aload_n 0, 1) := by decide +kernel
theorem dX0_init_1 : decode cX0_init 1 = .ok (.invokespecial 3, 3) := by decide +kernel
theorem dX0_init_4 : decode cX0_init 4 = .ok (.aload_n 0, 1) := by decide +kernel
theorem dX0_init_5 : decode cX0_init 5 = .ok (.bipush 15, 2) := by decide +kernel
theorem dX0_init_7 : decode cX0_init 7 = .ok (.anewarray 9, 3) := by decide +kernel
theorem dX0_init_10 : decode cX0_init 10 = .ok (.putfield 11, 3) := by decide +kernel
theorem dX0_init_13 : decode cX0_init 13 = .ok (.iconst 0, 1) := by decide +kernel
theorem dX0_init_14 : decode cX0_init 14 = .ok (.istore_n 1, 1) := by decide +kernel
theorem dX0_init_15 : decode cX0_init 15 = .ok (.iload_n 1, 1) := by decide +kernel
theorem dX0_init_16 : decode cX0_init 16 = .ok (.bipush 14, 2) := by decide +kernel
theorem dX0_init_18 : decode cX0_init 18 = .ok (.if_icmp .gt 22, 3) := by decide +kernel
theorem dX0_init_21 : decode cX0_init 21 = .ok (.aload_n 0, 1) := by decide +kernel
theorem dX0_init_22 : decode cX0_init 22 = .ok (.getfield 11, 3) := by decide +kernel
theorem dX0_init_25 : decode cX0_init 25 = .ok (.iload_n 1, 1) := by decide +kernel
theorem dX0_init_26 : decode cX0_init 26 = .ok (.new 9, 3) := by decide +kernel
theorem dX0_init_29 : decode cX0_init 29 = .ok (.dup, 1) := by decide +kernel
theorem dX0_init_30 : decode cX0_init 30 = .ok (.invokespecial 17, 3) := by decide +kernel
theorem dX0_init_33 : decode cX0_init 33 = .ok (.aastore, 1) := by decide +kernel
theorem dX0_init_34 : decode cX0_init 34 = .ok (.iinc 1 1, 3) := by decide +kernel
theorem dX0_init_37 : decode cX0_init 37 = .ok (.goto (-22), 3) := by decide +kernel
theorem dX0_init_40 : decode cX0_init 40 = .ok (.return_, 1) := by decide +kernel
theorem dX0_forgetAll_0 : decode cX0_forgetAll 0 = .ok (.aload_n 0, 1) := by decide +kernel
theorem dX0_forgetAll_1 : decode cX0_forgetAll 1 = .ok (.iconst 0, 1) := by decide +kernel
theorem dX0_forgetAll_2 : decode cX0_forgetAll 2 = .ok (.putfield 18, 3) := by decide +kernel
theorem dX0_forgetAll_5 : decode cX0_forgetAll 5 = .ok (.return_, 1) := by decide +kernel
set_option maxRecDepth 20000 in
theorem ggX0_draft_X2_copyFrom : GoodIn wsX0_draft wsX2_copyFrom := goodIn_r _ [7, 8, 9, 10, 11, 12, 13, 14, 15, 16, 17, 18, 19, 20, 21, 22, 23, 24, 25, 26, 27, 28, 29, 30, 31, 32, 33, 34, 35, 36, 37, 38, 39, 40, 41, 42, 43, 44, 45, 46, 47, 48, 49, 50, 51, 52, 55, 56, 57, 58, 59, 60, 61, 62, 63, 64, 65, 66, 67, 68, 69, 70, 71, 72, 73, 74, 75, 76, 77, 78, 79, 80, 81, 82, 83, 84] (by decide +kernel) (by decide +kernel)
set_option maxRecDepth 20000 in
theorem gX0_draft_X2_copyFrom : GoodIn wsX0_draft (wsV RX0 22 RX2 yX2_copyFrom wsX2_copyFrom) := goodIn_app (goodIn_of _ (by decide +kernel)) ggX0_draft_X2_copyFrom
theorem dX0_draft_0 : decode cX0_draft 0 = .ok (.aload_n 0, 1) := by decide +kernel
theorem dX0_draft_1 : decode cX0_draft 1 = .ok (.getfield 18, 3) := by decide +kernel
theorem dX0_draft_4 : decode cX0_draft 4 = .ok (.ifCond .lt 25, 3) := by decide +kernel
theorem dX0_draft_7 : decode cX0_draft 7 = .ok (.aload_n 0, 1) := by decide +kernel
theorem dX0_draft_8 : decode cX0_draft 8 = .ok (.getfield 18, 3) := by decide +kernel
theorem dX0_draft_11 : decode cX0_draft 11 = .ok (.bipush 14, 2) := by decide +kernel
theorem dX0_draft_13 : decode cX0_draft 13 = .ok (.if_icmp .gt 16, 3) := by decide +kernel
theorem dX0_draft_16 : decode cX0_draft 16 = .ok (.aload_n 0, 1) := by decide +kernel
theorem dX0_draft_17 : decode cX0_draft 17 = .ok (.getfield 11, 3) := by decide +kernel
theorem dX0_draft_20 : decode cX0_draft 20 = .ok (.aload_n 0, 1) := by decide +kernel
theorem dX0_draft_21 : decode cX0_draft 21 = .ok (.getfield 18, 3) := by decide +kernel
theorem dX0_draft_24 : decode cX0_draft 24 = .ok (.aaload, 1) := by decide +kernel
theorem dX0_draft_25 : decode cX0_draft 25 = .ok (.aload_n 1, 1) := by decide +kernel
theorem dX0_draft_26 : decode cX0_draft 26 = .ok (.invokevirtual 22, 3) := by decide +kernel
theorem dX0_draft_29 : decode cX0_draft 29 = .ok (.return_, 1) := by decide +kernel
set_option maxRecDepth 20000 in
theorem ggX0_keepDraft_X0_forgetOldest : GoodIn wsX0_keepDraft wsX0_forgetOldest := goodIn_r _ [6, 7, 1, 8, 9] (by decide +kernel) (by decide +kernel)
set_option maxRecDepth 20000 in
theorem gX0_keepDraft_X0_forgetOldest : GoodIn wsX0_keepDraft (wsV RX0 26 RX0 yX0_forgetOldest wsX0_forgetOldest) := goodIn_app (goodIn_of _ (by decide +kernel)) ggX0_keepDraft_X0_forgetOldest
theorem dX0_keepDraft_0 : decode cX0_keepDraft 0 = .ok (.aload_n 0, 1) := by decide +kernel
theorem dX0_keepDraft_1 : decode cX0_keepDraft 1 = .ok (.dup, 1) := by decide +kernel
theorem dX0_keepDraft_2 : decode cX0_keepDraft 2 = .ok (.getfield 18, 3) := by decide +kernel
theorem dX0_keepDraft_5 : decode cX0_keepDraft 5 = .ok (.iconst 1, 1) := by decide +kernel
theorem dX0_keepDraft_6 : decode cX0_keepDraft 6 = .ok (.iadd, 1) := by decide +kernel
theorem dX0_keepDraft_7 : decode cX0_keepDraft 7 = .ok (.putfield 18, 3) := by decide +kernel
theorem dX0_keepDraft_10 : decode cX0_keepDraft 10 = .ok (.aload_n 0, 1) := by decide +kernel
theorem dX0_keepDraft_11 : decode cX0_keepDraft 11 = .ok (.getfield 18, 3) := by decide +kernel
theorem dX0_keepDraft_14 : decode cX0_keepDraft 14 = .ok (.bipush 14, 2) := by decide +kernel
theorem dX0_keepDraft_16 : decode cX0_keepDraft 16 = .ok (.if_icmp .le 7, 3) := by decide +kernel
theorem dX0_keepDraft_19 : decode cX0_keepDraft 19 = .ok (.aload_n 0, 1) := by decide +kernel
theorem dX0_keepDraft_20 : decode cX0_keepDraft 20 = .ok (.invokevirtual 26, 3) := by decide +kernel
theorem dX0_keepDraft_23 : decode cX0_keepDraft 23 = .ok (.return_, 1) := by decide +kernel
theorem dX0_forgetOldest_0 : decode cX0_forgetOldest 0 = .ok (.aload_n 0, 1) := by decide +kernel
theorem dX0_forgetOldest_1 : decode cX0_forgetOldest 1 = .ok (.getfield 11, 3) := by decide +kernel
theorem dX0_forgetOldest_4 : decode cX0_forgetOldest 4 = .ok (.iconst 0, 1) := by decide +kernel
theorem dX0_forgetOldest_5 : decode cX0_forgetOldest 5 = .ok (.aaload, 1) := by decide +kernel
theorem dX0_forgetOldest_6 : decode cX0_forgetOldest 6 = .ok (.astore_n 1, 1) := by decide +kernel
theorem dX0_forgetOldest_7 : decode cX0_forgetOldest 7 = .ok (.iconst 0, 1) := by decide +kernel
theorem dX0_forgetOldest_8 : decode cX0_forgetOldest 8 = .ok (.istore_n 2, 1) := by decide +kernel
theorem dX0_forgetOldest_9 : decode cX0_forgetOldest 9 = .ok (.iload_n 2, 1) := by decide +kernel
theorem dX0_forgetOldest_10 : decode cX0_forgetOldest 10 = .ok (.bipush 14, 2) := by decide +kernel
theorem dX0_forgetOldest_12 : decode cX0_forgetOldest 12 = .ok (.if_icmp .ge 23, 3) := by decide +kernel
theorem dX0_forgetOldest_15 : decode cX0_forgetOldest 15 = .ok (.aload_n 0, 1) := by decide +kernel
theorem dX0_forgetOldest_16 : decode cX0_forgetOldest 16 = .ok (.getfield 11, 3) := by decide +kernel
theorem dX0_forgetOldest_19 : decode cX0_forgetOldest 19 = .ok (.iload_n 2, 1) := by decide +kernel
theorem dX0_forgetOldest_20 : decode cX0_forgetOldest 20 = .ok (.aload_n 0, 1) := by decide +kernel
theorem dX0_forgetOldest_21 : decode cX0_forgetOldest 21 = .ok (.getfield 11, 3) := by decide +kernel
theorem dX0_forgetOldest_24 : decode cX0_forgetOldest 24 = .ok (.iload_n 2, 1) := by decide +kernel
theorem dX0_forgetOldest_25 : decode cX0_forgetOldest 25 = .ok (.iconst 1, 1) := by decide +kernel
theorem dX0_forgetOldest_26 : decode cX0_forgetOldest 26 = .ok (.iadd, 1) := by decide +kernel
theorem dX0_forgetOldest_27 : decode cX0_forgetOldest 27 = .ok (.aaload, 1) := by decide +kernel
theorem dX0_forgetOldest_28 : decode cX0_forgetOldest 28 = .ok (.aastore, 1) := by decide +kernel
theorem dX0_forgetOldest_29 : decode cX0_forgetOldest 29 = .ok (.iinc 2 1, 3) := by decide +kernel
theorem dX0_forgetOldest_32 : decode cX0_forgetOldest 32 = .ok (.goto (-23), 3) := by decide +kernel
theorem dX0_forgetOldest_35 : decode cX0_forgetOldest 35 = .ok (.aload_n 0, 1) := by decide +kernel
theorem dX0_forgetOldest_36 : decode cX0_forgetOldest 36 = .ok (.getfield 11, 3) := by decide +kernel
theorem dX0_forgetOldest_39 : decode cX0_forgetOldest 39 = .ok (.bipush 14, 2) := by decide +kernel
theorem dX0_forgetOldest_41 : decode cX0_forgetOldest 41 = .ok (.aload_n 1, 1) := by decide +kernel
theorem dX0_forgetOldest_42 : decode cX0_forgetOldest 42 = .ok (.aastore, 1) := by decide +kernel
theorem dX0_forgetOldest_43 : decode cX0_forgetOldest 43 = .ok (.aload_n 0, 1) := by decide +kernel
theorem dX0_forgetOldest_44 : decode cX0_forgetOldest 44 = .ok (.bipush 14, 2) := by decide +kernel
theorem dX0_forgetOldest_46 : decode cX0_forgetOldest 46 = .ok (.putfield 18, 3) := by decide +kernel
theorem dX0_forgetOldest_49 : decode cX0_forgetOldest 49 = .ok (.return_, 1) := by decide +kernel
set_option maxRecDepth 20000 in
theorem ggX0_takeBack_X2_copyFrom : GoodIn wsX0_takeBack wsX2_copyFrom := goodIn_r _ [7, 8, 9, 10, 11, 12, 13, 14, 15, 16, 17, 18, 19, 20, 21, 22, 23, 24, 25, 26, 27, 28, 29, 30, 31, 32, 33, 34, 35, 36, 37, 38, 39, 40, 41, 42, 43, 44, 45, 46, 47, 48, 49, 50, 51, 52, 55, 56, 57, 58, 59, 60, 61, 62, 63, 64, 65, 66, 67, 68, 69, 70, 71, 72, 73, 74, 75, 76, 77, 78, 79, 80, 81, 82, 83, 84] (by decide +kernel) (by decide +kernel)
set_option maxRecDepth 20000 in
theorem gX0_takeBack_X2_copyFrom : GoodIn wsX0_takeBack (wsV RX0 22 RX2 yX2_copyFrom wsX2_copyFrom) := goodIn_app (goodIn_of _ (by decide +kernel)) ggX0_takeBack_X2_copyFrom
theorem dX0_takeBack_0 : decode cX0_takeBack 0 = .ok (.aload_n 0, 1) := by decide +kernel
theorem dX0_takeBack_1 : decode cX0_takeBack 1 = .ok (.getfield 18, 3) := by decide +kernel
theorem dX0_takeBack_4 : decode cX0_takeBack 4 = .ok (.ifCond .le 12, 3) := by decide +kernel
theorem dX0_takeBack_7 : decode cX0_takeBack 7 = .ok (.aload_n 0, 1) := by decide +kernel
theorem dX0_takeBack_8 : decode cX0_takeBack 8 = .ok (.getfield 18, 3) := by decide +kernel
theorem dX0_takeBack_11 : decode cX0_takeBack 11 = .ok (.bipush 14, 2) := by decide +kernel
theorem dX0_takeBack_13 : decode cX0_takeBack 13 = .ok (.if_icmp .le 5, 3) := by decide +kernel
theorem dX0_takeBack_16 : decode cX0_takeBack 16 = .ok (.iconst 0, 1) := by decide +kernel
theorem dX0_takeBack_17 : decode cX0_takeBack 17 = .ok (.ireturn, 1) := by decide +kernel
theorem dX0_takeBack_18 : decode cX0_takeBack 18 = .ok (.aload_n 0, 1) := by decide +kernel
theorem dX0_takeBack_19 : decode cX0_takeBack 19 = .ok (.dup, 1) := by decide +kernel
theorem dX0_takeBack_20 : decode cX0_takeBack 20 = .ok (.getfield 18, 3) := by decide +kernel
theorem dX0_takeBack_23 : decode cX0_takeBack 23 = .ok (.iconst 1, 1) := by decide +kernel
theorem dX0_takeBack_24 : decode cX0_takeBack 24 = .ok (.isub, 1) := by decide +kernel
theorem dX0_takeBack_25 : decode cX0_takeBack 25 = .ok (.putfield 18, 3) := by decide +kernel
theorem dX0_takeBack_28 : decode cX0_takeBack 28 = .ok (.aload_n 1, 1) := by decide +kernel
theorem dX0_takeBack_29 : decode cX0_takeBack 29 = .ok (.aload_n 0, 1) := by decide +kernel
theorem dX0_takeBack_30 : decode cX0_takeBack 30 = .ok (.getfield 11, 3) := by decide +kernel
theorem dX0_takeBack_33 : decode cX0_takeBack 33 = .ok (.aload_n 0, 1) := by decide +kernel
theorem dX0_takeBack_34 : decode cX0_takeBack 34 = .ok (.getfield 18, 3) := by decide +kernel
theorem dX0_takeBack_37 : decode cX0_takeBack 37 = .ok (.aaload, 1) := by decide +kernel
theorem dX0_takeBack_38 : decode cX0_takeBack 38 = .ok (.invokevirtual 22, 3) := by decide +kernel
theorem dX0_takeBack_41 : decode cX0_takeBack 41 = .ok (.iconst 1, 1) := by decide +kernel
theorem dX0_takeBack_42 : decode cX0_takeBack 42 = .ok (.ireturn, 1) := by decide +kernel
theorem dX1_init_0 : decode cX1_init 0 = .ok (.aload_n 0, 1) := by decide +kernel
theorem dX1_init_1 : decode cX1_init 1 = .ok (.invokespecial 3, 3) := by decide +kernel
theorem dX1_init_4 : decode cX1_init 4 = .ok (.return_, 1) := by decide +kernel
theorem dX1_beNew_0 : decode cX1_beNew 0 = .ok (.aload_n 0, 1) := by decide +kernel
theorem dX1_beNew_1 : decode cX1_beNew 1 = .ok (.iload_n 1, 1) := by decide +kernel
theorem dX1_beNew_2 : decode cX1_beNew 2 = .ok (.putfield 9, 3) := by decide +kernel
theorem dX1_beNew_5 : decode cX1_beNew 5 = .ok (.aload_n 0, 1) := by decide +kernel
theorem dX1_beNew_6 : decode cX1_beNew 6 = .ok (.iload_n 2, 1) := by decide +kernel
theorem dX1_beNew_7 : decode cX1_beNew 7 = .ok (.putfield 15, 3) := by decide +kernel
theorem dX1_beNew_10 : decode cX1_beNew 10 = .ok (.aload_n 0, 1) := by decide +kernel
theorem dX1_beNew_11 : decode cX1_beNew 11 = .ok (.iconst 0, 1) := by decide +kernel
theorem dX1_beNew_12 : decode cX1_beNew 12 = .ok (.putfield 18, 3) := by decide +kernel
theorem dX1_beNew_15 : decode cX1_beNew 15 = .ok (.aload_n 0, 1) := by decide +kernel
theorem dX1_beNew_16 : decode cX1_beNew 16 = .ok (.iconst 0, 1) := by decide +kernel
theorem dX1_beNew_17 : decode cX1_beNew 17 = .ok (.putfield 21, 3) := by decide +kernel
theorem dX1_beNew_20 : decode cX1_beNew 20 = .ok (.aload_n 0, 1) := by decide +kernel
theorem dX1_beNew_21 : decode cX1_beNew 21 = .ok (.iconst 0, 1) := by decide +kernel
theorem dX1_beNew_22 : decode cX1_beNew 22 = .ok (.putfield 24, 3) := by decide +kernel
theorem dX1_beNew_25 : decode cX1_beNew 25 = .ok (.return_, 1) := by decide +kernel
theorem dX1_copyFrom_0 : decode cX1_copyFrom 0 = .ok (.aload_n 0, 1) := by decide +kernel
theorem dX1_copyFrom_1 : decode cX1_copyFrom 1 = .ok (.aload_n 1, 1) := by decide +kernel
theorem dX1_copyFrom_2 : decode cX1_copyFrom 2 = .ok (.getfield 9, 3) := by decide +kernel
theorem dX1_copyFrom_5 : decode cX1_copyFrom 5 = .ok (.putfield 9, 3) := by decide +kernel
theorem dX1_copyFrom_8 : decode cX1_copyFrom 8 = .ok (.aload_n 0, 1) := by decide +kernel
theorem dX1_copyFrom_9 : decode cX1_copyFrom 9 = .ok (.aload_n 1, 1) := by decide +kernel
theorem dX1_copyFrom_10 : decode cX1_copyFrom 10 = .ok (.getfield 15, 3) := by decide +kernel
theorem dX1_copyFrom_13 : decode cX1_copyFrom 13 = .ok (.putfield 15, 3) := by decide +kernel
theorem dX1_copyFrom_16 : decode cX1_copyFrom 16 = .ok (.aload_n 0, 1) := by decide +kernel
theorem dX1_copyFrom_17 : decode cX1_copyFrom 17 = .ok (.aload_n 1, 1) := by decide +kernel
theorem dX1_copyFrom_18 : decode cX1_copyFrom 18 = .ok (.getfield 18, 3) := by decide +kernel
theorem dX1_copyFrom_21 : decode cX1_copyFrom 21 = .ok (.putfield 18, 3) := by decide +kernel
theorem dX1_copyFrom_24 : decode cX1_copyFrom 24 = .ok (.aload_n 0, 1) := by decide +kernel
theorem dX1_copyFrom_25 : decode cX1_copyFrom 25 = .ok (.aload_n 1, 1) := by decide +kernel
theorem dX1_copyFrom_26 : decode cX1_copyFrom 26 = .ok (.getfield 21, 3) := by decide +kernel
theorem dX1_copyFrom_29 : decode cX1_copyFrom 29 = .ok (.putfield 21, 3) := by decide +kernel
theorem dX1_copyFrom_32 : decode cX1_copyFrom 32 = .ok (.aload_n 0, 1) := by decide +kernel
theorem dX1_copyFrom_33 : decode cX1_copyFrom 33 = .ok (.aload_n 1, 1) := by decide +kernel
theorem dX1_copyFrom_34 : decode cX1_copyFrom 34 = .ok (.getfield 24, 3) := by decide +kernel
theorem dX1_copyFrom_37 : decode cX1_copyFrom 37 = .ok (.putfield 24, 3) := by decide +kernel
theorem dX1_copyFrom_40 : decode cX1_copyFrom 40 = .ok (.return_, 1) := by decide +kernel
theorem dX1_number_0 : decode cX1_number 0 = .ok (.iload_n 1, 1) := by decide +kernel
theorem dX1_number_1 : decode cX1_number 1 = .ok (.tableswitch 60 0 4 #[35, 40, 45, 50, 55], 35) := by decide +kernel
theorem dX1_number_36 : decode cX1_number 36 = .ok (.aload_n 0, 1) := by decide +kernel
theorem dX1_number_37 : decode cX1_number 37 = .ok (.getfield 9, 3) := by decide +kernel
theorem dX1_number_40 : decode cX1_number 40 = .ok (.ireturn, 1) := by decide +kernel
theorem dX1_number_41 : decode cX1_number 41 = .ok (.aload_n 0, 1) := by decide +kernel
theorem dX1_number_42 : decode cX1_number 42 = .ok (.getfield 15, 3) := by decide +kernel
theorem dX1_number_45 : decode cX1_number 45 = .ok (.ireturn, 1) := by decide +kernel
theorem dX1_number_46 : decode cX1_number 46 = .ok (.aload_n 0, 1) := by decide +kernel
theorem dX1_number_47 : decode cX1_number 47 = .ok (.getfield 18, 3) := by decide +kernel
theorem dX1_number_50 : decode cX1_number 50 = .ok (.ireturn, 1) := by decide +kernel
theorem dX1_number_51 : decode cX1_number 51 = .ok (.aload_n 0, 1) := by decide +kernel
theorem dX1_number_52 : decode cX1_number 52 = .ok (.getfield 21, 3) := by decide +kernel
theorem dX1_number_55 : decode cX1_number 55 = .ok (.ireturn, 1) := by decide +kernel
theorem dX1_number_56 : decode cX1_number 56 = .ok (.aload_n 0, 1) := by decide +kernel
theorem dX1_number_57 : decode cX1_number 57 = .ok (.getfield 24, 3) := by decide +kernel
theorem dX1_number_60 : decode cX1_number 60 = .ok (.ireturn, 1) := by decide +kernel
theorem dX1_number_61 : decode cX1_number 61 = .ok (.bipush (-2), 2) := by decide +kernel
theorem dX1_number_63 : decode cX1_number 63 = .ok (.ireturn, 1) := by decide +kernel
set_option maxRecDepth 20000 in
theorem ggX2_init_X3_init : GoodIn wsX2_init wsX3_init := goodIn_r _ [17, 18, 2, 3] (by decide +kernel) (by decide +kernel)
set_option maxRecDepth 20000 in
theorem gX2_init_X3_init_n29 : GoodIn wsX2_init (wsX3_init) := ggX2_init_X3_init
set_option maxRecDepth 20000 in
theorem ggX2_init_X1_init : GoodIn wsX2_init wsX1_init := goodIn_r _ [20, 21, 2, 3] (by decide +kernel) (by decide +kernel)
set_option maxRecDepth 20000 in
theorem gX2_init_X1_init_n30 : GoodIn wsX2_init (wsX1_init) := ggX2_init_X1_init
set_option maxRecDepth 20000 in
theorem ggX2_init_X5_init : GoodIn wsX2_init wsX5_init := goodIn_r _ [23, 24, 2, 3] (by decide +kernel) (by decide +kernel)
set_option maxRecDepth 20000 in
theorem gX2_init_X5_init_n31 : GoodIn wsX2_init (wsX5_init) := ggX2_init_X5_init
set_option maxRecDepth 20000 in
theorem ggX2_init_X2_beNew : GoodIn wsX2_init wsX2_beNew := goodIn_r _ [29, 30, 31, 32, 33, 34, 35, 36, 37, 38, 39, 40, 41, 5, 42, 43, 44, 11, 45, 46, 47, 48, 49, 50, 51, 52, 53, 54, 55, 28, 56, 57, 58, 59, 60, 61, 62, 63, 64, 65, 66, 67, 68, 69, 70, 71, 72, 73, 74, 75, 76, 77, 78, 79] (by decide +kernel) (by decide +kernel)
set_option maxRecDepth 20000 in
theorem gX2_init_X2_beNew : GoodIn wsX2_init (wsV RX2 32 RX2 yX2_beNew wsX2_beNew) := goodIn_app (goodIn_of _ (by decide +kernel)) ggX2_init_X2_beNew
theorem dX2_init_0 : decode cX2_init 0 = .ok (.aload_n 0, 1) := by decide +kernel
theorem dX2_init_1 : decode cX2_init 1 = .ok (.invokespecial 3, 3) := by decide +kernel
theorem dX2_init_4 : decode cX2_init 4 = .ok (.aload_n 0, 1) := by decide +kernel
theorem dX2_init_5 : decode cX2_init 5 = .ok (.bipush 10, 2) := by decide +kernel
theorem dX2_init_7 : decode cX2_init 7 = .ok (.anewarray 9, 3) := by decide +kernel
theorem dX2_init_10 : decode cX2_init 10 = .ok (.putfield 11, 3) := by decide +kernel
theorem dX2_init_13 : decode cX2_init 13 = .ok (.aload_n 0, 1) := by decide +kernel
theorem dX2_init_14 : decode cX2_init 14 = .ok (.bipush 8, 2) := by decide +kernel
theorem dX2_init_16 : decode cX2_init 16 = .ok (.anewarray 17, 3) := by decide +kernel
theorem dX2_init_19 : decode cX2_init 19 = .ok (.putfield 19, 3) := by decide +kernel
theorem dX2_init_22 : decode cX2_init 22 = .ok (.aload_n 0, 1) := by decide +kernel
theorem dX2_init_23 : decode cX2_init 23 = .ok (.iconst 3, 1) := by decide +kernel
theorem dX2_init_24 : decode cX2_init 24 = .ok (.anewarray 23, 3) := by decide +kernel
theorem dX2_init_27 : decode cX2_init 27 = .ok (.putfield 25, 3) := by decide +kernel
theorem dX2_init_30 : decode cX2_init 30 = .ok (.iconst 0, 1) := by decide +kernel
theorem dX2_init_31 : decode cX2_init 31 = .ok (.istore_n 1, 1) := by decide +kernel
theorem dX2_init_32 : decode cX2_init 32 = .ok (.iload_n 1, 1) := by decide +kernel
theorem dX2_init_33 : decode cX2_init 33 = .ok (.bipush 10, 2) := by decide +kernel
theorem dX2_init_35 : decode cX2_init 35 = .ok (.if_icmp .ge 22, 3) := by decide +kernel
theorem dX2_init_38 : decode cX2_init 38 = .ok (.aload_n 0, 1) := by decide +kernel
theorem dX2_init_39 : decode cX2_init 39 = .ok (.getfield 11, 3) := by decide +kernel
theorem dX2_init_42 : decode cX2_init 42 = .ok (.iload_n 1, 1) := by decide +kernel
theorem dX2_init_43 : decode cX2_init 43 = .ok (.new 9, 3) := by decide +kernel
theorem dX2_init_46 : decode cX2_init 46 = .ok (.dup, 1) := by decide +kernel
theorem dX2_init_47 : decode cX2_init 47 = .ok (.invokespecial 29, 3) := by decide +kernel
theorem dX2_init_50 : decode cX2_init 50 = .ok (.aastore, 1) := by decide +kernel
theorem dX2_init_51 : decode cX2_init 51 = .ok (.iinc 1 1, 3) := by decide +kernel
theorem dX2_init_54 : decode cX2_init 54 = .ok (.goto (-22), 3) := by decide +kernel
theorem dX2_init_57 : decode cX2_init 57 = .ok (.iconst 0, 1) := by decide +kernel
theorem dX2_init_58 : decode cX2_init 58 = .ok (.istore_n 1, 1) := by decide +kernel
theorem dX2_init_59 : decode cX2_init 59 = .ok (.iload_n 1, 1) := by decide +kernel
theorem dX2_init_60 : decode cX2_init 60 = .ok (.bipush 8, 2) := by decide +kernel
theorem dX2_init_62 : decode cX2_init 62 = .ok (.if_icmp .ge 22, 3) := by decide +kernel
theorem dX2_init_65 : decode cX2_init 65 = .ok (.aload_n 0, 1) := by decide +kernel
theorem dX2_init_66 : decode cX2_init 66 = .ok (.getfield 19, 3) := by decide +kernel
theorem dX2_init_69 : decode cX2_init 69 = .ok (.iload_n 1, 1) := by decide +kernel
theorem dX2_init_70 : decode cX2_init 70 = .ok (.new 17, 3) := by decide +kernel
theorem dX2_init_73 : decode cX2_init 73 = .ok (.dup, 1) := by decide +kernel
theorem dX2_init_74 : decode cX2_init 74 = .ok (.invokespecial 30, 3) := by decide +kernel
theorem dX2_init_77 : decode cX2_init 77 = .ok (.aastore, 1) := by decide +kernel
theorem dX2_init_78 : decode cX2_init 78 = .ok (.iinc 1 1, 3) := by decide +kernel
theorem dX2_init_81 : decode cX2_init 81 = .ok (.goto (-22), 3) := by decide +kernel
theorem dX2_init_84 : decode cX2_init 84 = .ok (.iconst 0, 1) := by decide +kernel
theorem dX2_init_85 : decode cX2_init 85 = .ok (.istore_n 1, 1) := by decide +kernel
theorem dX2_init_86 : decode cX2_init 86 = .ok (.iload_n 1, 1) := by decide +kernel
theorem dX2_init_87 : decode cX2_init 87 = .ok (.iconst 3, 1) := by decide +kernel
theorem dX2_init_88 : decode cX2_init 88 = .ok (.if_icmp .ge 22, 3) := by decide +kernel
theorem dX2_init_91 : decode cX2_init 91 = .ok (.aload_n 0, 1) := by decide +kernel
theorem dX2_init_92 : decode cX2_init 92 = .ok (.getfield 25, 3) := by decide +kernel
theorem dX2_init_95 : decode cX2_init 95 = .ok (.iload_n 1, 1) := by decide +kernel
theorem dX2_init_96 : decode cX2_init 96 = .ok (.new 23, 3) := by decide +kernel
theorem dX2_init_99 : decode cX2_init 99 = .ok (.dup, 1) := by decide +kernel
theorem dX2_init_100 : decode cX2_init 100 = .ok (.invokespecial 31, 3) := by decide +kernel
theorem dX2_init_103 : decode cX2_init 103 = .ok (.aastore, 1) := by decide +kernel
theorem dX2_init_104 : decode cX2_init 104 = .ok (.iinc 1 1, 3) := by decide +kernel
theorem dX2_init_107 : decode cX2_init 107 = .ok (.goto (-21), 3) := by decide +kernel
theorem dX2_init_110 : decode cX2_init 110 = .ok (.aload_n 0, 1) := by decide +kernel
theorem dX2_init_111 : decode cX2_init 111 = .ok (.invokevirtual 32, 3) := by decide +kernel
theorem dX2_init_114 : decode cX2_init 114 = .ok (.return_, 1) := by decide +kernel
set_option maxRecDepth 20000 in
theorem ggX2_beNew_X3_beNew : GoodIn wsX2_beNew wsX3_beNew := goodIn_r _ [18, 19, 20, 21, 22, 23, 24, 25, 47, 48, 49, 50, 51, 52, 53] (by decide +kernel) (by decide +kernel)
set_option maxRecDepth 20000 in
theorem gX2_beNew_X3_beNew : GoodIn wsX2_beNew (wsV RX2 72 RX3 yX3_beNew wsX3_beNew) := goodIn_app (goodIn_of _ (by decide +kernel)) ggX2_beNew_X3_beNew
set_option maxRecDepth 20000 in
theorem ggX2_beNew_X2_tellFillingPlaces : GoodIn wsX2_beNew wsX2_tellFillingPlaces := goodIn_r _ [30, 13, 31, 32, 33, 34, 35, 36, 37, 38, 39, 40, 41, 42, 43, 44, 45, 46, 47, 48, 49, 50, 51, 52, 53] (by decide +kernel) (by decide +kernel)
set_option maxRecDepth 20000 in
theorem gX2_beNew_X2_tellFillingPlaces : GoodIn wsX2_beNew (wsV RX2 73 RX2 yX2_tellFillingPlaces wsX2_tellFillingPlaces) := goodIn_app (goodIn_of _ (by decide +kernel)) ggX2_beNew_X2_tellFillingPlaces
theorem dX2_beNew_0 : decode cX2_beNew 0 = .ok (.aload_n 0, 1) := by decide +kernel
theorem dX2_beNew_1 : decode cX2_beNew 1 = .ok (.iconst 4, 1) := by decide +kernel
theorem dX2_beNew_2 : decode cX2_beNew 2 = .ok (.putfield 35, 3) := by decide +kernel
theorem dX2_beNew_5 : decode cX2_beNew 5 = .ok (.aload_n 0, 1) := by decide +kernel
theorem dX2_beNew_6 : decode cX2_beNew 6 = .ok (.iconst 0, 1) := by decide +kernel
theorem dX2_beNew_7 : decode cX2_beNew 7 = .ok (.putfield 39, 3) := by decide +kernel
theorem dX2_beNew_10 : decode cX2_beNew 10 = .ok (.aload_n 0, 1) := by decide +kernel
theorem dX2_beNew_11 : decode cX2_beNew 11 = .ok (.iconst 0, 1) := by decide +kernel
theorem dX2_beNew_12 : decode cX2_beNew 12 = .ok (.putfield 42, 3) := by decide +kernel
theorem dX2_beNew_15 : decode cX2_beNew 15 = .ok (.aload_n 0, 1) := by decide +kernel
theorem dX2_beNew_16 : decode cX2_beNew 16 = .ok (.iconst 0, 1) := by decide +kernel
theorem dX2_beNew_17 : decode cX2_beNew 17 = .ok (.putfield 45, 3) := by decide +kernel
theorem dX2_beNew_20 : decode cX2_beNew 20 = .ok (.aload_n 0, 1) := by decide +kernel
theorem dX2_beNew_21 : decode cX2_beNew 21 = .ok (.iconst 0, 1) := by decide +kernel
theorem dX2_beNew_22 : decode cX2_beNew 22 = .ok (.putfield 48, 3) := by decide +kernel
theorem dX2_beNew_25 : decode cX2_beNew 25 = .ok (.aload_n 0, 1) := by decide +kernel
theorem dX2_beNew_26 : decode cX2_beNew 26 = .ok (.bipush 10, 2) := by decide +kernel
theorem dX2_beNew_28 : decode cX2_beNew 28 = .ok (.putfield 51, 3) := by decide +kernel
theorem dX2_beNew_31 : decode cX2_beNew 31 = .ok (.aload_n 0, 1) := by decide +kernel
theorem dX2_beNew_32 : decode cX2_beNew 32 = .ok (.iconst 5, 1) := by decide +kernel
theorem dX2_beNew_33 : decode cX2_beNew 33 = .ok (.putfield 54, 3) := by decide +kernel
theorem dX2_beNew_36 : decode cX2_beNew 36 = .ok (.aload_n 0, 1) := by decide +kernel
theorem dX2_beNew_37 : decode cX2_beNew 37 = .ok (.bipush 50, 2) := by decide +kernel
theorem dX2_beNew_39 : decode cX2_beNew 39 = .ok (.putfield 57, 3) := by decide +kernel
theorem dX2_beNew_42 : decode cX2_beNew 42 = .ok (.aload_n 0, 1) := by decide +kernel
theorem dX2_beNew_43 : decode cX2_beNew 43 = .ok (.bipush 40, 2) := by decide +kernel
theorem dX2_beNew_45 : decode cX2_beNew 45 = .ok (.putfield 60, 3) := by decide +kernel
theorem dX2_beNew_48 : decode cX2_beNew 48 = .ok (.aload_n 0, 1) := by decide +kernel
theorem dX2_beNew_49 : decode cX2_beNew 49 = .ok (.iconst 0, 1) := by decide +kernel
theorem dX2_beNew_50 : decode cX2_beNew 50 = .ok (.putfield 63, 3) := by decide +kernel
theorem dX2_beNew_53 : decode cX2_beNew 53 = .ok (.aload_n 0, 1) := by decide +kernel
theorem dX2_beNew_54 : decode cX2_beNew 54 = .ok (.iconst 0, 1) := by decide +kernel
theorem dX2_beNew_55 : decode cX2_beNew 55 = .ok (.putfield 66, 3) := by decide +kernel
theorem dX2_beNew_58 : decode cX2_beNew 58 = .ok (.aload_n 0, 1) := by decide +kernel
theorem dX2_beNew_59 : decode cX2_beNew 59 = .ok (.iconst 0, 1) := by decide +kernel
theorem dX2_beNew_60 : decode cX2_beNew 60 = .ok (.putfield 69, 3) := by decide +kernel
theorem dX2_beNew_63 : decode cX2_beNew 63 = .ok (.aload_n 0, 1) := by decide +kernel
theorem dX2_beNew_64 : decode cX2_beNew 64 = .ok (.getfield 11, 3) := by decide +kernel
theorem dX2_beNew_67 : decode cX2_beNew 67 = .ok (.astore_n 1, 1) := by decide +kernel
theorem dX2_beNew_68 : decode cX2_beNew 68 = .ok (.aload_n 1, 1) := by decide +kernel
theorem dX2_beNew_69 : decode cX2_beNew 69 = .ok (.arraylength, 1) := by decide +kernel
theorem dX2_beNew_70 : decode cX2_beNew 70 = .ok (.istore_n 2, 1) := by decide +kernel
theorem dX2_beNew_71 : decode cX2_beNew 71 = .ok (.iconst 0, 1) := by decide +kernel
theorem dX2_beNew_72 : decode cX2_beNew 72 = .ok (.istore_n 3, 1) := by decide +kernel
theorem dX2_beNew_73 : decode cX2_beNew 73 = .ok (.iload_n 3, 1) := by decide +kernel
theorem dX2_beNew_74 : decode cX2_beNew 74 = .ok (.iload_n 2, 1) := by decide +kernel
theorem dX2_beNew_75 : decode cX2_beNew 75 = .ok (.if_icmp .ge 19, 3) := by decide +kernel
theorem dX2_beNew_78 : decode cX2_beNew 78 = .ok (.aload_n 1, 1) := by decide +kernel
theorem dX2_beNew_79 : decode cX2_beNew 79 = .ok (.iload_n 3, 1) := by decide +kernel
theorem dX2_beNew_80 : decode cX2_beNew 80 = .ok (.aaload, 1) := by decide +kernel
theorem dX2_beNew_81 : decode cX2_beNew 81 = .ok (.astore 4, 2) := by decide +kernel
theorem dX2_beNew_83 : decode cX2_beNew 83 = .ok (.aload 4, 2) := by decide +kernel
theorem dX2_beNew_85 : decode cX2_beNew 85 = .ok (.invokevirtual 72, 3) := by decide +kernel
theorem dX2_beNew_88 : decode cX2_beNew 88 = .ok (.iinc 3 1, 3) := by decide +kernel
theorem dX2_beNew_91 : decode cX2_beNew 91 = .ok (.goto (-18), 3) := by decide +kernel
theorem dX2_beNew_94 : decode cX2_beNew 94 = .ok (.aload_n 0, 1) := by decide +kernel
theorem dX2_beNew_95 : decode cX2_beNew 95 = .ok (.iconst 1, 1) := by decide +kernel
theorem dX2_beNew_96 : decode cX2_beNew 96 = .ok (.invokevirtual 73, 3) := by decide +kernel
theorem dX2_beNew_99 : decode cX2_beNew 99 = .ok (.return_, 1) := by decide +kernel
set_option maxRecDepth 20000 in
theorem ggX2_copyFrom_X3_copyFrom : GoodIn wsX2_copyFrom wsX3_copyFrom := goodIn_r _ [20, 21, 22, 23, 24, 25, 26, 27, 61, 62, 63, 64, 65, 66, 67] (by decide +kernel) (by decide +kernel)
set_option maxRecDepth 20000 in
theorem gX2_copyFrom_X3_copyFrom : GoodIn wsX2_copyFrom (wsV RX2 77 RX3 yX3_copyFrom wsX3_copyFrom) := goodIn_app (goodIn_of _ (by decide +kernel)) ggX2_copyFrom_X3_copyFrom
set_option maxRecDepth 20000 in
theorem ggX2_copyFrom_X1_copyFrom : GoodIn wsX2_copyFrom wsX1_copyFrom := goodIn_r _ [32, 33, 34, 35, 36, 37, 68, 69, 70, 71, 72] (by decide +kernel) (by decide +kernel)
set_option maxRecDepth 20000 in
theorem gX2_copyFrom_X1_copyFrom : GoodIn wsX2_copyFrom (wsV RX2 81 RX1 yX1_copyFrom wsX1_copyFrom) := goodIn_app (goodIn_of _ (by decide +kernel)) ggX2_copyFrom_X1_copyFrom
set_option maxRecDepth 20000 in
theorem ggX2_copyFrom_X5_copyFrom : GoodIn wsX2_copyFrom wsX5_copyFrom := goodIn_r _ [42, 43, 44, 45, 73, 74, 75] (by decide +kernel) (by decide +kernel)
set_option maxRecDepth 20000 in
theorem gX2_copyFrom_X5_copyFrom : GoodIn wsX2_copyFrom (wsV RX2 84 RX5 yX5_copyFrom wsX5_copyFrom) := goodIn_app (goodIn_of _ (by decide +kernel)) ggX2_copyFrom_X5_copyFrom
theorem dX2_copyFrom_0 : decode cX2_copyFrom 0 = .ok (.aload_n 0, 1) := by decide +kernel
theorem dX2_copyFrom_1 : decode cX2_copyFrom 1 = .ok (.aload_n 1, 1) := by decide +kernel
theorem dX2_copyFrom_2 : decode cX2_copyFrom 2 = .ok (.getfield 35, 3) := by decide +kernel
theorem dX2_copyFrom_5 : decode cX2_copyFrom 5 = .ok (.putfield 35, 3) := by decide +kernel
theorem dX2_copyFrom_8 : decode cX2_copyFrom 8 = .ok (.aload_n 0, 1) := by decide +kernel
theorem dX2_copyFrom_9 : decode cX2_copyFrom 9 = .ok (.aload_n 1, 1) := by decide +kernel
theorem dX2_copyFrom_10 : decode cX2_copyFrom 10 = .ok (.getfield 39, 3) := by decide +kernel
theorem dX2_copyFrom_13 : decode cX2_copyFrom 13 = .ok (.putfield 39, 3) := by decide +kernel
theorem dX2_copyFrom_16 : decode cX2_copyFrom 16 = .ok (.aload_n 0, 1) := by decide +kernel
theorem dX2_copyFrom_17 : decode cX2_copyFrom 17 = .ok (.aload_n 1, 1) := by decide +kernel
theorem dX2_copyFrom_18 : decode cX2_copyFrom 18 = .ok (.getfield 42, 3) := by decide +kernel
theorem dX2_copyFrom_21 : decode cX2_copyFrom 21 = .ok (.putfield 42, 3) := by decide +kernel
theorem dX2_copyFrom_24 : decode cX2_copyFrom 24 = .ok (.aload_n 0, 1) := by decide +kernel
theorem dX2_copyFrom_25 : decode cX2_copyFrom 25 = .ok (.aload_n 1, 1) := by decide +kernel
theorem dX2_copyFrom_26 : decode cX2_copyFrom 26 = .ok (.getfield 45, 3) := by decide +kernel
theorem dX2_copyFrom_29 : decode cX2_copyFrom 29 = .ok (.putfield 45, 3) := by decide +kernel
theorem dX2_copyFrom_32 : decode cX2_copyFrom 32 = .ok (.aload_n 0, 1) := by decide +kernel
theorem dX2_copyFrom_33 : decode cX2_copyFrom 33 = .ok (.aload_n 1, 1) := by decide +kernel
theorem dX2_copyFrom_34 : decode cX2_copyFrom 34 = .ok (.getfield 48, 3) := by decide +kernel
theorem dX2_copyFrom_37 : decode cX2_copyFrom 37 = .ok (.putfield 48, 3) := by decide +kernel
theorem dX2_copyFrom_40 : decode cX2_copyFrom 40 = .ok (.aload_n 0, 1) := by decide +kernel
theorem dX2_copyFrom_41 : decode cX2_copyFrom 41 = .ok (.aload_n 1, 1) := by decide +kernel
theorem dX2_copyFrom_42 : decode cX2_copyFrom 42 = .ok (.getfield 51, 3) := by decide +kernel
theorem dX2_copyFrom_45 : decode cX2_copyFrom 45 = .ok (.putfield 51, 3) := by decide +kernel
theorem dX2_copyFrom_48 : decode cX2_copyFrom 48 = .ok (.aload_n 0, 1) := by decide +kernel
theorem dX2_copyFrom_49 : decode cX2_copyFrom 49 = .ok (.aload_n 1, 1) := by decide +kernel
theorem dX2_copyFrom_50 : decode cX2_copyFrom 50 = .ok (.getfield 54, 3) := by decide +kernel
theorem dX2_copyFrom_53 : decode cX2_copyFrom 53 = .ok (.putfield 54, 3) := by decide +kernel
theorem dX2_copyFrom_56 : decode cX2_copyFrom 56 = .ok (.aload_n 0, 1) := by decide +kernel
theorem dX2_copyFrom_57 : decode cX2_copyFrom 57 = .ok (.aload_n 1, 1) := by decide +kernel
theorem dX2_copyFrom_58 : decode cX2_copyFrom 58 = .ok (.getfield 57, 3) := by decide +kernel
theorem dX2_copyFrom_61 : decode cX2_copyFrom 61 = .ok (.putfield 57, 3) := by decide +kernel
theorem dX2_copyFrom_64 : decode cX2_copyFrom 64 = .ok (.aload_n 0, 1) := by decide +kernel
theorem dX2_copyFrom_65 : decode cX2_copyFrom 65 = .ok (.aload_n 1, 1) := by decide +kernel
theorem dX2_copyFrom_66 : decode cX2_copyFrom 66 = .ok (.getfield 60, 3) := by decide +kernel
theorem dX2_copyFrom_69 : decode cX2_copyFrom 69 = .ok (.putfield 60, 3) := by decide +kernel
theorem dX2_copyFrom_72 : decode cX2_copyFrom 72 = .ok (.aload_n 0, 1) := by decide +kernel
theorem dX2_copyFrom_73 : decode cX2_copyFrom 73 = .ok (.aload_n 1, 1) := by decide +kernel
theorem dX2_copyFrom_74 : decode cX2_copyFrom 74 = .ok (.getfield 63, 3) := by decide +kernel
theorem dX2_copyFrom_77 : decode cX2_copyFrom 77 = .ok (.putfield 63, 3) := by decide +kernel
theorem dX2_copyFrom_80 : decode cX2_copyFrom 80 = .ok (.aload_n 0, 1) := by decide +kernel
theorem dX2_copyFrom_81 : decode cX2_copyFrom 81 = .ok (.aload_n 1, 1) := by decide +kernel
theorem dX2_copyFrom_82 : decode cX2_copyFrom 82 = .ok (.getfield 66, 3) := by decide +kernel
theorem dX2_copyFrom_85 : decode cX2_copyFrom 85 = .ok (.putfield 66, 3) := by decide +kernel
theorem dX2_copyFrom_88 : decode cX2_copyFrom 88 = .ok (.aload_n 0, 1) := by decide +kernel
theorem dX2_copyFrom_89 : decode cX2_copyFrom 89 = .ok (.aload_n 1, 1) := by decide +kernel
theorem dX2_copyFrom_90 : decode cX2_copyFrom 90 = .ok (.getfield 69, 3) := by decide +kernel
theorem dX2_copyFrom_93 : decode cX2_copyFrom 93 = .ok (.putfield 69, 3) := by decide +kernel
theorem dX2_copyFrom_96 : decode cX2_copyFrom 96 = .ok (.iconst 0, 1) := by decide +kernel
theorem dX2_copyFrom_97 : decode cX2_copyFrom 97 = .ok (.istore_n 2, 1) := by decide +kernel
theorem dX2_copyFrom_98 : decode cX2_copyFrom 98 = .ok (.iload_n 2, 1) := by decide +kernel
theorem dX2_copyFrom_99 : decode cX2_copyFrom 99 = .ok (.bipush 10, 2) := by decide +kernel
theorem dX2_copyFrom_101 : decode cX2_copyFrom 101 = .ok (.if_icmp .ge 24, 3) := by decide +kernel
theorem dX2_copyFrom_104 : decode cX2_copyFrom 104 = .ok (.aload_n 0, 1) := by decide +kernel
theorem dX2_copyFrom_105 : decode cX2_copyFrom 105 = .ok (.getfield 11, 3) := by decide +kernel
theorem dX2_copyFrom_108 : decode cX2_copyFrom 108 = .ok (.iload_n 2, 1) := by decide +kernel
theorem dX2_copyFrom_109 : decode cX2_copyFrom 109 = .ok (.aaload, 1) := by decide +kernel
theorem dX2_copyFrom_110 : decode cX2_copyFrom 110 = .ok (.aload_n 1, 1) := by decide +kernel
theorem dX2_copyFrom_111 : decode cX2_copyFrom 111 = .ok (.getfield 11, 3) := by decide +kernel
theorem dX2_copyFrom_114 : decode cX2_copyFrom 114 = .ok (.iload_n 2, 1) := by decide +kernel
theorem dX2_copyFrom_115 : decode cX2_copyFrom 115 = .ok (.aaload, 1) := by decide +kernel
theorem dX2_copyFrom_116 : decode cX2_copyFrom 116 = .ok (.invokevirtual 77, 3) := by decide +kernel
theorem dX2_copyFrom_119 : decode cX2_copyFrom 119 = .ok (.iinc 2 1, 3) := by decide +kernel
theorem dX2_copyFrom_122 : decode cX2_copyFrom 122 = .ok (.goto (-24), 3) := by decide +kernel
theorem dX2_copyFrom_125 : decode cX2_copyFrom 125 = .ok (.iconst 0, 1) := by decide +kernel
theorem dX2_copyFrom_126 : decode cX2_copyFrom 126 = .ok (.istore_n 2, 1) := by decide +kernel
theorem dX2_copyFrom_127 : decode cX2_copyFrom 127 = .ok (.iload_n 2, 1) := by decide +kernel
theorem dX2_copyFrom_128 : decode cX2_copyFrom 128 = .ok (.bipush 8, 2) := by decide +kernel
theorem dX2_copyFrom_130 : decode cX2_copyFrom 130 = .ok (.if_icmp .ge 24, 3) := by decide +kernel
theorem dX2_copyFrom_133 : decode cX2_copyFrom 133 = .ok (.aload_n 0, 1) := by decide +kernel
theorem dX2_copyFrom_134 : decode cX2_copyFrom 134 = .ok (.getfield 19, 3) := by decide +kernel
theorem dX2_copyFrom_137 : decode cX2_copyFrom 137 = .ok (.iload_n 2, 1) := by decide +kernel
theorem dX2_copyFrom_138 : decode cX2_copyFrom 138 = .ok (.aaload, 1) := by decide +kernel
theorem dX2_copyFrom_139 : decode cX2_copyFrom 139 = .ok (.aload_n 1, 1) := by decide +kernel
theorem dX2_copyFrom_140 : decode cX2_copyFrom 140 = .ok (.getfield 19, 3) := by decide +kernel
theorem dX2_copyFrom_143 : decode cX2_copyFrom 143 = .ok (.iload_n 2, 1) := by decide +kernel
theorem dX2_copyFrom_144 : decode cX2_copyFrom 144 = .ok (.aaload, 1) := by decide +kernel
theorem dX2_copyFrom_145 : decode cX2_copyFrom 145 = .ok (.invokevirtual 81, 3) := by decide +kernel
theorem dX2_copyFrom_148 : decode cX2_copyFrom 148 = .ok (.iinc 2 1, 3) := by decide +kernel
theorem dX2_copyFrom_151 : decode cX2_copyFrom 151 = .ok (.goto (-24), 3) := by decide +kernel
theorem dX2_copyFrom_154 : decode cX2_copyFrom 154 = .ok (.iconst 0, 1) := by decide +kernel
theorem dX2_copyFrom_155 : decode cX2_copyFrom 155 = .ok (.istore_n 2, 1) := by decide +kernel
theorem dX2_copyFrom_156 : decode cX2_copyFrom 156 = .ok (.iload_n 2, 1) := by decide +kernel
theorem dX2_copyFrom_157 : decode cX2_copyFrom 157 = .ok (.iconst 3, 1) := by decide +kernel
theorem dX2_copyFrom_158 : decode cX2_copyFrom 158 = .ok (.if_icmp .ge 24, 3) := by decide +kernel
theorem dX2_copyFrom_161 : decode cX2_copyFrom 161 = .ok (.aload_n 0, 1) := by decide +kernel
theorem dX2_copyFrom_162 : decode cX2_copyFrom 162 = .ok (.getfield 25, 3) := by decide +kernel
theorem dX2_copyFrom_165 : decode cX2_copyFrom 165 = .ok (.iload_n 2, 1) := by decide +kernel
theorem dX2_copyFrom_166 : decode cX2_copyFrom 166 = .ok (.aaload, 1) := by decide +kernel
theorem dX2_copyFrom_167 : decode cX2_copyFrom 167 = .ok (.aload_n 1, 1) := by decide +kernel
theorem dX2_copyFrom_168 : decode cX2_copyFrom 168 = .ok (.getfield 25, 3) := by decide +kernel
theorem dX2_copyFrom_171 : decode cX2_copyFrom 171 = .ok (.iload_n 2, 1) := by decide +kernel
theorem dX2_copyFrom_172 : decode cX2_copyFrom 172 = .ok (.aaload, 1) := by decide +kernel
theorem dX2_copyFrom_173 : decode cX2_copyFrom 173 = .ok (.invokevirtual 84, 3) := by decide +kernel
theorem dX2_copyFrom_176 : decode cX2_copyFrom 176 = .ok (.iinc 2 1, 3) := by decide +kernel
theorem dX2_copyFrom_179 : decode cX2_copyFrom 179 = .ok (.goto (-23), 3) := by decide +kernel
theorem dX2_copyFrom_182 : decode cX2_copyFrom 182 = .ok (.return_, 1) := by decide +kernel
theorem dX2_segmentAt_0 : decode cX2_segmentAt 0 = .ok (.iload_n 1, 1) := by decide +kernel
theorem dX2_segmentAt_1 : decode cX2_segmentAt 1 = .ok (.ifCond .lt 26, 3) := by decide +kernel
theorem dX2_segmentAt_4 : decode cX2_segmentAt 4 = .ok (.iload_n 1, 1) := by decide +kernel
theorem dX2_segmentAt_5 : decode cX2_segmentAt 5 = .ok (.aload_n 0, 1) := by decide +kernel
theorem dX2_segmentAt_6 : decode cX2_segmentAt 6 = .ok (.getfield 35, 3) := by decide +kernel
theorem dX2_segmentAt_9 : decode cX2_segmentAt 9 = .ok (.if_icmp .ge 18, 3) := by decide +kernel
theorem dX2_segmentAt_12 : decode cX2_segmentAt 12 = .ok (.iload_n 1, 1) := by decide +kernel
theorem dX2_segmentAt_13 : decode cX2_segmentAt 13 = .ok (.bipush 10, 2) := by decide +kernel
theorem dX2_segmentAt_15 : decode cX2_segmentAt 15 = .ok (.if_icmp .ge 12, 3) := by decide +kernel
theorem dX2_segmentAt_18 : decode cX2_segmentAt 18 = .ok (.aload_n 0, 1) := by decide +kernel
theorem dX2_segmentAt_19 : decode cX2_segmentAt 19 = .ok (.getfield 11, 3) := by decide +kernel
theorem dX2_segmentAt_22 : decode cX2_segmentAt 22 = .ok (.iload_n 1, 1) := by decide +kernel
theorem dX2_segmentAt_23 : decode cX2_segmentAt 23 = .ok (.aaload, 1) := by decide +kernel
theorem dX2_segmentAt_24 : decode cX2_segmentAt 24 = .ok (.goto 4, 3) := by decide +kernel
theorem dX2_segmentAt_27 : decode cX2_segmentAt 27 = .ok (.aconst_null, 1) := by decide +kernel
theorem dX2_segmentAt_28 : decode cX2_segmentAt 28 = .ok (.areturn, 1) := by decide +kernel
theorem dX2_houseAt_0 : decode cX2_houseAt 0 = .ok (.iload_n 1, 1) := by decide +kernel
theorem dX2_houseAt_1 : decode cX2_houseAt 1 = .ok (.ifCond .lt 26, 3) := by decide +kernel
theorem dX2_houseAt_4 : decode cX2_houseAt 4 = .ok (.iload_n 1, 1) := by decide +kernel
theorem dX2_houseAt_5 : decode cX2_houseAt 5 = .ok (.aload_n 0, 1) := by decide +kernel
theorem dX2_houseAt_6 : decode cX2_houseAt 6 = .ok (.getfield 39, 3) := by decide +kernel
theorem dX2_houseAt_9 : decode cX2_houseAt 9 = .ok (.if_icmp .ge 18, 3) := by decide +kernel
theorem dX2_houseAt_12 : decode cX2_houseAt 12 = .ok (.iload_n 1, 1) := by decide +kernel
theorem dX2_houseAt_13 : decode cX2_houseAt 13 = .ok (.bipush 8, 2) := by decide +kernel
theorem dX2_houseAt_15 : decode cX2_houseAt 15 = .ok (.if_icmp .ge 12, 3) := by decide +kernel
theorem dX2_houseAt_18 : decode cX2_houseAt 18 = .ok (.aload_n 0, 1) := by decide +kernel
theorem dX2_houseAt_19 : decode cX2_houseAt 19 = .ok (.getfield 19, 3) := by decide +kernel
theorem dX2_houseAt_22 : decode cX2_houseAt 22 = .ok (.iload_n 1, 1) := by decide +kernel
theorem dX2_houseAt_23 : decode cX2_houseAt 23 = .ok (.aaload, 1) := by decide +kernel
theorem dX2_houseAt_24 : decode cX2_houseAt 24 = .ok (.goto 4, 3) := by decide +kernel
theorem dX2_houseAt_27 : decode cX2_houseAt 27 = .ok (.aconst_null, 1) := by decide +kernel
theorem dX2_houseAt_28 : decode cX2_houseAt 28 = .ok (.areturn, 1) := by decide +kernel
theorem dX2_wagonAt_0 : decode cX2_wagonAt 0 = .ok (.iload_n 1, 1) := by decide +kernel
theorem dX2_wagonAt_1 : decode cX2_wagonAt 1 = .ok (.ifCond .lt 25, 3) := by decide +kernel
theorem dX2_wagonAt_4 : decode cX2_wagonAt 4 = .ok (.iload_n 1, 1) := by decide +kernel
theorem dX2_wagonAt_5 : decode cX2_wagonAt 5 = .ok (.aload_n 0, 1) := by decide +kernel
theorem dX2_wagonAt_6 : decode cX2_wagonAt 6 = .ok (.getfield 42, 3) := by decide +kernel
theorem dX2_wagonAt_9 : decode cX2_wagonAt 9 = .ok (.if_icmp .ge 17, 3) := by decide +kernel
theorem dX2_wagonAt_12 : decode cX2_wagonAt 12 = .ok (.iload_n 1, 1) := by decide +kernel
theorem dX2_wagonAt_13 : decode cX2_wagonAt 13 = .ok (.iconst 3, 1) := by decide +kernel
theorem dX2_wagonAt_14 : decode cX2_wagonAt 14 = .ok (.if_icmp .ge 12, 3) := by decide +kernel
theorem dX2_wagonAt_17 : decode cX2_wagonAt 17 = .ok (.aload_n 0, 1) := by decide +kernel
theorem dX2_wagonAt_18 : decode cX2_wagonAt 18 = .ok (.getfield 25, 3) := by decide +kernel
theorem dX2_wagonAt_21 : decode cX2_wagonAt 21 = .ok (.iload_n 1, 1) := by decide +kernel
theorem dX2_wagonAt_22 : decode cX2_wagonAt 22 = .ok (.aaload, 1) := by decide +kernel
theorem dX2_wagonAt_23 : decode cX2_wagonAt 23 = .ok (.goto 4, 3) := by decide +kernel
theorem dX2_wagonAt_26 : decode cX2_wagonAt 26 = .ok (.aconst_null, 1) := by decide +kernel
theorem dX2_wagonAt_27 : decode cX2_wagonAt 27 = .ok (.areturn, 1) := by decide +kernel
theorem dX2_time_0 : decode cX2_time 0 = .ok (.bipush 10, 2) := by decide +kernel
theorem dX2_time_2 : decode cX2_time 2 = .ok (.aload_n 0, 1) := by decide +kernel
theorem dX2_time_3 : decode cX2_time 3 = .ok (.getfield 45, 3) := by decide +kernel
theorem dX2_time_6 : decode cX2_time 6 = .ok (.imul, 1) := by decide +kernel
theorem dX2_time_7 : decode cX2_time 7 = .ok (.aload_n 0, 1) := by decide +kernel
theorem dX2_time_8 : decode cX2_time 8 = .ok (.getfield 48, 3) := by decide +kernel
theorem dX2_time_11 : decode cX2_time 11 = .ok (.iadd, 1) := by decide +kernel
theorem dX2_time_12 : decode cX2_time 12 = .ok (.ireturn, 1) := by decide +kernel
set_option maxRecDepth 20000 in
theorem ggX2_number_X2_dustOfAll : GoodIn wsX2_number wsX2_dustOfAll := goodIn_r _ [17, 1, 18, 19, 20, 16, 21, 22, 23, 24, 25, 26, 27, 28, 29, 30, 31, 32, 33, 34, 35, 36, 37, 38, 39, 40, 41, 42, 43, 44, 45] (by decide +kernel) (by decide +kernel)
set_option maxRecDepth 20000 in
theorem gX2_number_X2_dustOfAll : GoodIn wsX2_number (wsV RX2 87 RX2 yX2_dustOfAll wsX2_dustOfAll) := goodIn_app (goodIn_of _ (by decide +kernel)) ggX2_number_X2_dustOfAll
theorem dX2_number_0 : decode cX2_number 0 = .ok (.iload_n 1, 1) := by decide +kernel
theorem dX2_number_1 : decode cX2_number 1 = .ok (.tableswitch 132 0 12 #[67, 72, 77, 82, 87, 92, 97, 102, 107, 112, 117, 122, 127], 67) := by decide +kernel
theorem dX2_number_68 : decode cX2_number 68 = .ok (.aload_n 0, 1) := by decide +kernel
theorem dX2_number_69 : decode cX2_number 69 = .ok (.getfield 35, 3) := by decide +kernel
theorem dX2_number_72 : decode cX2_number 72 = .ok (.ireturn, 1) := by decide +kernel
theorem dX2_number_73 : decode cX2_number 73 = .ok (.aload_n 0, 1) := by decide +kernel
theorem dX2_number_74 : decode cX2_number 74 = .ok (.getfield 39, 3) := by decide +kernel
theorem dX2_number_77 : decode cX2_number 77 = .ok (.ireturn, 1) := by decide +kernel
theorem dX2_number_78 : decode cX2_number 78 = .ok (.aload_n 0, 1) := by decide +kernel
theorem dX2_number_79 : decode cX2_number 79 = .ok (.getfield 42, 3) := by decide +kernel
theorem dX2_number_82 : decode cX2_number 82 = .ok (.ireturn, 1) := by decide +kernel
theorem dX2_number_83 : decode cX2_number 83 = .ok (.aload_n 0, 1) := by decide +kernel
theorem dX2_number_84 : decode cX2_number 84 = .ok (.getfield 45, 3) := by decide +kernel
theorem dX2_number_87 : decode cX2_number 87 = .ok (.ireturn, 1) := by decide +kernel
theorem dX2_number_88 : decode cX2_number 88 = .ok (.aload_n 0, 1) := by decide +kernel
theorem dX2_number_89 : decode cX2_number 89 = .ok (.getfield 48, 3) := by decide +kernel
theorem dX2_number_92 : decode cX2_number 92 = .ok (.ireturn, 1) := by decide +kernel
theorem dX2_number_93 : decode cX2_number 93 = .ok (.aload_n 0, 1) := by decide +kernel
theorem dX2_number_94 : decode cX2_number 94 = .ok (.getfield 51, 3) := by decide +kernel
theorem dX2_number_97 : decode cX2_number 97 = .ok (.ireturn, 1) := by decide +kernel
theorem dX2_number_98 : decode cX2_number 98 = .ok (.aload_n 0, 1) := by decide +kernel
theorem dX2_number_99 : decode cX2_number 99 = .ok (.getfield 54, 3) := by decide +kernel
theorem dX2_number_102 : decode cX2_number 102 = .ok (.ireturn, 1) := by decide +kernel
theorem dX2_number_103 : decode cX2_number 103 = .ok (.aload_n 0, 1) := by decide +kernel
theorem dX2_number_104 : decode cX2_number 104 = .ok (.getfield 57, 3) := by decide +kernel
theorem dX2_number_107 : decode cX2_number 107 = .ok (.ireturn, 1) := by decide +kernel
theorem dX2_number_108 : decode cX2_number 108 = .ok (.aload_n 0, 1) := by decide +kernel
theorem dX2_number_109 : decode cX2_number 109 = .ok (.getfield 60, 3) := by decide +kernel
theorem dX2_number_112 : decode cX2_number 112 = .ok (.ireturn, 1) := by decide +kernel
theorem dX2_number_113 : decode cX2_number 113 = .ok (.aload_n 0, 1) := by decide +kernel
theorem dX2_number_114 : decode cX2_number 114 = .ok (.getfield 63, 3) := by decide +kernel
theorem dX2_number_117 : decode cX2_number 117 = .ok (.ireturn, 1) := by decide +kernel
theorem dX2_number_118 : decode cX2_number 118 = .ok (.aload_n 0, 1) := by decide +kernel
theorem dX2_number_119 : decode cX2_number 119 = .ok (.getfield 66, 3) := by decide +kernel
theorem dX2_number_122 : decode cX2_number 122 = .ok (.ireturn, 1) := by decide +kernel
theorem dX2_number_123 : decode cX2_number 123 = .ok (.aload_n 0, 1) := by decide +kernel
theorem dX2_number_124 : decode cX2_number 124 = .ok (.getfield 69, 3) := by decide +kernel
theorem dX2_number_127 : decode cX2_number 127 = .ok (.ireturn, 1) := by decide +kernel
theorem dX2_number_128 : decode cX2_number 128 = .ok (.aload_n 0, 1) := by decide +kernel
theorem dX2_number_129 : decode cX2_number 129 = .ok (.invokevirtual 87, 3) := by decide +kernel
theorem dX2_number_132 : decode cX2_number 132 = .ok (.ireturn, 1) := by decide +kernel
theorem dX2_number_133 : decode cX2_number 133 = .ok (.bipush (-2), 2) := by decide +kernel
theorem dX2_number_135 : decode cX2_number 135 = .ok (.ireturn, 1) := by decide +kernel
set_option maxRecDepth 20000 in
theorem ggX2_dustOfAll_X2_dustAt : GoodIn wsX2_dustOfAll wsX2_dustAt := goodIn_r _ [6, 1, 7, 8, 9, 10, 11, 12, 13, 14, 15, 16, 17, 18, 19, 20, 21, 22, 23, 24, 25, 26, 27, 28, 29, 30] (by decide +kernel) (by decide +kernel)
set_option maxRecDepth 20000 in
theorem gX2_dustOfAll_X2_dustAt : GoodIn wsX2_dustOfAll (wsV RX2 91 RX2 yX2_dustAt wsX2_dustAt) := goodIn_app (goodIn_of _ (by decide +kernel)) ggX2_dustOfAll_X2_dustAt
theorem dX2_dustOfAll_0 : decode cX2_dustOfAll 0 = .ok (.iconst 0, 1) := by decide +kernel
theorem dX2_dustOfAll_1 : decode cX2_dustOfAll 1 = .ok (.istore_n 1, 1) := by decide +kernel
theorem dX2_dustOfAll_2 : decode cX2_dustOfAll 2 = .ok (.iconst 0, 1) := by decide +kernel
theorem dX2_dustOfAll_3 : decode cX2_dustOfAll 3 = .ok (.istore_n 2, 1) := by decide +kernel
theorem dX2_dustOfAll_4 : decode cX2_dustOfAll 4 = .ok (.iload_n 2, 1) := by decide +kernel
theorem dX2_dustOfAll_5 : decode cX2_dustOfAll 5 = .ok (.aload_n 0, 1) := by decide +kernel
theorem dX2_dustOfAll_6 : decode cX2_dustOfAll 6 = .ok (.getfield 35, 3) := by decide +kernel
theorem dX2_dustOfAll_9 : decode cX2_dustOfAll 9 = .ok (.if_icmp .ge 17, 3) := by decide +kernel
theorem dX2_dustOfAll_12 : decode cX2_dustOfAll 12 = .ok (.iload_n 1, 1) := by decide +kernel
theorem dX2_dustOfAll_13 : decode cX2_dustOfAll 13 = .ok (.aload_n 0, 1) := by decide +kernel
theorem dX2_dustOfAll_14 : decode cX2_dustOfAll 14 = .ok (.iload_n 2, 1) := by decide +kernel
theorem dX2_dustOfAll_15 : decode cX2_dustOfAll 15 = .ok (.invokevirtual 91, 3) := by decide +kernel
theorem dX2_dustOfAll_18 : decode cX2_dustOfAll 18 = .ok (.iadd, 1) := by decide +kernel
theorem dX2_dustOfAll_19 : decode cX2_dustOfAll 19 = .ok (.istore_n 1, 1) := by decide +kernel
theorem dX2_dustOfAll_20 : decode cX2_dustOfAll 20 = .ok (.iinc 2 1, 3) := by decide +kernel
theorem dX2_dustOfAll_23 : decode cX2_dustOfAll 23 = .ok (.goto (-19), 3) := by decide +kernel
theorem dX2_dustOfAll_26 : decode cX2_dustOfAll 26 = .ok (.iload_n 1, 1) := by decide +kernel
theorem dX2_dustOfAll_27 : decode cX2_dustOfAll 27 = .ok (.ireturn, 1) := by decide +kernel
theorem dX2_tellFillingPlaces_0 : decode cX2_tellFillingPlaces 0 = .ok (.iconst 0, 1) := by decide +kernel
theorem dX2_tellFillingPlaces_1 : decode cX2_tellFillingPlaces 1 = .ok (.istore_n 2, 1) := by decide +kernel
theorem dX2_tellFillingPlaces_2 : decode cX2_tellFillingPlaces 2 = .ok (.iload_n 2, 1) := by decide +kernel
theorem dX2_tellFillingPlaces_3 : decode cX2_tellFillingPlaces 3 = .ok (.bipush 10, 2) := by decide +kernel
theorem dX2_tellFillingPlaces_5 : decode cX2_tellFillingPlaces 5 = .ok (.if_icmp .ge 32, 3) := by decide +kernel
theorem dX2_tellFillingPlaces_8 : decode cX2_tellFillingPlaces 8 = .ok (.aload_n 0, 1) := by decide +kernel
theorem dX2_tellFillingPlaces_9 : decode cX2_tellFillingPlaces 9 = .ok (.getfield 11, 3) := by decide +kernel
theorem dX2_tellFillingPlaces_12 : decode cX2_tellFillingPlaces 12 = .ok (.iload_n 2, 1) := by decide +kernel
theorem dX2_tellFillingPlaces_13 : decode cX2_tellFillingPlaces 13 = .ok (.aaload, 1) := by decide +kernel
theorem dX2_tellFillingPlaces_14 : decode cX2_tellFillingPlaces 14 = .ok (.iload_n 1, 1) := by decide +kernel
theorem dX2_tellFillingPlaces_15 : decode cX2_tellFillingPlaces 15 = .ok (.iload_n 2, 1) := by decide +kernel
theorem dX2_tellFillingPlaces_16 : decode cX2_tellFillingPlaces 16 = .ok (.ishr, 1) := by decide +kernel
theorem dX2_tellFillingPlaces_17 : decode cX2_tellFillingPlaces 17 = .ok (.iconst 1, 1) := by decide +kernel
theorem dX2_tellFillingPlaces_18 : decode cX2_tellFillingPlaces 18 = .ok (.iand, 1) := by decide +kernel
theorem dX2_tellFillingPlaces_19 : decode cX2_tellFillingPlaces 19 = .ok (.iconst 1, 1) := by decide +kernel
theorem dX2_tellFillingPlaces_20 : decode cX2_tellFillingPlaces 20 = .ok (.if_icmp .ne 7, 3) := by decide +kernel
theorem dX2_tellFillingPlaces_23 : decode cX2_tellFillingPlaces 23 = .ok (.iconst 1, 1) := by decide +kernel
theorem dX2_tellFillingPlaces_24 : decode cX2_tellFillingPlaces 24 = .ok (.goto 4, 3) := by decide +kernel
theorem dX2_tellFillingPlaces_27 : decode cX2_tellFillingPlaces 27 = .ok (.iconst 0, 1) := by decide +kernel
theorem dX2_tellFillingPlaces_28 : decode cX2_tellFillingPlaces 28 = .ok (.putfield 95, 3) := by decide +kernel
theorem dX2_tellFillingPlaces_31 : decode cX2_tellFillingPlaces 31 = .ok (.iinc 2 1, 3) := by decide +kernel
theorem dX2_tellFillingPlaces_34 : decode cX2_tellFillingPlaces 34 = .ok (.goto (-32), 3) := by decide +kernel
theorem dX2_tellFillingPlaces_37 : decode cX2_tellFillingPlaces 37 = .ok (.return_, 1) := by decide +kernel
set_option maxRecDepth 20000 in
theorem ggX2_buildHouse_X2_segmentAt : GoodIn wsX2_buildHouse wsX2_segmentAt := goodIn_r _ [7, 8, 9, 23, 24, 25, 26, 27, 28, 29, 30, 31, 32, 33, 34, 35, 36, 37] (by decide +kernel) (by decide +kernel)
set_option maxRecDepth 20000 in
theorem gX2_buildHouse_X2_segmentAt : GoodIn wsX2_buildHouse (wsV RX2 99 RX2 yX2_segmentAt wsX2_segmentAt) := goodIn_app (goodIn_of _ (by decide +kernel)) ggX2_buildHouse_X2_segmentAt
set_option maxRecDepth 20000 in
theorem ggX2_buildHouse_X6_within : GoodIn wsX2_buildHouse wsX6_within := goodIn_r _ [12] (by decide +kernel) (by decide +kernel)
set_option maxRecDepth 20000 in
theorem gX2_buildHouse_X6_within_n103 : GoodIn wsX2_buildHouse (wsX6_within) := ggX2_buildHouse_X6_within
set_option maxRecDepth 20000 in
theorem ggX2_buildHouse_X1_beNew : GoodIn wsX2_buildHouse wsX1_beNew := goodIn_r _ [17, 18, 19, 20, 21, 22, 38, 39, 40, 41, 42] (by decide +kernel) (by decide +kernel)
set_option maxRecDepth 20000 in
theorem gX2_buildHouse_X1_beNew : GoodIn wsX2_buildHouse (wsV RX2 107 RX1 yX1_beNew wsX1_beNew) := goodIn_app (goodIn_of _ (by decide +kernel)) ggX2_buildHouse_X1_beNew
theorem dX2_buildHouse_0 : decode cX2_buildHouse 0 = .ok (.aload_n 0, 1) := by decide +kernel
theorem dX2_buildHouse_1 : decode cX2_buildHouse 1 = .ok (.iload_n 1, 1) := by decide +kernel
theorem dX2_buildHouse_2 : decode cX2_buildHouse 2 = .ok (.invokevirtual 99, 3) := by decide +kernel
theorem dX2_buildHouse_5 : decode cX2_buildHouse 5 = .ok (.ifnonnull 5, 3) := by decide +kernel
theorem dX2_buildHouse_8 : decode cX2_buildHouse 8 = .ok (.iconst (-1), 1) := by decide +kernel
theorem dX2_buildHouse_9 : decode cX2_buildHouse 9 = .ok (.ireturn, 1) := by decide +kernel
theorem dX2_buildHouse_10 : decode cX2_buildHouse 10 = .ok (.iload_n 2, 1) := by decide +kernel
theorem dX2_buildHouse_11 : decode cX2_buildHouse 11 = .ok (.iconst 0, 1) := by decide +kernel
theorem dX2_buildHouse_12 : decode cX2_buildHouse 12 = .ok (.bipush 9, 2) := by decide +kernel
theorem dX2_buildHouse_14 : decode cX2_buildHouse 14 = .ok (.invokestatic 103, 3) := by decide +kernel
theorem dX2_buildHouse_17 : decode cX2_buildHouse 17 = .ok (.ifCond .ne 6, 3) := by decide +kernel
theorem dX2_buildHouse_20 : decode cX2_buildHouse 20 = .ok (.bipush (-2), 2) := by decide +kernel
theorem dX2_buildHouse_22 : decode cX2_buildHouse 22 = .ok (.ireturn, 1) := by decide +kernel
theorem dX2_buildHouse_23 : decode cX2_buildHouse 23 = .ok (.aload_n 0, 1) := by decide +kernel
theorem dX2_buildHouse_24 : decode cX2_buildHouse 24 = .ok (.getfield 39, 3) := by decide +kernel
theorem dX2_buildHouse_27 : decode cX2_buildHouse 27 = .ok (.ifCond .lt 12, 3) := by decide +kernel
theorem dX2_buildHouse_30 : decode cX2_buildHouse 30 = .ok (.aload_n 0, 1) := by decide +kernel
theorem dX2_buildHouse_31 : decode cX2_buildHouse 31 = .ok (.getfield 39, 3) := by decide +kernel
theorem dX2_buildHouse_34 : decode cX2_buildHouse 34 = .ok (.bipush 8, 2) := by decide +kernel
theorem dX2_buildHouse_36 : decode cX2_buildHouse 36 = .ok (.if_icmp .lt 6, 3) := by decide +kernel
theorem dX2_buildHouse_39 : decode cX2_buildHouse 39 = .ok (.bipush (-3), 2) := by decide +kernel
theorem dX2_buildHouse_41 : decode cX2_buildHouse 41 = .ok (.ireturn, 1) := by decide +kernel
theorem dX2_buildHouse_42 : decode cX2_buildHouse 42 = .ok (.aload_n 0, 1) := by decide +kernel
theorem dX2_buildHouse_43 : decode cX2_buildHouse 43 = .ok (.getfield 19, 3) := by decide +kernel
theorem dX2_buildHouse_46 : decode cX2_buildHouse 46 = .ok (.aload_n 0, 1) := by decide +kernel
theorem dX2_buildHouse_47 : decode cX2_buildHouse 47 = .ok (.getfield 39, 3) := by decide +kernel
theorem dX2_buildHouse_50 : decode cX2_buildHouse 50 = .ok (.aaload, 1) := by decide +kernel
theorem dX2_buildHouse_51 : decode cX2_buildHouse 51 = .ok (.iload_n 1, 1) := by decide +kernel
theorem dX2_buildHouse_52 : decode cX2_buildHouse 52 = .ok (.iload_n 2, 1) := by decide +kernel
theorem dX2_buildHouse_53 : decode cX2_buildHouse 53 = .ok (.invokevirtual 107, 3) := by decide +kernel
theorem dX2_buildHouse_56 : decode cX2_buildHouse 56 = .ok (.aload_n 0, 1) := by decide +kernel
theorem dX2_buildHouse_57 : decode cX2_buildHouse 57 = .ok (.dup, 1) := by decide +kernel
theorem dX2_buildHouse_58 : decode cX2_buildHouse 58 = .ok (.getfield 39, 3) := by decide +kernel
theorem dX2_buildHouse_61 : decode cX2_buildHouse 61 = .ok (.iconst 1, 1) := by decide +kernel
theorem dX2_buildHouse_62 : decode cX2_buildHouse 62 = .ok (.iadd, 1) := by decide +kernel
theorem dX2_buildHouse_63 : decode cX2_buildHouse 63 = .ok (.putfield 39, 3) := by decide +kernel
theorem dX2_buildHouse_66 : decode cX2_buildHouse 66 = .ok (.aload_n 0, 1) := by decide +kernel
theorem dX2_buildHouse_67 : decode cX2_buildHouse 67 = .ok (.getfield 39, 3) := by decide +kernel
theorem dX2_buildHouse_70 : decode cX2_buildHouse 70 = .ok (.iconst 1, 1) := by decide +kernel
theorem dX2_buildHouse_71 : decode cX2_buildHouse 71 = .ok (.isub, 1) := by decide +kernel
theorem dX2_buildHouse_72 : decode cX2_buildHouse 72 = .ok (.ireturn, 1) := by decide +kernel
set_option maxRecDepth 20000 in
theorem ggX2_bringWagon_X2_segmentAt : GoodIn wsX2_bringWagon wsX2_segmentAt := goodIn_r _ [7, 8, 9, 18, 19, 20, 21, 22, 23, 24, 25, 26, 27, 28, 29, 30, 31, 32] (by decide +kernel) (by decide +kernel)
set_option maxRecDepth 20000 in
theorem gX2_bringWagon_X2_segmentAt : GoodIn wsX2_bringWagon (wsV RX2 99 RX2 yX2_segmentAt wsX2_segmentAt) := goodIn_app (goodIn_of _ (by decide +kernel)) ggX2_bringWagon_X2_segmentAt
set_option maxRecDepth 20000 in
theorem ggX2_bringWagon_X5_beNew : GoodIn wsX2_bringWagon wsX5_beNew := goodIn_r _ [14, 15, 16, 17, 33, 34, 35] (by decide +kernel) (by decide +kernel)
set_option maxRecDepth 20000 in
theorem gX2_bringWagon_X5_beNew : GoodIn wsX2_bringWagon (wsV RX2 110 RX5 yX5_beNew wsX5_beNew) := goodIn_app (goodIn_of _ (by decide +kernel)) ggX2_bringWagon_X5_beNew
theorem dX2_bringWagon_0 : decode cX2_bringWagon 0 = .ok (.aload_n 0, 1) := by decide +kernel
theorem dX2_bringWagon_1 : decode cX2_bringWagon 1 = .ok (.iload_n 1, 1) := by decide +kernel
theorem dX2_bringWagon_2 : decode cX2_bringWagon 2 = .ok (.invokevirtual 99, 3) := by decide +kernel
theorem dX2_bringWagon_5 : decode cX2_bringWagon 5 = .ok (.ifnonnull 5, 3) := by decide +kernel
theorem dX2_bringWagon_8 : decode cX2_bringWagon 8 = .ok (.iconst (-1), 1) := by decide +kernel
theorem dX2_bringWagon_9 : decode cX2_bringWagon 9 = .ok (.ireturn, 1) := by decide +kernel
theorem dX2_bringWagon_10 : decode cX2_bringWagon 10 = .ok (.aload_n 0, 1) := by decide +kernel
theorem dX2_bringWagon_11 : decode cX2_bringWagon 11 = .ok (.getfield 42, 3) := by decide +kernel
theorem dX2_bringWagon_14 : decode cX2_bringWagon 14 = .ok (.ifCond .lt 11, 3) := by decide +kernel
theorem dX2_bringWagon_17 : decode cX2_bringWagon 17 = .ok (.aload_n 0, 1) := by decide +kernel
theorem dX2_bringWagon_18 : decode cX2_bringWagon 18 = .ok (.getfield 42, 3) := by decide +kernel
theorem dX2_bringWagon_21 : decode cX2_bringWagon 21 = .ok (.iconst 3, 1) := by decide +kernel
theorem dX2_bringWagon_22 : decode cX2_bringWagon 22 = .ok (.if_icmp .lt 6, 3) := by decide +kernel
theorem dX2_bringWagon_25 : decode cX2_bringWagon 25 = .ok (.bipush (-3), 2) := by decide +kernel
theorem dX2_bringWagon_27 : decode cX2_bringWagon 27 = .ok (.ireturn, 1) := by decide +kernel
theorem dX2_bringWagon_28 : decode cX2_bringWagon 28 = .ok (.aload_n 0, 1) := by decide +kernel
theorem dX2_bringWagon_29 : decode cX2_bringWagon 29 = .ok (.getfield 25, 3) := by decide +kernel
theorem dX2_bringWagon_32 : decode cX2_bringWagon 32 = .ok (.aload_n 0, 1) := by decide +kernel
theorem dX2_bringWagon_33 : decode cX2_bringWagon 33 = .ok (.getfield 42, 3) := by decide +kernel
theorem dX2_bringWagon_36 : decode cX2_bringWagon 36 = .ok (.aaload, 1) := by decide +kernel
theorem dX2_bringWagon_37 : decode cX2_bringWagon 37 = .ok (.iload_n 1, 1) := by decide +kernel
theorem dX2_bringWagon_38 : decode cX2_bringWagon 38 = .ok (.invokevirtual 110, 3) := by decide +kernel
theorem dX2_bringWagon_41 : decode cX2_bringWagon 41 = .ok (.aload_n 0, 1) := by decide +kernel
theorem dX2_bringWagon_42 : decode cX2_bringWagon 42 = .ok (.dup, 1) := by decide +kernel
theorem dX2_bringWagon_43 : decode cX2_bringWagon 43 = .ok (.getfield 42, 3) := by decide +kernel
theorem dX2_bringWagon_46 : decode cX2_bringWagon 46 = .ok (.iconst 1, 1) := by decide +kernel
theorem dX2_bringWagon_47 : decode cX2_bringWagon 47 = .ok (.iadd, 1) := by decide +kernel
theorem dX2_bringWagon_48 : decode cX2_bringWagon 48 = .ok (.putfield 42, 3) := by decide +kernel
theorem dX2_bringWagon_51 : decode cX2_bringWagon 51 = .ok (.aload_n 0, 1) := by decide +kernel
theorem dX2_bringWagon_52 : decode cX2_bringWagon 52 = .ok (.getfield 42, 3) := by decide +kernel
theorem dX2_bringWagon_55 : decode cX2_bringWagon 55 = .ok (.iconst 1, 1) := by decide +kernel
theorem dX2_bringWagon_56 : decode cX2_bringWagon 56 = .ok (.isub, 1) := by decide +kernel
theorem dX2_bringWagon_57 : decode cX2_bringWagon 57 = .ok (.ireturn, 1) := by decide +kernel
set_option maxRecDepth 20000 in
theorem ggX2_changeSurface_X2_segmentAt : GoodIn wsX2_changeSurface wsX2_segmentAt := goodIn_r _ [6, 7, 8, 19, 20, 21, 22, 23, 24, 25, 26, 27, 28, 29, 30, 31, 32, 33] (by decide +kernel) (by decide +kernel)
set_option maxRecDepth 20000 in
theorem gX2_changeSurface_X2_segmentAt : GoodIn wsX2_changeSurface (wsV RX2 99 RX2 yX2_segmentAt wsX2_segmentAt) := goodIn_app (goodIn_of _ (by decide +kernel)) ggX2_changeSurface_X2_segmentAt
set_option maxRecDepth 20000 in
theorem ggX2_changeSurface_X6_within : GoodIn wsX2_changeSurface wsX6_within := goodIn_r _ [11] (by decide +kernel) (by decide +kernel)
set_option maxRecDepth 20000 in
theorem gX2_changeSurface_X6_within_n103 : GoodIn wsX2_changeSurface (wsX6_within) := ggX2_changeSurface_X6_within
theorem dX2_changeSurface_0 : decode cX2_changeSurface 0 = .ok (.aload_n 0, 1) := by decide +kernel
theorem dX2_changeSurface_1 : decode cX2_changeSurface 1 = .ok (.iload_n 1, 1) := by decide +kernel
theorem dX2_changeSurface_2 : decode cX2_changeSurface 2 = .ok (.invokevirtual 99, 3) := by decide +kernel
theorem dX2_changeSurface_5 : decode cX2_changeSurface 5 = .ok (.astore_n 3, 1) := by decide +kernel
theorem dX2_changeSurface_6 : decode cX2_changeSurface 6 = .ok (.aload_n 3, 1) := by decide +kernel
theorem dX2_changeSurface_7 : decode cX2_changeSurface 7 = .ok (.ifnonnull 5, 3) := by decide +kernel
theorem dX2_changeSurface_10 : decode cX2_changeSurface 10 = .ok (.iconst (-1), 1) := by decide +kernel
theorem dX2_changeSurface_11 : decode cX2_changeSurface 11 = .ok (.ireturn, 1) := by decide +kernel
theorem dX2_changeSurface_12 : decode cX2_changeSurface 12 = .ok (.iload_n 2, 1) := by decide +kernel
theorem dX2_changeSurface_13 : decode cX2_changeSurface 13 = .ok (.iconst 0, 1) := by decide +kernel
theorem dX2_changeSurface_14 : decode cX2_changeSurface 14 = .ok (.iconst 2, 1) := by decide +kernel
theorem dX2_changeSurface_15 : decode cX2_changeSurface 15 = .ok (.invokestatic 103, 3) := by decide +kernel
theorem dX2_changeSurface_18 : decode cX2_changeSurface 18 = .ok (.ifCond .ne 6, 3) := by decide +kernel
theorem dX2_changeSurface_21 : decode cX2_changeSurface 21 = .ok (.bipush (-2), 2) := by decide +kernel
theorem dX2_changeSurface_23 : decode cX2_changeSurface 23 = .ok (.ireturn, 1) := by decide +kernel
theorem dX2_changeSurface_24 : decode cX2_changeSurface 24 = .ok (.aload_n 3, 1) := by decide +kernel
theorem dX2_changeSurface_25 : decode cX2_changeSurface 25 = .ok (.getfield 112, 3) := by decide +kernel
theorem dX2_changeSurface_28 : decode cX2_changeSurface 28 = .ok (.istore 4, 2) := by decide +kernel
theorem dX2_changeSurface_30 : decode cX2_changeSurface 30 = .ok (.aload_n 3, 1) := by decide +kernel
theorem dX2_changeSurface_31 : decode cX2_changeSurface 31 = .ok (.iload_n 2, 1) := by decide +kernel
theorem dX2_changeSurface_32 : decode cX2_changeSurface 32 = .ok (.putfield 112, 3) := by decide +kernel
theorem dX2_changeSurface_35 : decode cX2_changeSurface 35 = .ok (.iload 4, 2) := by decide +kernel
theorem dX2_changeSurface_37 : decode cX2_changeSurface 37 = .ok (.ireturn, 1) := by decide +kernel
set_option maxRecDepth 20000 in
theorem ggX2_changeLimit_X2_segmentAt : GoodIn wsX2_changeLimit wsX2_segmentAt := goodIn_r _ [6, 7, 8, 25, 26, 27, 28, 29, 30, 31, 32, 33, 34, 35, 36, 37, 38, 39] (by decide +kernel) (by decide +kernel)
set_option maxRecDepth 20000 in
theorem gX2_changeLimit_X2_segmentAt : GoodIn wsX2_changeLimit (wsV RX2 99 RX2 yX2_segmentAt wsX2_segmentAt) := goodIn_app (goodIn_of _ (by decide +kernel)) ggX2_changeLimit_X2_segmentAt
set_option maxRecDepth 20000 in
theorem ggX2_changeLimit_X6_within : GoodIn wsX2_changeLimit wsX6_within := goodIn_r _ [11] (by decide +kernel) (by decide +kernel)
set_option maxRecDepth 20000 in
theorem gX2_changeLimit_X6_within_n103 : GoodIn wsX2_changeLimit (wsX6_within) := ggX2_changeLimit_X6_within
set_option maxRecDepth 20000 in
theorem ggX2_changeLimit_X3_greatestLimit : GoodIn wsX2_changeLimit wsX3_greatestLimit := goodIn_r _ [16, 17, 18, 19, 20, 21, 22, 23, 24] (by decide +kernel) (by decide +kernel)
set_option maxRecDepth 20000 in
theorem gX2_changeLimit_X3_greatestLimit : GoodIn wsX2_changeLimit (wsV RX2 115 RX3 yX3_greatestLimit wsX3_greatestLimit) := goodIn_app (goodIn_of _ (by decide +kernel)) ggX2_changeLimit_X3_greatestLimit
theorem dX2_changeLimit_0 : decode cX2_changeLimit 0 = .ok (.aload_n 0, 1) := by decide +kernel
theorem dX2_changeLimit_1 : decode cX2_changeLimit 1 = .ok (.iload_n 1, 1) := by decide +kernel
theorem dX2_changeLimit_2 : decode cX2_changeLimit 2 = .ok (.invokevirtual 99, 3) := by decide +kernel
theorem dX2_changeLimit_5 : decode cX2_changeLimit 5 = .ok (.astore_n 3, 1) := by decide +kernel
theorem dX2_changeLimit_6 : decode cX2_changeLimit 6 = .ok (.aload_n 3, 1) := by decide +kernel
theorem dX2_changeLimit_7 : decode cX2_changeLimit 7 = .ok (.ifnonnull 5, 3) := by decide +kernel
theorem dX2_changeLimit_10 : decode cX2_changeLimit 10 = .ok (.iconst (-1), 1) := by decide +kernel
theorem dX2_changeLimit_11 : decode cX2_changeLimit 11 = .ok (.ireturn, 1) := by decide +kernel
theorem dX2_changeLimit_12 : decode cX2_changeLimit 12 = .ok (.iload_n 2, 1) := by decide +kernel
theorem dX2_changeLimit_13 : decode cX2_changeLimit 13 = .ok (.iconst 1, 1) := by decide +kernel
theorem dX2_changeLimit_14 : decode cX2_changeLimit 14 = .ok (.iconst 5, 1) := by decide +kernel
theorem dX2_changeLimit_15 : decode cX2_changeLimit 15 = .ok (.invokestatic 103, 3) := by decide +kernel
theorem dX2_changeLimit_18 : decode cX2_changeLimit 18 = .ok (.ifCond .ne 6, 3) := by decide +kernel
theorem dX2_changeLimit_21 : decode cX2_changeLimit 21 = .ok (.bipush (-2), 2) := by decide +kernel
theorem dX2_changeLimit_23 : decode cX2_changeLimit 23 = .ok (.ireturn, 1) := by decide +kernel
theorem dX2_changeLimit_24 : decode cX2_changeLimit 24 = .ok (.iload_n 2, 1) := by decide +kernel
theorem dX2_changeLimit_25 : decode cX2_changeLimit 25 = .ok (.aload_n 3, 1) := by decide +kernel
theorem dX2_changeLimit_26 : decode cX2_changeLimit 26 = .ok (.invokevirtual 115, 3) := by decide +kernel
theorem dX2_changeLimit_29 : decode cX2_changeLimit 29 = .ok (.if_icmp .le 6, 3) := by decide +kernel
theorem dX2_changeLimit_32 : decode cX2_changeLimit 32 = .ok (.bipush (-3), 2) := by decide +kernel
theorem dX2_changeLimit_34 : decode cX2_changeLimit 34 = .ok (.ireturn, 1) := by decide +kernel
theorem dX2_changeLimit_35 : decode cX2_changeLimit 35 = .ok (.aload_n 3, 1) := by decide +kernel
theorem dX2_changeLimit_36 : decode cX2_changeLimit 36 = .ok (.getfield 118, 3) := by decide +kernel
theorem dX2_changeLimit_39 : decode cX2_changeLimit 39 = .ok (.istore 4, 2) := by decide +kernel
theorem dX2_changeLimit_41 : decode cX2_changeLimit 41 = .ok (.aload_n 3, 1) := by decide +kernel
theorem dX2_changeLimit_42 : decode cX2_changeLimit 42 = .ok (.iload_n 2, 1) := by decide +kernel
theorem dX2_changeLimit_43 : decode cX2_changeLimit 43 = .ok (.putfield 118, 3) := by decide +kernel
theorem dX2_changeLimit_46 : decode cX2_changeLimit 46 = .ok (.iload 4, 2) := by decide +kernel
theorem dX2_changeLimit_48 : decode cX2_changeLimit 48 = .ok (.ireturn, 1) := by decide +kernel
set_option maxRecDepth 20000 in
theorem ggX2_changeNumber_X2_number : GoodIn wsX2_changeNumber wsX2_number := goodIn_r _ [9, 10, 11, 12, 13, 14, 1, 2, 3, 4, 15, 16, 17, 18, 19, 20, 8, 21, 22, 23, 24, 25, 26, 27, 31, 32, 33, 34, 35, 36, 37, 38, 39, 40, 41, 42, 43, 44, 45, 46, 47, 48, 49, 50, 51, 52] (by decide +kernel) (by decide +kernel)
set_option maxRecDepth 20000 in
theorem gX2_changeNumber_X2_number : GoodIn wsX2_changeNumber (wsV RX2 121 RX2 yX2_number wsX2_number) := goodIn_app (goodIn_of _ (by decide +kernel)) ggX2_changeNumber_X2_number
set_option maxRecDepth 20000 in
theorem ggX2_changeNumber_X6_within : GoodIn wsX2_changeNumber wsX6_within := goodIn_r _ [30] (by decide +kernel) (by decide +kernel)
set_option maxRecDepth 20000 in
theorem gX2_changeNumber_X6_within_n103 : GoodIn wsX2_changeNumber (wsX6_within) := ggX2_changeNumber_X6_within
theorem dX2_changeNumber_0 : decode cX2_changeNumber 0 = .ok (.aload_n 0, 1) := by decide +kernel
theorem dX2_changeNumber_1 : decode cX2_changeNumber 1 = .ok (.iload_n 1, 1) := by decide +kernel
theorem dX2_changeNumber_2 : decode cX2_changeNumber 2 = .ok (.invokevirtual 121, 3) := by decide +kernel
theorem dX2_changeNumber_5 : decode cX2_changeNumber 5 = .ok (.istore_n 3, 1) := by decide +kernel
theorem dX2_changeNumber_6 : decode cX2_changeNumber 6 = .ok (.iload_n 1, 1) := by decide +kernel
theorem dX2_changeNumber_7 : decode cX2_changeNumber 7 = .ok (.iconst 5, 1) := by decide +kernel
theorem dX2_changeNumber_8 : decode cX2_changeNumber 8 = .ok (.if_icmp .ne 21, 3) := by decide +kernel
theorem dX2_changeNumber_11 : decode cX2_changeNumber 11 = .ok (.iload_n 2, 1) := by decide +kernel
theorem dX2_changeNumber_12 : decode cX2_changeNumber 12 = .ok (.iconst 0, 1) := by decide +kernel
theorem dX2_changeNumber_13 : decode cX2_changeNumber 13 = .ok (.bipush 20, 2) := by decide +kernel
theorem dX2_changeNumber_15 : decode cX2_changeNumber 15 = .ok (.invokestatic 103, 3) := by decide +kernel
theorem dX2_changeNumber_18 : decode cX2_changeNumber 18 = .ok (.ifCond .eq 11, 3) := by decide +kernel
theorem dX2_changeNumber_21 : decode cX2_changeNumber 21 = .ok (.aload_n 0, 1) := by decide +kernel
theorem dX2_changeNumber_22 : decode cX2_changeNumber 22 = .ok (.iload_n 2, 1) := by decide +kernel
theorem dX2_changeNumber_23 : decode cX2_changeNumber 23 = .ok (.putfield 51, 3) := by decide +kernel
theorem dX2_changeNumber_26 : decode cX2_changeNumber 26 = .ok (.goto 79, 3) := by decide +kernel
theorem dX2_changeNumber_29 : decode cX2_changeNumber 29 = .ok (.iload_n 1, 1) := by decide +kernel
theorem dX2_changeNumber_30 : decode cX2_changeNumber 30 = .ok (.bipush 6, 2) := by decide +kernel
theorem dX2_changeNumber_32 : decode cX2_changeNumber 32 = .ok (.if_icmp .ne 21, 3) := by decide +kernel
theorem dX2_changeNumber_35 : decode cX2_changeNumber 35 = .ok (.iload_n 2, 1) := by decide +kernel
theorem dX2_changeNumber_36 : decode cX2_changeNumber 36 = .ok (.iconst 0, 1) := by decide +kernel
theorem dX2_changeNumber_37 : decode cX2_changeNumber 37 = .ok (.bipush 9, 2) := by decide +kernel
theorem dX2_changeNumber_39 : decode cX2_changeNumber 39 = .ok (.invokestatic 103, 3) := by decide +kernel
theorem dX2_changeNumber_42 : decode cX2_changeNumber 42 = .ok (.ifCond .eq 11, 3) := by decide +kernel
theorem dX2_changeNumber_45 : decode cX2_changeNumber 45 = .ok (.aload_n 0, 1) := by decide +kernel
theorem dX2_changeNumber_46 : decode cX2_changeNumber 46 = .ok (.iload_n 2, 1) := by decide +kernel
theorem dX2_changeNumber_47 : decode cX2_changeNumber 47 = .ok (.putfield 54, 3) := by decide +kernel
theorem dX2_changeNumber_50 : decode cX2_changeNumber 50 = .ok (.goto 55, 3) := by decide +kernel
theorem dX2_changeNumber_53 : decode cX2_changeNumber 53 = .ok (.iload_n 1, 1) := by decide +kernel
theorem dX2_changeNumber_54 : decode cX2_changeNumber 54 = .ok (.bipush 7, 2) := by decide +kernel
theorem dX2_changeNumber_56 : decode cX2_changeNumber 56 = .ok (.if_icmp .ne 22, 3) := by decide +kernel
theorem dX2_changeNumber_59 : decode cX2_changeNumber 59 = .ok (.iload_n 2, 1) := by decide +kernel
theorem dX2_changeNumber_60 : decode cX2_changeNumber 60 = .ok (.iconst 1, 1) := by decide +kernel
theorem dX2_changeNumber_61 : decode cX2_changeNumber 61 = .ok (.sipush 200, 3) := by decide +kernel
theorem dX2_changeNumber_64 : decode cX2_changeNumber 64 = .ok (.invokestatic 103, 3) := by decide +kernel
theorem dX2_changeNumber_67 : decode cX2_changeNumber 67 = .ok (.ifCond .eq 11, 3) := by decide +kernel
theorem dX2_changeNumber_70 : decode cX2_changeNumber 70 = .ok (.aload_n 0, 1) := by decide +kernel
theorem dX2_changeNumber_71 : decode cX2_changeNumber 71 = .ok (.iload_n 2, 1) := by decide +kernel
theorem dX2_changeNumber_72 : decode cX2_changeNumber 72 = .ok (.putfield 57, 3) := by decide +kernel
theorem dX2_changeNumber_75 : decode cX2_changeNumber 75 = .ok (.goto 30, 3) := by decide +kernel
theorem dX2_changeNumber_78 : decode cX2_changeNumber 78 = .ok (.iload_n 1, 1) := by decide +kernel
theorem dX2_changeNumber_79 : decode cX2_changeNumber 79 = .ok (.bipush 8, 2) := by decide +kernel
theorem dX2_changeNumber_81 : decode cX2_changeNumber 81 = .ok (.if_icmp .ne 21, 3) := by decide +kernel
theorem dX2_changeNumber_84 : decode cX2_changeNumber 84 = .ok (.iload_n 2, 1) := by decide +kernel
theorem dX2_changeNumber_85 : decode cX2_changeNumber 85 = .ok (.iconst 0, 1) := by decide +kernel
theorem dX2_changeNumber_86 : decode cX2_changeNumber 86 = .ok (.bipush 99, 2) := by decide +kernel
theorem dX2_changeNumber_88 : decode cX2_changeNumber 88 = .ok (.invokestatic 103, 3) := by decide +kernel
theorem dX2_changeNumber_91 : decode cX2_changeNumber 91 = .ok (.ifCond .eq 11, 3) := by decide +kernel
theorem dX2_changeNumber_94 : decode cX2_changeNumber 94 = .ok (.aload_n 0, 1) := by decide +kernel
theorem dX2_changeNumber_95 : decode cX2_changeNumber 95 = .ok (.iload_n 2, 1) := by decide +kernel
theorem dX2_changeNumber_96 : decode cX2_changeNumber 96 = .ok (.putfield 60, 3) := by decide +kernel
theorem dX2_changeNumber_99 : decode cX2_changeNumber 99 = .ok (.goto 6, 3) := by decide +kernel
theorem dX2_changeNumber_102 : decode cX2_changeNumber 102 = .ok (.bipush (-2), 2) := by decide +kernel
theorem dX2_changeNumber_104 : decode cX2_changeNumber 104 = .ok (.ireturn, 1) := by decide +kernel
theorem dX2_changeNumber_105 : decode cX2_changeNumber 105 = .ok (.iload_n 3, 1) := by decide +kernel
theorem dX2_changeNumber_106 : decode cX2_changeNumber 106 = .ok (.ireturn, 1) := by decide +kernel
set_option maxRecDepth 20000 in
theorem ggX2_moveWagon_X2_wagonAt : GoodIn wsX2_moveWagon wsX2_wagonAt := goodIn_r _ [7, 8, 9, 29, 30, 31, 32, 33, 34, 35, 36, 37, 38, 39, 40, 41, 42, 43] (by decide +kernel) (by decide +kernel)
set_option maxRecDepth 20000 in
theorem gX2_moveWagon_X2_wagonAt : GoodIn wsX2_moveWagon (wsV RX2 124 RX2 yX2_wagonAt wsX2_wagonAt) := goodIn_app (goodIn_of _ (by decide +kernel)) ggX2_moveWagon_X2_wagonAt
set_option maxRecDepth 20000 in
theorem ggX2_moveWagon_X2_segmentAt : GoodIn wsX2_moveWagon wsX2_segmentAt := goodIn_r _ [13, 14, 15, 29, 30, 31, 32, 33, 34, 35, 36, 37, 38, 39, 40, 41, 42, 43] (by decide +kernel) (by decide +kernel)
set_option maxRecDepth 20000 in
theorem gX2_moveWagon_X2_segmentAt : GoodIn wsX2_moveWagon (wsV RX2 99 RX2 yX2_segmentAt wsX2_segmentAt) := goodIn_app (goodIn_of _ (by decide +kernel)) ggX2_moveWagon_X2_segmentAt
set_option maxRecDepth 20000 in
theorem ggX2_moveWagon_X5_wayTo : GoodIn wsX2_moveWagon wsX5_wayTo := goodIn_r _ [20, 21, 22, 23, 24, 25, 26, 27, 28] (by decide +kernel) (by decide +kernel)
set_option maxRecDepth 20000 in
theorem gX2_moveWagon_X5_wayTo : GoodIn wsX2_moveWagon (wsV RX2 128 RX5 yX5_wayTo wsX5_wayTo) := goodIn_app (goodIn_of _ (by decide +kernel)) ggX2_moveWagon_X5_wayTo
theorem dX2_moveWagon_0 : decode cX2_moveWagon 0 = .ok (.aload_n 0, 1) := by decide +kernel
theorem dX2_moveWagon_1 : decode cX2_moveWagon 1 = .ok (.iload_n 1, 1) := by decide +kernel
theorem dX2_moveWagon_2 : decode cX2_moveWagon 2 = .ok (.invokevirtual 124, 3) := by decide +kernel
theorem dX2_moveWagon_5 : decode cX2_moveWagon 5 = .ok (.astore_n 3, 1) := by decide +kernel
theorem dX2_moveWagon_6 : decode cX2_moveWagon 6 = .ok (.aload_n 3, 1) := by decide +kernel
theorem dX2_moveWagon_7 : decode cX2_moveWagon 7 = .ok (.ifnull 11, 3) := by decide +kernel
theorem dX2_moveWagon_10 : decode cX2_moveWagon 10 = .ok (.aload_n 0, 1) := by decide +kernel
theorem dX2_moveWagon_11 : decode cX2_moveWagon 11 = .ok (.iload_n 2, 1) := by decide +kernel
theorem dX2_moveWagon_12 : decode cX2_moveWagon 12 = .ok (.invokevirtual 99, 3) := by decide +kernel
theorem dX2_moveWagon_15 : decode cX2_moveWagon 15 = .ok (.ifnonnull 5, 3) := by decide +kernel
theorem dX2_moveWagon_18 : decode cX2_moveWagon 18 = .ok (.iconst (-1), 1) := by decide +kernel
theorem dX2_moveWagon_19 : decode cX2_moveWagon 19 = .ok (.ireturn, 1) := by decide +kernel
theorem dX2_moveWagon_20 : decode cX2_moveWagon 20 = .ok (.aload_n 3, 1) := by decide +kernel
theorem dX2_moveWagon_21 : decode cX2_moveWagon 21 = .ok (.iload_n 2, 1) := by decide +kernel
theorem dX2_moveWagon_22 : decode cX2_moveWagon 22 = .ok (.invokevirtual 128, 3) := by decide +kernel
theorem dX2_moveWagon_25 : decode cX2_moveWagon 25 = .ok (.istore 4, 2) := by decide +kernel
theorem dX2_moveWagon_27 : decode cX2_moveWagon 27 = .ok (.iload 4, 2) := by decide +kernel
theorem dX2_moveWagon_29 : decode cX2_moveWagon 29 = .ok (.aload_n 3, 1) := by decide +kernel
theorem dX2_moveWagon_30 : decode cX2_moveWagon 30 = .ok (.getfield 131, 3) := by decide +kernel
theorem dX2_moveWagon_33 : decode cX2_moveWagon 33 = .ok (.if_icmp .le 6, 3) := by decide +kernel
theorem dX2_moveWagon_36 : decode cX2_moveWagon 36 = .ok (.bipush (-3), 2) := by decide +kernel
theorem dX2_moveWagon_38 : decode cX2_moveWagon 38 = .ok (.ireturn, 1) := by decide +kernel
theorem dX2_moveWagon_39 : decode cX2_moveWagon 39 = .ok (.aload_n 3, 1) := by decide +kernel
theorem dX2_moveWagon_40 : decode cX2_moveWagon 40 = .ok (.dup, 1) := by decide +kernel
theorem dX2_moveWagon_41 : decode cX2_moveWagon 41 = .ok (.getfield 131, 3) := by decide +kernel
theorem dX2_moveWagon_44 : decode cX2_moveWagon 44 = .ok (.iload 4, 2) := by decide +kernel
theorem dX2_moveWagon_46 : decode cX2_moveWagon 46 = .ok (.isub, 1) := by decide +kernel
theorem dX2_moveWagon_47 : decode cX2_moveWagon 47 = .ok (.putfield 131, 3) := by decide +kernel
theorem dX2_moveWagon_50 : decode cX2_moveWagon 50 = .ok (.aload_n 3, 1) := by decide +kernel
theorem dX2_moveWagon_51 : decode cX2_moveWagon 51 = .ok (.iload_n 2, 1) := by decide +kernel
theorem dX2_moveWagon_52 : decode cX2_moveWagon 52 = .ok (.putfield 134, 3) := by decide +kernel
theorem dX2_moveWagon_55 : decode cX2_moveWagon 55 = .ok (.aload_n 3, 1) := by decide +kernel
theorem dX2_moveWagon_56 : decode cX2_moveWagon 56 = .ok (.getfield 131, 3) := by decide +kernel
theorem dX2_moveWagon_59 : decode cX2_moveWagon 59 = .ok (.ireturn, 1) := by decide +kernel
set_option maxRecDepth 20000 in
theorem ggX2_sprayFrom_X2_wagonAt : GoodIn wsX2_sprayFrom wsX2_wagonAt := goodIn_r _ [10, 11, 12, 50, 51, 52, 53, 54, 55, 56, 57, 58, 59, 60, 61, 62, 63, 64] (by decide +kernel) (by decide +kernel)
set_option maxRecDepth 20000 in
theorem gX2_sprayFrom_X2_wagonAt : GoodIn wsX2_sprayFrom (wsV RX2 124 RX2 yX2_wagonAt wsX2_wagonAt) := goodIn_app (goodIn_of _ (by decide +kernel)) ggX2_sprayFrom_X2_wagonAt
set_option maxRecDepth 20000 in
theorem ggX2_sprayFrom_X2_segmentAt : GoodIn wsX2_sprayFrom wsX2_segmentAt := goodIn_r _ [16, 17, 18, 50, 51, 52, 53, 54, 55, 56, 57, 58, 59, 60, 61, 62, 63, 64] (by decide +kernel) (by decide +kernel)
set_option maxRecDepth 20000 in
theorem gX2_sprayFrom_X2_segmentAt : GoodIn wsX2_sprayFrom (wsV RX2 99 RX2 yX2_segmentAt wsX2_segmentAt) := goodIn_app (goodIn_of _ (by decide +kernel)) ggX2_sprayFrom_X2_segmentAt
set_option maxRecDepth 20000 in
theorem ggX2_sprayFrom_X6_within : GoodIn wsX2_sprayFrom wsX6_within := goodIn_r _ [21] (by decide +kernel) (by decide +kernel)
set_option maxRecDepth 20000 in
theorem gX2_sprayFrom_X6_within_n103 : GoodIn wsX2_sprayFrom (wsX6_within) := ggX2_sprayFrom_X6_within
set_option maxRecDepth 20000 in
theorem ggX2_sprayFrom_X5_couldSpray : GoodIn wsX2_sprayFrom wsX5_couldSpray := goodIn_r _ [26, 27, 28, 29, 30, 31, 25, 32, 33, 34, 35, 36, 37, 47, 48, 49] (by decide +kernel) (by decide +kernel)
set_option maxRecDepth 20000 in
theorem gX2_sprayFrom_X5_couldSpray : GoodIn wsX2_sprayFrom (wsV RX2 137 RX5 yX5_couldSpray wsX5_couldSpray) := goodIn_app (goodIn_of _ (by decide +kernel)) ggX2_sprayFrom_X5_couldSpray
set_option maxRecDepth 20000 in
theorem ggX2_sprayFrom_X3_wet : GoodIn wsX2_sprayFrom wsX3_wet := goodIn_r _ [42, 43, 44, 45, 36, 46, 65, 66, 67, 68, 69, 70, 71] (by decide +kernel) (by decide +kernel)
set_option maxRecDepth 20000 in
theorem gX2_sprayFrom_X3_wet : GoodIn wsX2_sprayFrom (wsV RX2 144 RX3 yX3_wet wsX3_wet) := goodIn_app (goodIn_of _ (by decide +kernel)) ggX2_sprayFrom_X3_wet
theorem dX2_sprayFrom_0 : decode cX2_sprayFrom 0 = .ok (.aload_n 0, 1) := by decide +kernel
theorem dX2_sprayFrom_1 : decode cX2_sprayFrom 1 = .ok (.iload_n 1, 1) := by decide +kernel
theorem dX2_sprayFrom_2 : decode cX2_sprayFrom 2 = .ok (.invokevirtual 124, 3) := by decide +kernel
theorem dX2_sprayFrom_5 : decode cX2_sprayFrom 5 = .ok (.astore_n 3, 1) := by decide +kernel
theorem dX2_sprayFrom_6 : decode cX2_sprayFrom 6 = .ok (.aload_n 3, 1) := by decide +kernel
theorem dX2_sprayFrom_7 : decode cX2_sprayFrom 7 = .ok (.ifnonnull 7, 3) := by decide +kernel
theorem dX2_sprayFrom_10 : decode cX2_sprayFrom 10 = .ok (.aconst_null, 1) := by decide +kernel
theorem dX2_sprayFrom_11 : decode cX2_sprayFrom 11 = .ok (.goto 11, 3) := by decide +kernel
theorem dX2_sprayFrom_14 : decode cX2_sprayFrom 14 = .ok (.aload_n 0, 1) := by decide +kernel
theorem dX2_sprayFrom_15 : decode cX2_sprayFrom 15 = .ok (.aload_n 3, 1) := by decide +kernel
theorem dX2_sprayFrom_16 : decode cX2_sprayFrom 16 = .ok (.getfield 134, 3) := by decide +kernel
theorem dX2_sprayFrom_19 : decode cX2_sprayFrom 19 = .ok (.invokevirtual 99, 3) := by decide +kernel
theorem dX2_sprayFrom_22 : decode cX2_sprayFrom 22 = .ok (.astore 4, 2) := by decide +kernel
theorem dX2_sprayFrom_24 : decode cX2_sprayFrom 24 = .ok (.aload_n 3, 1) := by decide +kernel
theorem dX2_sprayFrom_25 : decode cX2_sprayFrom 25 = .ok (.ifnull 8, 3) := by decide +kernel
theorem dX2_sprayFrom_28 : decode cX2_sprayFrom 28 = .ok (.aload 4, 2) := by decide +kernel
theorem dX2_sprayFrom_30 : decode cX2_sprayFrom 30 = .ok (.ifnonnull 5, 3) := by decide +kernel
theorem dX2_sprayFrom_33 : decode cX2_sprayFrom 33 = .ok (.iconst (-1), 1) := by decide +kernel
theorem dX2_sprayFrom_34 : decode cX2_sprayFrom 34 = .ok (.ireturn, 1) := by decide +kernel
theorem dX2_sprayFrom_35 : decode cX2_sprayFrom 35 = .ok (.iload_n 2, 1) := by decide +kernel
theorem dX2_sprayFrom_36 : decode cX2_sprayFrom 36 = .ok (.iconst 1, 1) := by decide +kernel
theorem dX2_sprayFrom_37 : decode cX2_sprayFrom 37 = .ok (.bipush 9, 2) := by decide +kernel
theorem dX2_sprayFrom_39 : decode cX2_sprayFrom 39 = .ok (.invokestatic 103, 3) := by decide +kernel
theorem dX2_sprayFrom_42 : decode cX2_sprayFrom 42 = .ok (.ifCond .ne 6, 3) := by decide +kernel
theorem dX2_sprayFrom_45 : decode cX2_sprayFrom 45 = .ok (.bipush (-2), 2) := by decide +kernel
theorem dX2_sprayFrom_47 : decode cX2_sprayFrom 47 = .ok (.ireturn, 1) := by decide +kernel
theorem dX2_sprayFrom_48 : decode cX2_sprayFrom 48 = .ok (.aload_n 3, 1) := by decide +kernel
theorem dX2_sprayFrom_49 : decode cX2_sprayFrom 49 = .ok (.aload_n 3, 1) := by decide +kernel
theorem dX2_sprayFrom_50 : decode cX2_sprayFrom 50 = .ok (.getfield 134, 3) := by decide +kernel
theorem dX2_sprayFrom_53 : decode cX2_sprayFrom 53 = .ok (.iload_n 2, 1) := by decide +kernel
theorem dX2_sprayFrom_54 : decode cX2_sprayFrom 54 = .ok (.invokevirtual 137, 3) := by decide +kernel
theorem dX2_sprayFrom_57 : decode cX2_sprayFrom 57 = .ok (.ifCond .ne 6, 3) := by decide +kernel
theorem dX2_sprayFrom_60 : decode cX2_sprayFrom 60 = .ok (.bipush (-3), 2) := by decide +kernel
theorem dX2_sprayFrom_62 : decode cX2_sprayFrom 62 = .ok (.ireturn, 1) := by decide +kernel
theorem dX2_sprayFrom_63 : decode cX2_sprayFrom 63 = .ok (.aload_n 3, 1) := by decide +kernel
theorem dX2_sprayFrom_64 : decode cX2_sprayFrom 64 = .ok (.dup, 1) := by decide +kernel
theorem dX2_sprayFrom_65 : decode cX2_sprayFrom 65 = .ok (.getfield 131, 3) := by decide +kernel
theorem dX2_sprayFrom_68 : decode cX2_sprayFrom 68 = .ok (.iconst 1, 1) := by decide +kernel
theorem dX2_sprayFrom_69 : decode cX2_sprayFrom 69 = .ok (.isub, 1) := by decide +kernel
theorem dX2_sprayFrom_70 : decode cX2_sprayFrom 70 = .ok (.putfield 131, 3) := by decide +kernel
theorem dX2_sprayFrom_73 : decode cX2_sprayFrom 73 = .ok (.aload_n 3, 1) := by decide +kernel
theorem dX2_sprayFrom_74 : decode cX2_sprayFrom 74 = .ok (.dup, 1) := by decide +kernel
theorem dX2_sprayFrom_75 : decode cX2_sprayFrom 75 = .ok (.getfield 141, 3) := by decide +kernel
theorem dX2_sprayFrom_78 : decode cX2_sprayFrom 78 = .ok (.iload_n 2, 1) := by decide +kernel
theorem dX2_sprayFrom_79 : decode cX2_sprayFrom 79 = .ok (.isub, 1) := by decide +kernel
theorem dX2_sprayFrom_80 : decode cX2_sprayFrom 80 = .ok (.putfield 141, 3) := by decide +kernel
theorem dX2_sprayFrom_83 : decode cX2_sprayFrom 83 = .ok (.aload_n 0, 1) := by decide +kernel
theorem dX2_sprayFrom_84 : decode cX2_sprayFrom 84 = .ok (.dup, 1) := by decide +kernel
theorem dX2_sprayFrom_85 : decode cX2_sprayFrom 85 = .ok (.getfield 69, 3) := by decide +kernel
theorem dX2_sprayFrom_88 : decode cX2_sprayFrom 88 = .ok (.iload_n 2, 1) := by decide +kernel
theorem dX2_sprayFrom_89 : decode cX2_sprayFrom 89 = .ok (.iadd, 1) := by decide +kernel
theorem dX2_sprayFrom_90 : decode cX2_sprayFrom 90 = .ok (.putfield 69, 3) := by decide +kernel
theorem dX2_sprayFrom_93 : decode cX2_sprayFrom 93 = .ok (.aload 4, 2) := by decide +kernel
theorem dX2_sprayFrom_95 : decode cX2_sprayFrom 95 = .ok (.iload_n 2, 1) := by decide +kernel
theorem dX2_sprayFrom_96 : decode cX2_sprayFrom 96 = .ok (.invokevirtual 144, 3) := by decide +kernel
theorem dX2_sprayFrom_99 : decode cX2_sprayFrom 99 = .ok (.aload 4, 2) := by decide +kernel
theorem dX2_sprayFrom_101 : decode cX2_sprayFrom 101 = .ok (.getfield 147, 3) := by decide +kernel
theorem dX2_sprayFrom_104 : decode cX2_sprayFrom 104 = .ok (.ireturn, 1) := by decide +kernel
set_option maxRecDepth 20000 in
theorem ggX2_fillTank_X2_wagonAt : GoodIn wsX2_fillTank wsX2_wagonAt := goodIn_r _ [13, 14, 15, 31, 32, 33, 34, 35, 36, 37, 38, 39, 40, 41, 42, 43, 44, 45] (by decide +kernel) (by decide +kernel)
set_option maxRecDepth 20000 in
theorem gX2_fillTank_X2_wagonAt : GoodIn wsX2_fillTank (wsV RX2 124 RX2 yX2_wagonAt wsX2_wagonAt) := goodIn_app (goodIn_of _ (by decide +kernel)) ggX2_fillTank_X2_wagonAt
set_option maxRecDepth 20000 in
theorem ggX2_fillTank_X2_whyNoWater : GoodIn wsX2_fillTank wsX2_whyNoWater := goodIn_r _ [19, 8, 20, 21, 1, 3, 2, 22, 23, 24, 12, 25, 26, 27, 28, 29, 30, 46, 47, 48, 49, 50, 51, 52, 31, 32, 33, 34, 35, 36, 37, 38, 39, 40, 41, 42, 43, 44, 45] (by decide +kernel) (by decide +kernel)
set_option maxRecDepth 20000 in
theorem gX2_fillTank_X2_whyNoWater : GoodIn wsX2_fillTank (wsV RX2 150 RX2 yX2_whyNoWater wsX2_whyNoWater) := goodIn_app (goodIn_of _ (by decide +kernel)) ggX2_fillTank_X2_whyNoWater
theorem dX2_fillTank_0 : decode cX2_fillTank 0 = .ok (.aload_n 0, 1) := by decide +kernel
theorem dX2_fillTank_1 : decode cX2_fillTank 1 = .ok (.iload_n 1, 1) := by decide +kernel
theorem dX2_fillTank_2 : decode cX2_fillTank 2 = .ok (.invokevirtual 124, 3) := by decide +kernel
theorem dX2_fillTank_5 : decode cX2_fillTank 5 = .ok (.astore_n 2, 1) := by decide +kernel
theorem dX2_fillTank_6 : decode cX2_fillTank 6 = .ok (.aload_n 2, 1) := by decide +kernel
theorem dX2_fillTank_7 : decode cX2_fillTank 7 = .ok (.ifnonnull 5, 3) := by decide +kernel
theorem dX2_fillTank_10 : decode cX2_fillTank 10 = .ok (.iconst (-1), 1) := by decide +kernel
theorem dX2_fillTank_11 : decode cX2_fillTank 11 = .ok (.ireturn, 1) := by decide +kernel
theorem dX2_fillTank_12 : decode cX2_fillTank 12 = .ok (.aload_n 0, 1) := by decide +kernel
theorem dX2_fillTank_13 : decode cX2_fillTank 13 = .ok (.aload_n 2, 1) := by decide +kernel
theorem dX2_fillTank_14 : decode cX2_fillTank 14 = .ok (.invokevirtual 150, 3) := by decide +kernel
theorem dX2_fillTank_17 : decode cX2_fillTank 17 = .ok (.ifCond .eq 6, 3) := by decide +kernel
theorem dX2_fillTank_20 : decode cX2_fillTank 20 = .ok (.bipush (-3), 2) := by decide +kernel
theorem dX2_fillTank_22 : decode cX2_fillTank 22 = .ok (.ireturn, 1) := by decide +kernel
theorem dX2_fillTank_23 : decode cX2_fillTank 23 = .ok (.bipush 20, 2) := by decide +kernel
theorem dX2_fillTank_25 : decode cX2_fillTank 25 = .ok (.aload_n 2, 1) := by decide +kernel
theorem dX2_fillTank_26 : decode cX2_fillTank 26 = .ok (.getfield 141, 3) := by decide +kernel
theorem dX2_fillTank_29 : decode cX2_fillTank 29 = .ok (.isub, 1) := by decide +kernel
theorem dX2_fillTank_30 : decode cX2_fillTank 30 = .ok (.aload_n 0, 1) := by decide +kernel
theorem dX2_fillTank_31 : decode cX2_fillTank 31 = .ok (.getfield 60, 3) := by decide +kernel
theorem dX2_fillTank_34 : decode cX2_fillTank 34 = .ok (.aload_n 0, 1) := by decide +kernel
theorem dX2_fillTank_35 : decode cX2_fillTank 35 = .ok (.getfield 63, 3) := by decide +kernel
theorem dX2_fillTank_38 : decode cX2_fillTank 38 = .ok (.isub, 1) := by decide +kernel
theorem dX2_fillTank_39 : decode cX2_fillTank 39 = .ok (.invokestatic 154, 3) := by decide +kernel
theorem dX2_fillTank_42 : decode cX2_fillTank 42 = .ok (.istore_n 3, 1) := by decide +kernel
theorem dX2_fillTank_43 : decode cX2_fillTank 43 = .ok (.aload_n 2, 1) := by decide +kernel
theorem dX2_fillTank_44 : decode cX2_fillTank 44 = .ok (.dup, 1) := by decide +kernel
theorem dX2_fillTank_45 : decode cX2_fillTank 45 = .ok (.getfield 131, 3) := by decide +kernel
theorem dX2_fillTank_48 : decode cX2_fillTank 48 = .ok (.iconst 1, 1) := by decide +kernel
theorem dX2_fillTank_49 : decode cX2_fillTank 49 = .ok (.isub, 1) := by decide +kernel
theorem dX2_fillTank_50 : decode cX2_fillTank 50 = .ok (.putfield 131, 3) := by decide +kernel
theorem dX2_fillTank_53 : decode cX2_fillTank 53 = .ok (.aload_n 2, 1) := by decide +kernel
theorem dX2_fillTank_54 : decode cX2_fillTank 54 = .ok (.dup, 1) := by decide +kernel
theorem dX2_fillTank_55 : decode cX2_fillTank 55 = .ok (.getfield 141, 3) := by decide +kernel
theorem dX2_fillTank_58 : decode cX2_fillTank 58 = .ok (.iload_n 3, 1) := by decide +kernel
theorem dX2_fillTank_59 : decode cX2_fillTank 59 = .ok (.iadd, 1) := by decide +kernel
theorem dX2_fillTank_60 : decode cX2_fillTank 60 = .ok (.putfield 141, 3) := by decide +kernel
theorem dX2_fillTank_63 : decode cX2_fillTank 63 = .ok (.aload_n 0, 1) := by decide +kernel
theorem dX2_fillTank_64 : decode cX2_fillTank 64 = .ok (.dup, 1) := by decide +kernel
theorem dX2_fillTank_65 : decode cX2_fillTank 65 = .ok (.getfield 63, 3) := by decide +kernel
theorem dX2_fillTank_68 : decode cX2_fillTank 68 = .ok (.iload_n 3, 1) := by decide +kernel
theorem dX2_fillTank_69 : decode cX2_fillTank 69 = .ok (.iadd, 1) := by decide +kernel
theorem dX2_fillTank_70 : decode cX2_fillTank 70 = .ok (.putfield 63, 3) := by decide +kernel
theorem dX2_fillTank_73 : decode cX2_fillTank 73 = .ok (.iload_n 3, 1) := by decide +kernel
theorem dX2_fillTank_74 : decode cX2_fillTank 74 = .ok (.ireturn, 1) := by decide +kernel
set_option maxRecDepth 20000 in
theorem ggX2_goHours_X6_within : GoodIn wsX2_goHours wsX6_within := goodIn_r _ [4] (by decide +kernel) (by decide +kernel)
set_option maxRecDepth 20000 in
theorem gX2_goHours_X6_within_n103 : GoodIn wsX2_goHours (wsX6_within) := ggX2_goHours_X6_within
set_option maxRecDepth 20000 in
theorem ggX2_goHours_X2_goHour : GoodIn wsX2_goHours wsX2_goHour := goodIn_r _ [9, 10, 11, 12, 13, 8, 14, 15, 16, 17, 18, 19, 20, 21, 22, 23, 24, 25, 26, 27, 28, 29, 30, 31, 32, 33, 34, 35, 36, 37, 38, 39, 40, 41, 42, 43, 44, 45, 46, 47, 48, 49, 1, 50, 51, 52, 53, 54, 55, 56, 57, 58, 59, 60, 61, 62, 63, 64, 65, 66, 67, 68, 69, 70, 71, 72, 73, 74, 75, 76, 77, 78, 79, 80, 81, 82, 83, 84, 85, 86, 87, 88, 89, 90, 91, 92, 93, 94, 95, 96, 97, 98, 99, 100, 101, 102, 103, 104, 105, 106, 107, 108, 109, 110, 111, 112, 113, 114, 115, 116, 117, 118, 119, 120, 121, 122, 123] (by decide +kernel) (by decide +kernel)
set_option maxRecDepth 20000 in
theorem gX2_goHours_X2_goHour : GoodIn wsX2_goHours (wsV RX2 160 RX2 yX2_goHour wsX2_goHour) := goodIn_app (goodIn_of _ (by decide +kernel)) ggX2_goHours_X2_goHour
theorem dX2_goHours_0 : decode cX2_goHours 0 = .ok (.iload_n 1, 1) := by decide +kernel
theorem dX2_goHours_1 : decode cX2_goHours 1 = .ok (.iconst 1, 1) := by decide +kernel
theorem dX2_goHours_2 : decode cX2_goHours 2 = .ok (.bipush 50, 2) := by decide +kernel
theorem dX2_goHours_4 : decode cX2_goHours 4 = .ok (.invokestatic 103, 3) := by decide +kernel
theorem dX2_goHours_7 : decode cX2_goHours 7 = .ok (.ifCond .ne 6, 3) := by decide +kernel
theorem dX2_goHours_10 : decode cX2_goHours 10 = .ok (.bipush (-2), 2) := by decide +kernel
theorem dX2_goHours_12 : decode cX2_goHours 12 = .ok (.ireturn, 1) := by decide +kernel
theorem dX2_goHours_13 : decode cX2_goHours 13 = .ok (.aload_n 0, 1) := by decide +kernel
theorem dX2_goHours_14 : decode cX2_goHours 14 = .ok (.getfield 66, 3) := by decide +kernel
theorem dX2_goHours_17 : decode cX2_goHours 17 = .ok (.istore_n 2, 1) := by decide +kernel
theorem dX2_goHours_18 : decode cX2_goHours 18 = .ok (.iconst 0, 1) := by decide +kernel
theorem dX2_goHours_19 : decode cX2_goHours 19 = .ok (.istore_n 3, 1) := by decide +kernel
theorem dX2_goHours_20 : decode cX2_goHours 20 = .ok (.iload_n 3, 1) := by decide +kernel
theorem dX2_goHours_21 : decode cX2_goHours 21 = .ok (.iload_n 1, 1) := by decide +kernel
theorem dX2_goHours_22 : decode cX2_goHours 22 = .ok (.if_icmp .ge 13, 3) := by decide +kernel
theorem dX2_goHours_25 : decode cX2_goHours 25 = .ok (.aload_n 0, 1) := by decide +kernel
theorem dX2_goHours_26 : decode cX2_goHours 26 = .ok (.invokevirtual 160, 3) := by decide +kernel
theorem dX2_goHours_29 : decode cX2_goHours 29 = .ok (.iinc 3 1, 3) := by decide +kernel
theorem dX2_goHours_32 : decode cX2_goHours 32 = .ok (.goto (-12), 3) := by decide +kernel
theorem dX2_goHours_35 : decode cX2_goHours 35 = .ok (.aload_n 0, 1) := by decide +kernel
theorem dX2_goHours_36 : decode cX2_goHours 36 = .ok (.getfield 66, 3) := by decide +kernel
theorem dX2_goHours_39 : decode cX2_goHours 39 = .ok (.iload_n 2, 1) := by decide +kernel
theorem dX2_goHours_40 : decode cX2_goHours 40 = .ok (.isub, 1) := by decide +kernel
theorem dX2_goHours_41 : decode cX2_goHours 41 = .ok (.ireturn, 1) := by decide +kernel
set_option maxRecDepth 20000 in
theorem ggX2_whyNoWater_X2_segmentAt : GoodIn wsX2_whyNoWater wsX2_segmentAt := goodIn_r _ [11, 12, 13, 24, 25, 26, 27, 28, 29, 30, 31, 32, 33, 34, 35, 36, 37, 38] (by decide +kernel) (by decide +kernel)
set_option maxRecDepth 20000 in
theorem gX2_whyNoWater_X2_segmentAt : GoodIn wsX2_whyNoWater (wsV RX2 99 RX2 yX2_segmentAt wsX2_segmentAt) := goodIn_app (goodIn_of _ (by decide +kernel)) ggX2_whyNoWater_X2_segmentAt
theorem dX2_whyNoWater_0 : decode cX2_whyNoWater 0 = .ok (.aload_n 1, 1) := by decide +kernel
theorem dX2_whyNoWater_1 : decode cX2_whyNoWater 1 = .ok (.getfield 131, 3) := by decide +kernel
theorem dX2_whyNoWater_4 : decode cX2_whyNoWater 4 = .ok (.ifCond .gt 5, 3) := by decide +kernel
theorem dX2_whyNoWater_7 : decode cX2_whyNoWater 7 = .ok (.iconst 1, 1) := by decide +kernel
theorem dX2_whyNoWater_8 : decode cX2_whyNoWater 8 = .ok (.ireturn, 1) := by decide +kernel
theorem dX2_whyNoWater_9 : decode cX2_whyNoWater 9 = .ok (.aload_n 0, 1) := by decide +kernel
theorem dX2_whyNoWater_10 : decode cX2_whyNoWater 10 = .ok (.aload_n 1, 1) := by decide +kernel
theorem dX2_whyNoWater_11 : decode cX2_whyNoWater 11 = .ok (.getfield 134, 3) := by decide +kernel
theorem dX2_whyNoWater_14 : decode cX2_whyNoWater 14 = .ok (.invokevirtual 99, 3) := by decide +kernel
theorem dX2_whyNoWater_17 : decode cX2_whyNoWater 17 = .ok (.astore_n 2, 1) := by decide +kernel
theorem dX2_whyNoWater_18 : decode cX2_whyNoWater 18 = .ok (.aload_n 2, 1) := by decide +kernel
theorem dX2_whyNoWater_19 : decode cX2_whyNoWater 19 = .ok (.ifnull 10, 3) := by decide +kernel
theorem dX2_whyNoWater_22 : decode cX2_whyNoWater 22 = .ok (.aload_n 2, 1) := by decide +kernel
theorem dX2_whyNoWater_23 : decode cX2_whyNoWater 23 = .ok (.getfield 95, 3) := by decide +kernel
theorem dX2_whyNoWater_26 : decode cX2_whyNoWater 26 = .ok (.ifCond .ne 5, 3) := by decide +kernel
theorem dX2_whyNoWater_29 : decode cX2_whyNoWater 29 = .ok (.iconst 2, 1) := by decide +kernel
theorem dX2_whyNoWater_30 : decode cX2_whyNoWater 30 = .ok (.ireturn, 1) := by decide +kernel
theorem dX2_whyNoWater_31 : decode cX2_whyNoWater 31 = .ok (.aload_n 1, 1) := by decide +kernel
theorem dX2_whyNoWater_32 : decode cX2_whyNoWater 32 = .ok (.getfield 141, 3) := by decide +kernel
theorem dX2_whyNoWater_35 : decode cX2_whyNoWater 35 = .ok (.bipush 20, 2) := by decide +kernel
theorem dX2_whyNoWater_37 : decode cX2_whyNoWater 37 = .ok (.if_icmp .lt 5, 3) := by decide +kernel
theorem dX2_whyNoWater_40 : decode cX2_whyNoWater 40 = .ok (.iconst 3, 1) := by decide +kernel
theorem dX2_whyNoWater_41 : decode cX2_whyNoWater 41 = .ok (.ireturn, 1) := by decide +kernel
theorem dX2_whyNoWater_42 : decode cX2_whyNoWater 42 = .ok (.aload_n 0, 1) := by decide +kernel
theorem dX2_whyNoWater_43 : decode cX2_whyNoWater 43 = .ok (.getfield 63, 3) := by decide +kernel
theorem dX2_whyNoWater_46 : decode cX2_whyNoWater 46 = .ok (.aload_n 0, 1) := by decide +kernel
theorem dX2_whyNoWater_47 : decode cX2_whyNoWater 47 = .ok (.getfield 60, 3) := by decide +kernel
theorem dX2_whyNoWater_50 : decode cX2_whyNoWater 50 = .ok (.if_icmp .lt 7, 3) := by decide +kernel
theorem dX2_whyNoWater_53 : decode cX2_whyNoWater 53 = .ok (.iconst 4, 1) := by decide +kernel
theorem dX2_whyNoWater_54 : decode cX2_whyNoWater 54 = .ok (.goto 4, 3) := by decide +kernel
theorem dX2_whyNoWater_57 : decode cX2_whyNoWater 57 = .ok (.iconst 0, 1) := by decide +kernel
theorem dX2_whyNoWater_58 : decode cX2_whyNoWater 58 = .ok (.ireturn, 1) := by decide +kernel
set_option maxRecDepth 20000 in
theorem ggX2_goHour_X2_raiseDust : GoodIn wsX2_goHour wsX2_raiseDust := goodIn_r _ [6, 1, 7, 8, 9, 10, 11, 12, 13, 14, 15, 16, 17, 18, 19, 20, 21, 22, 23, 24, 25, 26, 27, 28, 29, 30, 31, 32, 87, 88, 89, 90, 91, 92, 93, 94, 95, 96, 97, 98, 99, 100, 101, 102, 103, 104, 105, 106, 107, 108] (by decide +kernel) (by decide +kernel)
set_option maxRecDepth 20000 in
theorem gX2_goHour_X2_raiseDust : GoodIn wsX2_goHour (wsV RX2 163 RX2 yX2_raiseDust wsX2_raiseDust) := goodIn_app (goodIn_of _ (by decide +kernel)) ggX2_goHour_X2_raiseDust
set_option maxRecDepth 20000 in
theorem ggX2_goHour_X2_reachHouses : GoodIn wsX2_goHour wsX2_reachHouses := goodIn_r _ [36, 37, 38, 39, 40, 41, 42, 43, 44, 45, 46, 5, 47, 48, 49, 50, 51, 52, 53, 1, 54, 55, 56, 57, 58, 59, 60, 61, 62, 63, 64, 65, 66, 12, 67, 68, 69, 30, 31, 17, 32, 29, 70, 71, 72, 73, 87, 88, 89, 90, 91, 92, 93, 94, 95, 96, 97, 98, 99, 100, 101, 109, 110, 111, 112, 113, 102, 103, 104, 105, 106, 107, 108] (by decide +kernel) (by decide +kernel)
set_option maxRecDepth 20000 in
theorem gX2_goHour_X2_reachHouses : GoodIn wsX2_goHour (wsV RX2 166 RX2 yX2_reachHouses wsX2_reachHouses) := goodIn_app (goodIn_of _ (by decide +kernel)) ggX2_goHour_X2_reachHouses
set_option maxRecDepth 20000 in
theorem ggX2_goHour_X3_settle : GoodIn wsX2_goHour wsX3_settle := goodIn_r _ [77, 28, 102, 103, 104, 105, 106, 107, 108] (by decide +kernel) (by decide +kernel)
set_option maxRecDepth 20000 in
theorem gX2_goHour_X3_settle : GoodIn wsX2_goHour (wsV RX2 169 RX3 yX3_settle wsX3_settle) := goodIn_app (goodIn_of _ (by decide +kernel)) ggX2_goHour_X3_settle
set_option maxRecDepth 20000 in
theorem ggX2_goHour_X2_turnClock : GoodIn wsX2_goHour wsX2_turnClock := goodIn_r _ [81, 82, 83, 84, 85, 86, 87, 88, 89, 90, 91, 92, 93, 94, 95, 96, 97, 98, 99, 100, 101, 114, 115, 116] (by decide +kernel) (by decide +kernel)
set_option maxRecDepth 20000 in
theorem gX2_goHour_X2_turnClock : GoodIn wsX2_goHour (wsV RX2 172 RX2 yX2_turnClock wsX2_turnClock) := goodIn_app (goodIn_of _ (by decide +kernel)) ggX2_goHour_X2_turnClock
theorem dX2_goHour_0 : decode cX2_goHour 0 = .ok (.aload_n 0, 1) := by decide +kernel
theorem dX2_goHour_1 : decode cX2_goHour 1 = .ok (.invokevirtual 163, 3) := by decide +kernel
theorem dX2_goHour_4 : decode cX2_goHour 4 = .ok (.aload_n 0, 1) := by decide +kernel
theorem dX2_goHour_5 : decode cX2_goHour 5 = .ok (.invokevirtual 166, 3) := by decide +kernel
theorem dX2_goHour_8 : decode cX2_goHour 8 = .ok (.aload_n 0, 1) := by decide +kernel
theorem dX2_goHour_9 : decode cX2_goHour 9 = .ok (.getfield 11, 3) := by decide +kernel
theorem dX2_goHour_12 : decode cX2_goHour 12 = .ok (.astore_n 1, 1) := by decide +kernel
theorem dX2_goHour_13 : decode cX2_goHour 13 = .ok (.aload_n 1, 1) := by decide +kernel
theorem dX2_goHour_14 : decode cX2_goHour 14 = .ok (.arraylength, 1) := by decide +kernel
theorem dX2_goHour_15 : decode cX2_goHour 15 = .ok (.istore_n 2, 1) := by decide +kernel
theorem dX2_goHour_16 : decode cX2_goHour 16 = .ok (.iconst 0, 1) := by decide +kernel
theorem dX2_goHour_17 : decode cX2_goHour 17 = .ok (.istore_n 3, 1) := by decide +kernel
theorem dX2_goHour_18 : decode cX2_goHour 18 = .ok (.iload_n 3, 1) := by decide +kernel
theorem dX2_goHour_19 : decode cX2_goHour 19 = .ok (.iload_n 2, 1) := by decide +kernel
theorem dX2_goHour_20 : decode cX2_goHour 20 = .ok (.if_icmp .ge 19, 3) := by decide +kernel
theorem dX2_goHour_23 : decode cX2_goHour 23 = .ok (.aload_n 1, 1) := by decide +kernel
theorem dX2_goHour_24 : decode cX2_goHour 24 = .ok (.iload_n 3, 1) := by decide +kernel
theorem dX2_goHour_25 : decode cX2_goHour 25 = .ok (.aaload, 1) := by decide +kernel
theorem dX2_goHour_26 : decode cX2_goHour 26 = .ok (.astore 4, 2) := by decide +kernel
theorem dX2_goHour_28 : decode cX2_goHour 28 = .ok (.aload 4, 2) := by decide +kernel
theorem dX2_goHour_30 : decode cX2_goHour 30 = .ok (.invokevirtual 169, 3) := by decide +kernel
theorem dX2_goHour_33 : decode cX2_goHour 33 = .ok (.iinc 3 1, 3) := by decide +kernel
theorem dX2_goHour_36 : decode cX2_goHour 36 = .ok (.goto (-18), 3) := by decide +kernel
theorem dX2_goHour_39 : decode cX2_goHour 39 = .ok (.aload_n 0, 1) := by decide +kernel
theorem dX2_goHour_40 : decode cX2_goHour 40 = .ok (.invokevirtual 172, 3) := by decide +kernel
theorem dX2_goHour_43 : decode cX2_goHour 43 = .ok (.return_, 1) := by decide +kernel
set_option maxRecDepth 20000 in
theorem ggX2_raiseDust_X3_dry : GoodIn wsX2_raiseDust wsX3_dry := goodIn_r _ [8, 9, 10, 11, 12, 13, 14, 15, 16, 7, 17, 18, 43, 44, 45, 46, 47, 48, 49] (by decide +kernel) (by decide +kernel)
set_option maxRecDepth 20000 in
theorem gX2_raiseDust_X3_dry : GoodIn wsX2_raiseDust (wsV RX2 175 RX3 yX3_dry wsX3_dry) := goodIn_app (goodIn_of _ (by decide +kernel)) ggX2_raiseDust_X3_dry
set_option maxRecDepth 20000 in
theorem ggX2_raiseDust_X3_raise : GoodIn wsX2_raiseDust wsX3_raise := goodIn_r _ [22, 18, 23, 24, 9, 25, 26, 12, 27, 43, 44, 45, 46, 47, 48, 49] (by decide +kernel) (by decide +kernel)
set_option maxRecDepth 20000 in
theorem gX2_raiseDust_X3_raise : GoodIn wsX2_raiseDust (wsV RX2 178 RX3 yX3_raise wsX3_raise) := goodIn_app (goodIn_of _ (by decide +kernel)) ggX2_raiseDust_X3_raise
theorem dX2_raiseDust_0 : decode cX2_raiseDust 0 = .ok (.aload_n 0, 1) := by decide +kernel
theorem dX2_raiseDust_1 : decode cX2_raiseDust 1 = .ok (.getfield 11, 3) := by decide +kernel
theorem dX2_raiseDust_4 : decode cX2_raiseDust 4 = .ok (.astore_n 1, 1) := by decide +kernel
theorem dX2_raiseDust_5 : decode cX2_raiseDust 5 = .ok (.aload_n 1, 1) := by decide +kernel
theorem dX2_raiseDust_6 : decode cX2_raiseDust 6 = .ok (.arraylength, 1) := by decide +kernel
theorem dX2_raiseDust_7 : decode cX2_raiseDust 7 = .ok (.istore_n 2, 1) := by decide +kernel
theorem dX2_raiseDust_8 : decode cX2_raiseDust 8 = .ok (.iconst 0, 1) := by decide +kernel
theorem dX2_raiseDust_9 : decode cX2_raiseDust 9 = .ok (.istore_n 3, 1) := by decide +kernel
theorem dX2_raiseDust_10 : decode cX2_raiseDust 10 = .ok (.iload_n 3, 1) := by decide +kernel
theorem dX2_raiseDust_11 : decode cX2_raiseDust 11 = .ok (.iload_n 2, 1) := by decide +kernel
theorem dX2_raiseDust_12 : decode cX2_raiseDust 12 = .ok (.if_icmp .ge 36, 3) := by decide +kernel
theorem dX2_raiseDust_15 : decode cX2_raiseDust 15 = .ok (.aload_n 1, 1) := by decide +kernel
theorem dX2_raiseDust_16 : decode cX2_raiseDust 16 = .ok (.iload_n 3, 1) := by decide +kernel
theorem dX2_raiseDust_17 : decode cX2_raiseDust 17 = .ok (.aaload, 1) := by decide +kernel
theorem dX2_raiseDust_18 : decode cX2_raiseDust 18 = .ok (.astore 4, 2) := by decide +kernel
theorem dX2_raiseDust_20 : decode cX2_raiseDust 20 = .ok (.aload 4, 2) := by decide +kernel
theorem dX2_raiseDust_22 : decode cX2_raiseDust 22 = .ok (.aload_n 0, 1) := by decide +kernel
theorem dX2_raiseDust_23 : decode cX2_raiseDust 23 = .ok (.getfield 54, 3) := by decide +kernel
theorem dX2_raiseDust_26 : decode cX2_raiseDust 26 = .ok (.aload_n 0, 1) := by decide +kernel
theorem dX2_raiseDust_27 : decode cX2_raiseDust 27 = .ok (.getfield 51, 3) := by decide +kernel
theorem dX2_raiseDust_30 : decode cX2_raiseDust 30 = .ok (.invokevirtual 175, 3) := by decide +kernel
theorem dX2_raiseDust_33 : decode cX2_raiseDust 33 = .ok (.aload 4, 2) := by decide +kernel
theorem dX2_raiseDust_35 : decode cX2_raiseDust 35 = .ok (.aload_n 0, 1) := by decide +kernel
theorem dX2_raiseDust_36 : decode cX2_raiseDust 36 = .ok (.getfield 51, 3) := by decide +kernel
theorem dX2_raiseDust_39 : decode cX2_raiseDust 39 = .ok (.invokevirtual 178, 3) := by decide +kernel
theorem dX2_raiseDust_42 : decode cX2_raiseDust 42 = .ok (.iinc 3 1, 3) := by decide +kernel
theorem dX2_raiseDust_45 : decode cX2_raiseDust 45 = .ok (.goto (-35), 3) := by decide +kernel
theorem dX2_raiseDust_48 : decode cX2_raiseDust 48 = .ok (.return_, 1) := by decide +kernel
set_option maxRecDepth 20000 in
theorem ggX2_reachHouses_X2_houseAt : GoodIn wsX2_reachHouses wsX2_houseAt := goodIn_r _ [12, 1, 13, 46, 47, 48, 49, 50, 51, 52, 53, 54, 55, 56, 57, 58, 59, 60] (by decide +kernel) (by decide +kernel)
set_option maxRecDepth 20000 in
theorem gX2_reachHouses_X2_houseAt : GoodIn wsX2_reachHouses (wsV RX2 181 RX2 yX2_houseAt wsX2_houseAt) := goodIn_app (goodIn_of _ (by decide +kernel)) ggX2_reachHouses_X2_houseAt
set_option maxRecDepth 20000 in
theorem ggX2_reachHouses_X2_segmentAt : GoodIn wsX2_reachHouses wsX2_segmentAt := goodIn_r _ [17, 18, 19, 46, 47, 48, 49, 50, 51, 52, 53, 54, 55, 56, 57, 58, 59, 60] (by decide +kernel) (by decide +kernel)
set_option maxRecDepth 20000 in
theorem gX2_reachHouses_X2_segmentAt : GoodIn wsX2_reachHouses (wsV RX2 99 RX2 yX2_segmentAt wsX2_segmentAt) := goodIn_app (goodIn_of _ (by decide +kernel)) ggX2_reachHouses_X2_segmentAt
set_option maxRecDepth 20000 in
theorem ggX2_reachHouses_X2_dustFor : GoodIn wsX2_reachHouses wsX2_dustFor := goodIn_r _ [23, 2, 24, 25, 26, 27, 11, 28, 18, 19, 29, 61, 62, 63, 64, 65, 46, 47, 48, 49, 50, 51, 52, 53, 54, 55, 56, 57, 58, 59, 60, 66, 67, 68, 69, 70, 71, 72] (by decide +kernel) (by decide +kernel)
set_option maxRecDepth 20000 in
theorem gX2_reachHouses_X2_dustFor : GoodIn wsX2_reachHouses (wsV RX2 186 RX2 yX2_dustFor wsX2_dustFor) := goodIn_app (goodIn_of _ (by decide +kernel)) ggX2_reachHouses_X2_dustFor
set_option maxRecDepth 20000 in
theorem ggX2_reachHouses_X3_hearComplaint : GoodIn wsX2_reachHouses wsX3_hearComplaint := goodIn_r _ [34, 35, 36, 37, 38, 39, 40, 41, 42, 43, 44, 33, 45, 66, 67, 68, 69, 70, 71, 72] (by decide +kernel) (by decide +kernel)
set_option maxRecDepth 20000 in
theorem gX2_reachHouses_X3_hearComplaint : GoodIn wsX2_reachHouses (wsV RX2 197 RX3 yX3_hearComplaint wsX3_hearComplaint) := goodIn_app (goodIn_of _ (by decide +kernel)) ggX2_reachHouses_X3_hearComplaint
theorem dX2_reachHouses_0 : decode cX2_reachHouses 0 = .ok (.iconst 0, 1) := by decide +kernel
theorem dX2_reachHouses_1 : decode cX2_reachHouses 1 = .ok (.istore_n 1, 1) := by decide +kernel
theorem dX2_reachHouses_2 : decode cX2_reachHouses 2 = .ok (.iload_n 1, 1) := by decide +kernel
theorem dX2_reachHouses_3 : decode cX2_reachHouses 3 = .ok (.aload_n 0, 1) := by decide +kernel
theorem dX2_reachHouses_4 : decode cX2_reachHouses 4 = .ok (.getfield 39, 3) := by decide +kernel
theorem dX2_reachHouses_7 : decode cX2_reachHouses 7 = .ok (.if_icmp .ge 97, 3) := by decide +kernel
theorem dX2_reachHouses_10 : decode cX2_reachHouses 10 = .ok (.aload_n 0, 1) := by decide +kernel
theorem dX2_reachHouses_11 : decode cX2_reachHouses 11 = .ok (.iload_n 1, 1) := by decide +kernel
theorem dX2_reachHouses_12 : decode cX2_reachHouses 12 = .ok (.invokevirtual 181, 3) := by decide +kernel
theorem dX2_reachHouses_15 : decode cX2_reachHouses 15 = .ok (.astore_n 2, 1) := by decide +kernel
theorem dX2_reachHouses_16 : decode cX2_reachHouses 16 = .ok (.aload_n 2, 1) := by decide +kernel
theorem dX2_reachHouses_17 : decode cX2_reachHouses 17 = .ok (.ifnonnull 7, 3) := by decide +kernel
theorem dX2_reachHouses_20 : decode cX2_reachHouses 20 = .ok (.aconst_null, 1) := by decide +kernel
theorem dX2_reachHouses_21 : decode cX2_reachHouses 21 = .ok (.goto 11, 3) := by decide +kernel
theorem dX2_reachHouses_24 : decode cX2_reachHouses 24 = .ok (.aload_n 0, 1) := by decide +kernel
theorem dX2_reachHouses_25 : decode cX2_reachHouses 25 = .ok (.aload_n 2, 1) := by decide +kernel
theorem dX2_reachHouses_26 : decode cX2_reachHouses 26 = .ok (.getfield 185, 3) := by decide +kernel
theorem dX2_reachHouses_29 : decode cX2_reachHouses 29 = .ok (.invokevirtual 99, 3) := by decide +kernel
theorem dX2_reachHouses_32 : decode cX2_reachHouses 32 = .ok (.astore_n 3, 1) := by decide +kernel
theorem dX2_reachHouses_33 : decode cX2_reachHouses 33 = .ok (.aload_n 2, 1) := by decide +kernel
theorem dX2_reachHouses_34 : decode cX2_reachHouses 34 = .ok (.ifnull 64, 3) := by decide +kernel
theorem dX2_reachHouses_37 : decode cX2_reachHouses 37 = .ok (.aload_n 3, 1) := by decide +kernel
theorem dX2_reachHouses_38 : decode cX2_reachHouses 38 = .ok (.ifnull 60, 3) := by decide +kernel
theorem dX2_reachHouses_41 : decode cX2_reachHouses 41 = .ok (.aload_n 2, 1) := by decide +kernel
theorem dX2_reachHouses_42 : decode cX2_reachHouses 42 = .ok (.aload_n 0, 1) := by decide +kernel
theorem dX2_reachHouses_43 : decode cX2_reachHouses 43 = .ok (.aload_n 2, 1) := by decide +kernel
theorem dX2_reachHouses_44 : decode cX2_reachHouses 44 = .ok (.invokevirtual 186, 3) := by decide +kernel
theorem dX2_reachHouses_47 : decode cX2_reachHouses 47 = .ok (.putfield 190, 3) := by decide +kernel
theorem dX2_reachHouses_50 : decode cX2_reachHouses 50 = .ok (.aload_n 2, 1) := by decide +kernel
theorem dX2_reachHouses_51 : decode cX2_reachHouses 51 = .ok (.dup, 1) := by decide +kernel
theorem dX2_reachHouses_52 : decode cX2_reachHouses 52 = .ok (.getfield 193, 3) := by decide +kernel
theorem dX2_reachHouses_55 : decode cX2_reachHouses 55 = .ok (.aload_n 2, 1) := by decide +kernel
theorem dX2_reachHouses_56 : decode cX2_reachHouses 56 = .ok (.getfield 190, 3) := by decide +kernel
theorem dX2_reachHouses_59 : decode cX2_reachHouses 59 = .ok (.iadd, 1) := by decide +kernel
theorem dX2_reachHouses_60 : decode cX2_reachHouses 60 = .ok (.putfield 193, 3) := by decide +kernel
theorem dX2_reachHouses_63 : decode cX2_reachHouses 63 = .ok (.aload_n 2, 1) := by decide +kernel
theorem dX2_reachHouses_64 : decode cX2_reachHouses 64 = .ok (.getfield 190, 3) := by decide +kernel
theorem dX2_reachHouses_67 : decode cX2_reachHouses 67 = .ok (.aload_n 0, 1) := by decide +kernel
theorem dX2_reachHouses_68 : decode cX2_reachHouses 68 = .ok (.getfield 57, 3) := by decide +kernel
theorem dX2_reachHouses_71 : decode cX2_reachHouses 71 = .ok (.if_icmp .lt 27, 3) := by decide +kernel
theorem dX2_reachHouses_74 : decode cX2_reachHouses 74 = .ok (.aload_n 0, 1) := by decide +kernel
theorem dX2_reachHouses_75 : decode cX2_reachHouses 75 = .ok (.dup, 1) := by decide +kernel
theorem dX2_reachHouses_76 : decode cX2_reachHouses 76 = .ok (.getfield 66, 3) := by decide +kernel
theorem dX2_reachHouses_79 : decode cX2_reachHouses 79 = .ok (.iconst 1, 1) := by decide +kernel
theorem dX2_reachHouses_80 : decode cX2_reachHouses 80 = .ok (.iadd, 1) := by decide +kernel
theorem dX2_reachHouses_81 : decode cX2_reachHouses 81 = .ok (.putfield 66, 3) := by decide +kernel
theorem dX2_reachHouses_84 : decode cX2_reachHouses 84 = .ok (.aload_n 2, 1) := by decide +kernel
theorem dX2_reachHouses_85 : decode cX2_reachHouses 85 = .ok (.dup, 1) := by decide +kernel
theorem dX2_reachHouses_86 : decode cX2_reachHouses 86 = .ok (.getfield 196, 3) := by decide +kernel
theorem dX2_reachHouses_89 : decode cX2_reachHouses 89 = .ok (.iconst 1, 1) := by decide +kernel
theorem dX2_reachHouses_90 : decode cX2_reachHouses 90 = .ok (.iadd, 1) := by decide +kernel
theorem dX2_reachHouses_91 : decode cX2_reachHouses 91 = .ok (.putfield 196, 3) := by decide +kernel
theorem dX2_reachHouses_94 : decode cX2_reachHouses 94 = .ok (.aload_n 3, 1) := by decide +kernel
theorem dX2_reachHouses_95 : decode cX2_reachHouses 95 = .ok (.invokevirtual 197, 3) := by decide +kernel
theorem dX2_reachHouses_98 : decode cX2_reachHouses 98 = .ok (.iinc 1 1, 3) := by decide +kernel
theorem dX2_reachHouses_101 : decode cX2_reachHouses 101 = .ok (.goto (-99), 3) := by decide +kernel
theorem dX2_reachHouses_104 : decode cX2_reachHouses 104 = .ok (.return_, 1) := by decide +kernel
theorem dX2_turnClock_0 : decode cX2_turnClock 0 = .ok (.aload_n 0, 1) := by decide +kernel
theorem dX2_turnClock_1 : decode cX2_turnClock 1 = .ok (.dup, 1) := by decide +kernel
theorem dX2_turnClock_2 : decode cX2_turnClock 2 = .ok (.getfield 48, 3) := by decide +kernel
theorem dX2_turnClock_5 : decode cX2_turnClock 5 = .ok (.iconst 1, 1) := by decide +kernel
theorem dX2_turnClock_6 : decode cX2_turnClock 6 = .ok (.iadd, 1) := by decide +kernel
theorem dX2_turnClock_7 : decode cX2_turnClock 7 = .ok (.putfield 48, 3) := by decide +kernel
theorem dX2_turnClock_10 : decode cX2_turnClock 10 = .ok (.aload_n 0, 1) := by decide +kernel
theorem dX2_turnClock_11 : decode cX2_turnClock 11 = .ok (.getfield 48, 3) := by decide +kernel
theorem dX2_turnClock_14 : decode cX2_turnClock 14 = .ok (.bipush 10, 2) := by decide +kernel
theorem dX2_turnClock_16 : decode cX2_turnClock 16 = .ok (.if_icmp .lt 23, 3) := by decide +kernel
theorem dX2_turnClock_19 : decode cX2_turnClock 19 = .ok (.aload_n 0, 1) := by decide +kernel
theorem dX2_turnClock_20 : decode cX2_turnClock 20 = .ok (.iconst 0, 1) := by decide +kernel
theorem dX2_turnClock_21 : decode cX2_turnClock 21 = .ok (.putfield 48, 3) := by decide +kernel
theorem dX2_turnClock_24 : decode cX2_turnClock 24 = .ok (.aload_n 0, 1) := by decide +kernel
theorem dX2_turnClock_25 : decode cX2_turnClock 25 = .ok (.dup, 1) := by decide +kernel
theorem dX2_turnClock_26 : decode cX2_turnClock 26 = .ok (.getfield 45, 3) := by decide +kernel
theorem dX2_turnClock_29 : decode cX2_turnClock 29 = .ok (.iconst 1, 1) := by decide +kernel
theorem dX2_turnClock_30 : decode cX2_turnClock 30 = .ok (.iadd, 1) := by decide +kernel
theorem dX2_turnClock_31 : decode cX2_turnClock 31 = .ok (.putfield 45, 3) := by decide +kernel
theorem dX2_turnClock_34 : decode cX2_turnClock 34 = .ok (.aload_n 0, 1) := by decide +kernel
theorem dX2_turnClock_35 : decode cX2_turnClock 35 = .ok (.iconst 0, 1) := by decide +kernel
theorem dX2_turnClock_36 : decode cX2_turnClock 36 = .ok (.putfield 63, 3) := by decide +kernel
theorem dX2_turnClock_39 : decode cX2_turnClock 39 = .ok (.aload_n 0, 1) := by decide +kernel
theorem dX2_turnClock_40 : decode cX2_turnClock 40 = .ok (.getfield 25, 3) := by decide +kernel
theorem dX2_turnClock_43 : decode cX2_turnClock 43 = .ok (.astore_n 1, 1) := by decide +kernel
theorem dX2_turnClock_44 : decode cX2_turnClock 44 = .ok (.aload_n 1, 1) := by decide +kernel
theorem dX2_turnClock_45 : decode cX2_turnClock 45 = .ok (.arraylength, 1) := by decide +kernel
theorem dX2_turnClock_46 : decode cX2_turnClock 46 = .ok (.istore_n 2, 1) := by decide +kernel
theorem dX2_turnClock_47 : decode cX2_turnClock 47 = .ok (.iconst 0, 1) := by decide +kernel
theorem dX2_turnClock_48 : decode cX2_turnClock 48 = .ok (.istore_n 3, 1) := by decide +kernel
theorem dX2_turnClock_49 : decode cX2_turnClock 49 = .ok (.iload_n 3, 1) := by decide +kernel
theorem dX2_turnClock_50 : decode cX2_turnClock 50 = .ok (.iload_n 2, 1) := by decide +kernel
theorem dX2_turnClock_51 : decode cX2_turnClock 51 = .ok (.if_icmp .ge 20, 3) := by decide +kernel
theorem dX2_turnClock_54 : decode cX2_turnClock 54 = .ok (.aload_n 1, 1) := by decide +kernel
theorem dX2_turnClock_55 : decode cX2_turnClock 55 = .ok (.iload_n 3, 1) := by decide +kernel
theorem dX2_turnClock_56 : decode cX2_turnClock 56 = .ok (.aaload, 1) := by decide +kernel
theorem dX2_turnClock_57 : decode cX2_turnClock 57 = .ok (.astore 4, 2) := by decide +kernel
theorem dX2_turnClock_59 : decode cX2_turnClock 59 = .ok (.aload 4, 2) := by decide +kernel
theorem dX2_turnClock_61 : decode cX2_turnClock 61 = .ok (.iconst 4, 1) := by decide +kernel
theorem dX2_turnClock_62 : decode cX2_turnClock 62 = .ok (.putfield 131, 3) := by decide +kernel
theorem dX2_turnClock_65 : decode cX2_turnClock 65 = .ok (.iinc 3 1, 3) := by decide +kernel
theorem dX2_turnClock_68 : decode cX2_turnClock 68 = .ok (.goto (-19), 3) := by decide +kernel
theorem dX2_turnClock_71 : decode cX2_turnClock 71 = .ok (.return_, 1) := by decide +kernel
theorem dX2_dustAt_0 : decode cX2_dustAt 0 = .ok (.iload_n 1, 1) := by decide +kernel
theorem dX2_dustAt_1 : decode cX2_dustAt 1 = .ok (.ifCond .lt 29, 3) := by decide +kernel
theorem dX2_dustAt_4 : decode cX2_dustAt 4 = .ok (.iload_n 1, 1) := by decide +kernel
theorem dX2_dustAt_5 : decode cX2_dustAt 5 = .ok (.aload_n 0, 1) := by decide +kernel
theorem dX2_dustAt_6 : decode cX2_dustAt 6 = .ok (.getfield 35, 3) := by decide +kernel
theorem dX2_dustAt_9 : decode cX2_dustAt 9 = .ok (.if_icmp .ge 21, 3) := by decide +kernel
theorem dX2_dustAt_12 : decode cX2_dustAt 12 = .ok (.iload_n 1, 1) := by decide +kernel
theorem dX2_dustAt_13 : decode cX2_dustAt 13 = .ok (.bipush 10, 2) := by decide +kernel
theorem dX2_dustAt_15 : decode cX2_dustAt 15 = .ok (.if_icmp .ge 15, 3) := by decide +kernel
theorem dX2_dustAt_18 : decode cX2_dustAt 18 = .ok (.aload_n 0, 1) := by decide +kernel
theorem dX2_dustAt_19 : decode cX2_dustAt 19 = .ok (.getfield 11, 3) := by decide +kernel
theorem dX2_dustAt_22 : decode cX2_dustAt 22 = .ok (.iload_n 1, 1) := by decide +kernel
theorem dX2_dustAt_23 : decode cX2_dustAt 23 = .ok (.aaload, 1) := by decide +kernel
theorem dX2_dustAt_24 : decode cX2_dustAt 24 = .ok (.getfield 200, 3) := by decide +kernel
theorem dX2_dustAt_27 : decode cX2_dustAt 27 = .ok (.goto 4, 3) := by decide +kernel
theorem dX2_dustAt_30 : decode cX2_dustAt 30 = .ok (.iconst 0, 1) := by decide +kernel
theorem dX2_dustAt_31 : decode cX2_dustAt 31 = .ok (.ireturn, 1) := by decide +kernel
set_option maxRecDepth 20000 in
theorem ggX2_dustFor_X2_dustAt : GoodIn wsX2_dustFor wsX2_dustAt := goodIn_r _ [7, 8, 9, 10, 16, 17, 18, 19, 20, 21, 22, 23, 24, 25, 26, 27, 28, 29, 30, 31, 32, 33, 34, 35, 36, 37] (by decide +kernel) (by decide +kernel)
set_option maxRecDepth 20000 in
theorem gX2_dustFor_X2_dustAt : GoodIn wsX2_dustFor (wsV RX2 91 RX2 yX2_dustAt wsX2_dustAt) := goodIn_app (goodIn_of _ (by decide +kernel)) ggX2_dustFor_X2_dustAt
theorem dX2_dustFor_0 : decode cX2_dustFor 0 = .ok (.aload_n 1, 1) := by decide +kernel
theorem dX2_dustFor_1 : decode cX2_dustFor 1 = .ok (.getfield 185, 3) := by decide +kernel
theorem dX2_dustFor_4 : decode cX2_dustFor 4 = .ok (.istore_n 2, 1) := by decide +kernel
theorem dX2_dustFor_5 : decode cX2_dustFor 5 = .ok (.iconst 2, 1) := by decide +kernel
theorem dX2_dustFor_6 : decode cX2_dustFor 6 = .ok (.iconst 1, 1) := by decide +kernel
theorem dX2_dustFor_7 : decode cX2_dustFor 7 = .ok (.aload_n 1, 1) := by decide +kernel
theorem dX2_dustFor_8 : decode cX2_dustFor 8 = .ok (.getfield 203, 3) := by decide +kernel
theorem dX2_dustFor_11 : decode cX2_dustFor 11 = .ok (.iadd, 1) := by decide +kernel
theorem dX2_dustFor_12 : decode cX2_dustFor 12 = .ok (.imul, 1) := by decide +kernel
theorem dX2_dustFor_13 : decode cX2_dustFor 13 = .ok (.istore_n 3, 1) := by decide +kernel
theorem dX2_dustFor_14 : decode cX2_dustFor 14 = .ok (.iload_n 3, 1) := by decide +kernel
theorem dX2_dustFor_15 : decode cX2_dustFor 15 = .ok (.ifCond .gt 7, 3) := by decide +kernel
theorem dX2_dustFor_18 : decode cX2_dustFor 18 = .ok (.iconst 0, 1) := by decide +kernel
theorem dX2_dustFor_19 : decode cX2_dustFor 19 = .ok (.goto 28, 3) := by decide +kernel
theorem dX2_dustFor_22 : decode cX2_dustFor 22 = .ok (.iconst 2, 1) := by decide +kernel
theorem dX2_dustFor_23 : decode cX2_dustFor 23 = .ok (.aload_n 0, 1) := by decide +kernel
theorem dX2_dustFor_24 : decode cX2_dustFor 24 = .ok (.iload_n 2, 1) := by decide +kernel
theorem dX2_dustFor_25 : decode cX2_dustFor 25 = .ok (.invokevirtual 91, 3) := by decide +kernel
theorem dX2_dustFor_28 : decode cX2_dustFor 28 = .ok (.imul, 1) := by decide +kernel
theorem dX2_dustFor_29 : decode cX2_dustFor 29 = .ok (.aload_n 0, 1) := by decide +kernel
theorem dX2_dustFor_30 : decode cX2_dustFor 30 = .ok (.iload_n 2, 1) := by decide +kernel
theorem dX2_dustFor_31 : decode cX2_dustFor 31 = .ok (.iconst 1, 1) := by decide +kernel
theorem dX2_dustFor_32 : decode cX2_dustFor 32 = .ok (.isub, 1) := by decide +kernel
theorem dX2_dustFor_33 : decode cX2_dustFor 33 = .ok (.invokevirtual 91, 3) := by decide +kernel
theorem dX2_dustFor_36 : decode cX2_dustFor 36 = .ok (.iadd, 1) := by decide +kernel
theorem dX2_dustFor_37 : decode cX2_dustFor 37 = .ok (.aload_n 0, 1) := by decide +kernel
theorem dX2_dustFor_38 : decode cX2_dustFor 38 = .ok (.iload_n 2, 1) := by decide +kernel
theorem dX2_dustFor_39 : decode cX2_dustFor 39 = .ok (.iconst 1, 1) := by decide +kernel
theorem dX2_dustFor_40 : decode cX2_dustFor 40 = .ok (.iadd, 1) := by decide +kernel
theorem dX2_dustFor_41 : decode cX2_dustFor 41 = .ok (.invokevirtual 91, 3) := by decide +kernel
theorem dX2_dustFor_44 : decode cX2_dustFor 44 = .ok (.iadd, 1) := by decide +kernel
theorem dX2_dustFor_45 : decode cX2_dustFor 45 = .ok (.iload_n 3, 1) := by decide +kernel
theorem dX2_dustFor_46 : decode cX2_dustFor 46 = .ok (.idiv, 1) := by decide +kernel
theorem dX2_dustFor_47 : decode cX2_dustFor 47 = .ok (.ireturn, 1) := by decide +kernel
set_option maxRecDepth 20000 in
theorem ggX2_dustForAll_X2_houseAt : GoodIn wsX2_dustForAll wsX2_houseAt := goodIn_r _ [6, 1, 7, 21, 22, 23, 24, 25, 26, 27, 28, 29, 30, 31, 32, 33, 34, 35] (by decide +kernel) (by decide +kernel)
set_option maxRecDepth 20000 in
theorem gX2_dustForAll_X2_houseAt : GoodIn wsX2_dustForAll (wsV RX2 181 RX2 yX2_houseAt wsX2_houseAt) := goodIn_app (goodIn_of _ (by decide +kernel)) ggX2_dustForAll_X2_houseAt
set_option maxRecDepth 20000 in
theorem ggX2_dustForAll_X2_dustFor : GoodIn wsX2_dustForAll wsX2_dustFor := goodIn_r _ [11, 12, 13, 14, 15, 16, 5, 17, 18, 19, 20, 36, 37, 38, 39, 40, 21, 22, 23, 24, 25, 26, 27, 28, 29, 30, 31, 32, 33, 34, 35, 41, 42, 43, 44, 45, 46, 47] (by decide +kernel) (by decide +kernel)
set_option maxRecDepth 20000 in
theorem gX2_dustForAll_X2_dustFor : GoodIn wsX2_dustForAll (wsV RX2 186 RX2 yX2_dustFor wsX2_dustFor) := goodIn_app (goodIn_of _ (by decide +kernel)) ggX2_dustForAll_X2_dustFor
theorem dX2_dustForAll_0 : decode cX2_dustForAll 0 = .ok (.iconst 0, 1) := by decide +kernel
theorem dX2_dustForAll_1 : decode cX2_dustForAll 1 = .ok (.istore_n 1, 1) := by decide +kernel
theorem dX2_dustForAll_2 : decode cX2_dustForAll 2 = .ok (.iconst 0, 1) := by decide +kernel
theorem dX2_dustForAll_3 : decode cX2_dustForAll 3 = .ok (.istore_n 2, 1) := by decide +kernel
theorem dX2_dustForAll_4 : decode cX2_dustForAll 4 = .ok (.iload_n 2, 1) := by decide +kernel
theorem dX2_dustForAll_5 : decode cX2_dustForAll 5 = .ok (.aload_n 0, 1) := by decide +kernel
theorem dX2_dustForAll_6 : decode cX2_dustForAll 6 = .ok (.getfield 39, 3) := by decide +kernel
theorem dX2_dustForAll_9 : decode cX2_dustForAll 9 = .ok (.if_icmp .ge 31, 3) := by decide +kernel
theorem dX2_dustForAll_12 : decode cX2_dustForAll 12 = .ok (.aload_n 0, 1) := by decide +kernel
theorem dX2_dustForAll_13 : decode cX2_dustForAll 13 = .ok (.iload_n 2, 1) := by decide +kernel
theorem dX2_dustForAll_14 : decode cX2_dustForAll 14 = .ok (.invokevirtual 181, 3) := by decide +kernel
theorem dX2_dustForAll_17 : decode cX2_dustForAll 17 = .ok (.astore_n 3, 1) := by decide +kernel
theorem dX2_dustForAll_18 : decode cX2_dustForAll 18 = .ok (.iload_n 1, 1) := by decide +kernel
theorem dX2_dustForAll_19 : decode cX2_dustForAll 19 = .ok (.aload_n 3, 1) := by decide +kernel
theorem dX2_dustForAll_20 : decode cX2_dustForAll 20 = .ok (.ifnonnull 7, 3) := by decide +kernel
theorem dX2_dustForAll_23 : decode cX2_dustForAll 23 = .ok (.iconst 0, 1) := by decide +kernel
theorem dX2_dustForAll_24 : decode cX2_dustForAll 24 = .ok (.goto 8, 3) := by decide +kernel
theorem dX2_dustForAll_27 : decode cX2_dustForAll 27 = .ok (.aload_n 0, 1) := by decide +kernel
theorem dX2_dustForAll_28 : decode cX2_dustForAll 28 = .ok (.aload_n 3, 1) := by decide +kernel
theorem dX2_dustForAll_29 : decode cX2_dustForAll 29 = .ok (.invokevirtual 186, 3) := by decide +kernel
theorem dX2_dustForAll_32 : decode cX2_dustForAll 32 = .ok (.iadd, 1) := by decide +kernel
theorem dX2_dustForAll_33 : decode cX2_dustForAll 33 = .ok (.istore_n 1, 1) := by decide +kernel
theorem dX2_dustForAll_34 : decode cX2_dustForAll 34 = .ok (.iinc 2 1, 3) := by decide +kernel
theorem dX2_dustForAll_37 : decode cX2_dustForAll 37 = .ok (.goto (-33), 3) := by decide +kernel
theorem dX2_dustForAll_40 : decode cX2_dustForAll 40 = .ok (.iload_n 1, 1) := by decide +kernel
theorem dX2_dustForAll_41 : decode cX2_dustForAll 41 = .ok (.ireturn, 1) := by decide +kernel
set_option maxRecDepth 20000 in
theorem ggX2_obeys_X2_goHours : GoodIn wsX2_obeys wsX2_goHours := goodIn_r _ [5, 6, 7, 8, 9, 10, 11, 12, 4, 13, 14, 15, 16, 17, 18, 19, 20, 21, 22, 23, 24, 25, 26, 27, 28, 29, 30, 31, 32, 33, 34, 35, 36, 37, 38, 39, 40, 41, 42, 43, 44, 45, 46, 47, 48, 49, 50, 51, 52, 53, 54, 55, 56, 57, 58, 59, 60, 61, 62, 63, 64, 65, 66, 67, 68, 69, 70, 71, 72, 73, 74, 75, 76, 77, 78, 79, 80, 81, 82, 83, 84, 85, 86, 87, 88, 89, 90, 91, 92, 93, 94, 95, 96, 97, 173, 174, 175, 176, 177, 178, 179, 180, 181, 182, 183, 184, 185, 186, 187, 188, 189, 190, 191, 192, 193, 194, 195, 196, 197, 198, 199, 200, 201, 202] (by decide +kernel) (by decide +kernel)
set_option maxRecDepth 20000 in
theorem gX2_obeys_X2_goHours : GoodIn wsX2_obeys (wsV RX2 209 RX2 yX2_goHours wsX2_goHours) := goodIn_app (goodIn_of _ (by decide +kernel)) ggX2_obeys_X2_goHours
set_option maxRecDepth 20000 in
theorem ggX2_obeys_X2_moveWagon : GoodIn wsX2_obeys wsX2_moveWagon := goodIn_r _ [101, 97, 102, 103, 104, 105, 4, 106, 107, 96, 60, 61, 62, 63, 64, 14, 108, 109, 110, 111, 112, 113, 114, 115, 29, 116, 200, 201, 202, 173, 174, 175, 176, 177, 178, 179, 180, 181, 182, 183, 184, 185, 186, 187] (by decide +kernel) (by decide +kernel)
set_option maxRecDepth 20000 in
theorem gX2_obeys_X2_moveWagon : GoodIn wsX2_obeys (wsV RX2 212 RX2 yX2_moveWagon wsX2_moveWagon) := goodIn_app (goodIn_of _ (by decide +kernel)) ggX2_obeys_X2_moveWagon
set_option maxRecDepth 20000 in
theorem ggX2_obeys_X2_sprayFrom : GoodIn wsX2_obeys wsX2_sprayFrom := goodIn_r _ [120, 102, 97, 121, 122, 123, 103, 104, 105, 4, 106, 107, 96, 60, 61, 62, 63, 64, 14, 7, 8, 9, 124, 125, 126, 111, 127, 128, 129, 130, 109, 110, 112, 113, 114, 115, 29, 116, 131, 132, 133, 24, 134, 26, 42, 43, 44, 200, 201, 202, 173, 174, 175, 176, 177, 178, 179, 180, 181, 182, 183, 184, 185, 186, 187, 188, 189, 190, 191, 192, 193, 194] (by decide +kernel) (by decide +kernel)
set_option maxRecDepth 20000 in
theorem gX2_obeys_X2_sprayFrom : GoodIn wsX2_obeys (wsV RX2 215 RX2 yX2_sprayFrom wsX2_sprayFrom) := goodIn_app (goodIn_of _ (by decide +kernel)) ggX2_obeys_X2_sprayFrom
set_option maxRecDepth 20000 in
theorem ggX2_obeys_X2_fillTank : GoodIn wsX2_obeys wsX2_fillTank := goodIn_r _ [138, 121, 139, 95, 140, 43, 29, 44, 97, 103, 104, 105, 4, 106, 107, 96, 141, 142, 143, 144, 102, 145, 60, 61, 62, 63, 64, 14, 200, 201, 202, 173, 174, 175, 176, 177, 178, 179, 180, 181, 182, 183, 184, 185, 186, 187, 188, 189, 190, 191, 192, 193, 194] (by decide +kernel) (by decide +kernel)
set_option maxRecDepth 20000 in
theorem gX2_obeys_X2_fillTank : GoodIn wsX2_obeys (wsV RX2 218 RX2 yX2_fillTank wsX2_fillTank) := goodIn_app (goodIn_of _ (by decide +kernel)) ggX2_obeys_X2_fillTank
set_option maxRecDepth 20000 in
theorem ggX2_obeys_X2_changeLimit : GoodIn wsX2_obeys wsX2_changeLimit := goodIn_r _ [149, 150, 60, 61, 62, 4, 63, 64, 14, 7, 8, 9, 151, 82, 83, 24, 84, 80, 188, 189, 190, 191, 192, 193, 194, 173, 174, 175, 176, 177, 178, 179, 180, 181, 182, 183, 184, 185, 186, 187] (by decide +kernel) (by decide +kernel)
set_option maxRecDepth 20000 in
theorem gX2_obeys_X2_changeLimit : GoodIn wsX2_obeys (wsV RX2 221 RX2 yX2_changeLimit wsX2_changeLimit) := goodIn_app (goodIn_of _ (by decide +kernel)) ggX2_obeys_X2_changeLimit
set_option maxRecDepth 20000 in
theorem ggX2_obeys_X2_changeSurface : GoodIn wsX2_obeys wsX2_changeSurface := goodIn_r _ [155, 156, 60, 61, 62, 4, 63, 64, 14, 7, 8, 9, 188, 189, 190, 191, 192, 193, 194, 173, 174, 175, 176, 177, 178, 179, 180, 181, 182, 183, 184, 185, 186, 187] (by decide +kernel) (by decide +kernel)
set_option maxRecDepth 20000 in
theorem gX2_obeys_X2_changeSurface : GoodIn wsX2_obeys (wsV RX2 224 RX2 yX2_changeSurface wsX2_changeSurface) := goodIn_app (goodIn_of _ (by decide +kernel)) ggX2_obeys_X2_changeSurface
set_option maxRecDepth 20000 in
theorem ggX2_obeys_X2_changeNumber : GoodIn wsX2_obeys wsX2_changeNumber := goodIn_r _ [160, 20, 19, 53, 139, 161, 162, 163, 4, 164, 64, 49, 107, 94, 93, 95, 6, 122, 165, 166, 167, 168, 70, 71, 72, 73, 14, 74, 7, 8, 9, 173, 174, 175, 176, 177, 178, 179, 180, 181, 182, 183, 184, 185, 186, 187, 188, 189, 190, 191, 192, 193, 194] (by decide +kernel) (by decide +kernel)
set_option maxRecDepth 20000 in
theorem gX2_obeys_X2_changeNumber : GoodIn wsX2_obeys (wsV RX2 227 RX2 yX2_changeNumber wsX2_changeNumber) := goodIn_app (goodIn_of _ (by decide +kernel)) ggX2_obeys_X2_changeNumber
set_option maxRecDepth 20000 in
theorem ggX2_obeys_X2_complainsAtMost : GoodIn wsX2_obeys wsX2_complainsAtMost := goodIn_r _ [172, 54, 55, 56, 57, 4, 58, 49, 59, 195, 196, 197, 198, 199, 173, 174, 175, 176, 177, 178, 179, 180, 181, 182, 183, 184, 185, 186, 187] (by decide +kernel) (by decide +kernel)
set_option maxRecDepth 20000 in
theorem gX2_obeys_X2_complainsAtMost : GoodIn wsX2_obeys (wsV RX2 230 RX2 yX2_complainsAtMost wsX2_complainsAtMost) := goodIn_app (goodIn_of _ (by decide +kernel)) ggX2_obeys_X2_complainsAtMost
set_option maxRecDepth 20000 in
theorem ggX2_obeys_X2_segmentAt : GoodIn wsX2_obeys wsX2_segmentAt := goodIn_r _ [63, 64, 14, 173, 174, 175, 176, 177, 178, 179, 180, 181, 182, 183, 184, 185, 186, 187] (by decide +kernel) (by decide +kernel)
set_option maxRecDepth 20000 in
theorem gX2_obeys_X2_segmentAt : GoodIn wsX2_obeys (wsV RX2 99 RX2 yX2_segmentAt wsX2_segmentAt) := goodIn_app (goodIn_of _ (by decide +kernel)) ggX2_obeys_X2_segmentAt
set_option maxRecDepth 20000 in
theorem ggX2_obeys_X2_dustAt : GoodIn wsX2_obeys wsX2_dustAt := goodIn_r _ [73, 64, 14, 74, 173, 174, 175, 176, 177, 178, 179, 180, 181, 182, 183, 184, 185, 186, 187, 188, 189, 190, 191, 192, 193, 194] (by decide +kernel) (by decide +kernel)
set_option maxRecDepth 20000 in
theorem gX2_obeys_X2_dustAt : GoodIn wsX2_obeys (wsV RX2 91 RX2 yX2_dustAt wsX2_dustAt) := goodIn_app (goodIn_of _ (by decide +kernel)) ggX2_obeys_X2_dustAt
theorem dX2_obeys_0 : decode cX2_obeys 0 = .ok (.iload_n 1, 1) := by decide +kernel
theorem dX2_obeys_1 : decode cX2_obeys 1 = .ok (.bipush 100, 2) := by decide +kernel
theorem dX2_obeys_3 : decode cX2_obeys 3 = .ok (.idiv, 1) := by decide +kernel
theorem dX2_obeys_4 : decode cX2_obeys 4 = .ok (.bipush 10, 2) := by decide +kernel
theorem dX2_obeys_6 : decode cX2_obeys 6 = .ok (.irem, 1) := by decide +kernel
theorem dX2_obeys_7 : decode cX2_obeys 7 = .ok (.istore_n 2, 1) := by decide +kernel
theorem dX2_obeys_8 : decode cX2_obeys 8 = .ok (.iload_n 1, 1) := by decide +kernel
theorem dX2_obeys_9 : decode cX2_obeys 9 = .ok (.bipush 10, 2) := by decide +kernel
theorem dX2_obeys_11 : decode cX2_obeys 11 = .ok (.irem, 1) := by decide +kernel
theorem dX2_obeys_12 : decode cX2_obeys 12 = .ok (.istore_n 3, 1) := by decide +kernel
theorem dX2_obeys_13 : decode cX2_obeys 13 = .ok (.iload_n 1, 1) := by decide +kernel
theorem dX2_obeys_14 : decode cX2_obeys 14 = .ok (.bipush 100, 2) := by decide +kernel
theorem dX2_obeys_16 : decode cX2_obeys 16 = .ok (.irem, 1) := by decide +kernel
theorem dX2_obeys_17 : decode cX2_obeys 17 = .ok (.istore 4, 2) := by decide +kernel
theorem dX2_obeys_19 : decode cX2_obeys 19 = .ok (.iload 4, 2) := by decide +kernel
theorem dX2_obeys_21 : decode cX2_obeys 21 = .ok (.bipush 10, 2) := by decide +kernel
theorem dX2_obeys_23 : decode cX2_obeys 23 = .ok (.if_icmp .ge 7, 3) := by decide +kernel
theorem dX2_obeys_26 : decode cX2_obeys 26 = .ok (.iconst 1, 1) := by decide +kernel
theorem dX2_obeys_27 : decode cX2_obeys 27 = .ok (.goto 4, 3) := by decide +kernel
theorem dX2_obeys_30 : decode cX2_obeys 30 = .ok (.iconst 0, 1) := by decide +kernel
theorem dX2_obeys_31 : decode cX2_obeys 31 = .ok (.istore 5, 2) := by decide +kernel
theorem dX2_obeys_33 : decode cX2_obeys 33 = .ok (.iload_n 1, 1) := by decide +kernel
theorem dX2_obeys_34 : decode cX2_obeys 34 = .ok (.sipush 1000, 3) := by decide +kernel
theorem dX2_obeys_37 : decode cX2_obeys 37 = .ok (.idiv, 1) := by decide +kernel
theorem dX2_obeys_38 : decode cX2_obeys 38 = .ok (.tableswitch 223 1 9 #[50, 69, 89, 109, 128, 148, 168, 188, 196], 50) := by decide +kernel
theorem dX2_obeys_88 : decode cX2_obeys 88 = .ok (.iload_n 2, 1) := by decide +kernel
theorem dX2_obeys_89 : decode cX2_obeys 89 = .ok (.ifCond .ne 16, 3) := by decide +kernel
theorem dX2_obeys_92 : decode cX2_obeys 92 = .ok (.aload_n 0, 1) := by decide +kernel
theorem dX2_obeys_93 : decode cX2_obeys 93 = .ok (.iload 4, 2) := by decide +kernel
theorem dX2_obeys_95 : decode cX2_obeys 95 = .ok (.invokevirtual 209, 3) := by decide +kernel
theorem dX2_obeys_98 : decode cX2_obeys 98 = .ok (.ifCond .lt 7, 3) := by decide +kernel
theorem dX2_obeys_101 : decode cX2_obeys 101 = .ok (.iconst 1, 1) := by decide +kernel
theorem dX2_obeys_102 : decode cX2_obeys 102 = .ok (.goto 4, 3) := by decide +kernel
theorem dX2_obeys_105 : decode cX2_obeys 105 = .ok (.iconst 0, 1) := by decide +kernel
theorem dX2_obeys_106 : decode cX2_obeys 106 = .ok (.ireturn, 1) := by decide +kernel
theorem dX2_obeys_107 : decode cX2_obeys 107 = .ok (.iload 5, 2) := by decide +kernel
theorem dX2_obeys_109 : decode cX2_obeys 109 = .ok (.ifCond .eq 16, 3) := by decide +kernel
theorem dX2_obeys_112 : decode cX2_obeys 112 = .ok (.aload_n 0, 1) := by decide +kernel
theorem dX2_obeys_113 : decode cX2_obeys 113 = .ok (.iload_n 2, 1) := by decide +kernel
theorem dX2_obeys_114 : decode cX2_obeys 114 = .ok (.iload_n 3, 1) := by decide +kernel
theorem dX2_obeys_115 : decode cX2_obeys 115 = .ok (.invokevirtual 212, 3) := by decide +kernel
theorem dX2_obeys_118 : decode cX2_obeys 118 = .ok (.ifCond .lt 7, 3) := by decide +kernel
theorem dX2_obeys_121 : decode cX2_obeys 121 = .ok (.iconst 1, 1) := by decide +kernel
theorem dX2_obeys_122 : decode cX2_obeys 122 = .ok (.goto 4, 3) := by decide +kernel
theorem dX2_obeys_125 : decode cX2_obeys 125 = .ok (.iconst 0, 1) := by decide +kernel
theorem dX2_obeys_126 : decode cX2_obeys 126 = .ok (.ireturn, 1) := by decide +kernel
theorem dX2_obeys_127 : decode cX2_obeys 127 = .ok (.iload 5, 2) := by decide +kernel
theorem dX2_obeys_129 : decode cX2_obeys 129 = .ok (.ifCond .eq 16, 3) := by decide +kernel
theorem dX2_obeys_132 : decode cX2_obeys 132 = .ok (.aload_n 0, 1) := by decide +kernel
theorem dX2_obeys_133 : decode cX2_obeys 133 = .ok (.iload_n 2, 1) := by decide +kernel
theorem dX2_obeys_134 : decode cX2_obeys 134 = .ok (.iload_n 3, 1) := by decide +kernel
theorem dX2_obeys_135 : decode cX2_obeys 135 = .ok (.invokevirtual 215, 3) := by decide +kernel
theorem dX2_obeys_138 : decode cX2_obeys 138 = .ok (.ifCond .lt 7, 3) := by decide +kernel
theorem dX2_obeys_141 : decode cX2_obeys 141 = .ok (.iconst 1, 1) := by decide +kernel
theorem dX2_obeys_142 : decode cX2_obeys 142 = .ok (.goto 4, 3) := by decide +kernel
theorem dX2_obeys_145 : decode cX2_obeys 145 = .ok (.iconst 0, 1) := by decide +kernel
theorem dX2_obeys_146 : decode cX2_obeys 146 = .ok (.ireturn, 1) := by decide +kernel
theorem dX2_obeys_147 : decode cX2_obeys 147 = .ok (.iload 4, 2) := by decide +kernel
theorem dX2_obeys_149 : decode cX2_obeys 149 = .ok (.ifCond .ne 15, 3) := by decide +kernel
theorem dX2_obeys_152 : decode cX2_obeys 152 = .ok (.aload_n 0, 1) := by decide +kernel
theorem dX2_obeys_153 : decode cX2_obeys 153 = .ok (.iload_n 2, 1) := by decide +kernel
theorem dX2_obeys_154 : decode cX2_obeys 154 = .ok (.invokevirtual 218, 3) := by decide +kernel
theorem dX2_obeys_157 : decode cX2_obeys 157 = .ok (.ifCond .lt 7, 3) := by decide +kernel
theorem dX2_obeys_160 : decode cX2_obeys 160 = .ok (.iconst 1, 1) := by decide +kernel
theorem dX2_obeys_161 : decode cX2_obeys 161 = .ok (.goto 4, 3) := by decide +kernel
theorem dX2_obeys_164 : decode cX2_obeys 164 = .ok (.iconst 0, 1) := by decide +kernel
theorem dX2_obeys_165 : decode cX2_obeys 165 = .ok (.ireturn, 1) := by decide +kernel
theorem dX2_obeys_166 : decode cX2_obeys 166 = .ok (.iload 5, 2) := by decide +kernel
theorem dX2_obeys_168 : decode cX2_obeys 168 = .ok (.ifCond .eq 16, 3) := by decide +kernel
theorem dX2_obeys_171 : decode cX2_obeys 171 = .ok (.aload_n 0, 1) := by decide +kernel
theorem dX2_obeys_172 : decode cX2_obeys 172 = .ok (.iload_n 2, 1) := by decide +kernel
theorem dX2_obeys_173 : decode cX2_obeys 173 = .ok (.iload_n 3, 1) := by decide +kernel
theorem dX2_obeys_174 : decode cX2_obeys 174 = .ok (.invokevirtual 221, 3) := by decide +kernel
theorem dX2_obeys_177 : decode cX2_obeys 177 = .ok (.ifCond .lt 7, 3) := by decide +kernel
theorem dX2_obeys_180 : decode cX2_obeys 180 = .ok (.iconst 1, 1) := by decide +kernel
theorem dX2_obeys_181 : decode cX2_obeys 181 = .ok (.goto 4, 3) := by decide +kernel
theorem dX2_obeys_184 : decode cX2_obeys 184 = .ok (.iconst 0, 1) := by decide +kernel
theorem dX2_obeys_185 : decode cX2_obeys 185 = .ok (.ireturn, 1) := by decide +kernel
theorem dX2_obeys_186 : decode cX2_obeys 186 = .ok (.iload 5, 2) := by decide +kernel
theorem dX2_obeys_188 : decode cX2_obeys 188 = .ok (.ifCond .eq 16, 3) := by decide +kernel
theorem dX2_obeys_191 : decode cX2_obeys 191 = .ok (.aload_n 0, 1) := by decide +kernel
theorem dX2_obeys_192 : decode cX2_obeys 192 = .ok (.iload_n 2, 1) := by decide +kernel
theorem dX2_obeys_193 : decode cX2_obeys 193 = .ok (.iload_n 3, 1) := by decide +kernel
theorem dX2_obeys_194 : decode cX2_obeys 194 = .ok (.invokevirtual 224, 3) := by decide +kernel
theorem dX2_obeys_197 : decode cX2_obeys 197 = .ok (.ifCond .lt 7, 3) := by decide +kernel
theorem dX2_obeys_200 : decode cX2_obeys 200 = .ok (.iconst 1, 1) := by decide +kernel
theorem dX2_obeys_201 : decode cX2_obeys 201 = .ok (.goto 4, 3) := by decide +kernel
theorem dX2_obeys_204 : decode cX2_obeys 204 = .ok (.iconst 0, 1) := by decide +kernel
theorem dX2_obeys_205 : decode cX2_obeys 205 = .ok (.ireturn, 1) := by decide +kernel
theorem dX2_obeys_206 : decode cX2_obeys 206 = .ok (.iload_n 2, 1) := by decide +kernel
theorem dX2_obeys_207 : decode cX2_obeys 207 = .ok (.ifCond .ne 17, 3) := by decide +kernel
theorem dX2_obeys_210 : decode cX2_obeys 210 = .ok (.aload_n 0, 1) := by decide +kernel
theorem dX2_obeys_211 : decode cX2_obeys 211 = .ok (.iconst 5, 1) := by decide +kernel
theorem dX2_obeys_212 : decode cX2_obeys 212 = .ok (.iload 4, 2) := by decide +kernel
theorem dX2_obeys_214 : decode cX2_obeys 214 = .ok (.invokevirtual 227, 3) := by decide +kernel
theorem dX2_obeys_217 : decode cX2_obeys 217 = .ok (.ifCond .lt 7, 3) := by decide +kernel
theorem dX2_obeys_220 : decode cX2_obeys 220 = .ok (.iconst 1, 1) := by decide +kernel
theorem dX2_obeys_221 : decode cX2_obeys 221 = .ok (.goto 4, 3) := by decide +kernel
theorem dX2_obeys_224 : decode cX2_obeys 224 = .ok (.iconst 0, 1) := by decide +kernel
theorem dX2_obeys_225 : decode cX2_obeys 225 = .ok (.ireturn, 1) := by decide +kernel
theorem dX2_obeys_226 : decode cX2_obeys 226 = .ok (.aload_n 0, 1) := by decide +kernel
theorem dX2_obeys_227 : decode cX2_obeys 227 = .ok (.iload_n 2, 1) := by decide +kernel
theorem dX2_obeys_228 : decode cX2_obeys 228 = .ok (.iload 4, 2) := by decide +kernel
theorem dX2_obeys_230 : decode cX2_obeys 230 = .ok (.invokevirtual 230, 3) := by decide +kernel
theorem dX2_obeys_233 : decode cX2_obeys 233 = .ok (.ireturn, 1) := by decide +kernel
theorem dX2_obeys_234 : decode cX2_obeys 234 = .ok (.aload_n 0, 1) := by decide +kernel
theorem dX2_obeys_235 : decode cX2_obeys 235 = .ok (.iload_n 2, 1) := by decide +kernel
theorem dX2_obeys_236 : decode cX2_obeys 236 = .ok (.invokevirtual 99, 3) := by decide +kernel
theorem dX2_obeys_239 : decode cX2_obeys 239 = .ok (.ifnull 20, 3) := by decide +kernel
theorem dX2_obeys_242 : decode cX2_obeys 242 = .ok (.aload_n 0, 1) := by decide +kernel
theorem dX2_obeys_243 : decode cX2_obeys 243 = .ok (.iload_n 2, 1) := by decide +kernel
theorem dX2_obeys_244 : decode cX2_obeys 244 = .ok (.invokevirtual 91, 3) := by decide +kernel
theorem dX2_obeys_247 : decode cX2_obeys 247 = .ok (.bipush 10, 2) := by decide +kernel
theorem dX2_obeys_249 : decode cX2_obeys 249 = .ok (.iload 4, 2) := by decide +kernel
theorem dX2_obeys_251 : decode cX2_obeys 251 = .ok (.imul, 1) := by decide +kernel
theorem dX2_obeys_252 : decode cX2_obeys 252 = .ok (.if_icmp .gt 7, 3) := by decide +kernel
theorem dX2_obeys_255 : decode cX2_obeys 255 = .ok (.iconst 1, 1) := by decide +kernel
theorem dX2_obeys_256 : decode cX2_obeys 256 = .ok (.goto 4, 3) := by decide +kernel
theorem dX2_obeys_259 : decode cX2_obeys 259 = .ok (.iconst 0, 1) := by decide +kernel
theorem dX2_obeys_260 : decode cX2_obeys 260 = .ok (.ireturn, 1) := by decide +kernel
theorem dX2_obeys_261 : decode cX2_obeys 261 = .ok (.iconst 0, 1) := by decide +kernel
theorem dX2_obeys_262 : decode cX2_obeys 262 = .ok (.ireturn, 1) := by decide +kernel
set_option maxRecDepth 20000 in
theorem ggX2_complainsAtMost_X2_houseAt : GoodIn wsX2_complainsAtMost wsX2_houseAt := goodIn_r _ [6, 7, 8, 14, 15, 16, 17, 18, 19, 20, 21, 22, 23, 24, 25, 26, 27, 28] (by decide +kernel) (by decide +kernel)
set_option maxRecDepth 20000 in
theorem gX2_complainsAtMost_X2_houseAt : GoodIn wsX2_complainsAtMost (wsV RX2 181 RX2 yX2_houseAt wsX2_houseAt) := goodIn_app (goodIn_of _ (by decide +kernel)) ggX2_complainsAtMost_X2_houseAt
theorem dX2_complainsAtMost_0 : decode cX2_complainsAtMost 0 = .ok (.aload_n 0, 1) := by decide +kernel
theorem dX2_complainsAtMost_1 : decode cX2_complainsAtMost 1 = .ok (.iload_n 1, 1) := by decide +kernel
theorem dX2_complainsAtMost_2 : decode cX2_complainsAtMost 2 = .ok (.invokevirtual 181, 3) := by decide +kernel
theorem dX2_complainsAtMost_5 : decode cX2_complainsAtMost 5 = .ok (.astore_n 3, 1) := by decide +kernel
theorem dX2_complainsAtMost_6 : decode cX2_complainsAtMost 6 = .ok (.aload_n 3, 1) := by decide +kernel
theorem dX2_complainsAtMost_7 : decode cX2_complainsAtMost 7 = .ok (.ifnull 15, 3) := by decide +kernel
theorem dX2_complainsAtMost_10 : decode cX2_complainsAtMost 10 = .ok (.aload_n 3, 1) := by decide +kernel
theorem dX2_complainsAtMost_11 : decode cX2_complainsAtMost 11 = .ok (.getfield 196, 3) := by decide +kernel
theorem dX2_complainsAtMost_14 : decode cX2_complainsAtMost 14 = .ok (.iload_n 2, 1) := by decide +kernel
theorem dX2_complainsAtMost_15 : decode cX2_complainsAtMost 15 = .ok (.if_icmp .gt 7, 3) := by decide +kernel
theorem dX2_complainsAtMost_18 : decode cX2_complainsAtMost 18 = .ok (.iconst 1, 1) := by decide +kernel
theorem dX2_complainsAtMost_19 : decode cX2_complainsAtMost 19 = .ok (.goto 4, 3) := by decide +kernel
theorem dX2_complainsAtMost_22 : decode cX2_complainsAtMost 22 = .ok (.iconst 0, 1) := by decide +kernel
theorem dX2_complainsAtMost_23 : decode cX2_complainsAtMost 23 = .ok (.ireturn, 1) := by decide +kernel
set_option maxRecDepth 20000 in
theorem ggX2_meetChance_X2_wagonAt : GoodIn wsX2_meetChance wsX2_wagonAt := goodIn_r _ [14, 3, 15, 59, 60, 61, 62, 63, 64, 65, 66, 67, 68, 69, 70, 71, 72, 73] (by decide +kernel) (by decide +kernel)
set_option maxRecDepth 20000 in
theorem gX2_meetChance_X2_wagonAt : GoodIn wsX2_meetChance (wsV RX2 124 RX2 yX2_wagonAt wsX2_wagonAt) := goodIn_app (goodIn_of _ (by decide +kernel)) ggX2_meetChance_X2_wagonAt
set_option maxRecDepth 20000 in
theorem ggX2_meetChance_X2_moveWagon : GoodIn wsX2_meetChance wsX2_moveWagon := goodIn_r _ [19, 20, 21, 10, 11, 12, 13, 14, 3, 15, 22, 23, 24, 25, 4, 26, 27, 28, 29, 30, 31, 32, 33, 34, 8, 35, 74, 75, 76, 59, 60, 61, 62, 63, 64, 65, 66, 67, 68, 69, 70, 71, 72, 73] (by decide +kernel) (by decide +kernel)
set_option maxRecDepth 20000 in
theorem gX2_meetChance_X2_moveWagon : GoodIn wsX2_meetChance (wsV RX2 212 RX2 yX2_moveWagon wsX2_moveWagon) := goodIn_app (goodIn_of _ (by decide +kernel)) ggX2_meetChance_X2_moveWagon
set_option maxRecDepth 20000 in
theorem ggX2_meetChance_X2_sprayFrom : GoodIn wsX2_meetChance wsX2_sprayFrom := goodIn_r _ [39, 21, 20, 5, 40, 41, 10, 11, 12, 13, 14, 3, 15, 22, 23, 24, 25, 4, 26, 42, 43, 44, 45, 46, 47, 30, 48, 49, 50, 51, 28, 29, 31, 32, 33, 34, 8, 35, 52, 53, 54, 55, 56, 57, 58, 7, 9, 74, 75, 76, 59, 60, 61, 62, 63, 64, 65, 66, 67, 68, 69, 70, 71, 72, 73, 77, 78, 79, 80, 81, 82, 83] (by decide +kernel) (by decide +kernel)
set_option maxRecDepth 20000 in
theorem gX2_meetChance_X2_sprayFrom : GoodIn wsX2_meetChance (wsV RX2 215 RX2 yX2_sprayFrom wsX2_sprayFrom) := goodIn_app (goodIn_of _ (by decide +kernel)) ggX2_meetChance_X2_sprayFrom
theorem dX2_meetChance_0 : decode cX2_meetChance 0 = .ok (.aload_n 0, 1) := by decide +kernel
theorem dX2_meetChance_1 : decode cX2_meetChance 1 = .ok (.iload_n 1, 1) := by decide +kernel
theorem dX2_meetChance_2 : decode cX2_meetChance 2 = .ok (.bipush 21, 2) := by decide +kernel
theorem dX2_meetChance_4 : decode cX2_meetChance 4 = .ok (.irem, 1) := by decide +kernel
theorem dX2_meetChance_5 : decode cX2_meetChance 5 = .ok (.putfield 51, 3) := by decide +kernel
theorem dX2_meetChance_8 : decode cX2_meetChance 8 = .ok (.aload_n 0, 1) := by decide +kernel
theorem dX2_meetChance_9 : decode cX2_meetChance 9 = .ok (.iload_n 1, 1) := by decide +kernel
theorem dX2_meetChance_10 : decode cX2_meetChance 10 = .ok (.bipush 32, 2) := by decide +kernel
theorem dX2_meetChance_12 : decode cX2_meetChance 12 = .ok (.idiv, 1) := by decide +kernel
theorem dX2_meetChance_13 : decode cX2_meetChance 13 = .ok (.bipush 10, 2) := by decide +kernel
theorem dX2_meetChance_15 : decode cX2_meetChance 15 = .ok (.irem, 1) := by decide +kernel
theorem dX2_meetChance_16 : decode cX2_meetChance 16 = .ok (.putfield 54, 3) := by decide +kernel
theorem dX2_meetChance_19 : decode cX2_meetChance 19 = .ok (.aload_n 0, 1) := by decide +kernel
theorem dX2_meetChance_20 : decode cX2_meetChance 20 = .ok (.getfield 42, 3) := by decide +kernel
theorem dX2_meetChance_23 : decode cX2_meetChance 23 = .ok (.ifCond .le 68, 3) := by decide +kernel
theorem dX2_meetChance_26 : decode cX2_meetChance 26 = .ok (.aload_n 0, 1) := by decide +kernel
theorem dX2_meetChance_27 : decode cX2_meetChance 27 = .ok (.getfield 35, 3) := by decide +kernel
theorem dX2_meetChance_30 : decode cX2_meetChance 30 = .ok (.ifCond .le 61, 3) := by decide +kernel
theorem dX2_meetChance_33 : decode cX2_meetChance 33 = .ok (.iload_n 1, 1) := by decide +kernel
theorem dX2_meetChance_34 : decode cX2_meetChance 34 = .ok (.sipush 512, 3) := by decide +kernel
theorem dX2_meetChance_37 : decode cX2_meetChance 37 = .ok (.idiv, 1) := by decide +kernel
theorem dX2_meetChance_38 : decode cX2_meetChance 38 = .ok (.aload_n 0, 1) := by decide +kernel
theorem dX2_meetChance_39 : decode cX2_meetChance 39 = .ok (.getfield 42, 3) := by decide +kernel
theorem dX2_meetChance_42 : decode cX2_meetChance 42 = .ok (.irem, 1) := by decide +kernel
theorem dX2_meetChance_43 : decode cX2_meetChance 43 = .ok (.istore_n 2, 1) := by decide +kernel
theorem dX2_meetChance_44 : decode cX2_meetChance 44 = .ok (.aload_n 0, 1) := by decide +kernel
theorem dX2_meetChance_45 : decode cX2_meetChance 45 = .ok (.iload_n 2, 1) := by decide +kernel
theorem dX2_meetChance_46 : decode cX2_meetChance 46 = .ok (.invokevirtual 124, 3) := by decide +kernel
theorem dX2_meetChance_49 : decode cX2_meetChance 49 = .ok (.astore_n 3, 1) := by decide +kernel
theorem dX2_meetChance_50 : decode cX2_meetChance 50 = .ok (.aload_n 3, 1) := by decide +kernel
theorem dX2_meetChance_51 : decode cX2_meetChance 51 = .ok (.ifnull 40, 3) := by decide +kernel
theorem dX2_meetChance_54 : decode cX2_meetChance 54 = .ok (.aload_n 3, 1) := by decide +kernel
theorem dX2_meetChance_55 : decode cX2_meetChance 55 = .ok (.getfield 141, 3) := by decide +kernel
theorem dX2_meetChance_58 : decode cX2_meetChance 58 = .ok (.ifCond .le 33, 3) := by decide +kernel
theorem dX2_meetChance_61 : decode cX2_meetChance 61 = .ok (.aload_n 0, 1) := by decide +kernel
theorem dX2_meetChance_62 : decode cX2_meetChance 62 = .ok (.iload_n 2, 1) := by decide +kernel
theorem dX2_meetChance_63 : decode cX2_meetChance 63 = .ok (.iload_n 1, 1) := by decide +kernel
theorem dX2_meetChance_64 : decode cX2_meetChance 64 = .ok (.sipush 2048, 3) := by decide +kernel
theorem dX2_meetChance_67 : decode cX2_meetChance 67 = .ok (.idiv, 1) := by decide +kernel
theorem dX2_meetChance_68 : decode cX2_meetChance 68 = .ok (.aload_n 0, 1) := by decide +kernel
theorem dX2_meetChance_69 : decode cX2_meetChance 69 = .ok (.getfield 35, 3) := by decide +kernel
theorem dX2_meetChance_72 : decode cX2_meetChance 72 = .ok (.irem, 1) := by decide +kernel
theorem dX2_meetChance_73 : decode cX2_meetChance 73 = .ok (.invokevirtual 212, 3) := by decide +kernel
theorem dX2_meetChance_76 : decode cX2_meetChance 76 = .ok (.pop, 1) := by decide +kernel
theorem dX2_meetChance_77 : decode cX2_meetChance 77 = .ok (.aload_n 0, 1) := by decide +kernel
theorem dX2_meetChance_78 : decode cX2_meetChance 78 = .ok (.iload_n 2, 1) := by decide +kernel
theorem dX2_meetChance_79 : decode cX2_meetChance 79 = .ok (.iconst 5, 1) := by decide +kernel
theorem dX2_meetChance_80 : decode cX2_meetChance 80 = .ok (.aload_n 3, 1) := by decide +kernel
theorem dX2_meetChance_81 : decode cX2_meetChance 81 = .ok (.getfield 141, 3) := by decide +kernel
theorem dX2_meetChance_84 : decode cX2_meetChance 84 = .ok (.invokestatic 154, 3) := by decide +kernel
theorem dX2_meetChance_87 : decode cX2_meetChance 87 = .ok (.invokevirtual 215, 3) := by decide +kernel
theorem dX2_meetChance_90 : decode cX2_meetChance 90 = .ok (.pop, 1) := by decide +kernel
theorem dX2_meetChance_91 : decode cX2_meetChance 91 = .ok (.return_, 1) := by decide +kernel
