theorem dX3_init_0 : decode cX3_init 0 = .ok (.aload_n 0, 1) := by decide +kernel
theorem dX3_init_1 : decode cX3_init 1 = .ok (.invokespecial 3, 3) := by decide +kernel
theorem dX3_init_4 : decode cX3_init 4 = .ok (.return_, 1) := by decide +kernel
theorem dX3_beNew_0 : decode cX3_beNew 0 = .ok (.aload_n 0, 1) := by decide +kernel
theorem dX3_beNew_1 : decode cX3_beNew 1 = .ok (.iconst 0, 1) := by decide +kernel
theorem dX3_beNew_2 : decode cX3_beNew 2 = .ok (.putfield 9, 3) := by decide +kernel
theorem dX3_beNew_5 : decode cX3_beNew 5 = .ok (.aload_n 0, 1) := by decide +kernel
theorem dX3_beNew_6 : decode cX3_beNew 6 = .ok (.iconst 3, 1) := by decide +kernel
theorem dX3_beNew_7 : decode cX3_beNew 7 = .ok (.putfield 15, 3) := by decide +kernel
theorem dX3_beNew_10 : decode cX3_beNew 10 = .ok (.aload_n 0, 1) := by decide +kernel
theorem dX3_beNew_11 : decode cX3_beNew 11 = .ok (.iconst 0, 1) := by decide +kernel
theorem dX3_beNew_12 : decode cX3_beNew 12 = .ok (.putfield 18, 3) := by decide +kernel
theorem dX3_beNew_15 : decode cX3_beNew 15 = .ok (.aload_n 0, 1) := by decide +kernel
theorem dX3_beNew_16 : decode cX3_beNew 16 = .ok (.iconst 0, 1) := by decide +kernel
theorem dX3_beNew_17 : decode cX3_beNew 17 = .ok (.putfield 21, 3) := by decide +kernel
theorem dX3_beNew_20 : decode cX3_beNew 20 = .ok (.aload_n 0, 1) := by decide +kernel
theorem dX3_beNew_21 : decode cX3_beNew 21 = .ok (.iconst 0, 1) := by decide +kernel
theorem dX3_beNew_22 : decode cX3_beNew 22 = .ok (.putfield 24, 3) := by decide +kernel
theorem dX3_beNew_25 : decode cX3_beNew 25 = .ok (.aload_n 0, 1) := by decide +kernel
theorem dX3_beNew_26 : decode cX3_beNew 26 = .ok (.iconst 0, 1) := by decide +kernel
theorem dX3_beNew_27 : decode cX3_beNew 27 = .ok (.putfield 27, 3) := by decide +kernel
theorem dX3_beNew_30 : decode cX3_beNew 30 = .ok (.aload_n 0, 1) := by decide +kernel
theorem dX3_beNew_31 : decode cX3_beNew 31 = .ok (.iconst 0, 1) := by decide +kernel
theorem dX3_beNew_32 : decode cX3_beNew 32 = .ok (.putfield 31, 3) := by decide +kernel
theorem dX3_beNew_35 : decode cX3_beNew 35 = .ok (.return_, 1) := by decide +kernel
theorem dX3_copyFrom_0 : decode cX3_copyFrom 0 = .ok (.aload_n 0, 1) := by decide +kernel
theorem dX3_copyFrom_1 : decode cX3_copyFrom 1 = .ok (.aload_n 1, 1) := by decide +kernel
theorem dX3_copyFrom_2 : decode cX3_copyFrom 2 = .ok (.getfield 9, 3) := by decide +kernel
theorem dX3_copyFrom_5 : decode cX3_copyFrom 5 = .ok (.putfield 9, 3) := by decide +kernel
theorem dX3_copyFrom_8 : decode cX3_copyFrom 8 = .ok (.aload_n 0, 1) := by decide +kernel
theorem dX3_copyFrom_9 : decode cX3_copyFrom 9 = .ok (.aload_n 1, 1) := by decide +kernel
theorem dX3_copyFrom_10 : decode cX3_copyFrom 10 = .ok (.getfield 15, 3) := by decide +kernel
theorem dX3_copyFrom_13 : decode cX3_copyFrom 13 = .ok (.putfield 15, 3) := by decide +kernel
theorem dX3_copyFrom_16 : decode cX3_copyFrom 16 = .ok (.aload_n 0, 1) := by decide +kernel
theorem dX3_copyFrom_17 : decode cX3_copyFrom 17 = .ok (.aload_n 1, 1) := by decide +kernel
theorem dX3_copyFrom_18 : decode cX3_copyFrom 18 = .ok (.getfield 18, 3) := by decide +kernel
theorem dX3_copyFrom_21 : decode cX3_copyFrom 21 = .ok (.putfield 18, 3) := by decide +kernel
theorem dX3_copyFrom_24 : decode cX3_copyFrom 24 = .ok (.aload_n 0, 1) := by decide +kernel
theorem dX3_copyFrom_25 : decode cX3_copyFrom 25 = .ok (.aload_n 1, 1) := by decide +kernel
theorem dX3_copyFrom_26 : decode cX3_copyFrom 26 = .ok (.getfield 21, 3) := by decide +kernel
theorem dX3_copyFrom_29 : decode cX3_copyFrom 29 = .ok (.putfield 21, 3) := by decide +kernel
theorem dX3_copyFrom_32 : decode cX3_copyFrom 32 = .ok (.aload_n 0, 1) := by decide +kernel
theorem dX3_copyFrom_33 : decode cX3_copyFrom 33 = .ok (.aload_n 1, 1) := by decide +kernel
theorem dX3_copyFrom_34 : decode cX3_copyFrom 34 = .ok (.getfield 24, 3) := by decide +kernel
theorem dX3_copyFrom_37 : decode cX3_copyFrom 37 = .ok (.putfield 24, 3) := by decide +kernel
theorem dX3_copyFrom_40 : decode cX3_copyFrom 40 = .ok (.aload_n 0, 1) := by decide +kernel
theorem dX3_copyFrom_41 : decode cX3_copyFrom 41 = .ok (.aload_n 1, 1) := by decide +kernel
theorem dX3_copyFrom_42 : decode cX3_copyFrom 42 = .ok (.getfield 27, 3) := by decide +kernel
theorem dX3_copyFrom_45 : decode cX3_copyFrom 45 = .ok (.putfield 27, 3) := by decide +kernel
theorem dX3_copyFrom_48 : decode cX3_copyFrom 48 = .ok (.aload_n 0, 1) := by decide +kernel
theorem dX3_copyFrom_49 : decode cX3_copyFrom 49 = .ok (.aload_n 1, 1) := by decide +kernel
theorem dX3_copyFrom_50 : decode cX3_copyFrom 50 = .ok (.getfield 31, 3) := by decide +kernel
theorem dX3_copyFrom_53 : decode cX3_copyFrom 53 = .ok (.putfield 31, 3) := by decide +kernel
theorem dX3_copyFrom_56 : decode cX3_copyFrom 56 = .ok (.return_, 1) := by decide +kernel
theorem dX3_number_0 : decode cX3_number 0 = .ok (.iload_n 1, 1) := by decide +kernel
theorem dX3_number_1 : decode cX3_number 1 = .ok (.tableswitch 86 0 6 #[43, 48, 53, 58, 63, 68, 81], 43) := by decide +kernel
theorem dX3_number_44 : decode cX3_number 44 = .ok (.aload_n 0, 1) := by decide +kernel
theorem dX3_number_45 : decode cX3_number 45 = .ok (.getfield 9, 3) := by decide +kernel
theorem dX3_number_48 : decode cX3_number 48 = .ok (.ireturn, 1) := by decide +kernel
theorem dX3_number_49 : decode cX3_number 49 = .ok (.aload_n 0, 1) := by decide +kernel
theorem dX3_number_50 : decode cX3_number 50 = .ok (.getfield 15, 3) := by decide +kernel
theorem dX3_number_53 : decode cX3_number 53 = .ok (.ireturn, 1) := by decide +kernel
theorem dX3_number_54 : decode cX3_number 54 = .ok (.aload_n 0, 1) := by decide +kernel
theorem dX3_number_55 : decode cX3_number 55 = .ok (.getfield 18, 3) := by decide +kernel
theorem dX3_number_58 : decode cX3_number 58 = .ok (.ireturn, 1) := by decide +kernel
theorem dX3_number_59 : decode cX3_number 59 = .ok (.aload_n 0, 1) := by decide +kernel
theorem dX3_number_60 : decode cX3_number 60 = .ok (.getfield 21, 3) := by decide +kernel
theorem dX3_number_63 : decode cX3_number 63 = .ok (.ireturn, 1) := by decide +kernel
theorem dX3_number_64 : decode cX3_number 64 = .ok (.aload_n 0, 1) := by decide +kernel
theorem dX3_number_65 : decode cX3_number 65 = .ok (.getfield 24, 3) := by decide +kernel
theorem dX3_number_68 : decode cX3_number 68 = .ok (.ireturn, 1) := by decide +kernel
theorem dX3_number_69 : decode cX3_number 69 = .ok (.aload_n 0, 1) := by decide +kernel
theorem dX3_number_70 : decode cX3_number 70 = .ok (.getfield 27, 3) := by decide +kernel
theorem dX3_number_73 : decode cX3_number 73 = .ok (.ifCond .eq 7, 3) := by decide +kernel
theorem dX3_number_76 : decode cX3_number 76 = .ok (.iconst 1, 1) := by decide +kernel
theorem dX3_number_77 : decode cX3_number 77 = .ok (.goto 4, 3) := by decide +kernel
theorem dX3_number_80 : decode cX3_number 80 = .ok (.iconst 0, 1) := by decide +kernel
theorem dX3_number_81 : decode cX3_number 81 = .ok (.ireturn, 1) := by decide +kernel
theorem dX3_number_82 : decode cX3_number 82 = .ok (.aload_n 0, 1) := by decide +kernel
theorem dX3_number_83 : decode cX3_number 83 = .ok (.getfield 31, 3) := by decide +kernel
theorem dX3_number_86 : decode cX3_number 86 = .ok (.ireturn, 1) := by decide +kernel
theorem dX3_number_87 : decode cX3_number 87 = .ok (.bipush (-2), 2) := by decide +kernel
theorem dX3_number_89 : decode cX3_number 89 = .ok (.ireturn, 1) := by decide +kernel
theorem dX3_greatestLimit_0 : decode cX3_greatestLimit 0 = .ok (.iconst 5, 1) := by decide +kernel
theorem dX3_greatestLimit_1 : decode cX3_greatestLimit 1 = .ok (.aload_n 0, 1) := by decide +kernel
theorem dX3_greatestLimit_2 : decode cX3_greatestLimit 2 = .ok (.getfield 18, 3) := by decide +kernel
theorem dX3_greatestLimit_5 : decode cX3_greatestLimit 5 = .ok (.isub, 1) := by decide +kernel
theorem dX3_greatestLimit_6 : decode cX3_greatestLimit 6 = .ok (.ireturn, 1) := by decide +kernel
theorem dX3_wet_0 : decode cX3_wet 0 = .ok (.aload_n 0, 1) := by decide +kernel
theorem dX3_wet_1 : decode cX3_wet 1 = .ok (.bipush 9, 2) := by decide +kernel
theorem dX3_wet_3 : decode cX3_wet 3 = .ok (.aload_n 0, 1) := by decide +kernel
theorem dX3_wet_4 : decode cX3_wet 4 = .ok (.getfield 24, 3) := by decide +kernel
theorem dX3_wet_7 : decode cX3_wet 7 = .ok (.iload_n 1, 1) := by decide +kernel
theorem dX3_wet_8 : decode cX3_wet 8 = .ok (.iadd, 1) := by decide +kernel
theorem dX3_wet_9 : decode cX3_wet 9 = .ok (.invokestatic 34, 3) := by decide +kernel
theorem dX3_wet_12 : decode cX3_wet 12 = .ok (.putfield 24, 3) := by decide +kernel
theorem dX3_wet_15 : decode cX3_wet 15 = .ok (.return_, 1) := by decide +kernel
set_option maxRecDepth 20000 in
theorem ggX3_dry_X3_waterLoss : GoodIn wsX3_dry wsX3_waterLoss := goodIn_r _ [10, 11, 12, 13, 14, 15, 16, 17, 18] (by decide +kernel) (by decide +kernel)
set_option maxRecDepth 20000 in
theorem gX3_dry_X3_waterLoss : GoodIn wsX3_dry (wsV RX3 40 RX3 yX3_waterLoss wsX3_waterLoss) := goodIn_app (goodIn_of _ (by decide +kernel)) ggX3_dry_X3_waterLoss
theorem dX3_dry_0 : decode cX3_dry 0 = .ok (.aload_n 0, 1) := by decide +kernel
theorem dX3_dry_1 : decode cX3_dry 1 = .ok (.iconst 0, 1) := by decide +kernel
theorem dX3_dry_2 : decode cX3_dry 2 = .ok (.aload_n 0, 1) := by decide +kernel
theorem dX3_dry_3 : decode cX3_dry 3 = .ok (.getfield 24, 3) := by decide +kernel
theorem dX3_dry_6 : decode cX3_dry 6 = .ok (.aload_n 0, 1) := by decide +kernel
theorem dX3_dry_7 : decode cX3_dry 7 = .ok (.iload_n 1, 1) := by decide +kernel
theorem dX3_dry_8 : decode cX3_dry 8 = .ok (.iload_n 2, 1) := by decide +kernel
theorem dX3_dry_9 : decode cX3_dry 9 = .ok (.invokevirtual 40, 3) := by decide +kernel
theorem dX3_dry_12 : decode cX3_dry 12 = .ok (.isub, 1) := by decide +kernel
theorem dX3_dry_13 : decode cX3_dry 13 = .ok (.invokestatic 43, 3) := by decide +kernel
theorem dX3_dry_16 : decode cX3_dry 16 = .ok (.putfield 24, 3) := by decide +kernel
theorem dX3_dry_19 : decode cX3_dry 19 = .ok (.return_, 1) := by decide +kernel
theorem dX3_waterLoss_0 : decode cX3_waterLoss 0 = .ok (.aload_n 0, 1) := by decide +kernel
theorem dX3_waterLoss_1 : decode cX3_waterLoss 1 = .ok (.getfield 9, 3) := by decide +kernel
theorem dX3_waterLoss_4 : decode cX3_waterLoss 4 = .ok (.lookupswitch 46 #[(1, 28), (2, 32)], 28) := by decide +kernel
theorem dX3_waterLoss_32 : decode cX3_waterLoss 32 = .ok (.iload_n 1, 1) := by decide +kernel
theorem dX3_waterLoss_33 : decode cX3_waterLoss 33 = .ok (.iconst 4, 1) := by decide +kernel
theorem dX3_waterLoss_34 : decode cX3_waterLoss 34 = .ok (.idiv, 1) := by decide +kernel
theorem dX3_waterLoss_35 : decode cX3_waterLoss 35 = .ok (.ireturn, 1) := by decide +kernel
theorem dX3_waterLoss_36 : decode cX3_waterLoss 36 = .ok (.iload_n 1, 1) := by decide +kernel
theorem dX3_waterLoss_37 : decode cX3_waterLoss 37 = .ok (.iconst 2, 1) := by decide +kernel
theorem dX3_waterLoss_38 : decode cX3_waterLoss 38 = .ok (.idiv, 1) := by decide +kernel
theorem dX3_waterLoss_39 : decode cX3_waterLoss 39 = .ok (.iload_n 2, 1) := by decide +kernel
theorem dX3_waterLoss_40 : decode cX3_waterLoss 40 = .ok (.ifCond .le 7, 3) := by decide +kernel
theorem dX3_waterLoss_43 : decode cX3_waterLoss 43 = .ok (.iconst 1, 1) := by decide +kernel
theorem dX3_waterLoss_44 : decode cX3_waterLoss 44 = .ok (.goto 4, 3) := by decide +kernel
theorem dX3_waterLoss_47 : decode cX3_waterLoss 47 = .ok (.iconst 0, 1) := by decide +kernel
theorem dX3_waterLoss_48 : decode cX3_waterLoss 48 = .ok (.iadd, 1) := by decide +kernel
theorem dX3_waterLoss_49 : decode cX3_waterLoss 49 = .ok (.ireturn, 1) := by decide +kernel
theorem dX3_waterLoss_50 : decode cX3_waterLoss 50 = .ok (.iload_n 1, 1) := by decide +kernel
theorem dX3_waterLoss_51 : decode cX3_waterLoss 51 = .ok (.iconst 3, 1) := by decide +kernel
theorem dX3_waterLoss_52 : decode cX3_waterLoss 52 = .ok (.idiv, 1) := by decide +kernel
theorem dX3_waterLoss_53 : decode cX3_waterLoss 53 = .ok (.ireturn, 1) := by decide +kernel
theorem dX3_raise_0 : decode cX3_raise 0 = .ok (.iconst 3, 1) := by decide +kernel
theorem dX3_raise_1 : decode cX3_raise 1 = .ok (.aload_n 0, 1) := by decide +kernel
theorem dX3_raise_2 : decode cX3_raise 2 = .ok (.getfield 9, 3) := by decide +kernel
theorem dX3_raise_5 : decode cX3_raise 5 = .ok (.isub, 1) := by decide +kernel
theorem dX3_raise_6 : decode cX3_raise 6 = .ok (.istore_n 2, 1) := by decide +kernel
theorem dX3_raise_7 : decode cX3_raise 7 = .ok (.aload_n 0, 1) := by decide +kernel
theorem dX3_raise_8 : decode cX3_raise 8 = .ok (.sipush 999, 3) := by decide +kernel
theorem dX3_raise_11 : decode cX3_raise 11 = .ok (.aload_n 0, 1) := by decide +kernel
theorem dX3_raise_12 : decode cX3_raise 12 = .ok (.getfield 21, 3) := by decide +kernel
theorem dX3_raise_15 : decode cX3_raise 15 = .ok (.iload_n 1, 1) := by decide +kernel
theorem dX3_raise_16 : decode cX3_raise 16 = .ok (.aload_n 0, 1) := by decide +kernel
theorem dX3_raise_17 : decode cX3_raise 17 = .ok (.getfield 15, 3) := by decide +kernel
theorem dX3_raise_20 : decode cX3_raise 20 = .ok (.imul, 1) := by decide +kernel
theorem dX3_raise_21 : decode cX3_raise 21 = .ok (.iload_n 2, 1) := by decide +kernel
theorem dX3_raise_22 : decode cX3_raise 22 = .ok (.imul, 1) := by decide +kernel
theorem dX3_raise_23 : decode cX3_raise 23 = .ok (.bipush 10, 2) := by decide +kernel
theorem dX3_raise_25 : decode cX3_raise 25 = .ok (.aload_n 0, 1) := by decide +kernel
theorem dX3_raise_26 : decode cX3_raise 26 = .ok (.getfield 24, 3) := by decide +kernel
theorem dX3_raise_29 : decode cX3_raise 29 = .ok (.isub, 1) := by decide +kernel
theorem dX3_raise_30 : decode cX3_raise 30 = .ok (.imul, 1) := by decide +kernel
theorem dX3_raise_31 : decode cX3_raise 31 = .ok (.bipush 10, 2) := by decide +kernel
theorem dX3_raise_33 : decode cX3_raise 33 = .ok (.idiv, 1) := by decide +kernel
theorem dX3_raise_34 : decode cX3_raise 34 = .ok (.iadd, 1) := by decide +kernel
theorem dX3_raise_35 : decode cX3_raise 35 = .ok (.invokestatic 34, 3) := by decide +kernel
theorem dX3_raise_38 : decode cX3_raise 38 = .ok (.putfield 21, 3) := by decide +kernel
theorem dX3_raise_41 : decode cX3_raise 41 = .ok (.return_, 1) := by decide +kernel
theorem dX3_settle_0 : decode cX3_settle 0 = .ok (.aload_n 0, 1) := by decide +kernel
theorem dX3_settle_1 : decode cX3_settle 1 = .ok (.aload_n 0, 1) := by decide +kernel
theorem dX3_settle_2 : decode cX3_settle 2 = .ok (.getfield 21, 3) := by decide +kernel
theorem dX3_settle_5 : decode cX3_settle 5 = .ok (.iconst 3, 1) := by decide +kernel
theorem dX3_settle_6 : decode cX3_settle 6 = .ok (.imul, 1) := by decide +kernel
theorem dX3_settle_7 : decode cX3_settle 7 = .ok (.iconst 4, 1) := by decide +kernel
theorem dX3_settle_8 : decode cX3_settle 8 = .ok (.idiv, 1) := by decide +kernel
theorem dX3_settle_9 : decode cX3_settle 9 = .ok (.putfield 21, 3) := by decide +kernel
theorem dX3_settle_12 : decode cX3_settle 12 = .ok (.return_, 1) := by decide +kernel
set_option maxRecDepth 20000 in
theorem ggX3_hearComplaint_X3_greatestLimit : GoodIn wsX3_hearComplaint wsX3_greatestLimit := goodIn_r _ [12, 2, 13, 14, 15, 16, 17, 18, 19] (by decide +kernel) (by decide +kernel)
set_option maxRecDepth 20000 in
theorem gX3_hearComplaint_X3_greatestLimit : GoodIn wsX3_hearComplaint (wsV RX3 46 RX3 yX3_greatestLimit wsX3_greatestLimit) := goodIn_app (goodIn_of _ (by decide +kernel)) ggX3_hearComplaint_X3_greatestLimit
theorem dX3_hearComplaint_0 : decode cX3_hearComplaint 0 = .ok (.aload_n 0, 1) := by decide +kernel
theorem dX3_hearComplaint_1 : decode cX3_hearComplaint 1 = .ok (.dup, 1) := by decide +kernel
theorem dX3_hearComplaint_2 : decode cX3_hearComplaint 2 = .ok (.getfield 31, 3) := by decide +kernel
theorem dX3_hearComplaint_5 : decode cX3_hearComplaint 5 = .ok (.iconst 1, 1) := by decide +kernel
theorem dX3_hearComplaint_6 : decode cX3_hearComplaint 6 = .ok (.iadd, 1) := by decide +kernel
theorem dX3_hearComplaint_7 : decode cX3_hearComplaint 7 = .ok (.putfield 31, 3) := by decide +kernel
theorem dX3_hearComplaint_10 : decode cX3_hearComplaint 10 = .ok (.aload_n 0, 1) := by decide +kernel
theorem dX3_hearComplaint_11 : decode cX3_hearComplaint 11 = .ok (.getfield 31, 3) := by decide +kernel
theorem dX3_hearComplaint_14 : decode cX3_hearComplaint 14 = .ok (.iconst 3, 1) := by decide +kernel
theorem dX3_hearComplaint_15 : decode cX3_hearComplaint 15 = .ok (.irem, 1) := by decide +kernel
theorem dX3_hearComplaint_16 : decode cX3_hearComplaint 16 = .ok (.ifCond .ne 32, 3) := by decide +kernel
theorem dX3_hearComplaint_19 : decode cX3_hearComplaint 19 = .ok (.aload_n 0, 1) := by decide +kernel
theorem dX3_hearComplaint_20 : decode cX3_hearComplaint 20 = .ok (.iconst 4, 1) := by decide +kernel
theorem dX3_hearComplaint_21 : decode cX3_hearComplaint 21 = .ok (.aload_n 0, 1) := by decide +kernel
theorem dX3_hearComplaint_22 : decode cX3_hearComplaint 22 = .ok (.getfield 18, 3) := by decide +kernel
theorem dX3_hearComplaint_25 : decode cX3_hearComplaint 25 = .ok (.iconst 1, 1) := by decide +kernel
theorem dX3_hearComplaint_26 : decode cX3_hearComplaint 26 = .ok (.iadd, 1) := by decide +kernel
theorem dX3_hearComplaint_27 : decode cX3_hearComplaint 27 = .ok (.invokestatic 34, 3) := by decide +kernel
theorem dX3_hearComplaint_30 : decode cX3_hearComplaint 30 = .ok (.putfield 18, 3) := by decide +kernel
theorem dX3_hearComplaint_33 : decode cX3_hearComplaint 33 = .ok (.aload_n 0, 1) := by decide +kernel
theorem dX3_hearComplaint_34 : decode cX3_hearComplaint 34 = .ok (.aload_n 0, 1) := by decide +kernel
theorem dX3_hearComplaint_35 : decode cX3_hearComplaint 35 = .ok (.getfield 15, 3) := by decide +kernel
theorem dX3_hearComplaint_38 : decode cX3_hearComplaint 38 = .ok (.aload_n 0, 1) := by decide +kernel
theorem dX3_hearComplaint_39 : decode cX3_hearComplaint 39 = .ok (.invokevirtual 46, 3) := by decide +kernel
theorem dX3_hearComplaint_42 : decode cX3_hearComplaint 42 = .ok (.invokestatic 34, 3) := by decide +kernel
theorem dX3_hearComplaint_45 : decode cX3_hearComplaint 45 = .ok (.putfield 15, 3) := by decide +kernel
theorem dX3_hearComplaint_48 : decode cX3_hearComplaint 48 = .ok (.return_, 1) := by decide +kernel
theorem dX4_init_0 : decode cX4_init 0 = .ok (.aload_n 0, 1) := by decide +kernel
theorem dX4_init_1 : decode cX4_init 1 = .ok (.invokespecial 3, 3) := by decide +kernel
theorem dX4_init_4 : decode cX4_init 4 = .ok (.aload_n 0, 1) := by decide +kernel
theorem dX4_init_5 : decode cX4_init 5 = .ok (.bipush 70, 2) := by decide +kernel
theorem dX4_init_7 : decode cX4_init 7 = .ok (.newarray .char, 2) := by decide +kernel
theorem dX4_init_9 : decode cX4_init 9 = .ok (.putfield 9, 3) := by decide +kernel
theorem dX4_init_12 : decode cX4_init 12 = .ok (.return_, 1) := by decide +kernel
set_option maxRecDepth 20000 in
theorem ggX4_put_X6_within : GoodIn wsX4_put wsX6_within := goodIn_r _ [5] (by decide +kernel) (by decide +kernel)
set_option maxRecDepth 20000 in
theorem gX4_put_X6_within_n15 : GoodIn wsX4_put (wsX6_within) := ggX4_put_X6_within
theorem dX4_put_0 : decode cX4_put 0 = .ok (.iload_n 1, 1) := by decide +kernel
theorem dX4_put_1 : decode cX4_put 1 = .ok (.iconst 0, 1) := by decide +kernel
theorem dX4_put_2 : decode cX4_put 2 = .ok (.sipush 255, 3) := by decide +kernel
theorem dX4_put_5 : decode cX4_put 5 = .ok (.invokestatic 15, 3) := by decide +kernel
theorem dX4_put_8 : decode cX4_put 8 = .ok (.ifCond .ne 6, 3) := by decide +kernel
theorem dX4_put_11 : decode cX4_put 11 = .ok (.bipush (-2), 2) := by decide +kernel
theorem dX4_put_13 : decode cX4_put 13 = .ok (.ireturn, 1) := by decide +kernel
theorem dX4_put_14 : decode cX4_put 14 = .ok (.aload_n 0, 1) := by decide +kernel
theorem dX4_put_15 : decode cX4_put 15 = .ok (.getfield 19, 3) := by decide +kernel
theorem dX4_put_18 : decode cX4_put 18 = .ok (.ifCond .lt 12, 3) := by decide +kernel
theorem dX4_put_21 : decode cX4_put 21 = .ok (.aload_n 0, 1) := by decide +kernel
theorem dX4_put_22 : decode cX4_put 22 = .ok (.getfield 19, 3) := by decide +kernel
theorem dX4_put_25 : decode cX4_put 25 = .ok (.bipush 70, 2) := by decide +kernel
theorem dX4_put_27 : decode cX4_put 27 = .ok (.if_icmp .lt 6, 3) := by decide +kernel
theorem dX4_put_30 : decode cX4_put 30 = .ok (.bipush (-3), 2) := by decide +kernel
theorem dX4_put_32 : decode cX4_put 32 = .ok (.ireturn, 1) := by decide +kernel
theorem dX4_put_33 : decode cX4_put 33 = .ok (.aload_n 0, 1) := by decide +kernel
theorem dX4_put_34 : decode cX4_put 34 = .ok (.getfield 9, 3) := by decide +kernel
theorem dX4_put_37 : decode cX4_put 37 = .ok (.aload_n 0, 1) := by decide +kernel
theorem dX4_put_38 : decode cX4_put 38 = .ok (.getfield 19, 3) := by decide +kernel
theorem dX4_put_41 : decode cX4_put 41 = .ok (.iload_n 1, 1) := by decide +kernel
theorem dX4_put_42 : decode cX4_put 42 = .ok (.i2c, 1) := by decide +kernel
theorem dX4_put_43 : decode cX4_put 43 = .ok (.castore, 1) := by decide +kernel
theorem dX4_put_44 : decode cX4_put 44 = .ok (.aload_n 0, 1) := by decide +kernel
theorem dX4_put_45 : decode cX4_put 45 = .ok (.dup, 1) := by decide +kernel
theorem dX4_put_46 : decode cX4_put 46 = .ok (.getfield 19, 3) := by decide +kernel
theorem dX4_put_49 : decode cX4_put 49 = .ok (.iconst 1, 1) := by decide +kernel
theorem dX4_put_50 : decode cX4_put 50 = .ok (.iadd, 1) := by decide +kernel
theorem dX4_put_51 : decode cX4_put 51 = .ok (.putfield 19, 3) := by decide +kernel
theorem dX4_put_54 : decode cX4_put 54 = .ok (.aload_n 0, 1) := by decide +kernel
theorem dX4_put_55 : decode cX4_put 55 = .ok (.getfield 19, 3) := by decide +kernel
theorem dX4_put_58 : decode cX4_put 58 = .ok (.ireturn, 1) := by decide +kernel
set_option maxRecDepth 20000 in
theorem ggX4_readInto_X2_beNew : GoodIn wsX4_readInto wsX2_beNew := goodIn_r _ [7, 8, 9, 10, 11, 12, 13, 14, 15, 16, 17, 18, 19, 20, 21, 22, 23, 24, 25, 26, 27, 28, 29, 30, 31, 32, 33, 34, 35, 6, 36, 37, 128, 129, 130, 131, 132, 133, 134, 135, 136, 137, 138, 139, 140, 141, 142, 143, 144, 145, 146, 147, 148, 149] (by decide +kernel) (by decide +kernel)
set_option maxRecDepth 20000 in
theorem gX4_readInto_X2_beNew : GoodIn wsX4_readInto (wsV RX4 29 RX2 yX2_beNew wsX2_beNew) := goodIn_app (goodIn_of _ (by decide +kernel)) ggX4_readInto_X2_beNew
set_option maxRecDepth 20000 in
theorem ggX4_readInto_X4_takeSign : GoodIn wsX4_readInto wsX4_takeSign := goodIn_r _ [42, 1, 43, 44, 45, 41, 46, 47, 48, 124, 125, 126, 127] (by decide +kernel) (by decide +kernel)
set_option maxRecDepth 20000 in
theorem gX4_readInto_X4_takeSign : GoodIn wsX4_readInto (wsV RX4 34 RX4 yX4_takeSign wsX4_takeSign) := goodIn_app (goodIn_of _ (by decide +kernel)) ggX4_readInto_X4_takeSign
set_option maxRecDepth 20000 in
theorem ggX4_readInto_X4_takeSize : GoodIn wsX4_readInto wsX4_takeSize := goodIn_r _ [52, 53, 54, 55, 41, 56, 57, 58, 59, 60, 1, 43, 44, 45, 46, 47, 48, 61, 62, 63, 128, 129, 130, 131, 132, 133, 134, 135, 136, 137, 138, 139, 140, 141, 142, 124, 125, 126, 127] (by decide +kernel) (by decide +kernel)
set_option maxRecDepth 20000 in
theorem gX4_readInto_X4_takeSize : GoodIn wsX4_readInto (wsV RX4 38 RX4 yX4_takeSize wsX4_takeSize) := goodIn_app (goodIn_of _ (by decide +kernel)) ggX4_readInto_X4_takeSize
set_option maxRecDepth 20000 in
theorem ggX4_readInto_X4_takeSurfaces : GoodIn wsX4_readInto wsX4_takeSurfaces := goodIn_r _ [67, 53, 54, 55, 41, 56, 57, 58, 59, 60, 1, 43, 44, 45, 46, 47, 48, 61, 62, 63, 68, 69, 70, 6, 71, 72, 73, 74, 75, 76, 8, 20, 128, 129, 130, 131, 132, 133, 134, 135, 136, 137, 138, 139, 140, 141, 142, 124, 125, 126, 127, 143, 144, 145, 146, 147, 148, 149] (by decide +kernel) (by decide +kernel)
set_option maxRecDepth 20000 in
theorem gX4_readInto_X4_takeSurfaces : GoodIn wsX4_readInto (wsV RX4 42 RX4 yX4_takeSurfaces wsX4_takeSurfaces) := goodIn_app (goodIn_of _ (by decide +kernel)) ggX4_readInto_X4_takeSurfaces
set_option maxRecDepth 20000 in
theorem ggX4_readInto_X4_takeParts : GoodIn wsX4_readInto wsX4_takeParts := goodIn_r _ [80, 1, 47, 81, 82, 83, 41, 84, 85, 86, 53, 2, 38, 39, 40, 42, 43, 44, 45, 46, 48, 87, 88, 89, 90, 54, 55, 56, 57, 58, 59, 60, 61, 62, 63, 91, 92, 93, 6, 94, 9, 95, 73, 74, 75, 76, 8, 20, 96, 97, 98, 99, 100, 101, 102, 103, 104, 105, 106, 107, 108, 109, 10, 110, 111, 112, 113, 114, 115, 116, 117, 118, 119, 120, 121, 122, 124, 125, 126, 127, 128, 129, 130, 131, 132, 133, 134, 135, 136, 137, 138, 139, 140, 141, 142, 150, 151, 152, 153, 154, 155, 156, 157] (by decide +kernel) (by decide +kernel)
set_option maxRecDepth 20000 in
theorem gX4_readInto_X4_takeParts : GoodIn wsX4_readInto (wsV RX4 45 RX4 yX4_takeParts wsX4_takeParts) := goodIn_app (goodIn_of _ (by decide +kernel)) ggX4_readInto_X4_takeParts
set_option maxRecDepth 20000 in
theorem ggX4_readInto_X2_tellFillingPlaces : GoodIn wsX4_readInto wsX2_tellFillingPlaces := goodIn_r _ [36, 20, 37, 128, 129, 130, 131, 132, 133, 134, 135, 136, 137, 138, 139, 140, 141, 142, 143, 144, 145, 146, 147, 148, 149] (by decide +kernel) (by decide +kernel)
set_option maxRecDepth 20000 in
theorem gX4_readInto_X2_tellFillingPlaces : GoodIn wsX4_readInto (wsV RX4 48 RX2 yX2_tellFillingPlaces wsX2_tellFillingPlaces) := goodIn_app (goodIn_of _ (by decide +kernel)) ggX4_readInto_X2_tellFillingPlaces
theorem dX4_readInto_0 : decode cX4_readInto 0 = .ok (.aload_n 0, 1) := by decide +kernel
theorem dX4_readInto_1 : decode cX4_readInto 1 = .ok (.iconst 0, 1) := by decide +kernel
theorem dX4_readInto_2 : decode cX4_readInto 2 = .ok (.putfield 23, 3) := by decide +kernel
theorem dX4_readInto_5 : decode cX4_readInto 5 = .ok (.aload_n 0, 1) := by decide +kernel
theorem dX4_readInto_6 : decode cX4_readInto 6 = .ok (.iconst 0, 1) := by decide +kernel
theorem dX4_readInto_7 : decode cX4_readInto 7 = .ok (.putfield 26, 3) := by decide +kernel
theorem dX4_readInto_10 : decode cX4_readInto 10 = .ok (.aload_n 1, 1) := by decide +kernel
theorem dX4_readInto_11 : decode cX4_readInto 11 = .ok (.invokevirtual 29, 3) := by decide +kernel
theorem dX4_readInto_14 : decode cX4_readInto 14 = .ok (.aload_n 0, 1) := by decide +kernel
theorem dX4_readInto_15 : decode cX4_readInto 15 = .ok (.bipush 82, 2) := by decide +kernel
theorem dX4_readInto_17 : decode cX4_readInto 17 = .ok (.invokevirtual 34, 3) := by decide +kernel
theorem dX4_readInto_20 : decode cX4_readInto 20 = .ok (.ifCond .eq 27, 3) := by decide +kernel
theorem dX4_readInto_23 : decode cX4_readInto 23 = .ok (.aload_n 0, 1) := by decide +kernel
theorem dX4_readInto_24 : decode cX4_readInto 24 = .ok (.aload_n 1, 1) := by decide +kernel
theorem dX4_readInto_25 : decode cX4_readInto 25 = .ok (.invokevirtual 38, 3) := by decide +kernel
theorem dX4_readInto_28 : decode cX4_readInto 28 = .ok (.ifCond .eq 19, 3) := by decide +kernel
theorem dX4_readInto_31 : decode cX4_readInto 31 = .ok (.aload_n 0, 1) := by decide +kernel
theorem dX4_readInto_32 : decode cX4_readInto 32 = .ok (.aload_n 1, 1) := by decide +kernel
theorem dX4_readInto_33 : decode cX4_readInto 33 = .ok (.invokevirtual 42, 3) := by decide +kernel
theorem dX4_readInto_36 : decode cX4_readInto 36 = .ok (.ifCond .eq 11, 3) := by decide +kernel
theorem dX4_readInto_39 : decode cX4_readInto 39 = .ok (.aload_n 0, 1) := by decide +kernel
theorem dX4_readInto_40 : decode cX4_readInto 40 = .ok (.aload_n 1, 1) := by decide +kernel
theorem dX4_readInto_41 : decode cX4_readInto 41 = .ok (.invokevirtual 45, 3) := by decide +kernel
theorem dX4_readInto_44 : decode cX4_readInto 44 = .ok (.ifCond .ne 8, 3) := by decide +kernel
theorem dX4_readInto_47 : decode cX4_readInto 47 = .ok (.aload_n 0, 1) := by decide +kernel
theorem dX4_readInto_48 : decode cX4_readInto 48 = .ok (.getfield 23, 3) := by decide +kernel
theorem dX4_readInto_51 : decode cX4_readInto 51 = .ok (.ireturn, 1) := by decide +kernel
theorem dX4_readInto_52 : decode cX4_readInto 52 = .ok (.aload_n 0, 1) := by decide +kernel
theorem dX4_readInto_53 : decode cX4_readInto 53 = .ok (.getfield 26, 3) := by decide +kernel
theorem dX4_readInto_56 : decode cX4_readInto 56 = .ok (.ifCond .eq 11, 3) := by decide +kernel
theorem dX4_readInto_59 : decode cX4_readInto 59 = .ok (.aload_n 1, 1) := by decide +kernel
theorem dX4_readInto_60 : decode cX4_readInto 60 = .ok (.aload_n 0, 1) := by decide +kernel
theorem dX4_readInto_61 : decode cX4_readInto 61 = .ok (.getfield 26, 3) := by decide +kernel
theorem dX4_readInto_64 : decode cX4_readInto 64 = .ok (.invokevirtual 48, 3) := by decide +kernel
theorem dX4_readInto_67 : decode cX4_readInto 67 = .ok (.bipush (-9), 2) := by decide +kernel
theorem dX4_readInto_69 : decode cX4_readInto 69 = .ok (.ireturn, 1) := by decide +kernel
set_option maxRecDepth 20000 in
theorem ggX4_takeSize_X4_below : GoodIn wsX4_takeSize wsX4_below := goodIn_r _ [5] (by decide +kernel) (by decide +kernel)
set_option maxRecDepth 20000 in
theorem gX4_takeSize_X4_below : GoodIn wsX4_takeSize (va_wsS RX4 52 yX4_below wsX4_below) := goodIn_app (goodIn_of _ (by decide +kernel)) ggX4_takeSize_X4_below
set_option maxRecDepth 20000 in
theorem ggX4_takeSize_X4_takeDigit : GoodIn wsX4_takeSize wsX4_takeDigit := goodIn_r _ [9, 10, 11, 12, 13, 4, 14, 15, 16, 17, 18, 19, 35, 36, 37, 38] (by decide +kernel) (by decide +kernel)
set_option maxRecDepth 20000 in
theorem gX4_takeSize_X4_takeDigit : GoodIn wsX4_takeSize (wsV RX4 56 RX4 yX4_takeDigit wsX4_takeDigit) := goodIn_app (goodIn_of _ (by decide +kernel)) ggX4_takeSize_X4_takeDigit
theorem dX4_takeSize_0 : decode cX4_takeSize 0 = .ok (.aload_n 0, 1) := by decide +kernel
theorem dX4_takeSize_1 : decode cX4_takeSize 1 = .ok (.iconst 2, 1) := by decide +kernel
theorem dX4_takeSize_2 : decode cX4_takeSize 2 = .ok (.invokestatic 52, 3) := by decide +kernel
theorem dX4_takeSize_5 : decode cX4_takeSize 5 = .ok (.invokevirtual 56, 3) := by decide +kernel
theorem dX4_takeSize_8 : decode cX4_takeSize 8 = .ok (.istore_n 2, 1) := by decide +kernel
theorem dX4_takeSize_9 : decode cX4_takeSize 9 = .ok (.iload_n 2, 1) := by decide +kernel
theorem dX4_takeSize_10 : decode cX4_takeSize 10 = .ok (.iconst (-1), 1) := by decide +kernel
theorem dX4_takeSize_11 : decode cX4_takeSize 11 = .ok (.if_icmp .ne 5, 3) := by decide +kernel
theorem dX4_takeSize_14 : decode cX4_takeSize 14 = .ok (.iconst 0, 1) := by decide +kernel
theorem dX4_takeSize_15 : decode cX4_takeSize 15 = .ok (.ireturn, 1) := by decide +kernel
theorem dX4_takeSize_16 : decode cX4_takeSize 16 = .ok (.aload_n 0, 1) := by decide +kernel
theorem dX4_takeSize_17 : decode cX4_takeSize 17 = .ok (.iload_n 2, 1) := by decide +kernel
theorem dX4_takeSize_18 : decode cX4_takeSize 18 = .ok (.ifCond .ne 18, 3) := by decide +kernel
theorem dX4_takeSize_21 : decode cX4_takeSize 21 = .ok (.bipush 10, 2) := by decide +kernel
theorem dX4_takeSize_23 : decode cX4_takeSize 23 = .ok (.invokestatic 52, 3) := by decide +kernel
theorem dX4_takeSize_26 : decode cX4_takeSize 26 = .ok (.iconst 1, 1) := by decide +kernel
theorem dX4_takeSize_27 : decode cX4_takeSize 27 = .ok (.invokestatic 52, 3) := by decide +kernel
theorem dX4_takeSize_30 : decode cX4_takeSize 30 = .ok (.iconst (-1), 1) := by decide +kernel
theorem dX4_takeSize_31 : decode cX4_takeSize 31 = .ok (.ixor, 1) := by decide +kernel
theorem dX4_takeSize_32 : decode cX4_takeSize 32 = .ok (.iand, 1) := by decide +kernel
theorem dX4_takeSize_33 : decode cX4_takeSize 33 = .ok (.goto 7, 3) := by decide +kernel
theorem dX4_takeSize_36 : decode cX4_takeSize 36 = .ok (.iconst 1, 1) := by decide +kernel
theorem dX4_takeSize_37 : decode cX4_takeSize 37 = .ok (.invokestatic 52, 3) := by decide +kernel
theorem dX4_takeSize_40 : decode cX4_takeSize 40 = .ok (.invokevirtual 56, 3) := by decide +kernel
theorem dX4_takeSize_43 : decode cX4_takeSize 43 = .ok (.istore_n 3, 1) := by decide +kernel
theorem dX4_takeSize_44 : decode cX4_takeSize 44 = .ok (.iload_n 3, 1) := by decide +kernel
theorem dX4_takeSize_45 : decode cX4_takeSize 45 = .ok (.iconst (-1), 1) := by decide +kernel
theorem dX4_takeSize_46 : decode cX4_takeSize 46 = .ok (.if_icmp .ne 5, 3) := by decide +kernel
theorem dX4_takeSize_49 : decode cX4_takeSize 49 = .ok (.iconst 0, 1) := by decide +kernel
theorem dX4_takeSize_50 : decode cX4_takeSize 50 = .ok (.ireturn, 1) := by decide +kernel
theorem dX4_takeSize_51 : decode cX4_takeSize 51 = .ok (.aload_n 1, 1) := by decide +kernel
theorem dX4_takeSize_52 : decode cX4_takeSize 52 = .ok (.bipush 10, 2) := by decide +kernel
theorem dX4_takeSize_54 : decode cX4_takeSize 54 = .ok (.iload_n 2, 1) := by decide +kernel
theorem dX4_takeSize_55 : decode cX4_takeSize 55 = .ok (.imul, 1) := by decide +kernel
theorem dX4_takeSize_56 : decode cX4_takeSize 56 = .ok (.iload_n 3, 1) := by decide +kernel
theorem dX4_takeSize_57 : decode cX4_takeSize 57 = .ok (.iadd, 1) := by decide +kernel
theorem dX4_takeSize_58 : decode cX4_takeSize 58 = .ok (.putfield 59, 3) := by decide +kernel
theorem dX4_takeSize_61 : decode cX4_takeSize 61 = .ok (.iconst 1, 1) := by decide +kernel
theorem dX4_takeSize_62 : decode cX4_takeSize 62 = .ok (.ireturn, 1) := by decide +kernel
set_option maxRecDepth 20000 in
theorem ggX4_takeSurfaces_X4_below : GoodIn wsX4_takeSurfaces wsX4_below := goodIn_r _ [5] (by decide +kernel) (by decide +kernel)
set_option maxRecDepth 20000 in
theorem gX4_takeSurfaces_X4_below : GoodIn wsX4_takeSurfaces (va_wsS RX4 52 yX4_below wsX4_below) := goodIn_app (goodIn_of _ (by decide +kernel)) ggX4_takeSurfaces_X4_below
set_option maxRecDepth 20000 in
theorem ggX4_takeSurfaces_X4_takeDigit : GoodIn wsX4_takeSurfaces wsX4_takeDigit := goodIn_r _ [9, 10, 11, 12, 13, 4, 14, 15, 16, 17, 18, 19, 47, 48, 49, 50] (by decide +kernel) (by decide +kernel)
set_option maxRecDepth 20000 in
theorem gX4_takeSurfaces_X4_takeDigit : GoodIn wsX4_takeSurfaces (wsV RX4 56 RX4 yX4_takeDigit wsX4_takeDigit) := goodIn_app (goodIn_of _ (by decide +kernel)) ggX4_takeSurfaces_X4_takeDigit
set_option maxRecDepth 20000 in
theorem ggX4_takeSurfaces_X2_changeSurface : GoodIn wsX4_takeSurfaces wsX2_changeSurface := goodIn_r _ [24, 25, 26, 27, 28, 23, 29, 30, 31, 17, 18, 19, 51, 52, 53, 54, 55, 56, 57, 32, 33, 34, 35, 36, 37, 38, 39, 40, 41, 42, 43, 44, 45, 46] (by decide +kernel) (by decide +kernel)
set_option maxRecDepth 20000 in
theorem gX4_takeSurfaces_X2_changeSurface : GoodIn wsX4_takeSurfaces (wsV RX4 62 RX2 yX2_changeSurface wsX2_changeSurface) := goodIn_app (goodIn_of _ (by decide +kernel)) ggX4_takeSurfaces_X2_changeSurface
theorem dX4_takeSurfaces_0 : decode cX4_takeSurfaces 0 = .ok (.iconst 0, 1) := by decide +kernel
theorem dX4_takeSurfaces_1 : decode cX4_takeSurfaces 1 = .ok (.istore_n 2, 1) := by decide +kernel
theorem dX4_takeSurfaces_2 : decode cX4_takeSurfaces 2 = .ok (.iload_n 2, 1) := by decide +kernel
theorem dX4_takeSurfaces_3 : decode cX4_takeSurfaces 3 = .ok (.aload_n 1, 1) := by decide +kernel
theorem dX4_takeSurfaces_4 : decode cX4_takeSurfaces 4 = .ok (.getfield 59, 3) := by decide +kernel
theorem dX4_takeSurfaces_7 : decode cX4_takeSurfaces 7 = .ok (.if_icmp .ge 32, 3) := by decide +kernel
theorem dX4_takeSurfaces_10 : decode cX4_takeSurfaces 10 = .ok (.aload_n 0, 1) := by decide +kernel
theorem dX4_takeSurfaces_11 : decode cX4_takeSurfaces 11 = .ok (.iconst 3, 1) := by decide +kernel
theorem dX4_takeSurfaces_12 : decode cX4_takeSurfaces 12 = .ok (.invokestatic 52, 3) := by decide +kernel
theorem dX4_takeSurfaces_15 : decode cX4_takeSurfaces 15 = .ok (.invokevirtual 56, 3) := by decide +kernel
theorem dX4_takeSurfaces_18 : decode cX4_takeSurfaces 18 = .ok (.istore_n 3, 1) := by decide +kernel
theorem dX4_takeSurfaces_19 : decode cX4_takeSurfaces 19 = .ok (.iload_n 3, 1) := by decide +kernel
theorem dX4_takeSurfaces_20 : decode cX4_takeSurfaces 20 = .ok (.iconst (-1), 1) := by decide +kernel
theorem dX4_takeSurfaces_21 : decode cX4_takeSurfaces 21 = .ok (.if_icmp .ne 5, 3) := by decide +kernel
theorem dX4_takeSurfaces_24 : decode cX4_takeSurfaces 24 = .ok (.iconst 0, 1) := by decide +kernel
theorem dX4_takeSurfaces_25 : decode cX4_takeSurfaces 25 = .ok (.ireturn, 1) := by decide +kernel
theorem dX4_takeSurfaces_26 : decode cX4_takeSurfaces 26 = .ok (.aload_n 1, 1) := by decide +kernel
theorem dX4_takeSurfaces_27 : decode cX4_takeSurfaces 27 = .ok (.iload_n 2, 1) := by decide +kernel
theorem dX4_takeSurfaces_28 : decode cX4_takeSurfaces 28 = .ok (.iload_n 3, 1) := by decide +kernel
theorem dX4_takeSurfaces_29 : decode cX4_takeSurfaces 29 = .ok (.invokevirtual 62, 3) := by decide +kernel
theorem dX4_takeSurfaces_32 : decode cX4_takeSurfaces 32 = .ok (.pop, 1) := by decide +kernel
theorem dX4_takeSurfaces_33 : decode cX4_takeSurfaces 33 = .ok (.iinc 2 1, 3) := by decide +kernel
theorem dX4_takeSurfaces_36 : decode cX4_takeSurfaces 36 = .ok (.goto (-34), 3) := by decide +kernel
theorem dX4_takeSurfaces_39 : decode cX4_takeSurfaces 39 = .ok (.iconst 1, 1) := by decide +kernel
theorem dX4_takeSurfaces_40 : decode cX4_takeSurfaces 40 = .ok (.ireturn, 1) := by decide +kernel
set_option maxRecDepth 20000 in
theorem ggX4_takeParts_X4_takePart : GoodIn wsX4_takeParts wsX4_takePart := goodIn_r _ [7, 8, 9, 10, 11, 12, 13, 14, 6, 15, 1, 16, 17, 18, 19, 2, 20, 21, 22, 23, 24, 25, 26, 27, 28, 29, 30, 31, 32, 33, 34, 35, 36, 37, 38, 39, 40, 41, 42, 43, 44, 45, 46, 47, 48, 49, 50, 51, 52, 53, 54, 55, 56, 57, 58, 59, 60, 61, 62, 63, 64, 65, 66, 67, 68, 69, 70, 71, 72, 73, 74, 75, 80, 81, 82, 83, 84, 85, 86, 87, 88, 89, 90, 91, 92, 93, 94, 76, 77, 78, 79, 95, 96, 97, 98, 99, 100, 101, 102] (by decide +kernel) (by decide +kernel)
set_option maxRecDepth 20000 in
theorem gX4_takeParts_X4_takePart : GoodIn wsX4_takeParts (wsV RX4 66 RX4 yX4_takePart wsX4_takePart) := goodIn_app (goodIn_of _ (by decide +kernel)) ggX4_takeParts_X4_takePart
theorem dX4_takeParts_0 : decode cX4_takeParts 0 = .ok (.iconst 0, 1) := by decide +kernel
theorem dX4_takeParts_1 : decode cX4_takeParts 1 = .ok (.istore_n 2, 1) := by decide +kernel
theorem dX4_takeParts_2 : decode cX4_takeParts 2 = .ok (.iload_n 2, 1) := by decide +kernel
theorem dX4_takeParts_3 : decode cX4_takeParts 3 = .ok (.bipush 70, 2) := by decide +kernel
theorem dX4_takeParts_5 : decode cX4_takeParts 5 = .ok (.if_icmp .ge 30, 3) := by decide +kernel
theorem dX4_takeParts_8 : decode cX4_takeParts 8 = .ok (.aload_n 0, 1) := by decide +kernel
theorem dX4_takeParts_9 : decode cX4_takeParts 9 = .ok (.getfield 23, 3) := by decide +kernel
theorem dX4_takeParts_12 : decode cX4_takeParts 12 = .ok (.aload_n 0, 1) := by decide +kernel
theorem dX4_takeParts_13 : decode cX4_takeParts 13 = .ok (.getfield 19, 3) := by decide +kernel
theorem dX4_takeParts_16 : decode cX4_takeParts 16 = .ok (.if_icmp .ge 19, 3) := by decide +kernel
theorem dX4_takeParts_19 : decode cX4_takeParts 19 = .ok (.aload_n 0, 1) := by decide +kernel
theorem dX4_takeParts_20 : decode cX4_takeParts 20 = .ok (.aload_n 1, 1) := by decide +kernel
theorem dX4_takeParts_21 : decode cX4_takeParts 21 = .ok (.invokevirtual 66, 3) := by decide +kernel
theorem dX4_takeParts_24 : decode cX4_takeParts 24 = .ok (.ifCond .ne 5, 3) := by decide +kernel
theorem dX4_takeParts_27 : decode cX4_takeParts 27 = .ok (.iconst 0, 1) := by decide +kernel
theorem dX4_takeParts_28 : decode cX4_takeParts 28 = .ok (.ireturn, 1) := by decide +kernel
theorem dX4_takeParts_29 : decode cX4_takeParts 29 = .ok (.iinc 2 1, 3) := by decide +kernel
theorem dX4_takeParts_32 : decode cX4_takeParts 32 = .ok (.goto (-30), 3) := by decide +kernel
theorem dX4_takeParts_35 : decode cX4_takeParts 35 = .ok (.iconst 1, 1) := by decide +kernel
theorem dX4_takeParts_36 : decode cX4_takeParts 36 = .ok (.ireturn, 1) := by decide +kernel
set_option maxRecDepth 20000 in
theorem ggX4_takePart_X4_takeSign : GoodIn wsX4_takePart wsX4_takeSign := goodIn_r _ [9, 10, 11, 12, 13, 8, 14, 15, 16, 87, 88, 89, 90] (by decide +kernel) (by decide +kernel)
set_option maxRecDepth 20000 in
theorem gX4_takePart_X4_takeSign : GoodIn wsX4_takePart (wsV RX4 34 RX4 yX4_takeSign wsX4_takeSign) := goodIn_app (goodIn_of _ (by decide +kernel)) ggX4_takePart_X4_takeSign
set_option maxRecDepth 20000 in
theorem ggX4_takePart_X4_takeHouse : GoodIn wsX4_takePart wsX4_takeHouse := goodIn_r _ [20, 3, 21, 22, 8, 23, 24, 25, 26, 27, 10, 11, 12, 13, 14, 15, 16, 28, 29, 30, 31, 32, 33, 34, 35, 36, 37, 38, 39, 40, 41, 42, 43, 44, 45, 46, 47, 48, 49, 50, 51, 52, 53, 72, 73, 74, 75, 76, 77, 78, 79, 80, 81, 82, 83, 84, 85, 86, 87, 88, 89, 90, 91, 92, 93, 94, 95] (by decide +kernel) (by decide +kernel)
set_option maxRecDepth 20000 in
theorem gX4_takePart_X4_takeHouse : GoodIn wsX4_takePart (wsV RX4 72 RX4 yX4_takeHouse wsX4_takeHouse) := goodIn_app (goodIn_of _ (by decide +kernel)) ggX4_takePart_X4_takeHouse
set_option maxRecDepth 20000 in
theorem ggX4_takePart_X4_below : GoodIn wsX4_takePart wsX4_below := goodIn_r _ [23] (by decide +kernel) (by decide +kernel)
set_option maxRecDepth 20000 in
theorem gX4_takePart_X4_below : GoodIn wsX4_takePart (va_wsS RX4 52 yX4_below wsX4_below) := goodIn_app (goodIn_of _ (by decide +kernel)) ggX4_takePart_X4_below
set_option maxRecDepth 20000 in
theorem ggX4_takePart_X4_takeDigit : GoodIn wsX4_takePart wsX4_takeDigit := goodIn_r _ [27, 10, 11, 12, 13, 8, 14, 15, 16, 28, 29, 30, 87, 88, 89, 90] (by decide +kernel) (by decide +kernel)
set_option maxRecDepth 20000 in
theorem gX4_takePart_X4_takeDigit : GoodIn wsX4_takePart (wsV RX4 56 RX4 yX4_takeDigit wsX4_takeDigit) := goodIn_app (goodIn_of _ (by decide +kernel)) ggX4_takePart_X4_takeDigit
set_option maxRecDepth 20000 in
theorem ggX4_takePart_X2_bringWagon : GoodIn wsX4_takePart wsX2_bringWagon := goodIn_r _ [57, 58, 59, 38, 39, 40, 34, 41, 42, 43, 60, 61, 62, 63, 64, 65, 66, 67, 72, 73, 74, 75, 76, 77, 78, 79, 80, 81, 82, 83, 84, 85, 86, 96, 97, 98] (by decide +kernel) (by decide +kernel)
set_option maxRecDepth 20000 in
theorem gX4_takePart_X2_bringWagon : GoodIn wsX4_takePart (wsV RX4 78 RX2 yX2_bringWagon wsX2_bringWagon) := goodIn_app (goodIn_of _ (by decide +kernel)) ggX4_takePart_X2_bringWagon
set_option maxRecDepth 20000 in
theorem ggX4_takePart_X4_takeFillingPlace : GoodIn wsX4_takePart wsX4_takeFillingPlace := goodIn_r _ [71, 4, 24, 25, 26, 8, 27, 10, 11, 12, 13, 14, 15, 16, 28, 29, 30, 87, 88, 89, 90] (by decide +kernel) (by decide +kernel)
set_option maxRecDepth 20000 in
theorem gX4_takePart_X4_takeFillingPlace : GoodIn wsX4_takePart (wsV RX4 81 RX4 yX4_takeFillingPlace wsX4_takeFillingPlace) := goodIn_app (goodIn_of _ (by decide +kernel)) ggX4_takePart_X4_takeFillingPlace
theorem dX4_takePart_0 : decode cX4_takePart 0 = .ok (.aload_n 1, 1) := by decide +kernel
theorem dX4_takePart_1 : decode cX4_takePart 1 = .ok (.getfield 69, 3) := by decide +kernel
theorem dX4_takePart_4 : decode cX4_takePart 4 = .ok (.bipush 8, 2) := by decide +kernel
theorem dX4_takePart_6 : decode cX4_takePart 6 = .ok (.if_icmp .ge 18, 3) := by decide +kernel
theorem dX4_takePart_9 : decode cX4_takePart 9 = .ok (.aload_n 0, 1) := by decide +kernel
theorem dX4_takePart_10 : decode cX4_takePart 10 = .ok (.bipush 104, 2) := by decide +kernel
theorem dX4_takePart_12 : decode cX4_takePart 12 = .ok (.invokevirtual 34, 3) := by decide +kernel
theorem dX4_takePart_15 : decode cX4_takePart 15 = .ok (.ifCond .eq 9, 3) := by decide +kernel
theorem dX4_takePart_18 : decode cX4_takePart 18 = .ok (.aload_n 0, 1) := by decide +kernel
theorem dX4_takePart_19 : decode cX4_takePart 19 = .ok (.aload_n 1, 1) := by decide +kernel
theorem dX4_takePart_20 : decode cX4_takePart 20 = .ok (.invokevirtual 72, 3) := by decide +kernel
theorem dX4_takePart_23 : decode cX4_takePart 23 = .ok (.ireturn, 1) := by decide +kernel
theorem dX4_takePart_24 : decode cX4_takePart 24 = .ok (.aload_n 1, 1) := by decide +kernel
theorem dX4_takePart_25 : decode cX4_takePart 25 = .ok (.getfield 75, 3) := by decide +kernel
theorem dX4_takePart_28 : decode cX4_takePart 28 = .ok (.iconst 3, 1) := by decide +kernel
theorem dX4_takePart_29 : decode cX4_takePart 29 = .ok (.if_icmp .ge 36, 3) := by decide +kernel
theorem dX4_takePart_32 : decode cX4_takePart 32 = .ok (.aload_n 0, 1) := by decide +kernel
theorem dX4_takePart_33 : decode cX4_takePart 33 = .ok (.bipush 119, 2) := by decide +kernel
theorem dX4_takePart_35 : decode cX4_takePart 35 = .ok (.invokevirtual 34, 3) := by decide +kernel
theorem dX4_takePart_38 : decode cX4_takePart 38 = .ok (.ifCond .eq 27, 3) := by decide +kernel
theorem dX4_takePart_41 : decode cX4_takePart 41 = .ok (.aload_n 1, 1) := by decide +kernel
theorem dX4_takePart_42 : decode cX4_takePart 42 = .ok (.aload_n 0, 1) := by decide +kernel
theorem dX4_takePart_43 : decode cX4_takePart 43 = .ok (.aload_n 1, 1) := by decide +kernel
theorem dX4_takePart_44 : decode cX4_takePart 44 = .ok (.getfield 59, 3) := by decide +kernel
theorem dX4_takePart_47 : decode cX4_takePart 47 = .ok (.invokestatic 52, 3) := by decide +kernel
theorem dX4_takePart_50 : decode cX4_takePart 50 = .ok (.invokevirtual 56, 3) := by decide +kernel
theorem dX4_takePart_53 : decode cX4_takePart 53 = .ok (.invokevirtual 78, 3) := by decide +kernel
theorem dX4_takePart_56 : decode cX4_takePart 56 = .ok (.ifCond .lt 7, 3) := by decide +kernel
theorem dX4_takePart_59 : decode cX4_takePart 59 = .ok (.iconst 1, 1) := by decide +kernel
theorem dX4_takePart_60 : decode cX4_takePart 60 = .ok (.goto 4, 3) := by decide +kernel
theorem dX4_takePart_63 : decode cX4_takePart 63 = .ok (.iconst 0, 1) := by decide +kernel
theorem dX4_takePart_64 : decode cX4_takePart 64 = .ok (.ireturn, 1) := by decide +kernel
theorem dX4_takePart_65 : decode cX4_takePart 65 = .ok (.aload_n 1, 1) := by decide +kernel
theorem dX4_takePart_66 : decode cX4_takePart 66 = .ok (.getfield 59, 3) := by decide +kernel
theorem dX4_takePart_69 : decode cX4_takePart 69 = .ok (.invokestatic 52, 3) := by decide +kernel
theorem dX4_takePart_72 : decode cX4_takePart 72 = .ok (.aload_n 0, 1) := by decide +kernel
theorem dX4_takePart_73 : decode cX4_takePart 73 = .ok (.getfield 26, 3) := by decide +kernel
theorem dX4_takePart_76 : decode cX4_takePart 76 = .ok (.iconst (-1), 1) := by decide +kernel
theorem dX4_takePart_77 : decode cX4_takePart 77 = .ok (.ixor, 1) := by decide +kernel
theorem dX4_takePart_78 : decode cX4_takePart 78 = .ok (.iand, 1) := by decide +kernel
theorem dX4_takePart_79 : decode cX4_takePart 79 = .ok (.istore_n 2, 1) := by decide +kernel
theorem dX4_takePart_80 : decode cX4_takePart 80 = .ok (.iload_n 2, 1) := by decide +kernel
theorem dX4_takePart_81 : decode cX4_takePart 81 = .ok (.ifCond .eq 24, 3) := by decide +kernel
theorem dX4_takePart_84 : decode cX4_takePart 84 = .ok (.aload_n 0, 1) := by decide +kernel
theorem dX4_takePart_85 : decode cX4_takePart 85 = .ok (.bipush 102, 2) := by decide +kernel
theorem dX4_takePart_87 : decode cX4_takePart 87 = .ok (.invokevirtual 34, 3) := by decide +kernel
theorem dX4_takePart_90 : decode cX4_takePart 90 = .ok (.ifCond .eq 15, 3) := by decide +kernel
theorem dX4_takePart_93 : decode cX4_takePart 93 = .ok (.aload_n 0, 1) := by decide +kernel
theorem dX4_takePart_94 : decode cX4_takePart 94 = .ok (.iload_n 2, 1) := by decide +kernel
theorem dX4_takePart_95 : decode cX4_takePart 95 = .ok (.invokevirtual 81, 3) := by decide +kernel
theorem dX4_takePart_98 : decode cX4_takePart 98 = .ok (.ifCond .eq 7, 3) := by decide +kernel
theorem dX4_takePart_101 : decode cX4_takePart 101 = .ok (.iconst 1, 1) := by decide +kernel
theorem dX4_takePart_102 : decode cX4_takePart 102 = .ok (.goto 4, 3) := by decide +kernel
theorem dX4_takePart_105 : decode cX4_takePart 105 = .ok (.iconst 0, 1) := by decide +kernel
theorem dX4_takePart_106 : decode cX4_takePart 106 = .ok (.ireturn, 1) := by decide +kernel
set_option maxRecDepth 20000 in
theorem ggX4_takeHouse_X4_below : GoodIn wsX4_takeHouse wsX4_below := goodIn_r _ [5] (by decide +kernel) (by decide +kernel)
set_option maxRecDepth 20000 in
theorem gX4_takeHouse_X4_below : GoodIn wsX4_takeHouse (va_wsS RX4 52 yX4_below wsX4_below) := goodIn_app (goodIn_of _ (by decide +kernel)) ggX4_takeHouse_X4_below
set_option maxRecDepth 20000 in
theorem ggX4_takeHouse_X4_takeDigit : GoodIn wsX4_takeHouse wsX4_takeDigit := goodIn_r _ [9, 10, 11, 12, 13, 4, 14, 15, 16, 17, 18, 19, 58, 59, 60, 61] (by decide +kernel) (by decide +kernel)
set_option maxRecDepth 20000 in
theorem gX4_takeHouse_X4_takeDigit : GoodIn wsX4_takeHouse (wsV RX4 56 RX4 yX4_takeDigit wsX4_takeDigit) := goodIn_app (goodIn_of _ (by decide +kernel)) ggX4_takeHouse_X4_takeDigit
set_option maxRecDepth 20000 in
theorem ggX4_takeHouse_X2_buildHouse : GoodIn wsX4_takeHouse wsX2_buildHouse := goodIn_r _ [24, 25, 26, 27, 28, 29, 23, 30, 31, 32, 17, 18, 19, 33, 34, 35, 36, 37, 38, 39, 40, 41, 42, 43, 44, 45, 46, 47, 48, 49, 50, 51, 52, 53, 54, 55, 56, 57, 62, 63, 64, 65, 66] (by decide +kernel) (by decide +kernel)
set_option maxRecDepth 20000 in
theorem gX4_takeHouse_X2_buildHouse : GoodIn wsX4_takeHouse (wsV RX4 85 RX2 yX2_buildHouse wsX2_buildHouse) := goodIn_app (goodIn_of _ (by decide +kernel)) ggX4_takeHouse_X2_buildHouse
theorem dX4_takeHouse_0 : decode cX4_takeHouse 0 = .ok (.aload_n 0, 1) := by decide +kernel
theorem dX4_takeHouse_1 : decode cX4_takeHouse 1 = .ok (.aload_n 1, 1) := by decide +kernel
theorem dX4_takeHouse_2 : decode cX4_takeHouse 2 = .ok (.getfield 59, 3) := by decide +kernel
theorem dX4_takeHouse_5 : decode cX4_takeHouse 5 = .ok (.invokestatic 52, 3) := by decide +kernel
theorem dX4_takeHouse_8 : decode cX4_takeHouse 8 = .ok (.invokevirtual 56, 3) := by decide +kernel
theorem dX4_takeHouse_11 : decode cX4_takeHouse 11 = .ok (.istore_n 2, 1) := by decide +kernel
theorem dX4_takeHouse_12 : decode cX4_takeHouse 12 = .ok (.iload_n 2, 1) := by decide +kernel
theorem dX4_takeHouse_13 : decode cX4_takeHouse 13 = .ok (.iconst (-1), 1) := by decide +kernel
theorem dX4_takeHouse_14 : decode cX4_takeHouse 14 = .ok (.if_icmp .ne 5, 3) := by decide +kernel
theorem dX4_takeHouse_17 : decode cX4_takeHouse 17 = .ok (.iconst 0, 1) := by decide +kernel
theorem dX4_takeHouse_18 : decode cX4_takeHouse 18 = .ok (.ireturn, 1) := by decide +kernel
theorem dX4_takeHouse_19 : decode cX4_takeHouse 19 = .ok (.aload_n 0, 1) := by decide +kernel
theorem dX4_takeHouse_20 : decode cX4_takeHouse 20 = .ok (.bipush 10, 2) := by decide +kernel
theorem dX4_takeHouse_22 : decode cX4_takeHouse 22 = .ok (.invokestatic 52, 3) := by decide +kernel
theorem dX4_takeHouse_25 : decode cX4_takeHouse 25 = .ok (.invokevirtual 56, 3) := by decide +kernel
theorem dX4_takeHouse_28 : decode cX4_takeHouse 28 = .ok (.istore_n 3, 1) := by decide +kernel
theorem dX4_takeHouse_29 : decode cX4_takeHouse 29 = .ok (.iload_n 3, 1) := by decide +kernel
theorem dX4_takeHouse_30 : decode cX4_takeHouse 30 = .ok (.iconst (-1), 1) := by decide +kernel
theorem dX4_takeHouse_31 : decode cX4_takeHouse 31 = .ok (.if_icmp .eq 16, 3) := by decide +kernel
theorem dX4_takeHouse_34 : decode cX4_takeHouse 34 = .ok (.aload_n 1, 1) := by decide +kernel
theorem dX4_takeHouse_35 : decode cX4_takeHouse 35 = .ok (.iload_n 2, 1) := by decide +kernel
theorem dX4_takeHouse_36 : decode cX4_takeHouse 36 = .ok (.iload_n 3, 1) := by decide +kernel
theorem dX4_takeHouse_37 : decode cX4_takeHouse 37 = .ok (.invokevirtual 85, 3) := by decide +kernel
theorem dX4_takeHouse_40 : decode cX4_takeHouse 40 = .ok (.ifCond .lt 7, 3) := by decide +kernel
theorem dX4_takeHouse_43 : decode cX4_takeHouse 43 = .ok (.iconst 1, 1) := by decide +kernel
theorem dX4_takeHouse_44 : decode cX4_takeHouse 44 = .ok (.goto 4, 3) := by decide +kernel
theorem dX4_takeHouse_47 : decode cX4_takeHouse 47 = .ok (.iconst 0, 1) := by decide +kernel
theorem dX4_takeHouse_48 : decode cX4_takeHouse 48 = .ok (.ireturn, 1) := by decide +kernel
set_option maxRecDepth 20000 in
theorem ggX4_takeFillingPlace_X4_takeDigit : GoodIn wsX4_takeFillingPlace wsX4_takeDigit := goodIn_r _ [6, 7, 8, 9, 10, 5, 11, 12, 13, 14, 15, 16, 17, 18, 19, 20] (by decide +kernel) (by decide +kernel)
set_option maxRecDepth 20000 in
theorem gX4_takeFillingPlace_X4_takeDigit : GoodIn wsX4_takeFillingPlace (wsV RX4 56 RX4 yX4_takeDigit wsX4_takeDigit) := goodIn_app (goodIn_of _ (by decide +kernel)) ggX4_takeFillingPlace_X4_takeDigit
theorem dX4_takeFillingPlace_0 : decode cX4_takeFillingPlace 0 = .ok (.aload_n 0, 1) := by decide +kernel
theorem dX4_takeFillingPlace_1 : decode cX4_takeFillingPlace 1 = .ok (.iload_n 1, 1) := by decide +kernel
theorem dX4_takeFillingPlace_2 : decode cX4_takeFillingPlace 2 = .ok (.invokevirtual 56, 3) := by decide +kernel
theorem dX4_takeFillingPlace_5 : decode cX4_takeFillingPlace 5 = .ok (.istore_n 2, 1) := by decide +kernel
theorem dX4_takeFillingPlace_6 : decode cX4_takeFillingPlace 6 = .ok (.iload_n 2, 1) := by decide +kernel
theorem dX4_takeFillingPlace_7 : decode cX4_takeFillingPlace 7 = .ok (.iconst (-1), 1) := by decide +kernel
theorem dX4_takeFillingPlace_8 : decode cX4_takeFillingPlace 8 = .ok (.if_icmp .ne 5, 3) := by decide +kernel
theorem dX4_takeFillingPlace_11 : decode cX4_takeFillingPlace 11 = .ok (.iconst 0, 1) := by decide +kernel
theorem dX4_takeFillingPlace_12 : decode cX4_takeFillingPlace 12 = .ok (.ireturn, 1) := by decide +kernel
theorem dX4_takeFillingPlace_13 : decode cX4_takeFillingPlace 13 = .ok (.aload_n 0, 1) := by decide +kernel
theorem dX4_takeFillingPlace_14 : decode cX4_takeFillingPlace 14 = .ok (.dup, 1) := by decide +kernel
theorem dX4_takeFillingPlace_15 : decode cX4_takeFillingPlace 15 = .ok (.getfield 26, 3) := by decide +kernel
theorem dX4_takeFillingPlace_18 : decode cX4_takeFillingPlace 18 = .ok (.iconst 1, 1) := by decide +kernel
theorem dX4_takeFillingPlace_19 : decode cX4_takeFillingPlace 19 = .ok (.iload_n 2, 1) := by decide +kernel
theorem dX4_takeFillingPlace_20 : decode cX4_takeFillingPlace 20 = .ok (.ishl, 1) := by decide +kernel
theorem dX4_takeFillingPlace_21 : decode cX4_takeFillingPlace 21 = .ok (.ior, 1) := by decide +kernel
theorem dX4_takeFillingPlace_22 : decode cX4_takeFillingPlace 22 = .ok (.putfield 26, 3) := by decide +kernel
theorem dX4_takeFillingPlace_25 : decode cX4_takeFillingPlace 25 = .ok (.iconst 1, 1) := by decide +kernel
theorem dX4_takeFillingPlace_26 : decode cX4_takeFillingPlace 26 = .ok (.ireturn, 1) := by decide +kernel
theorem dX4_below_0 : decode cX4_below 0 = .ok (.iconst 1, 1) := by decide +kernel
theorem dX4_below_1 : decode cX4_below 1 = .ok (.iload_n 0, 1) := by decide +kernel
theorem dX4_below_2 : decode cX4_below 2 = .ok (.ishl, 1) := by decide +kernel
theorem dX4_below_3 : decode cX4_below 3 = .ok (.iconst 1, 1) := by decide +kernel
theorem dX4_below_4 : decode cX4_below 4 = .ok (.isub, 1) := by decide +kernel
theorem dX4_below_5 : decode cX4_below 5 = .ok (.ireturn, 1) := by decide +kernel
set_option maxRecDepth 20000 in
theorem ggX4_takeSign_X4_signAt : GoodIn wsX4_takeSign wsX4_signAt := goodIn_r _ [6, 1, 7, 8, 9, 10, 11, 12] (by decide +kernel) (by decide +kernel)
set_option maxRecDepth 20000 in
theorem gX4_takeSign_X4_signAt : GoodIn wsX4_takeSign (wsV RX4 88 RX4 yX4_signAt wsX4_signAt) := goodIn_app (goodIn_of _ (by decide +kernel)) ggX4_takeSign_X4_signAt
theorem dX4_takeSign_0 : decode cX4_takeSign 0 = .ok (.aload_n 0, 1) := by decide +kernel
theorem dX4_takeSign_1 : decode cX4_takeSign 1 = .ok (.invokevirtual 88, 3) := by decide +kernel
theorem dX4_takeSign_4 : decode cX4_takeSign 4 = .ok (.iload_n 1, 1) := by decide +kernel
theorem dX4_takeSign_5 : decode cX4_takeSign 5 = .ok (.if_icmp .eq 5, 3) := by decide +kernel
theorem dX4_takeSign_8 : decode cX4_takeSign 8 = .ok (.iconst 0, 1) := by decide +kernel
theorem dX4_takeSign_9 : decode cX4_takeSign 9 = .ok (.ireturn, 1) := by decide +kernel
theorem dX4_takeSign_10 : decode cX4_takeSign 10 = .ok (.aload_n 0, 1) := by decide +kernel
theorem dX4_takeSign_11 : decode cX4_takeSign 11 = .ok (.dup, 1) := by decide +kernel
theorem dX4_takeSign_12 : decode cX4_takeSign 12 = .ok (.getfield 23, 3) := by decide +kernel
theorem dX4_takeSign_15 : decode cX4_takeSign 15 = .ok (.iconst 1, 1) := by decide +kernel
theorem dX4_takeSign_16 : decode cX4_takeSign 16 = .ok (.iadd, 1) := by decide +kernel
theorem dX4_takeSign_17 : decode cX4_takeSign 17 = .ok (.putfield 23, 3) := by decide +kernel
theorem dX4_takeSign_20 : decode cX4_takeSign 20 = .ok (.iconst 1, 1) := by decide +kernel
theorem dX4_takeSign_21 : decode cX4_takeSign 21 = .ok (.ireturn, 1) := by decide +kernel
set_option maxRecDepth 20000 in
theorem ggX4_takeDigit_X4_signAt : GoodIn wsX4_takeDigit wsX4_signAt := goodIn_r _ [6, 1, 7, 8, 12, 13, 14, 15] (by decide +kernel) (by decide +kernel)
set_option maxRecDepth 20000 in
theorem gX4_takeDigit_X4_signAt : GoodIn wsX4_takeDigit (wsV RX4 88 RX4 yX4_signAt wsX4_signAt) := goodIn_app (goodIn_of _ (by decide +kernel)) ggX4_takeDigit_X4_signAt
set_option maxRecDepth 20000 in
theorem ggX4_takeDigit_X6_within : GoodIn wsX4_takeDigit wsX6_within := goodIn_r _ [11] (by decide +kernel) (by decide +kernel)
set_option maxRecDepth 20000 in
theorem gX4_takeDigit_X6_within_n15 : GoodIn wsX4_takeDigit (wsX6_within) := ggX4_takeDigit_X6_within
theorem dX4_takeDigit_0 : decode cX4_takeDigit 0 = .ok (.aload_n 0, 1) := by decide +kernel
theorem dX4_takeDigit_1 : decode cX4_takeDigit 1 = .ok (.invokevirtual 88, 3) := by decide +kernel
theorem dX4_takeDigit_4 : decode cX4_takeDigit 4 = .ok (.bipush 48, 2) := by decide +kernel
theorem dX4_takeDigit_6 : decode cX4_takeDigit 6 = .ok (.isub, 1) := by decide +kernel
theorem dX4_takeDigit_7 : decode cX4_takeDigit 7 = .ok (.istore_n 2, 1) := by decide +kernel
theorem dX4_takeDigit_8 : decode cX4_takeDigit 8 = .ok (.iload_n 2, 1) := by decide +kernel
theorem dX4_takeDigit_9 : decode cX4_takeDigit 9 = .ok (.iconst 0, 1) := by decide +kernel
theorem dX4_takeDigit_10 : decode cX4_takeDigit 10 = .ok (.bipush 9, 2) := by decide +kernel
theorem dX4_takeDigit_12 : decode cX4_takeDigit 12 = .ok (.invokestatic 15, 3) := by decide +kernel
theorem dX4_takeDigit_15 : decode cX4_takeDigit 15 = .ok (.ifCond .eq 11, 3) := by decide +kernel
theorem dX4_takeDigit_18 : decode cX4_takeDigit 18 = .ok (.iload_n 1, 1) := by decide +kernel
theorem dX4_takeDigit_19 : decode cX4_takeDigit 19 = .ok (.iload_n 2, 1) := by decide +kernel
theorem dX4_takeDigit_20 : decode cX4_takeDigit 20 = .ok (.ishr, 1) := by decide +kernel
theorem dX4_takeDigit_21 : decode cX4_takeDigit 21 = .ok (.iconst 1, 1) := by decide +kernel
theorem dX4_takeDigit_22 : decode cX4_takeDigit 22 = .ok (.iand, 1) := by decide +kernel
theorem dX4_takeDigit_23 : decode cX4_takeDigit 23 = .ok (.ifCond .ne 5, 3) := by decide +kernel
theorem dX4_takeDigit_26 : decode cX4_takeDigit 26 = .ok (.iconst (-1), 1) := by decide +kernel
theorem dX4_takeDigit_27 : decode cX4_takeDigit 27 = .ok (.ireturn, 1) := by decide +kernel
theorem dX4_takeDigit_28 : decode cX4_takeDigit 28 = .ok (.aload_n 0, 1) := by decide +kernel
theorem dX4_takeDigit_29 : decode cX4_takeDigit 29 = .ok (.dup, 1) := by decide +kernel
theorem dX4_takeDigit_30 : decode cX4_takeDigit 30 = .ok (.getfield 23, 3) := by decide +kernel
theorem dX4_takeDigit_33 : decode cX4_takeDigit 33 = .ok (.iconst 1, 1) := by decide +kernel
theorem dX4_takeDigit_34 : decode cX4_takeDigit 34 = .ok (.iadd, 1) := by decide +kernel
theorem dX4_takeDigit_35 : decode cX4_takeDigit 35 = .ok (.putfield 23, 3) := by decide +kernel
theorem dX4_takeDigit_38 : decode cX4_takeDigit 38 = .ok (.iload_n 2, 1) := by decide +kernel
theorem dX4_takeDigit_39 : decode cX4_takeDigit 39 = .ok (.ireturn, 1) := by decide +kernel
theorem dX4_signAt_0 : decode cX4_signAt 0 = .ok (.aload_n 0, 1) := by decide +kernel
theorem dX4_signAt_1 : decode cX4_signAt 1 = .ok (.getfield 23, 3) := by decide +kernel
theorem dX4_signAt_4 : decode cX4_signAt 4 = .ok (.ifCond .lt 35, 3) := by decide +kernel
theorem dX4_signAt_7 : decode cX4_signAt 7 = .ok (.aload_n 0, 1) := by decide +kernel
theorem dX4_signAt_8 : decode cX4_signAt 8 = .ok (.getfield 23, 3) := by decide +kernel
theorem dX4_signAt_11 : decode cX4_signAt 11 = .ok (.aload_n 0, 1) := by decide +kernel
theorem dX4_signAt_12 : decode cX4_signAt 12 = .ok (.getfield 19, 3) := by decide +kernel
theorem dX4_signAt_15 : decode cX4_signAt 15 = .ok (.if_icmp .ge 24, 3) := by decide +kernel
theorem dX4_signAt_18 : decode cX4_signAt 18 = .ok (.aload_n 0, 1) := by decide +kernel
theorem dX4_signAt_19 : decode cX4_signAt 19 = .ok (.getfield 23, 3) := by decide +kernel
theorem dX4_signAt_22 : decode cX4_signAt 22 = .ok (.bipush 70, 2) := by decide +kernel
theorem dX4_signAt_24 : decode cX4_signAt 24 = .ok (.if_icmp .ge 15, 3) := by decide +kernel
theorem dX4_signAt_27 : decode cX4_signAt 27 = .ok (.aload_n 0, 1) := by decide +kernel
theorem dX4_signAt_28 : decode cX4_signAt 28 = .ok (.getfield 9, 3) := by decide +kernel
theorem dX4_signAt_31 : decode cX4_signAt 31 = .ok (.aload_n 0, 1) := by decide +kernel
theorem dX4_signAt_32 : decode cX4_signAt 32 = .ok (.getfield 23, 3) := by decide +kernel
theorem dX4_signAt_35 : decode cX4_signAt 35 = .ok (.caload, 1) := by decide +kernel
theorem dX4_signAt_36 : decode cX4_signAt 36 = .ok (.goto 4, 3) := by decide +kernel
theorem dX4_signAt_39 : decode cX4_signAt 39 = .ok (.iconst (-1), 1) := by decide +kernel
theorem dX4_signAt_40 : decode cX4_signAt 40 = .ok (.ireturn, 1) := by decide +kernel
theorem dX5_init_0 : decode cX5_init 0 = .ok (.aload_n 0, 1) := by decide +kernel
theorem dX5_init_1 : decode cX5_init 1 = .ok (.invokespecial 3, 3) := by decide +kernel
theorem dX5_init_4 : decode cX5_init 4 = .ok (.return_, 1) := by decide +kernel
theorem dX5_beNew_0 : decode cX5_beNew 0 = .ok (.aload_n 0, 1) := by decide +kernel
theorem dX5_beNew_1 : decode cX5_beNew 1 = .ok (.iload_n 1, 1) := by decide +kernel
theorem dX5_beNew_2 : decode cX5_beNew 2 = .ok (.putfield 9, 3) := by decide +kernel
theorem dX5_beNew_5 : decode cX5_beNew 5 = .ok (.aload_n 0, 1) := by decide +kernel
theorem dX5_beNew_6 : decode cX5_beNew 6 = .ok (.bipush 20, 2) := by decide +kernel
theorem dX5_beNew_8 : decode cX5_beNew 8 = .ok (.putfield 15, 3) := by decide +kernel
theorem dX5_beNew_11 : decode cX5_beNew 11 = .ok (.aload_n 0, 1) := by decide +kernel
theorem dX5_beNew_12 : decode cX5_beNew 12 = .ok (.iconst 4, 1) := by decide +kernel
theorem dX5_beNew_13 : decode cX5_beNew 13 = .ok (.putfield 18, 3) := by decide +kernel
theorem dX5_beNew_16 : decode cX5_beNew 16 = .ok (.return_, 1) := by decide +kernel
theorem dX5_copyFrom_0 : decode cX5_copyFrom 0 = .ok (.aload_n 0, 1) := by decide +kernel
theorem dX5_copyFrom_1 : decode cX5_copyFrom 1 = .ok (.aload_n 1, 1) := by decide +kernel
theorem dX5_copyFrom_2 : decode cX5_copyFrom 2 = .ok (.getfield 9, 3) := by decide +kernel
theorem dX5_copyFrom_5 : decode cX5_copyFrom 5 = .ok (.putfield 9, 3) := by decide +kernel
theorem dX5_copyFrom_8 : decode cX5_copyFrom 8 = .ok (.aload_n 0, 1) := by decide +kernel
theorem dX5_copyFrom_9 : decode cX5_copyFrom 9 = .ok (.aload_n 1, 1) := by decide +kernel
theorem dX5_copyFrom_10 : decode cX5_copyFrom 10 = .ok (.getfield 15, 3) := by decide +kernel
theorem dX5_copyFrom_13 : decode cX5_copyFrom 13 = .ok (.putfield 15, 3) := by decide +kernel
theorem dX5_copyFrom_16 : decode cX5_copyFrom 16 = .ok (.aload_n 0, 1) := by decide +kernel
theorem dX5_copyFrom_17 : decode cX5_copyFrom 17 = .ok (.aload_n 1, 1) := by decide +kernel
theorem dX5_copyFrom_18 : decode cX5_copyFrom 18 = .ok (.getfield 18, 3) := by decide +kernel
theorem dX5_copyFrom_21 : decode cX5_copyFrom 21 = .ok (.putfield 18, 3) := by decide +kernel
theorem dX5_copyFrom_24 : decode cX5_copyFrom 24 = .ok (.return_, 1) := by decide +kernel
theorem dX5_number_0 : decode cX5_number 0 = .ok (.iload_n 1, 1) := by decide +kernel
theorem dX5_number_1 : decode cX5_number 1 = .ok (.tableswitch 42 0 2 #[27, 32, 37], 27) := by decide +kernel
theorem dX5_number_28 : decode cX5_number 28 = .ok (.aload_n 0, 1) := by decide +kernel
theorem dX5_number_29 : decode cX5_number 29 = .ok (.getfield 9, 3) := by decide +kernel
theorem dX5_number_32 : decode cX5_number 32 = .ok (.ireturn, 1) := by decide +kernel
theorem dX5_number_33 : decode cX5_number 33 = .ok (.aload_n 0, 1) := by decide +kernel
theorem dX5_number_34 : decode cX5_number 34 = .ok (.getfield 15, 3) := by decide +kernel
theorem dX5_number_37 : decode cX5_number 37 = .ok (.ireturn, 1) := by decide +kernel
theorem dX5_number_38 : decode cX5_number 38 = .ok (.aload_n 0, 1) := by decide +kernel
theorem dX5_number_39 : decode cX5_number 39 = .ok (.getfield 18, 3) := by decide +kernel
theorem dX5_number_42 : decode cX5_number 42 = .ok (.ireturn, 1) := by decide +kernel
theorem dX5_number_43 : decode cX5_number 43 = .ok (.bipush (-2), 2) := by decide +kernel
theorem dX5_number_45 : decode cX5_number 45 = .ok (.ireturn, 1) := by decide +kernel
theorem dX5_wayTo_0 : decode cX5_wayTo 0 = .ok (.iload_n 1, 1) := by decide +kernel
theorem dX5_wayTo_1 : decode cX5_wayTo 1 = .ok (.aload_n 0, 1) := by decide +kernel
theorem dX5_wayTo_2 : decode cX5_wayTo 2 = .ok (.getfield 9, 3) := by decide +kernel
theorem dX5_wayTo_5 : decode cX5_wayTo 5 = .ok (.isub, 1) := by decide +kernel
theorem dX5_wayTo_6 : decode cX5_wayTo 6 = .ok (.invokestatic 21, 3) := by decide +kernel
theorem dX5_wayTo_9 : decode cX5_wayTo 9 = .ok (.ireturn, 1) := by decide +kernel
set_option maxRecDepth 20000 in
theorem ggX5_couldSpray_X5_wayTo : GoodIn wsX5_couldSpray wsX5_wayTo := goodIn_r _ [7, 8, 9, 10, 11, 12, 13, 14, 15] (by decide +kernel) (by decide +kernel)
set_option maxRecDepth 20000 in
theorem gX5_couldSpray_X5_wayTo : GoodIn wsX5_couldSpray (wsV RX5 27 RX5 yX5_wayTo wsX5_wayTo) := goodIn_app (goodIn_of _ (by decide +kernel)) ggX5_couldSpray_X5_wayTo
theorem dX5_couldSpray_0 : decode cX5_couldSpray 0 = .ok (.aload_n 0, 1) := by decide +kernel
theorem dX5_couldSpray_1 : decode cX5_couldSpray 1 = .ok (.getfield 18, 3) := by decide +kernel
theorem dX5_couldSpray_4 : decode cX5_couldSpray 4 = .ok (.aload_n 0, 1) := by decide +kernel
theorem dX5_couldSpray_5 : decode cX5_couldSpray 5 = .ok (.iload_n 1, 1) := by decide +kernel
theorem dX5_couldSpray_6 : decode cX5_couldSpray 6 = .ok (.invokevirtual 27, 3) := by decide +kernel
theorem dX5_couldSpray_9 : decode cX5_couldSpray 9 = .ok (.if_icmp .le 15, 3) := by decide +kernel
theorem dX5_couldSpray_12 : decode cX5_couldSpray 12 = .ok (.aload_n 0, 1) := by decide +kernel
theorem dX5_couldSpray_13 : decode cX5_couldSpray 13 = .ok (.getfield 15, 3) := by decide +kernel
theorem dX5_couldSpray_16 : decode cX5_couldSpray 16 = .ok (.iload_n 2, 1) := by decide +kernel
theorem dX5_couldSpray_17 : decode cX5_couldSpray 17 = .ok (.if_icmp .lt 7, 3) := by decide +kernel
theorem dX5_couldSpray_20 : decode cX5_couldSpray 20 = .ok (.iconst 1, 1) := by decide +kernel
theorem dX5_couldSpray_21 : decode cX5_couldSpray 21 = .ok (.goto 4, 3) := by decide +kernel
theorem dX5_couldSpray_24 : decode cX5_couldSpray 24 = .ok (.iconst 0, 1) := by decide +kernel
theorem dX5_couldSpray_25 : decode cX5_couldSpray 25 = .ok (.ireturn, 1) := by decide +kernel
set_option maxRecDepth 20000 in
theorem ggX6_init_X4_init : GoodIn wsX6_init wsX4_init := goodIn_r _ [23, 24, 2, 3, 25, 26, 91, 92, 93, 94] (by decide +kernel) (by decide +kernel)
set_option maxRecDepth 20000 in
theorem gX6_init_X4_init_n9 : GoodIn wsX6_init (wsX4_init) := ggX6_init_X4_init
set_option maxRecDepth 20000 in
theorem ggX6_init_X2_init : GoodIn wsX6_init wsX2_init := goodIn_r _ [29, 30, 2, 3, 31, 32, 33, 34, 35, 36, 37, 38, 39, 40, 41, 42, 43, 44, 45, 46, 47, 48, 49, 50, 51, 52, 53, 54, 10, 55, 56, 57, 58, 59, 60, 61, 62, 63, 64, 65, 66, 67, 68, 69, 70, 71, 72, 73, 74, 75, 76, 77, 78, 79, 80, 81, 82, 83, 102, 103, 104, 105, 106, 107, 108, 109, 110, 111, 112, 113, 114, 115, 116, 119, 120, 121, 122, 123, 124, 125, 126, 127, 128, 129, 130, 131, 132, 133] (by decide +kernel) (by decide +kernel)
set_option maxRecDepth 20000 in
theorem gX6_init_X2_init : GoodIn wsX6_init (wsX2_init) := ggX6_init_X2_init
set_option maxRecDepth 20000 in
theorem ggX6_init_X0_init : GoodIn wsX6_init wsX0_init := goodIn_r _ [86, 87, 2, 3, 88, 89, 9, 10, 90, 28, 29, 30, 31, 32, 33, 34, 35, 36, 37, 38, 39, 40, 41, 42, 43, 44, 45, 46, 47, 48, 49, 50, 51, 52, 53, 54, 55, 56, 57, 58, 59, 60, 61, 62, 63, 64, 65, 66, 67, 68, 69, 70, 71, 72, 73, 74, 75, 76, 77, 78, 79, 80, 81, 82, 83, 117, 118, 102, 103, 104, 105, 106, 107, 108, 109, 110, 111, 112, 113, 114, 115, 116, 119, 120, 121, 122, 123, 124, 125, 126, 127, 128, 129, 130, 131, 132, 133] (by decide +kernel) (by decide +kernel)
set_option maxRecDepth 20000 in
theorem gX6_init_X0_init : GoodIn wsX6_init (wsX0_init) := ggX6_init_X0_init
theorem dX6_init_0 : decode cX6_init 0 = .ok (.aload_n 0, 1) := by decide +kernel
theorem dX6_init_1 : decode cX6_init 1 = .ok (.invokespecial 1, 3) := by decide +kernel
theorem dX6_init_4 : decode cX6_init 4 = .ok (.aload_n 0, 1) := by decide +kernel
theorem dX6_init_5 : decode cX6_init 5 = .ok (.new 7, 3) := by decide +kernel
theorem dX6_init_8 : decode cX6_init 8 = .ok (.dup, 1) := by decide +kernel
theorem dX6_init_9 : decode cX6_init 9 = .ok (.invokespecial 9, 3) := by decide +kernel
theorem dX6_init_12 : decode cX6_init 12 = .ok (.putfield 10, 3) := by decide +kernel
theorem dX6_init_15 : decode cX6_init 15 = .ok (.aload_n 0, 1) := by decide +kernel
theorem dX6_init_16 : decode cX6_init 16 = .ok (.new 16, 3) := by decide +kernel
theorem dX6_init_19 : decode cX6_init 19 = .ok (.dup, 1) := by decide +kernel
theorem dX6_init_20 : decode cX6_init 20 = .ok (.invokespecial 18, 3) := by decide +kernel
theorem dX6_init_23 : decode cX6_init 23 = .ok (.putfield 19, 3) := by decide +kernel
theorem dX6_init_26 : decode cX6_init 26 = .ok (.aload_n 0, 1) := by decide +kernel
theorem dX6_init_27 : decode cX6_init 27 = .ok (.new 16, 3) := by decide +kernel
theorem dX6_init_30 : decode cX6_init 30 = .ok (.dup, 1) := by decide +kernel
theorem dX6_init_31 : decode cX6_init 31 = .ok (.invokespecial 18, 3) := by decide +kernel
theorem dX6_init_34 : decode cX6_init 34 = .ok (.putfield 23, 3) := by decide +kernel
theorem dX6_init_37 : decode cX6_init 37 = .ok (.aload_n 0, 1) := by decide +kernel
theorem dX6_init_38 : decode cX6_init 38 = .ok (.new 26, 3) := by decide +kernel
theorem dX6_init_41 : decode cX6_init 41 = .ok (.dup, 1) := by decide +kernel
theorem dX6_init_42 : decode cX6_init 42 = .ok (.invokespecial 28, 3) := by decide +kernel
theorem dX6_init_45 : decode cX6_init 45 = .ok (.putfield 29, 3) := by decide +kernel
theorem dX6_init_48 : decode cX6_init 48 = .ok (.aload_n 0, 1) := by decide +kernel
theorem dX6_init_49 : decode cX6_init 49 = .ok (.iconst 2, 1) := by decide +kernel
theorem dX6_init_50 : decode cX6_init 50 = .ok (.anewarray 16, 3) := by decide +kernel
theorem dX6_init_53 : decode cX6_init 53 = .ok (.putfield 33, 3) := by decide +kernel
theorem dX6_init_56 : decode cX6_init 56 = .ok (.aload_n 0, 1) := by decide +kernel
theorem dX6_init_57 : decode cX6_init 57 = .ok (.iconst 2, 1) := by decide +kernel
theorem dX6_init_58 : decode cX6_init 58 = .ok (.newarray .boolean, 2) := by decide +kernel
theorem dX6_init_60 : decode cX6_init 60 = .ok (.putfield 37, 3) := by decide +kernel
theorem dX6_init_63 : decode cX6_init 63 = .ok (.aload_n 0, 1) := by decide +kernel
theorem dX6_init_64 : decode cX6_init 64 = .ok (.iconst 4, 1) := by decide +kernel
theorem dX6_init_65 : decode cX6_init 65 = .ok (.newarray .int, 2) := by decide +kernel
theorem dX6_init_67 : decode cX6_init 67 = .ok (.putfield 41, 3) := by decide +kernel
theorem dX6_init_70 : decode cX6_init 70 = .ok (.iconst 0, 1) := by decide +kernel
theorem dX6_init_71 : decode cX6_init 71 = .ok (.istore_n 1, 1) := by decide +kernel
theorem dX6_init_72 : decode cX6_init 72 = .ok (.iload_n 1, 1) := by decide +kernel
theorem dX6_init_73 : decode cX6_init 73 = .ok (.iconst 2, 1) := by decide +kernel
theorem dX6_init_74 : decode cX6_init 74 = .ok (.if_icmp .ge 22, 3) := by decide +kernel
theorem dX6_init_77 : decode cX6_init 77 = .ok (.aload_n 0, 1) := by decide +kernel
theorem dX6_init_78 : decode cX6_init 78 = .ok (.getfield 33, 3) := by decide +kernel
theorem dX6_init_81 : decode cX6_init 81 = .ok (.iload_n 1, 1) := by decide +kernel
theorem dX6_init_82 : decode cX6_init 82 = .ok (.new 16, 3) := by decide +kernel
theorem dX6_init_85 : decode cX6_init 85 = .ok (.dup, 1) := by decide +kernel
theorem dX6_init_86 : decode cX6_init 86 = .ok (.invokespecial 18, 3) := by decide +kernel
theorem dX6_init_89 : decode cX6_init 89 = .ok (.aastore, 1) := by decide +kernel
theorem dX6_init_90 : decode cX6_init 90 = .ok (.iinc 1 1, 3) := by decide +kernel
theorem dX6_init_93 : decode cX6_init 93 = .ok (.goto (-21), 3) := by decide +kernel
theorem dX6_init_96 : decode cX6_init 96 = .ok (.return_, 1) := by decide +kernel
set_option maxRecDepth 20000 in
theorem ggX6_append_X4_put : GoodIn wsX6_append wsX4_put := goodIn_r _ [6, 7, 8, 9, 10, 11, 28, 29, 30, 31] (by decide +kernel) (by decide +kernel)
set_option maxRecDepth 20000 in
theorem gX6_append_X4_put : GoodIn wsX6_append (wsV RX6 45 RX4 yX4_put wsX4_put) := goodIn_app (goodIn_of _ (by decide +kernel)) ggX6_append_X4_put
set_option maxRecDepth 20000 in
theorem ggX6_append_X6_answered : GoodIn wsX6_append wsX6_answered := goodIn_ca (goodIn_ca (goodIn_ca (goodIn_r _ [14, 15, 16, 17, 18, 19, 20] (by decide +kernel) (by decide +kernel)) (goodIn_sub (fun _ h => List.mem_cons_of_mem _ (List.mem_append_left _ (List.mem_append_left _ (List.mem_append_right _ h)))) (by decide +kernel))) (goodIn_sub (fun _ h => List.mem_cons_of_mem _ (List.mem_append_left _ (List.mem_append_right _ h))) (by decide +kernel))) (goodIn_sub (fun _ h => List.mem_cons_of_mem _ (List.mem_append_right _ h)) (by decide +kernel))
set_option maxRecDepth 20000 in
theorem gX6_append_X6_answered : GoodIn wsX6_append (va_wsS RX6 49 yX6_answered wsX6_answered) := goodIn_app (goodIn_of _ (by decide +kernel)) ggX6_append_X6_answered
theorem dX6_append_0 : decode cX6_append 0 = .ok (.aload_n 0, 1) := by decide +kernel
theorem dX6_append_1 : decode cX6_append 1 = .ok (.getfield 10, 3) := by decide +kernel
theorem dX6_append_4 : decode cX6_append 4 = .ok (.iload_n 1, 1) := by decide +kernel
theorem dX6_append_5 : decode cX6_append 5 = .ok (.invokevirtual 45, 3) := by decide +kernel
theorem dX6_append_8 : decode cX6_append 8 = .ok (.invokestatic 49, 3) := by decide +kernel
theorem dX6_append_11 : decode cX6_append 11 = .ok (.ireturn, 1) := by decide +kernel
set_option maxRecDepth 20000 in
theorem ggX6_errorPosition_X4_readInto : GoodIn wsX6_errorPosition wsX4_readInto := goodIn_r _ [7, 8, 9, 10, 11, 12, 13, 14, 15, 16, 17, 18, 19, 20, 21, 22, 23, 24, 25, 26, 27, 28, 29, 30, 31, 32, 33, 34, 35, 36, 37, 38, 39, 40, 41, 42, 43, 44, 45, 46, 47, 6, 48, 49, 50, 51, 52, 53, 54, 55, 56, 57, 58, 59, 60, 61, 62, 63, 64, 65, 66, 67, 68, 69, 70, 71, 72, 73, 74, 75, 76, 77, 78, 79, 80, 81, 82, 83, 84, 85, 86, 87, 88, 89, 90, 91, 92, 93, 94, 95, 96, 97, 98, 99, 100, 101, 102, 103, 104, 105, 106, 107, 108, 109, 110, 111, 112, 113, 114, 115, 116, 117, 118, 119, 120, 121, 122, 123, 124, 125, 126, 127, 128, 129, 137, 138, 139, 140, 141, 142, 143, 144, 145, 146, 147, 148, 149, 150, 151, 152, 153, 154, 155, 156, 157, 158, 159, 160, 161, 162, 163, 164, 165, 166, 167, 168, 169, 170] (by decide +kernel) (by decide +kernel)
set_option maxRecDepth 20000 in
theorem gX6_errorPosition_X4_readInto : GoodIn wsX6_errorPosition (wsV RX6 56 RX4 yX4_readInto wsX4_readInto) := goodIn_app (goodIn_of _ (by decide +kernel)) ggX6_errorPosition_X4_readInto
theorem dX6_errorPosition_0 : decode cX6_errorPosition 0 = .ok (.aload_n 0, 1) := by decide +kernel
theorem dX6_errorPosition_1 : decode cX6_errorPosition 1 = .ok (.getfield 10, 3) := by decide +kernel
theorem dX6_errorPosition_4 : decode cX6_errorPosition 4 = .ok (.aload_n 0, 1) := by decide +kernel
theorem dX6_errorPosition_5 : decode cX6_errorPosition 5 = .ok (.getfield 23, 3) := by decide +kernel
theorem dX6_errorPosition_8 : decode cX6_errorPosition 8 = .ok (.invokevirtual 56, 3) := by decide +kernel
theorem dX6_errorPosition_11 : decode cX6_errorPosition 11 = .ok (.ireturn, 1) := by decide +kernel
set_option maxRecDepth 20000 in
theorem ggX6_load_X4_readInto : GoodIn wsX6_load wsX4_readInto := goodIn_r _ [13, 14, 15, 16, 17, 18, 19, 20, 21, 22, 23, 24, 25, 26, 27, 28, 29, 30, 31, 32, 33, 34, 35, 36, 37, 38, 39, 40, 41, 42, 43, 44, 45, 46, 47, 48, 49, 50, 51, 52, 53, 12, 54, 55, 56, 57, 58, 59, 60, 61, 62, 63, 64, 65, 66, 67, 68, 69, 70, 71, 72, 73, 74, 75, 76, 77, 78, 79, 80, 81, 82, 83, 84, 85, 86, 87, 88, 89, 90, 91, 92, 93, 94, 95, 96, 97, 98, 99, 100, 101, 102, 103, 104, 105, 106, 107, 108, 109, 110, 111, 112, 113, 114, 115, 116, 117, 118, 119, 120, 121, 122, 123, 124, 125, 126, 127, 128, 129, 130, 131, 132, 133, 134, 135, 180, 181, 182, 183, 165, 166, 167, 168, 169, 170, 171, 172, 173, 174, 175, 176, 177, 178, 179, 184, 185, 186, 187, 188, 189, 190, 191, 192, 193, 194, 195, 196, 197, 198] (by decide +kernel) (by decide +kernel)
set_option maxRecDepth 20000 in
theorem gX6_load_X4_readInto : GoodIn wsX6_load (wsV RX6 56 RX4 yX4_readInto wsX4_readInto) := goodIn_app (goodIn_of _ (by decide +kernel)) ggX6_load_X4_readInto
set_option maxRecDepth 20000 in
theorem ggX6_load_X2_copyFrom : GoodIn wsX6_load wsX2_copyFrom := goodIn_r _ [139, 21, 22, 23, 24, 25, 26, 27, 28, 29, 30, 31, 32, 33, 107, 122, 140, 141, 142, 37, 143, 39, 40, 41, 42, 43, 44, 45, 144, 145, 146, 111, 147, 113, 114, 115, 116, 117, 148, 149, 150, 126, 151, 128, 129, 130, 165, 166, 167, 168, 169, 170, 171, 172, 173, 174, 175, 176, 177, 178, 179, 184, 185, 186, 187, 188, 189, 190, 191, 192, 193, 194, 195, 196, 197, 198] (by decide +kernel) (by decide +kernel)
set_option maxRecDepth 20000 in
theorem gX6_load_X2_copyFrom : GoodIn wsX6_load (wsV RX6 67 RX2 yX2_copyFrom wsX2_copyFrom) := goodIn_app (goodIn_of _ (by decide +kernel)) ggX6_load_X2_copyFrom
set_option maxRecDepth 20000 in
theorem ggX6_load_X0_forgetAll : GoodIn wsX6_load wsX0_forgetAll := goodIn_r _ [156, 157, 199, 200] (by decide +kernel) (by decide +kernel)
set_option maxRecDepth 20000 in
theorem gX6_load_X0_forgetAll : GoodIn wsX6_load (wsV RX6 71 RX0 yX0_forgetAll wsX0_forgetAll) := goodIn_app (goodIn_of _ (by decide +kernel)) ggX6_load_X0_forgetAll
theorem dX6_load_0 : decode cX6_load 0 = .ok (.aload_n 0, 1) := by decide +kernel
theorem dX6_load_1 : decode cX6_load 1 = .ok (.getfield 10, 3) := by decide +kernel
theorem dX6_load_4 : decode cX6_load 4 = .ok (.aload_n 0, 1) := by decide +kernel
theorem dX6_load_5 : decode cX6_load 5 = .ok (.getfield 23, 3) := by decide +kernel
theorem dX6_load_8 : decode cX6_load 8 = .ok (.invokevirtual 56, 3) := by decide +kernel
theorem dX6_load_11 : decode cX6_load 11 = .ok (.bipush (-9), 2) := by decide +kernel
theorem dX6_load_13 : decode cX6_load 13 = .ok (.if_icmp .eq 13, 3) := by decide +kernel
theorem dX6_load_16 : decode cX6_load 16 = .ok (.new 60, 3) := by decide +kernel
theorem dX6_load_19 : decode cX6_load 19 = .ok (.dup, 1) := by decide +kernel
theorem dX6_load_20 : decode cX6_load 20 = .ok (.ldc 62, 2) := by decide +kernel
theorem dX6_load_22 : decode cX6_load 22 = .ok (.invokespecial 64, 3) := by decide +kernel
theorem dX6_load_25 : decode cX6_load 25 = .ok (.athrow, 1) := by decide +kernel
theorem dX6_load_26 : decode cX6_load 26 = .ok (.aload_n 0, 1) := by decide +kernel
theorem dX6_load_27 : decode cX6_load 27 = .ok (.getfield 19, 3) := by decide +kernel
theorem dX6_load_30 : decode cX6_load 30 = .ok (.aload_n 0, 1) := by decide +kernel
theorem dX6_load_31 : decode cX6_load 31 = .ok (.getfield 23, 3) := by decide +kernel
theorem dX6_load_34 : decode cX6_load 34 = .ok (.invokevirtual 67, 3) := by decide +kernel
theorem dX6_load_37 : decode cX6_load 37 = .ok (.aload_n 0, 1) := by decide +kernel
theorem dX6_load_38 : decode cX6_load 38 = .ok (.getfield 29, 3) := by decide +kernel
theorem dX6_load_41 : decode cX6_load 41 = .ok (.invokevirtual 71, 3) := by decide +kernel
theorem dX6_load_44 : decode cX6_load 44 = .ok (.iconst 0, 1) := by decide +kernel
theorem dX6_load_45 : decode cX6_load 45 = .ok (.istore_n 1, 1) := by decide +kernel
theorem dX6_load_46 : decode cX6_load 46 = .ok (.iload_n 1, 1) := by decide +kernel
theorem dX6_load_47 : decode cX6_load 47 = .ok (.iconst 2, 1) := by decide +kernel
theorem dX6_load_48 : decode cX6_load 48 = .ok (.if_icmp .ge 16, 3) := by decide +kernel
theorem dX6_load_51 : decode cX6_load 51 = .ok (.aload_n 0, 1) := by decide +kernel
theorem dX6_load_52 : decode cX6_load 52 = .ok (.getfield 37, 3) := by decide +kernel
theorem dX6_load_55 : decode cX6_load 55 = .ok (.iload_n 1, 1) := by decide +kernel
theorem dX6_load_56 : decode cX6_load 56 = .ok (.iconst 0, 1) := by decide +kernel
theorem dX6_load_57 : decode cX6_load 57 = .ok (.bastore, 1) := by decide +kernel
theorem dX6_load_58 : decode cX6_load 58 = .ok (.iinc 1 1, 3) := by decide +kernel
theorem dX6_load_61 : decode cX6_load 61 = .ok (.goto (-15), 3) := by decide +kernel
theorem dX6_load_64 : decode cX6_load 64 = .ok (.aload_n 0, 1) := by decide +kernel
theorem dX6_load_65 : decode cX6_load 65 = .ok (.getfield 19, 3) := by decide +kernel
theorem dX6_load_68 : decode cX6_load 68 = .ok (.getfield 74, 3) := by decide +kernel
theorem dX6_load_71 : decode cX6_load 71 = .ok (.ireturn, 1) := by decide +kernel
set_option maxRecDepth 20000 in
theorem ggX6_about_X2_number : GoodIn wsX6_about wsX2_number := goodIn_r _ [6, 7, 8, 9, 10, 11, 12, 13, 14, 15, 16, 17, 18, 19, 20, 21, 5, 22, 23, 24, 25, 26, 27, 28, 46, 47, 48, 49, 50, 51, 52, 53, 54, 55, 56, 57, 58, 59, 60, 61, 62, 63, 64, 65, 66, 67] (by decide +kernel) (by decide +kernel)
set_option maxRecDepth 20000 in
theorem gX6_about_X2_number : GoodIn wsX6_about (wsV RX6 78 RX2 yX2_number wsX2_number) := goodIn_app (goodIn_of _ (by decide +kernel)) ggX6_about_X2_number
set_option maxRecDepth 20000 in
theorem ggX6_about_X6_answered : GoodIn wsX6_about wsX6_answered := goodIn_ca (goodIn_ca (goodIn_ca (goodIn_r _ [32, 33, 34, 35, 36, 37, 38] (by decide +kernel) (by decide +kernel)) (goodIn_sub (fun _ h => List.mem_cons_of_mem _ (List.mem_append_left _ (List.mem_append_left _ (List.mem_append_right _ h)))) (by decide +kernel))) (goodIn_sub (fun _ h => List.mem_cons_of_mem _ (List.mem_append_left _ (List.mem_append_right _ h))) (by decide +kernel))) (goodIn_sub (fun _ h => List.mem_cons_of_mem _ (List.mem_append_right _ h)) (by decide +kernel))
set_option maxRecDepth 20000 in
theorem gX6_about_X6_answered : GoodIn wsX6_about (va_wsS RX6 49 yX6_answered wsX6_answered) := goodIn_app (goodIn_of _ (by decide +kernel)) ggX6_about_X6_answered
theorem dX6_about_0 : decode cX6_about 0 = .ok (.aload_n 0, 1) := by decide +kernel
theorem dX6_about_1 : decode cX6_about 1 = .ok (.getfield 19, 3) := by decide +kernel
theorem dX6_about_4 : decode cX6_about 4 = .ok (.iload_n 1, 1) := by decide +kernel
theorem dX6_about_5 : decode cX6_about 5 = .ok (.invokevirtual 78, 3) := by decide +kernel
theorem dX6_about_8 : decode cX6_about 8 = .ok (.invokestatic 49, 3) := by decide +kernel
theorem dX6_about_11 : decode cX6_about 11 = .ok (.ireturn, 1) := by decide +kernel
set_option maxRecDepth 20000 in
theorem ggX6_segment_X2_segmentAt : GoodIn wsX6_segment wsX2_segmentAt := goodIn_r _ [6, 7, 8, 38, 39, 40, 41, 42, 43, 44, 45, 46, 47, 48, 49, 50, 51, 52] (by decide +kernel) (by decide +kernel)
set_option maxRecDepth 20000 in
theorem gX6_segment_X2_segmentAt : GoodIn wsX6_segment (wsV RX6 81 RX2 yX2_segmentAt wsX2_segmentAt) := goodIn_app (goodIn_of _ (by decide +kernel)) ggX6_segment_X2_segmentAt
set_option maxRecDepth 20000 in
theorem ggX6_segment_X3_number : GoodIn wsX6_segment wsX3_number := goodIn_r _ [13, 14, 15, 16, 17, 18, 19, 20, 53, 54, 55, 56, 57, 58, 59] (by decide +kernel) (by decide +kernel)
set_option maxRecDepth 20000 in
theorem gX6_segment_X3_number : GoodIn wsX6_segment (wsV RX6 85 RX3 yX3_number wsX3_number) := goodIn_app (goodIn_of _ (by decide +kernel)) ggX6_segment_X3_number
set_option maxRecDepth 20000 in
theorem ggX6_segment_X6_answered : GoodIn wsX6_segment wsX6_answered := goodIn_ca (goodIn_ca (goodIn_ca (goodIn_r _ [24, 25, 26, 27, 28, 29, 30] (by decide +kernel) (by decide +kernel)) (goodIn_sub (fun _ h => List.mem_cons_of_mem _ (List.mem_append_left _ (List.mem_append_left _ (List.mem_append_right _ h)))) (by decide +kernel))) (goodIn_sub (fun _ h => List.mem_cons_of_mem _ (List.mem_append_left _ (List.mem_append_right _ h))) (by decide +kernel))) (goodIn_sub (fun _ h => List.mem_cons_of_mem _ (List.mem_append_right _ h)) (by decide +kernel))
set_option maxRecDepth 20000 in
theorem gX6_segment_X6_answered : GoodIn wsX6_segment (va_wsS RX6 49 yX6_answered wsX6_answered) := goodIn_app (goodIn_of _ (by decide +kernel)) ggX6_segment_X6_answered
theorem dX6_segment_0 : decode cX6_segment 0 = .ok (.aload_n 0, 1) := by decide +kernel
theorem dX6_segment_1 : decode cX6_segment 1 = .ok (.getfield 19, 3) := by decide +kernel
theorem dX6_segment_4 : decode cX6_segment 4 = .ok (.iload_n 1, 1) := by decide +kernel
theorem dX6_segment_5 : decode cX6_segment 5 = .ok (.invokevirtual 81, 3) := by decide +kernel
theorem dX6_segment_8 : decode cX6_segment 8 = .ok (.astore_n 3, 1) := by decide +kernel
theorem dX6_segment_9 : decode cX6_segment 9 = .ok (.aload_n 3, 1) := by decide +kernel
theorem dX6_segment_10 : decode cX6_segment 10 = .ok (.ifnonnull 7, 3) := by decide +kernel
theorem dX6_segment_13 : decode cX6_segment 13 = .ok (.iconst (-1), 1) := by decide +kernel
theorem dX6_segment_14 : decode cX6_segment 14 = .ok (.goto 8, 3) := by decide +kernel
theorem dX6_segment_17 : decode cX6_segment 17 = .ok (.aload_n 3, 1) := by decide +kernel
theorem dX6_segment_18 : decode cX6_segment 18 = .ok (.iload_n 2, 1) := by decide +kernel
theorem dX6_segment_19 : decode cX6_segment 19 = .ok (.invokevirtual 85, 3) := by decide +kernel
theorem dX6_segment_22 : decode cX6_segment 22 = .ok (.invokestatic 49, 3) := by decide +kernel
theorem dX6_segment_25 : decode cX6_segment 25 = .ok (.ireturn, 1) := by decide +kernel
set_option maxRecDepth 20000 in
theorem ggX6_house_X2_houseAt : GoodIn wsX6_house wsX2_houseAt := goodIn_r _ [6, 7, 8, 36, 37, 38, 39, 40, 41, 42, 43, 44, 45, 46, 47, 48, 49, 50] (by decide +kernel) (by decide +kernel)
set_option maxRecDepth 20000 in
theorem gX6_house_X2_houseAt : GoodIn wsX6_house (wsV RX6 88 RX2 yX2_houseAt wsX2_houseAt) := goodIn_app (goodIn_of _ (by decide +kernel)) ggX6_house_X2_houseAt
set_option maxRecDepth 20000 in
theorem ggX6_house_X1_number : GoodIn wsX6_house wsX1_number := goodIn_r _ [13, 14, 15, 16, 17, 18, 51, 52, 53, 54, 55] (by decide +kernel) (by decide +kernel)
set_option maxRecDepth 20000 in
theorem gX6_house_X1_number : GoodIn wsX6_house (wsV RX6 92 RX1 yX1_number wsX1_number) := goodIn_app (goodIn_of _ (by decide +kernel)) ggX6_house_X1_number
set_option maxRecDepth 20000 in
theorem ggX6_house_X6_answered : GoodIn wsX6_house wsX6_answered := goodIn_ca (goodIn_ca (goodIn_ca (goodIn_r _ [22, 23, 24, 25, 26, 27, 28] (by decide +kernel) (by decide +kernel)) (goodIn_sub (fun _ h => List.mem_cons_of_mem _ (List.mem_append_left _ (List.mem_append_left _ (List.mem_append_right _ h)))) (by decide +kernel))) (goodIn_sub (fun _ h => List.mem_cons_of_mem _ (List.mem_append_left _ (List.mem_append_right _ h))) (by decide +kernel))) (goodIn_sub (fun _ h => List.mem_cons_of_mem _ (List.mem_append_right _ h)) (by decide +kernel))
set_option maxRecDepth 20000 in
theorem gX6_house_X6_answered : GoodIn wsX6_house (va_wsS RX6 49 yX6_answered wsX6_answered) := goodIn_app (goodIn_of _ (by decide +kernel)) ggX6_house_X6_answered
theorem dX6_house_0 : decode cX6_house 0 = .ok (.aload_n 0, 1) := by decide +kernel
theorem dX6_house_1 : decode cX6_house 1 = .ok (.getfield 19, 3) := by decide +kernel
theorem dX6_house_4 : decode cX6_house 4 = .ok (.iload_n 1, 1) := by decide +kernel
theorem dX6_house_5 : decode cX6_house 5 = .ok (.invokevirtual 88, 3) := by decide +kernel
theorem dX6_house_8 : decode cX6_house 8 = .ok (.astore_n 3, 1) := by decide +kernel
theorem dX6_house_9 : decode cX6_house 9 = .ok (.aload_n 3, 1) := by decide +kernel
theorem dX6_house_10 : decode cX6_house 10 = .ok (.ifnonnull 7, 3) := by decide +kernel
theorem dX6_house_13 : decode cX6_house 13 = .ok (.iconst (-1), 1) := by decide +kernel
theorem dX6_house_14 : decode cX6_house 14 = .ok (.goto 8, 3) := by decide +kernel
theorem dX6_house_17 : decode cX6_house 17 = .ok (.aload_n 3, 1) := by decide +kernel
theorem dX6_house_18 : decode cX6_house 18 = .ok (.iload_n 2, 1) := by decide +kernel
theorem dX6_house_19 : decode cX6_house 19 = .ok (.invokevirtual 92, 3) := by decide +kernel
theorem dX6_house_22 : decode cX6_house 22 = .ok (.invokestatic 49, 3) := by decide +kernel
theorem dX6_house_25 : decode cX6_house 25 = .ok (.ireturn, 1) := by decide +kernel
set_option maxRecDepth 20000 in
theorem ggX6_wagon_X2_wagonAt : GoodIn wsX6_wagon wsX2_wagonAt := goodIn_r _ [6, 7, 8, 34, 35, 36, 37, 38, 39, 40, 41, 42, 43, 44, 45, 46, 47, 48] (by decide +kernel) (by decide +kernel)
set_option maxRecDepth 20000 in
theorem gX6_wagon_X2_wagonAt : GoodIn wsX6_wagon (wsV RX6 95 RX2 yX2_wagonAt wsX2_wagonAt) := goodIn_app (goodIn_of _ (by decide +kernel)) ggX6_wagon_X2_wagonAt
set_option maxRecDepth 20000 in
theorem ggX6_wagon_X5_number : GoodIn wsX6_wagon wsX5_number := goodIn_r _ [13, 14, 15, 16, 49, 50, 51] (by decide +kernel) (by decide +kernel)
set_option maxRecDepth 20000 in
theorem gX6_wagon_X5_number : GoodIn wsX6_wagon (wsV RX6 99 RX5 yX5_number wsX5_number) := goodIn_app (goodIn_of _ (by decide +kernel)) ggX6_wagon_X5_number
set_option maxRecDepth 20000 in
theorem ggX6_wagon_X6_answered : GoodIn wsX6_wagon wsX6_answered := goodIn_ca (goodIn_ca (goodIn_ca (goodIn_r _ [20, 21, 22, 23, 24, 25, 26] (by decide +kernel) (by decide +kernel)) (goodIn_sub (fun _ h => List.mem_cons_of_mem _ (List.mem_append_left _ (List.mem_append_left _ (List.mem_append_right _ h)))) (by decide +kernel))) (goodIn_sub (fun _ h => List.mem_cons_of_mem _ (List.mem_append_left _ (List.mem_append_right _ h))) (by decide +kernel))) (goodIn_sub (fun _ h => List.mem_cons_of_mem _ (List.mem_append_right _ h)) (by decide +kernel))
set_option maxRecDepth 20000 in
theorem gX6_wagon_X6_answered : GoodIn wsX6_wagon (va_wsS RX6 49 yX6_answered wsX6_answered) := goodIn_app (goodIn_of _ (by decide +kernel)) ggX6_wagon_X6_answered
theorem dX6_wagon_0 : decode cX6_wagon 0 = .ok (.aload_n 0, 1) := by decide +kernel
theorem dX6_wagon_1 : decode cX6_wagon 1 = .ok (.getfield 19, 3) := by decide +kernel
theorem dX6_wagon_4 : decode cX6_wagon 4 = .ok (.iload_n 1, 1) := by decide +kernel
theorem dX6_wagon_5 : decode cX6_wagon 5 = .ok (.invokevirtual 95, 3) := by decide +kernel
theorem dX6_wagon_8 : decode cX6_wagon 8 = .ok (.astore_n 3, 1) := by decide +kernel
theorem dX6_wagon_9 : decode cX6_wagon 9 = .ok (.aload_n 3, 1) := by decide +kernel
theorem dX6_wagon_10 : decode cX6_wagon 10 = .ok (.ifnonnull 7, 3) := by decide +kernel
theorem dX6_wagon_13 : decode cX6_wagon 13 = .ok (.iconst (-1), 1) := by decide +kernel
theorem dX6_wagon_14 : decode cX6_wagon 14 = .ok (.goto 8, 3) := by decide +kernel
theorem dX6_wagon_17 : decode cX6_wagon 17 = .ok (.aload_n 3, 1) := by decide +kernel
theorem dX6_wagon_18 : decode cX6_wagon 18 = .ok (.iload_n 2, 1) := by decide +kernel
theorem dX6_wagon_19 : decode cX6_wagon 19 = .ok (.invokevirtual 99, 3) := by decide +kernel
theorem dX6_wagon_22 : decode cX6_wagon 22 = .ok (.invokestatic 49, 3) := by decide +kernel
theorem dX6_wagon_25 : decode cX6_wagon 25 = .ok (.ireturn, 1) := by decide +kernel
set_option maxRecDepth 20000 in
theorem ggX6_addHouse_X0_draft : GoodIn wsX6_addHouse wsX0_draft := goodIn_r _ [7, 8, 9, 10, 11, 12, 13, 14, 15, 16, 17, 18, 19, 20, 21, 22, 23, 24, 25, 26, 27, 28, 29, 30, 31, 32, 33, 34, 35, 36, 37, 38, 39, 40, 41, 42, 43, 44, 45, 46, 47, 48, 49, 50, 51, 52, 53, 54, 55, 56, 57, 58, 59, 103, 104, 105, 106, 107, 108, 109, 110, 111, 112, 113, 114, 115, 116, 117, 118, 119, 120, 121, 122, 123, 124, 125, 126, 127, 128, 129, 130, 131, 132, 133, 134] (by decide +kernel) (by decide +kernel)
set_option maxRecDepth 20000 in
theorem gX6_addHouse_X0_draft : GoodIn wsX6_addHouse (wsV RX6 102 RX0 yX0_draft wsX0_draft) := goodIn_app (goodIn_of _ (by decide +kernel)) ggX6_addHouse_X0_draft
set_option maxRecDepth 20000 in
theorem ggX6_addHouse_X2_buildHouse : GoodIn wsX6_addHouse wsX2_buildHouse := goodIn_r _ [63, 16, 28, 64, 65, 66, 13, 67, 15, 27, 68, 69, 70, 71, 72, 73, 45, 74, 47, 48, 49, 50, 51, 105, 106, 107, 108, 109, 110, 111, 112, 113, 114, 115, 116, 117, 118, 119, 127, 128, 129, 130, 131] (by decide +kernel) (by decide +kernel)
set_option maxRecDepth 20000 in
theorem gX6_addHouse_X2_buildHouse : GoodIn wsX6_addHouse (wsV RX6 105 RX2 yX2_buildHouse wsX2_buildHouse) := goodIn_app (goodIn_of _ (by decide +kernel)) ggX6_addHouse_X2_buildHouse
set_option maxRecDepth 20000 in
theorem ggX6_addHouse_X6_acted : GoodIn wsX6_addHouse wsX6_acted := goodIn_ca (goodIn_ca (goodIn_ca (goodIn_r _ [78, 1, 79, 80, 69, 81, 82, 83, 84, 85, 86, 87, 88, 89, 90, 6, 91, 8, 92, 93, 94, 95, 9, 96, 97, 98, 99, 100, 101, 102, 103, 104] (by decide +kernel) (by decide +kernel)) (goodIn_sub (fun _ h => List.mem_cons_of_mem _ (List.mem_append_left _ (List.mem_append_left _ (List.mem_append_right _ h)))) (by decide +kernel))) (goodIn_sub (fun _ h => List.mem_cons_of_mem _ (List.mem_append_left _ (List.mem_append_right _ h))) (by decide +kernel))) (goodIn_sub (fun _ h => List.mem_cons_of_mem _ (List.mem_append_right _ h)) (by decide +kernel))
set_option maxRecDepth 20000 in
theorem gX6_addHouse_X6_acted : GoodIn wsX6_addHouse (wsV RX6 109 RX6 yX6_acted wsX6_acted) := goodIn_app (goodIn_of _ (by decide +kernel)) ggX6_addHouse_X6_acted
theorem dX6_addHouse_0 : decode cX6_addHouse 0 = .ok (.aload_n 0, 1) := by decide +kernel
theorem dX6_addHouse_1 : decode cX6_addHouse 1 = .ok (.getfield 29, 3) := by decide +kernel
theorem dX6_addHouse_4 : decode cX6_addHouse 4 = .ok (.aload_n 0, 1) := by decide +kernel
theorem dX6_addHouse_5 : decode cX6_addHouse 5 = .ok (.getfield 19, 3) := by decide +kernel
theorem dX6_addHouse_8 : decode cX6_addHouse 8 = .ok (.invokevirtual 102, 3) := by decide +kernel
theorem dX6_addHouse_11 : decode cX6_addHouse 11 = .ok (.aload_n 0, 1) := by decide +kernel
theorem dX6_addHouse_12 : decode cX6_addHouse 12 = .ok (.aload_n 0, 1) := by decide +kernel
theorem dX6_addHouse_13 : decode cX6_addHouse 13 = .ok (.getfield 19, 3) := by decide +kernel
theorem dX6_addHouse_16 : decode cX6_addHouse 16 = .ok (.iload_n 1, 1) := by decide +kernel
theorem dX6_addHouse_17 : decode cX6_addHouse 17 = .ok (.iload_n 2, 1) := by decide +kernel
theorem dX6_addHouse_18 : decode cX6_addHouse 18 = .ok (.invokevirtual 105, 3) := by decide +kernel
theorem dX6_addHouse_21 : decode cX6_addHouse 21 = .ok (.invokevirtual 109, 3) := by decide +kernel
theorem dX6_addHouse_24 : decode cX6_addHouse 24 = .ok (.ireturn, 1) := by decide +kernel
set_option maxRecDepth 20000 in
theorem ggX6_addWagon_X0_draft : GoodIn wsX6_addWagon wsX0_draft := goodIn_r _ [7, 8, 9, 10, 11, 12, 13, 14, 15, 16, 17, 18, 19, 20, 21, 22, 23, 24, 25, 26, 27, 28, 29, 30, 31, 32, 33, 34, 35, 36, 37, 38, 39, 40, 41, 42, 43, 44, 45, 46, 47, 48, 49, 50, 51, 52, 53, 54, 55, 56, 57, 58, 59, 101, 102, 103, 104, 105, 106, 107, 108, 109, 110, 111, 112, 113, 114, 115, 116, 117, 118, 119, 120, 121, 122, 123, 124, 125, 126, 127, 128, 129, 130, 131, 132] (by decide +kernel) (by decide +kernel)
set_option maxRecDepth 20000 in
theorem gX6_addWagon_X0_draft : GoodIn wsX6_addWagon (wsV RX6 102 RX0 yX0_draft wsX0_draft) := goodIn_app (goodIn_of _ (by decide +kernel)) ggX6_addWagon_X0_draft
set_option maxRecDepth 20000 in
theorem ggX6_addWagon_X2_bringWagon : GoodIn wsX6_addWagon wsX2_bringWagon := goodIn_r _ [63, 17, 29, 64, 65, 66, 13, 67, 15, 27, 68, 69, 70, 55, 71, 57, 58, 59, 103, 104, 105, 106, 107, 108, 109, 110, 111, 112, 113, 114, 115, 116, 117, 130, 131, 132] (by decide +kernel) (by decide +kernel)
set_option maxRecDepth 20000 in
theorem gX6_addWagon_X2_bringWagon : GoodIn wsX6_addWagon (wsV RX6 112 RX2 yX2_bringWagon wsX2_bringWagon) := goodIn_app (goodIn_of _ (by decide +kernel)) ggX6_addWagon_X2_bringWagon
set_option maxRecDepth 20000 in
theorem ggX6_addWagon_X6_acted : GoodIn wsX6_addWagon wsX6_acted := goodIn_ca (goodIn_ca (goodIn_ca (goodIn_r _ [76, 1, 77, 78, 75, 79, 80, 81, 82, 83, 84, 85, 86, 87, 88, 6, 89, 8, 90, 91, 92, 93, 9, 94, 95, 96, 97, 98, 99, 100, 101, 102] (by decide +kernel) (by decide +kernel)) (goodIn_sub (fun _ h => List.mem_cons_of_mem _ (List.mem_append_left _ (List.mem_append_left _ (List.mem_append_right _ h)))) (by decide +kernel))) (goodIn_sub (fun _ h => List.mem_cons_of_mem _ (List.mem_append_left _ (List.mem_append_right _ h))) (by decide +kernel))) (goodIn_sub (fun _ h => List.mem_cons_of_mem _ (List.mem_append_right _ h)) (by decide +kernel))
set_option maxRecDepth 20000 in
theorem gX6_addWagon_X6_acted : GoodIn wsX6_addWagon (wsV RX6 109 RX6 yX6_acted wsX6_acted) := goodIn_app (goodIn_of _ (by decide +kernel)) ggX6_addWagon_X6_acted
theorem dX6_addWagon_0 : decode cX6_addWagon 0 = .ok (.aload_n 0, 1) := by decide +kernel
theorem dX6_addWagon_1 : decode cX6_addWagon 1 = .ok (.getfield 29, 3) := by decide +kernel
theorem dX6_addWagon_4 : decode cX6_addWagon 4 = .ok (.aload_n 0, 1) := by decide +kernel
theorem dX6_addWagon_5 : decode cX6_addWagon 5 = .ok (.getfield 19, 3) := by decide +kernel
theorem dX6_addWagon_8 : decode cX6_addWagon 8 = .ok (.invokevirtual 102, 3) := by decide +kernel
theorem dX6_addWagon_11 : decode cX6_addWagon 11 = .ok (.aload_n 0, 1) := by decide +kernel
theorem dX6_addWagon_12 : decode cX6_addWagon 12 = .ok (.aload_n 0, 1) := by decide +kernel
theorem dX6_addWagon_13 : decode cX6_addWagon 13 = .ok (.getfield 19, 3) := by decide +kernel
theorem dX6_addWagon_16 : decode cX6_addWagon 16 = .ok (.iload_n 1, 1) := by decide +kernel
theorem dX6_addWagon_17 : decode cX6_addWagon 17 = .ok (.invokevirtual 112, 3) := by decide +kernel
theorem dX6_addWagon_20 : decode cX6_addWagon 20 = .ok (.invokevirtual 109, 3) := by decide +kernel
theorem dX6_addWagon_23 : decode cX6_addWagon 23 = .ok (.ireturn, 1) := by decide +kernel
set_option maxRecDepth 20000 in
theorem ggX6_setSurface_X0_draft : GoodIn wsX6_setSurface wsX0_draft := goodIn_r _ [7, 8, 9, 10, 11, 12, 13, 14, 15, 16, 17, 18, 19, 20, 21, 22, 23, 24, 25, 26, 27, 28, 29, 30, 31, 32, 33, 34, 35, 36, 37, 38, 39, 40, 41, 42, 43, 44, 45, 46, 47, 48, 49, 50, 51, 52, 53, 54, 55, 56, 57, 58, 59, 100, 101, 102, 103, 104, 105, 106, 107, 108, 109, 110, 111, 112, 113, 114, 115, 116, 117, 118, 119, 120, 121, 122, 123, 124, 125, 126, 127, 128, 129, 130, 131] (by decide +kernel) (by decide +kernel)
set_option maxRecDepth 20000 in
theorem gX6_setSurface_X0_draft : GoodIn wsX6_setSurface (wsV RX6 102 RX0 yX0_draft wsX0_draft) := goodIn_app (goodIn_of _ (by decide +kernel)) ggX6_setSurface_X0_draft
set_option maxRecDepth 20000 in
theorem ggX6_setSurface_X2_changeSurface : GoodIn wsX6_setSurface wsX2_changeSurface := goodIn_r _ [63, 64, 65, 66, 67, 13, 68, 15, 27, 69, 70, 71, 117, 118, 119, 120, 121, 122, 123, 102, 103, 104, 105, 106, 107, 108, 109, 110, 111, 112, 113, 114, 115, 116] (by decide +kernel) (by decide +kernel)
set_option maxRecDepth 20000 in
theorem gX6_setSurface_X2_changeSurface : GoodIn wsX6_setSurface (wsV RX6 115 RX2 yX2_changeSurface wsX2_changeSurface) := goodIn_app (goodIn_of _ (by decide +kernel)) ggX6_setSurface_X2_changeSurface
set_option maxRecDepth 20000 in
theorem ggX6_setSurface_X6_acted : GoodIn wsX6_setSurface wsX6_acted := goodIn_ca (goodIn_ca (goodIn_ca (goodIn_r _ [75, 1, 76, 77, 70, 78, 79, 80, 81, 82, 83, 84, 85, 86, 87, 6, 88, 8, 89, 90, 91, 92, 9, 93, 94, 95, 96, 97, 98, 99, 100, 101] (by decide +kernel) (by decide +kernel)) (goodIn_sub (fun _ h => List.mem_cons_of_mem _ (List.mem_append_left _ (List.mem_append_left _ (List.mem_append_right _ h)))) (by decide +kernel))) (goodIn_sub (fun _ h => List.mem_cons_of_mem _ (List.mem_append_left _ (List.mem_append_right _ h))) (by decide +kernel))) (goodIn_sub (fun _ h => List.mem_cons_of_mem _ (List.mem_append_right _ h)) (by decide +kernel))
set_option maxRecDepth 20000 in
theorem gX6_setSurface_X6_acted : GoodIn wsX6_setSurface (wsV RX6 109 RX6 yX6_acted wsX6_acted) := goodIn_app (goodIn_of _ (by decide +kernel)) ggX6_setSurface_X6_acted
theorem dX6_setSurface_0 : decode cX6_setSurface 0 = .ok (.aload_n 0, 1) := by decide +kernel
theorem dX6_setSurface_1 : decode cX6_setSurface 1 = .ok (.getfield 29, 3) := by decide +kernel
theorem dX6_setSurface_4 : decode cX6_setSurface 4 = .ok (.aload_n 0, 1) := by decide +kernel
theorem dX6_setSurface_5 : decode cX6_setSurface 5 = .ok (.getfield 19, 3) := by decide +kernel
theorem dX6_setSurface_8 : decode cX6_setSurface 8 = .ok (.invokevirtual 102, 3) := by decide +kernel
theorem dX6_setSurface_11 : decode cX6_setSurface 11 = .ok (.aload_n 0, 1) := by decide +kernel
theorem dX6_setSurface_12 : decode cX6_setSurface 12 = .ok (.aload_n 0, 1) := by decide +kernel
theorem dX6_setSurface_13 : decode cX6_setSurface 13 = .ok (.getfield 19, 3) := by decide +kernel
theorem dX6_setSurface_16 : decode cX6_setSurface 16 = .ok (.iload_n 1, 1) := by decide +kernel
theorem dX6_setSurface_17 : decode cX6_setSurface 17 = .ok (.iload_n 2, 1) := by decide +kernel
theorem dX6_setSurface_18 : decode cX6_setSurface 18 = .ok (.invokevirtual 115, 3) := by decide +kernel
theorem dX6_setSurface_21 : decode cX6_setSurface 21 = .ok (.invokevirtual 109, 3) := by decide +kernel
theorem dX6_setSurface_24 : decode cX6_setSurface 24 = .ok (.ireturn, 1) := by decide +kernel
set_option maxRecDepth 20000 in
theorem ggX6_setLimit_X0_draft : GoodIn wsX6_setLimit wsX0_draft := goodIn_r _ [7, 8, 9, 10, 11, 12, 13, 14, 15, 16, 17, 18, 19, 20, 21, 22, 23, 24, 25, 26, 27, 28, 29, 30, 31, 32, 33, 34, 35, 36, 37, 38, 39, 40, 41, 42, 43, 44, 45, 46, 47, 48, 49, 50, 51, 52, 53, 54, 55, 56, 57, 58, 59, 104, 105, 106, 107, 108, 109, 110, 111, 112, 113, 114, 115, 116, 117, 118, 119, 120, 121, 122, 123, 124, 125, 126, 127, 128, 129, 130, 131, 132, 133, 134, 135] (by decide +kernel) (by decide +kernel)
set_option maxRecDepth 20000 in
theorem gX6_setLimit_X0_draft : GoodIn wsX6_setLimit (wsV RX6 102 RX0 yX0_draft wsX0_draft) := goodIn_app (goodIn_of _ (by decide +kernel)) ggX6_setLimit_X0_draft
set_option maxRecDepth 20000 in
theorem ggX6_setLimit_X2_changeLimit : GoodIn wsX6_setLimit wsX2_changeLimit := goodIn_r _ [63, 64, 65, 66, 67, 13, 68, 15, 27, 69, 70, 71, 72, 73, 74, 33, 75, 37, 121, 122, 123, 124, 125, 126, 127, 106, 107, 108, 109, 110, 111, 112, 113, 114, 115, 116, 117, 118, 119, 120] (by decide +kernel) (by decide +kernel)
set_option maxRecDepth 20000 in
theorem gX6_setLimit_X2_changeLimit : GoodIn wsX6_setLimit (wsV RX6 118 RX2 yX2_changeLimit wsX2_changeLimit) := goodIn_app (goodIn_of _ (by decide +kernel)) ggX6_setLimit_X2_changeLimit
set_option maxRecDepth 20000 in
theorem ggX6_setLimit_X6_acted : GoodIn wsX6_setLimit wsX6_acted := goodIn_ca (goodIn_ca (goodIn_ca (goodIn_r _ [79, 1, 80, 81, 70, 82, 83, 84, 85, 86, 87, 88, 89, 90, 91, 6, 92, 8, 93, 94, 95, 96, 9, 97, 98, 99, 100, 101, 102, 103, 104, 105] (by decide +kernel) (by decide +kernel)) (goodIn_sub (fun _ h => List.mem_cons_of_mem _ (List.mem_append_left _ (List.mem_append_left _ (List.mem_append_right _ h)))) (by decide +kernel))) (goodIn_sub (fun _ h => List.mem_cons_of_mem _ (List.mem_append_left _ (List.mem_append_right _ h))) (by decide +kernel))) (goodIn_sub (fun _ h => List.mem_cons_of_mem _ (List.mem_append_right _ h)) (by decide +kernel))
set_option maxRecDepth 20000 in
theorem gX6_setLimit_X6_acted : GoodIn wsX6_setLimit (wsV RX6 109 RX6 yX6_acted wsX6_acted) := goodIn_app (goodIn_of _ (by decide +kernel)) ggX6_setLimit_X6_acted
theorem dX6_setLimit_0 : decode cX6_setLimit 0 = .ok (.aload_n 0, 1) := by decide +kernel
theorem dX6_setLimit_1 : decode cX6_setLimit 1 = .ok (.getfield 29, 3) := by decide +kernel
theorem dX6_setLimit_4 : decode cX6_setLimit 4 = .ok (.aload_n 0, 1) := by decide +kernel
theorem dX6_setLimit_5 : decode cX6_setLimit 5 = .ok (.getfield 19, 3) := by decide +kernel
theorem dX6_setLimit_8 : decode cX6_setLimit 8 = .ok (.invokevirtual 102, 3) := by decide +kernel
theorem dX6_setLimit_11 : decode cX6_setLimit 11 = .ok (.aload_n 0, 1) := by decide +kernel
theorem dX6_setLimit_12 : decode cX6_setLimit 12 = .ok (.aload_n 0, 1) := by decide +kernel
theorem dX6_setLimit_13 : decode cX6_setLimit 13 = .ok (.getfield 19, 3) := by decide +kernel
theorem dX6_setLimit_16 : decode cX6_setLimit 16 = .ok (.iload_n 1, 1) := by decide +kernel
theorem dX6_setLimit_17 : decode cX6_setLimit 17 = .ok (.iload_n 2, 1) := by decide +kernel
theorem dX6_setLimit_18 : decode cX6_setLimit 18 = .ok (.invokevirtual 118, 3) := by decide +kernel
theorem dX6_setLimit_21 : decode cX6_setLimit 21 = .ok (.invokevirtual 109, 3) := by decide +kernel
theorem dX6_setLimit_24 : decode cX6_setLimit 24 = .ok (.ireturn, 1) := by decide +kernel
set_option maxRecDepth 20000 in
theorem ggX6_set_X0_draft : GoodIn wsX6_set wsX0_draft := goodIn_r _ [7, 8, 9, 10, 11, 12, 13, 14, 15, 16, 17, 18, 19, 20, 21, 22, 23, 24, 25, 26, 27, 28, 29, 30, 31, 32, 33, 34, 35, 36, 37, 38, 39, 40, 41, 42, 43, 44, 45, 46, 47, 48, 49, 50, 51, 52, 53, 54, 55, 56, 57, 58, 59, 108, 109, 110, 111, 112, 113, 114, 115, 116, 117, 118, 119, 120, 121, 122, 123, 124, 125, 126, 127, 128, 129, 130, 131, 132, 133, 134, 135, 136, 137, 138, 139] (by decide +kernel) (by decide +kernel)
set_option maxRecDepth 20000 in
theorem gX6_set_X0_draft : GoodIn wsX6_set (wsV RX6 102 RX0 yX0_draft wsX0_draft) := goodIn_app (goodIn_of _ (by decide +kernel)) ggX6_set_X0_draft
set_option maxRecDepth 20000 in
theorem ggX6_set_X2_changeNumber : GoodIn wsX6_set wsX2_changeNumber := goodIn_r _ [63, 20, 21, 22, 23, 64, 65, 66, 13, 67, 15, 16, 17, 18, 19, 24, 25, 26, 68, 69, 70, 71, 72, 73, 74, 75, 27, 76, 77, 78, 79, 110, 111, 112, 113, 114, 115, 116, 117, 118, 119, 120, 121, 122, 123, 124, 125, 126, 127, 128, 129, 130, 131] (by decide +kernel) (by decide +kernel)
set_option maxRecDepth 20000 in
theorem gX6_set_X2_changeNumber : GoodIn wsX6_set (wsV RX6 121 RX2 yX2_changeNumber wsX2_changeNumber) := goodIn_app (goodIn_of _ (by decide +kernel)) ggX6_set_X2_changeNumber
set_option maxRecDepth 20000 in
theorem ggX6_set_X6_acted : GoodIn wsX6_set wsX6_acted := goodIn_ca (goodIn_ca (goodIn_ca (goodIn_r _ [83, 1, 84, 85, 78, 86, 87, 88, 89, 90, 91, 92, 93, 94, 95, 6, 96, 8, 97, 98, 99, 100, 9, 101, 102, 103, 104, 105, 106, 107, 108, 109] (by decide +kernel) (by decide +kernel)) (goodIn_sub (fun _ h => List.mem_cons_of_mem _ (List.mem_append_left _ (List.mem_append_left _ (List.mem_append_right _ h)))) (by decide +kernel))) (goodIn_sub (fun _ h => List.mem_cons_of_mem _ (List.mem_append_left _ (List.mem_append_right _ h))) (by decide +kernel))) (goodIn_sub (fun _ h => List.mem_cons_of_mem _ (List.mem_append_right _ h)) (by decide +kernel))
set_option maxRecDepth 20000 in
theorem gX6_set_X6_acted : GoodIn wsX6_set (wsV RX6 109 RX6 yX6_acted wsX6_acted) := goodIn_app (goodIn_of _ (by decide +kernel)) ggX6_set_X6_acted
theorem dX6_set_0 : decode cX6_set 0 = .ok (.aload_n 0, 1) := by decide +kernel
theorem dX6_set_1 : decode cX6_set 1 = .ok (.getfield 29, 3) := by decide +kernel
theorem dX6_set_4 : decode cX6_set 4 = .ok (.aload_n 0, 1) := by decide +kernel
theorem dX6_set_5 : decode cX6_set 5 = .ok (.getfield 19, 3) := by decide +kernel
theorem dX6_set_8 : decode cX6_set 8 = .ok (.invokevirtual 102, 3) := by decide +kernel
theorem dX6_set_11 : decode cX6_set 11 = .ok (.aload_n 0, 1) := by decide +kernel
theorem dX6_set_12 : decode cX6_set 12 = .ok (.aload_n 0, 1) := by decide +kernel
theorem dX6_set_13 : decode cX6_set 13 = .ok (.getfield 19, 3) := by decide +kernel
theorem dX6_set_16 : decode cX6_set 16 = .ok (.iload_n 1, 1) := by decide +kernel
theorem dX6_set_17 : decode cX6_set 17 = .ok (.iload_n 2, 1) := by decide +kernel
theorem dX6_set_18 : decode cX6_set 18 = .ok (.invokevirtual 121, 3) := by decide +kernel
theorem dX6_set_21 : decode cX6_set 21 = .ok (.invokevirtual 109, 3) := by decide +kernel
theorem dX6_set_24 : decode cX6_set 24 = .ok (.ireturn, 1) := by decide +kernel
set_option maxRecDepth 20000 in
theorem ggX6_drive_X0_draft : GoodIn wsX6_drive wsX0_draft := goodIn_r _ [7, 8, 9, 10, 11, 12, 13, 14, 15, 16, 17, 18, 19, 20, 21, 22, 23, 24, 25, 26, 27, 28, 29, 30, 31, 32, 33, 34, 35, 36, 37, 38, 39, 40, 41, 42, 43, 44, 45, 46, 47, 48, 49, 50, 51, 52, 53, 54, 55, 56, 57, 58, 59, 111, 112, 113, 114, 115, 116, 117, 118, 119, 120, 121, 122, 123, 124, 125, 126, 127, 128, 129, 130, 131, 132, 133, 134, 135, 136, 137, 138, 139, 140, 141, 142] (by decide +kernel) (by decide +kernel)
set_option maxRecDepth 20000 in
theorem gX6_drive_X0_draft : GoodIn wsX6_drive (wsV RX6 102 RX0 yX0_draft wsX0_draft) := goodIn_app (goodIn_of _ (by decide +kernel)) ggX6_drive_X0_draft
set_option maxRecDepth 20000 in
theorem ggX6_drive_X2_moveWagon : GoodIn wsX6_drive wsX2_moveWagon := goodIn_r _ [63, 64, 65, 66, 67, 68, 13, 69, 17, 29, 70, 71, 72, 73, 15, 27, 74, 75, 76, 55, 77, 57, 78, 79, 80, 81, 140, 141, 142, 113, 114, 115, 116, 117, 118, 119, 120, 121, 122, 123, 124, 125, 126, 127] (by decide +kernel) (by decide +kernel)
set_option maxRecDepth 20000 in
theorem gX6_drive_X2_moveWagon : GoodIn wsX6_drive (wsV RX6 124 RX2 yX2_moveWagon wsX2_moveWagon) := goodIn_app (goodIn_of _ (by decide +kernel)) ggX6_drive_X2_moveWagon
set_option maxRecDepth 20000 in
theorem ggX6_drive_X6_acted : GoodIn wsX6_drive wsX6_acted := goodIn_ca (goodIn_ca (goodIn_ca (goodIn_r _ [86, 1, 87, 88, 85, 89, 90, 91, 92, 93, 94, 95, 96, 97, 98, 6, 99, 8, 100, 101, 102, 103, 9, 104, 105, 106, 107, 108, 109, 110, 111, 112] (by decide +kernel) (by decide +kernel)) (goodIn_sub (fun _ h => List.mem_cons_of_mem _ (List.mem_append_left _ (List.mem_append_left _ (List.mem_append_right _ h)))) (by decide +kernel))) (goodIn_sub (fun _ h => List.mem_cons_of_mem _ (List.mem_append_left _ (List.mem_append_right _ h))) (by decide +kernel))) (goodIn_sub (fun _ h => List.mem_cons_of_mem _ (List.mem_append_right _ h)) (by decide +kernel))
set_option maxRecDepth 20000 in
theorem gX6_drive_X6_acted : GoodIn wsX6_drive (wsV RX6 109 RX6 yX6_acted wsX6_acted) := goodIn_app (goodIn_of _ (by decide +kernel)) ggX6_drive_X6_acted
theorem dX6_drive_0 : decode cX6_drive 0 = .ok (.aload_n 0, 1) := by decide +kernel
theorem dX6_drive_1 : decode cX6_drive 1 = .ok (.getfield 29, 3) := by decide +kernel
theorem dX6_drive_4 : decode cX6_drive 4 = .ok (.aload_n 0, 1) := by decide +kernel
theorem dX6_drive_5 : decode cX6_drive 5 = .ok (.getfield 19, 3) := by decide +kernel
theorem dX6_drive_8 : decode cX6_drive 8 = .ok (.invokevirtual 102, 3) := by decide +kernel
theorem dX6_drive_11 : decode cX6_drive 11 = .ok (.aload_n 0, 1) := by decide +kernel
theorem dX6_drive_12 : decode cX6_drive 12 = .ok (.aload_n 0, 1) := by decide +kernel
theorem dX6_drive_13 : decode cX6_drive 13 = .ok (.getfield 19, 3) := by decide +kernel
theorem dX6_drive_16 : decode cX6_drive 16 = .ok (.iload_n 1, 1) := by decide +kernel
theorem dX6_drive_17 : decode cX6_drive 17 = .ok (.iload_n 2, 1) := by decide +kernel
theorem dX6_drive_18 : decode cX6_drive 18 = .ok (.invokevirtual 124, 3) := by decide +kernel
theorem dX6_drive_21 : decode cX6_drive 21 = .ok (.invokevirtual 109, 3) := by decide +kernel
theorem dX6_drive_24 : decode cX6_drive 24 = .ok (.ireturn, 1) := by decide +kernel
set_option maxRecDepth 20000 in
theorem ggX6_spray_X0_draft : GoodIn wsX6_spray wsX0_draft := goodIn_r _ [7, 8, 9, 10, 11, 12, 13, 14, 15, 16, 17, 18, 19, 20, 21, 22, 23, 24, 25, 26, 27, 28, 29, 30, 31, 32, 33, 34, 35, 36, 37, 38, 39, 40, 41, 42, 43, 44, 45, 46, 47, 48, 49, 50, 51, 52, 53, 54, 55, 56, 57, 58, 59, 126, 127, 128, 129, 130, 131, 132, 133, 134, 135, 136, 137, 138, 139, 140, 141, 142, 143, 144, 145, 146, 147, 148, 149, 150, 151, 152, 153, 154, 155, 156, 157] (by decide +kernel) (by decide +kernel)
set_option maxRecDepth 20000 in
theorem gX6_spray_X0_draft : GoodIn wsX6_spray (wsV RX6 102 RX0 yX0_draft wsX0_draft) := goodIn_app (goodIn_of _ (by decide +kernel)) ggX6_spray_X0_draft
set_option maxRecDepth 20000 in
theorem ggX6_spray_X2_sprayFrom : GoodIn wsX6_spray wsX2_sprayFrom := goodIn_r _ [63, 64, 65, 66, 26, 67, 68, 69, 70, 13, 71, 17, 29, 72, 73, 74, 75, 15, 27, 76, 77, 78, 79, 80, 81, 55, 82, 59, 58, 83, 84, 85, 86, 57, 87, 88, 89, 90, 91, 92, 93, 33, 94, 39, 95, 96, 97, 155, 156, 157, 128, 129, 130, 131, 132, 133, 134, 135, 136, 137, 138, 139, 140, 141, 142, 143, 144, 145, 146, 147, 148, 149] (by decide +kernel) (by decide +kernel)
set_option maxRecDepth 20000 in
theorem gX6_spray_X2_sprayFrom : GoodIn wsX6_spray (wsV RX6 127 RX2 yX2_sprayFrom wsX2_sprayFrom) := goodIn_app (goodIn_of _ (by decide +kernel)) ggX6_spray_X2_sprayFrom
set_option maxRecDepth 20000 in
theorem ggX6_spray_X6_acted : GoodIn wsX6_spray wsX6_acted := goodIn_ca (goodIn_ca (goodIn_ca (goodIn_r _ [101, 1, 102, 103, 77, 104, 105, 106, 107, 108, 109, 110, 111, 112, 113, 6, 114, 8, 115, 116, 117, 118, 9, 119, 120, 121, 122, 123, 124, 125, 126, 127] (by decide +kernel) (by decide +kernel)) (goodIn_sub (fun _ h => List.mem_cons_of_mem _ (List.mem_append_left _ (List.mem_append_left _ (List.mem_append_right _ h)))) (by decide +kernel))) (goodIn_sub (fun _ h => List.mem_cons_of_mem _ (List.mem_append_left _ (List.mem_append_right _ h))) (by decide +kernel))) (goodIn_sub (fun _ h => List.mem_cons_of_mem _ (List.mem_append_right _ h)) (by decide +kernel))
set_option maxRecDepth 20000 in
theorem gX6_spray_X6_acted : GoodIn wsX6_spray (wsV RX6 109 RX6 yX6_acted wsX6_acted) := goodIn_app (goodIn_of _ (by decide +kernel)) ggX6_spray_X6_acted
theorem dX6_spray_0 : decode cX6_spray 0 = .ok (.aload_n 0, 1) := by decide +kernel
theorem dX6_spray_1 : decode cX6_spray 1 = .ok (.getfield 29, 3) := by decide +kernel
theorem dX6_spray_4 : decode cX6_spray 4 = .ok (.aload_n 0, 1) := by decide +kernel
theorem dX6_spray_5 : decode cX6_spray 5 = .ok (.getfield 19, 3) := by decide +kernel
theorem dX6_spray_8 : decode cX6_spray 8 = .ok (.invokevirtual 102, 3) := by decide +kernel
theorem dX6_spray_11 : decode cX6_spray 11 = .ok (.aload_n 0, 1) := by decide +kernel
theorem dX6_spray_12 : decode cX6_spray 12 = .ok (.aload_n 0, 1) := by decide +kernel
theorem dX6_spray_13 : decode cX6_spray 13 = .ok (.getfield 19, 3) := by decide +kernel
theorem dX6_spray_16 : decode cX6_spray 16 = .ok (.iload_n 1, 1) := by decide +kernel
theorem dX6_spray_17 : decode cX6_spray 17 = .ok (.iload_n 2, 1) := by decide +kernel
theorem dX6_spray_18 : decode cX6_spray 18 = .ok (.invokevirtual 127, 3) := by decide +kernel
theorem dX6_spray_21 : decode cX6_spray 21 = .ok (.invokevirtual 109, 3) := by decide +kernel
theorem dX6_spray_24 : decode cX6_spray 24 = .ok (.ireturn, 1) := by decide +kernel
set_option maxRecDepth 20000 in
theorem ggX6_fill_X0_draft : GoodIn wsX6_fill wsX0_draft := goodIn_r _ [7, 8, 9, 10, 11, 12, 13, 14, 15, 16, 17, 18, 19, 20, 21, 22, 23, 24, 25, 26, 27, 28, 29, 30, 31, 32, 33, 34, 35, 36, 37, 38, 39, 40, 41, 42, 43, 44, 45, 46, 47, 48, 49, 50, 51, 52, 53, 54, 55, 56, 57, 58, 59, 113, 114, 115, 116, 117, 118, 119, 120, 121, 122, 123, 124, 125, 126, 127, 128, 129, 130, 131, 132, 133, 134, 135, 136, 137, 138, 139, 140, 141, 142, 143, 144] (by decide +kernel) (by decide +kernel)
set_option maxRecDepth 20000 in
theorem gX6_fill_X0_draft : GoodIn wsX6_fill (wsV RX6 102 RX0 yX0_draft wsX0_draft) := goodIn_app (goodIn_of _ (by decide +kernel)) ggX6_fill_X0_draft
set_option maxRecDepth 20000 in
theorem ggX6_fill_X2_fillTank : GoodIn wsX6_fill wsX2_fillTank := goodIn_r _ [63, 64, 23, 24, 65, 66, 67, 68, 69, 70, 71, 72, 13, 73, 17, 29, 74, 75, 76, 77, 78, 79, 80, 81, 82, 83, 15, 27, 142, 143, 144, 115, 116, 117, 118, 119, 120, 121, 122, 123, 124, 125, 126, 127, 128, 129, 130, 131, 132, 133, 134, 135, 136] (by decide +kernel) (by decide +kernel)
set_option maxRecDepth 20000 in
theorem gX6_fill_X2_fillTank : GoodIn wsX6_fill (wsV RX6 130 RX2 yX2_fillTank wsX2_fillTank) := goodIn_app (goodIn_of _ (by decide +kernel)) ggX6_fill_X2_fillTank
set_option maxRecDepth 20000 in
theorem ggX6_fill_X6_acted : GoodIn wsX6_fill wsX6_acted := goodIn_ca (goodIn_ca (goodIn_ca (goodIn_r _ [88, 1, 89, 90, 87, 91, 92, 93, 94, 95, 96, 97, 98, 99, 100, 6, 101, 8, 102, 103, 104, 105, 9, 106, 107, 108, 109, 110, 111, 112, 113, 114] (by decide +kernel) (by decide +kernel)) (goodIn_sub (fun _ h => List.mem_cons_of_mem _ (List.mem_append_left _ (List.mem_append_left _ (List.mem_append_right _ h)))) (by decide +kernel))) (goodIn_sub (fun _ h => List.mem_cons_of_mem _ (List.mem_append_left _ (List.mem_append_right _ h))) (by decide +kernel))) (goodIn_sub (fun _ h => List.mem_cons_of_mem _ (List.mem_append_right _ h)) (by decide +kernel))
set_option maxRecDepth 20000 in
theorem gX6_fill_X6_acted : GoodIn wsX6_fill (wsV RX6 109 RX6 yX6_acted wsX6_acted) := goodIn_app (goodIn_of _ (by decide +kernel)) ggX6_fill_X6_acted
theorem dX6_fill_0 : decode cX6_fill 0 = .ok (.aload_n 0, 1) := by decide +kernel
theorem dX6_fill_1 : decode cX6_fill 1 = .ok (.getfield 29, 3) := by decide +kernel
theorem dX6_fill_4 : decode cX6_fill 4 = .ok (.aload_n 0, 1) := by decide +kernel
theorem dX6_fill_5 : decode cX6_fill 5 = .ok (.getfield 19, 3) := by decide +kernel
theorem dX6_fill_8 : decode cX6_fill 8 = .ok (.invokevirtual 102, 3) := by decide +kernel
theorem dX6_fill_11 : decode cX6_fill 11 = .ok (.aload_n 0, 1) := by decide +kernel
theorem dX6_fill_12 : decode cX6_fill 12 = .ok (.aload_n 0, 1) := by decide +kernel
theorem dX6_fill_13 : decode cX6_fill 13 = .ok (.getfield 19, 3) := by decide +kernel
theorem dX6_fill_16 : decode cX6_fill 16 = .ok (.iload_n 1, 1) := by decide +kernel
theorem dX6_fill_17 : decode cX6_fill 17 = .ok (.invokevirtual 130, 3) := by decide +kernel
theorem dX6_fill_20 : decode cX6_fill 20 = .ok (.invokevirtual 109, 3) := by decide +kernel
theorem dX6_fill_23 : decode cX6_fill 23 = .ok (.ireturn, 1) := by decide +kernel
set_option maxRecDepth 20000 in
theorem ggX6_pass_X0_draft : GoodIn wsX6_pass wsX0_draft := goodIn_r _ [7, 8, 9, 10, 11, 12, 13, 14, 15, 16, 17, 18, 19, 20, 21, 22, 23, 24, 25, 26, 27, 28, 29, 30, 31, 32, 33, 34, 35, 36, 37, 38, 39, 40, 41, 42, 43, 44, 45, 46, 47, 48, 49, 50, 51, 52, 53, 54, 55, 56, 57, 58, 59, 165, 166, 167, 168, 169, 170, 171, 172, 173, 174, 175, 176, 177, 178, 179, 180, 181, 182, 183, 184, 185, 186, 187, 188, 189, 190, 191, 192, 193, 194, 195, 196] (by decide +kernel) (by decide +kernel)
set_option maxRecDepth 20000 in
theorem gX6_pass_X0_draft : GoodIn wsX6_pass (wsV RX6 102 RX0 yX0_draft wsX0_draft) := goodIn_app (goodIn_of _ (by decide +kernel)) ggX6_pass_X0_draft
set_option maxRecDepth 20000 in
theorem ggX6_pass_X2_goHours : GoodIn wsX6_pass wsX2_goHours := goodIn_r _ [63, 25, 64, 65, 66, 67, 68, 69, 13, 70, 27, 71, 72, 73, 74, 21, 20, 75, 76, 77, 33, 78, 39, 79, 80, 81, 82, 83, 84, 85, 86, 35, 87, 88, 89, 90, 38, 36, 91, 92, 93, 94, 95, 96, 97, 16, 98, 99, 100, 22, 101, 102, 103, 104, 105, 28, 106, 107, 108, 109, 15, 110, 111, 112, 113, 114, 115, 116, 117, 118, 119, 120, 121, 122, 123, 41, 37, 124, 125, 126, 127, 128, 129, 130, 131, 132, 133, 134, 135, 19, 18, 24, 29, 136, 167, 168, 169, 170, 171, 172, 173, 174, 175, 176, 177, 178, 179, 180, 181, 182, 183, 184, 185, 186, 187, 188, 189, 190, 191, 192, 193, 194, 195, 196] (by decide +kernel) (by decide +kernel)
set_option maxRecDepth 20000 in
theorem gX6_pass_X2_goHours : GoodIn wsX6_pass (wsV RX6 133 RX2 yX2_goHours wsX2_goHours) := goodIn_app (goodIn_of _ (by decide +kernel)) ggX6_pass_X2_goHours
set_option maxRecDepth 20000 in
theorem ggX6_pass_X6_acted : GoodIn wsX6_pass wsX6_acted := goodIn_ca (goodIn_ca (goodIn_ca (goodIn_r _ [140, 1, 141, 142, 65, 143, 144, 145, 146, 147, 148, 149, 150, 151, 152, 6, 153, 8, 154, 155, 156, 157, 9, 158, 159, 160, 161, 162, 163, 164, 165, 166] (by decide +kernel) (by decide +kernel)) (goodIn_sub (fun _ h => List.mem_cons_of_mem _ (List.mem_append_left _ (List.mem_append_left _ (List.mem_append_right _ h)))) (by decide +kernel))) (goodIn_sub (fun _ h => List.mem_cons_of_mem _ (List.mem_append_left _ (List.mem_append_right _ h))) (by decide +kernel))) (goodIn_sub (fun _ h => List.mem_cons_of_mem _ (List.mem_append_right _ h)) (by decide +kernel))
set_option maxRecDepth 20000 in
theorem gX6_pass_X6_acted : GoodIn wsX6_pass (wsV RX6 109 RX6 yX6_acted wsX6_acted) := goodIn_app (goodIn_of _ (by decide +kernel)) ggX6_pass_X6_acted
theorem dX6_pass_0 : decode cX6_pass 0 = .ok (.aload_n 0, 1) := by decide +kernel
theorem dX6_pass_1 : decode cX6_pass 1 = .ok (.getfield 29, 3) := by decide +kernel
theorem dX6_pass_4 : decode cX6_pass 4 = .ok (.aload_n 0, 1) := by decide +kernel
theorem dX6_pass_5 : decode cX6_pass 5 = .ok (.getfield 19, 3) := by decide +kernel
theorem dX6_pass_8 : decode cX6_pass 8 = .ok (.invokevirtual 102, 3) := by decide +kernel
theorem dX6_pass_11 : decode cX6_pass 11 = .ok (.aload_n 0, 1) := by decide +kernel
theorem dX6_pass_12 : decode cX6_pass 12 = .ok (.aload_n 0, 1) := by decide +kernel
theorem dX6_pass_13 : decode cX6_pass 13 = .ok (.getfield 19, 3) := by decide +kernel
theorem dX6_pass_16 : decode cX6_pass 16 = .ok (.iload_n 1, 1) := by decide +kernel
theorem dX6_pass_17 : decode cX6_pass 17 = .ok (.invokevirtual 133, 3) := by decide +kernel
theorem dX6_pass_20 : decode cX6_pass 20 = .ok (.invokevirtual 109, 3) := by decide +kernel
theorem dX6_pass_23 : decode cX6_pass 23 = .ok (.ireturn, 1) := by decide +kernel
set_option maxRecDepth 20000 in
theorem ggX6_undo_X0_takeBack : GoodIn wsX6_undo wsX0_takeBack := goodIn_r _ [10, 11, 12, 13, 14, 15, 16, 17, 18, 19, 20, 21, 22, 23, 24, 25, 26, 27, 28, 29, 30, 31, 32, 33, 34, 35, 36, 37, 38, 39, 40, 41, 42, 43, 44, 45, 46, 47, 48, 49, 50, 51, 52, 53, 54, 55, 56, 57, 58, 59, 60, 61, 62, 70, 71, 72, 73, 74, 75, 76, 77, 78, 79, 80, 81, 82, 83, 84, 85, 86, 87, 88, 89, 90, 91, 92, 93, 94, 95, 96, 97, 98, 99, 100, 101] (by decide +kernel) (by decide +kernel)
set_option maxRecDepth 20000 in
theorem gX6_undo_X0_takeBack : GoodIn wsX6_undo (wsV RX6 136 RX0 yX0_takeBack wsX0_takeBack) := goodIn_app (goodIn_of _ (by decide +kernel)) ggX6_undo_X0_takeBack
theorem dX6_undo_0 : decode cX6_undo 0 = .ok (.aload_n 0, 1) := by decide +kernel
theorem dX6_undo_1 : decode cX6_undo 1 = .ok (.getfield 29, 3) := by decide +kernel
theorem dX6_undo_4 : decode cX6_undo 4 = .ok (.aload_n 0, 1) := by decide +kernel
theorem dX6_undo_5 : decode cX6_undo 5 = .ok (.getfield 19, 3) := by decide +kernel
theorem dX6_undo_8 : decode cX6_undo 8 = .ok (.invokevirtual 136, 3) := by decide +kernel
theorem dX6_undo_11 : decode cX6_undo 11 = .ok (.ifCond .ne 13, 3) := by decide +kernel
theorem dX6_undo_14 : decode cX6_undo 14 = .ok (.new 60, 3) := by decide +kernel
theorem dX6_undo_17 : decode cX6_undo 17 = .ok (.dup, 1) := by decide +kernel
theorem dX6_undo_18 : decode cX6_undo 18 = .ok (.ldc 140, 2) := by decide +kernel
theorem dX6_undo_20 : decode cX6_undo 20 = .ok (.invokespecial 64, 3) := by decide +kernel
theorem dX6_undo_23 : decode cX6_undo 23 = .ok (.athrow, 1) := by decide +kernel
theorem dX6_undo_24 : decode cX6_undo 24 = .ok (.aload_n 0, 1) := by decide +kernel
theorem dX6_undo_25 : decode cX6_undo 25 = .ok (.getfield 29, 3) := by decide +kernel
theorem dX6_undo_28 : decode cX6_undo 28 = .ok (.getfield 142, 3) := by decide +kernel
theorem dX6_undo_31 : decode cX6_undo 31 = .ok (.ireturn, 1) := by decide +kernel
set_option maxRecDepth 20000 in
theorem ggX6_whyNoFill_X2_wagonAt : GoodIn wsX6_whyNoFill wsX2_wagonAt := goodIn_r _ [6, 7, 8, 42, 43, 44, 45, 46, 47, 48, 49, 50, 51, 52, 53, 54, 55, 56] (by decide +kernel) (by decide +kernel)
set_option maxRecDepth 20000 in
theorem gX6_whyNoFill_X2_wagonAt : GoodIn wsX6_whyNoFill (wsV RX6 95 RX2 yX2_wagonAt wsX2_wagonAt) := goodIn_app (goodIn_of _ (by decide +kernel)) ggX6_whyNoFill_X2_wagonAt
set_option maxRecDepth 20000 in
theorem ggX6_whyNoFill_X2_whyNoWater : GoodIn wsX6_whyNoFill wsX2_whyNoWater := goodIn_r _ [12, 13, 14, 15, 16, 17, 18, 19, 20, 21, 5, 22, 23, 24, 57, 58, 59, 60, 61, 62, 63, 64, 65, 66, 42, 43, 44, 45, 46, 47, 48, 49, 50, 51, 52, 53, 54, 55, 56] (by decide +kernel) (by decide +kernel)
set_option maxRecDepth 20000 in
theorem gX6_whyNoFill_X2_whyNoWater : GoodIn wsX6_whyNoFill (wsV RX6 145 RX2 yX2_whyNoWater wsX2_whyNoWater) := goodIn_app (goodIn_of _ (by decide +kernel)) ggX6_whyNoFill_X2_whyNoWater
set_option maxRecDepth 20000 in
theorem ggX6_whyNoFill_X6_answered : GoodIn wsX6_whyNoFill wsX6_answered := goodIn_ca (goodIn_ca (goodIn_ca (goodIn_r _ [28, 29, 30, 31, 32, 33, 34] (by decide +kernel) (by decide +kernel)) (goodIn_sub (fun _ h => List.mem_cons_of_mem _ (List.mem_append_left _ (List.mem_append_left _ (List.mem_append_right _ h)))) (by decide +kernel))) (goodIn_sub (fun _ h => List.mem_cons_of_mem _ (List.mem_append_left _ (List.mem_append_right _ h))) (by decide +kernel))) (goodIn_sub (fun _ h => List.mem_cons_of_mem _ (List.mem_append_right _ h)) (by decide +kernel))
set_option maxRecDepth 20000 in
theorem gX6_whyNoFill_X6_answered : GoodIn wsX6_whyNoFill (va_wsS RX6 49 yX6_answered wsX6_answered) := goodIn_app (goodIn_of _ (by decide +kernel)) ggX6_whyNoFill_X6_answered
theorem dX6_whyNoFill_0 : decode cX6_whyNoFill 0 = .ok (.aload_n 0, 1) := by decide +kernel
theorem dX6_whyNoFill_1 : decode cX6_whyNoFill 1 = .ok (.getfield 19, 3) := by decide +kernel
theorem dX6_whyNoFill_4 : decode cX6_whyNoFill 4 = .ok (.iload_n 1, 1) := by decide +kernel
theorem dX6_whyNoFill_5 : decode cX6_whyNoFill 5 = .ok (.invokevirtual 95, 3) := by decide +kernel
theorem dX6_whyNoFill_8 : decode cX6_whyNoFill 8 = .ok (.astore_n 2, 1) := by decide +kernel
theorem dX6_whyNoFill_9 : decode cX6_whyNoFill 9 = .ok (.aload_n 2, 1) := by decide +kernel
theorem dX6_whyNoFill_10 : decode cX6_whyNoFill 10 = .ok (.ifnonnull 7, 3) := by decide +kernel
theorem dX6_whyNoFill_13 : decode cX6_whyNoFill 13 = .ok (.iconst (-1), 1) := by decide +kernel
theorem dX6_whyNoFill_14 : decode cX6_whyNoFill 14 = .ok (.goto 11, 3) := by decide +kernel
theorem dX6_whyNoFill_17 : decode cX6_whyNoFill 17 = .ok (.aload_n 0, 1) := by decide +kernel
theorem dX6_whyNoFill_18 : decode cX6_whyNoFill 18 = .ok (.getfield 19, 3) := by decide +kernel
theorem dX6_whyNoFill_21 : decode cX6_whyNoFill 21 = .ok (.aload_n 2, 1) := by decide +kernel
theorem dX6_whyNoFill_22 : decode cX6_whyNoFill 22 = .ok (.invokevirtual 145, 3) := by decide +kernel
theorem dX6_whyNoFill_25 : decode cX6_whyNoFill 25 = .ok (.invokestatic 49, 3) := by decide +kernel
theorem dX6_whyNoFill_28 : decode cX6_whyNoFill 28 = .ok (.ireturn, 1) := by decide +kernel
set_option maxRecDepth 20000 in
theorem ggX6_ahead_X2_copyFrom : GoodIn wsX6_ahead wsX2_copyFrom := goodIn_r _ [12, 13, 14, 15, 16, 17, 18, 19, 20, 21, 22, 23, 24, 25, 26, 27, 28, 29, 30, 31, 32, 33, 34, 35, 36, 37, 38, 39, 40, 41, 42, 43, 44, 45, 46, 47, 48, 49, 50, 51, 52, 53, 54, 55, 56, 57, 149, 150, 151, 152, 153, 154, 155, 156, 157, 158, 159, 160, 161, 162, 163, 164, 165, 166, 167, 168, 169, 170, 144, 145, 146, 147, 148, 171, 172, 173] (by decide +kernel) (by decide +kernel)
set_option maxRecDepth 20000 in
theorem gX6_ahead_X2_copyFrom : GoodIn wsX6_ahead (wsV RX6 67 RX2 yX2_copyFrom wsX2_copyFrom) := goodIn_app (goodIn_of _ (by decide +kernel)) ggX6_ahead_X2_copyFrom
set_option maxRecDepth 20000 in
theorem ggX6_ahead_X2_houseAt : GoodIn wsX6_ahead wsX2_houseAt := goodIn_r _ [61, 14, 26, 149, 150, 151, 152, 153, 154, 155, 156, 157, 158, 159, 160, 161, 162, 163] (by decide +kernel) (by decide +kernel)
set_option maxRecDepth 20000 in
theorem gX6_ahead_X2_houseAt : GoodIn wsX6_ahead (wsV RX6 88 RX2 yX2_houseAt wsX2_houseAt) := goodIn_app (goodIn_of _ (by decide +kernel)) ggX6_ahead_X2_houseAt
set_option maxRecDepth 20000 in
theorem ggX6_ahead_X6_within : GoodIn wsX6_ahead wsX6_within := goodIn_r _ [65] (by decide +kernel) (by decide +kernel)
set_option maxRecDepth 20000 in
theorem gX6_ahead_X6_within : GoodIn wsX6_ahead (va_wsS RX6 154 yX6_within wsX6_within) := goodIn_app (goodIn_of _ (by decide +kernel)) ggX6_ahead_X6_within
set_option maxRecDepth 20000 in
theorem ggX6_ahead_X2_goHours : GoodIn wsX6_ahead wsX2_goHours := goodIn_r _ [69, 23, 63, 64, 65, 70, 71, 72, 11, 73, 25, 74, 75, 76, 77, 19, 18, 78, 79, 80, 31, 81, 37, 82, 83, 84, 85, 86, 87, 88, 89, 33, 90, 91, 92, 93, 36, 34, 94, 95, 96, 97, 98, 99, 100, 14, 101, 102, 103, 20, 104, 105, 59, 60, 61, 26, 106, 107, 108, 109, 13, 110, 111, 112, 113, 114, 115, 116, 117, 118, 119, 120, 121, 122, 123, 39, 35, 124, 125, 126, 127, 128, 129, 130, 131, 132, 133, 134, 135, 17, 16, 22, 27, 136, 149, 150, 151, 152, 153, 154, 155, 156, 157, 158, 159, 160, 161, 162, 163, 164, 165, 166, 167, 168, 169, 170, 144, 145, 146, 147, 148, 171, 172, 173] (by decide +kernel) (by decide +kernel)
set_option maxRecDepth 20000 in
theorem gX6_ahead_X2_goHours : GoodIn wsX6_ahead (wsV RX6 133 RX2 yX2_goHours wsX2_goHours) := goodIn_app (goodIn_of _ (by decide +kernel)) ggX6_ahead_X2_goHours
theorem dX6_ahead_0 : decode cX6_ahead 0 = .ok (.aload_n 0, 1) := by decide +kernel
theorem dX6_ahead_1 : decode cX6_ahead 1 = .ok (.getfield 23, 3) := by decide +kernel
theorem dX6_ahead_4 : decode cX6_ahead 4 = .ok (.aload_n 0, 1) := by decide +kernel
theorem dX6_ahead_5 : decode cX6_ahead 5 = .ok (.getfield 19, 3) := by decide +kernel
theorem dX6_ahead_8 : decode cX6_ahead 8 = .ok (.invokevirtual 67, 3) := by decide +kernel
theorem dX6_ahead_11 : decode cX6_ahead 11 = .ok (.aload_n 0, 1) := by decide +kernel
theorem dX6_ahead_12 : decode cX6_ahead 12 = .ok (.getfield 23, 3) := by decide +kernel
theorem dX6_ahead_15 : decode cX6_ahead 15 = .ok (.iload_n 1, 1) := by decide +kernel
theorem dX6_ahead_16 : decode cX6_ahead 16 = .ok (.invokevirtual 88, 3) := by decide +kernel
theorem dX6_ahead_19 : decode cX6_ahead 19 = .ok (.astore_n 3, 1) := by decide +kernel
theorem dX6_ahead_20 : decode cX6_ahead 20 = .ok (.aload_n 3, 1) := by decide +kernel
theorem dX6_ahead_21 : decode cX6_ahead 21 = .ok (.ifnonnull 13, 3) := by decide +kernel
theorem dX6_ahead_24 : decode cX6_ahead 24 = .ok (.new 149, 3) := by decide +kernel
theorem dX6_ahead_27 : decode cX6_ahead 27 = .ok (.dup, 1) := by decide +kernel
theorem dX6_ahead_28 : decode cX6_ahead 28 = .ok (.ldc 151, 2) := by decide +kernel
theorem dX6_ahead_30 : decode cX6_ahead 30 = .ok (.invokespecial 153, 3) := by decide +kernel
theorem dX6_ahead_33 : decode cX6_ahead 33 = .ok (.athrow, 1) := by decide +kernel
theorem dX6_ahead_34 : decode cX6_ahead 34 = .ok (.iload_n 2, 1) := by decide +kernel
theorem dX6_ahead_35 : decode cX6_ahead 35 = .ok (.iconst 1, 1) := by decide +kernel
theorem dX6_ahead_36 : decode cX6_ahead 36 = .ok (.bipush 20, 2) := by decide +kernel
theorem dX6_ahead_38 : decode cX6_ahead 38 = .ok (.invokestatic 154, 3) := by decide +kernel
theorem dX6_ahead_41 : decode cX6_ahead 41 = .ok (.ifCond .ne 13, 3) := by decide +kernel
theorem dX6_ahead_44 : decode cX6_ahead 44 = .ok (.new 158, 3) := by decide +kernel
theorem dX6_ahead_47 : decode cX6_ahead 47 = .ok (.dup, 1) := by decide +kernel
theorem dX6_ahead_48 : decode cX6_ahead 48 = .ok (.ldc 160, 2) := by decide +kernel
theorem dX6_ahead_50 : decode cX6_ahead 50 = .ok (.invokespecial 162, 3) := by decide +kernel
theorem dX6_ahead_53 : decode cX6_ahead 53 = .ok (.athrow, 1) := by decide +kernel
theorem dX6_ahead_54 : decode cX6_ahead 54 = .ok (.aload_n 0, 1) := by decide +kernel
theorem dX6_ahead_55 : decode cX6_ahead 55 = .ok (.getfield 23, 3) := by decide +kernel
theorem dX6_ahead_58 : decode cX6_ahead 58 = .ok (.iload_n 2, 1) := by decide +kernel
theorem dX6_ahead_59 : decode cX6_ahead 59 = .ok (.invokevirtual 133, 3) := by decide +kernel
theorem dX6_ahead_62 : decode cX6_ahead 62 = .ok (.pop, 1) := by decide +kernel
theorem dX6_ahead_63 : decode cX6_ahead 63 = .ok (.aload_n 3, 1) := by decide +kernel
theorem dX6_ahead_64 : decode cX6_ahead 64 = .ok (.getfield 163, 3) := by decide +kernel
theorem dX6_ahead_67 : decode cX6_ahead 67 = .ok (.ireturn, 1) := by decide +kernel
set_option maxRecDepth 20000 in
theorem ggX6_waterFor_X2_houseAt : GoodIn wsX6_waterFor wsX2_houseAt := goodIn_r _ [11, 12, 13, 120, 121, 122, 123, 124, 125, 126, 127, 128, 129, 130, 131, 132, 133, 134] (by decide +kernel) (by decide +kernel)
set_option maxRecDepth 20000 in
theorem gX6_waterFor_X2_houseAt : GoodIn wsX6_waterFor (wsV RX6 88 RX2 yX2_houseAt wsX2_houseAt) := goodIn_app (goodIn_of _ (by decide +kernel)) ggX6_waterFor_X2_houseAt
set_option maxRecDepth 20000 in
theorem ggX6_waterFor_X6_tryWater : GoodIn wsX6_waterFor wsX6_tryWater := goodIn_r _ [18, 5, 3, 19, 20, 21, 10, 22, 23, 12, 24, 25, 26, 27, 28, 29, 30, 31, 32, 33, 34, 13, 35, 36, 37, 38, 39, 40, 41, 42, 43, 44, 45, 46, 47, 48, 49, 50, 51, 52, 53, 54, 55, 56, 57, 58, 59, 60, 61, 62, 63, 64, 65, 66, 67, 68, 69, 70, 71, 72, 73, 74, 75, 76, 77, 78, 79, 80, 81, 82, 83, 84, 85, 86, 87, 88, 89, 90, 91, 92, 93, 94, 95, 96, 108, 109, 110, 111, 112, 113, 114, 120, 121, 122, 123, 124, 125, 126, 127, 128, 129, 130, 131, 132, 133, 134, 135, 136, 137, 138, 139, 140, 141, 115, 116, 117, 118, 119, 142, 143, 144] (by decide +kernel) (by decide +kernel)
set_option maxRecDepth 20000 in
theorem gX6_waterFor_X6_tryWater : GoodIn wsX6_waterFor (wsV RX6 169 RX6 yX6_tryWater wsX6_tryWater) := goodIn_app (goodIn_of _ (by decide +kernel)) ggX6_waterFor_X6_tryWater
set_option maxRecDepth 20000 in
theorem ggX6_waterFor_X2_dustFor : GoodIn wsX6_waterFor wsX2_dustFor := goodIn_r _ [100, 101, 102, 103, 104, 105, 10, 106, 23, 34, 107, 115, 116, 117, 118, 119, 120, 121, 122, 123, 124, 125, 126, 127, 128, 129, 130, 131, 132, 133, 134, 135, 136, 137, 138, 139, 140, 141] (by decide +kernel) (by decide +kernel)
set_option maxRecDepth 20000 in
theorem gX6_waterFor_X2_dustFor : GoodIn wsX6_waterFor (wsV RX6 173 RX2 yX2_dustFor wsX2_dustFor) := goodIn_app (goodIn_of _ (by decide +kernel)) ggX6_waterFor_X2_dustFor
theorem dX6_waterFor_0 : decode cX6_waterFor 0 = .ok (.aload_n 0, 1) := by decide +kernel
theorem dX6_waterFor_1 : decode cX6_waterFor 1 = .ok (.getfield 19, 3) := by decide +kernel
theorem dX6_waterFor_4 : decode cX6_waterFor 4 = .ok (.iload_n 1, 1) := by decide +kernel
theorem dX6_waterFor_5 : decode cX6_waterFor 5 = .ok (.invokevirtual 88, 3) := by decide +kernel
theorem dX6_waterFor_8 : decode cX6_waterFor 8 = .ok (.astore_n 2, 1) := by decide +kernel
theorem dX6_waterFor_9 : decode cX6_waterFor 9 = .ok (.aload_n 2, 1) := by decide +kernel
theorem dX6_waterFor_10 : decode cX6_waterFor 10 = .ok (.ifnonnull 13, 3) := by decide +kernel
theorem dX6_waterFor_13 : decode cX6_waterFor 13 = .ok (.new 149, 3) := by decide +kernel
theorem dX6_waterFor_16 : decode cX6_waterFor 16 = .ok (.dup, 1) := by decide +kernel
theorem dX6_waterFor_17 : decode cX6_waterFor 17 = .ok (.ldc 151, 2) := by decide +kernel
theorem dX6_waterFor_19 : decode cX6_waterFor 19 = .ok (.invokespecial 153, 3) := by decide +kernel
theorem dX6_waterFor_22 : decode cX6_waterFor 22 = .ok (.athrow, 1) := by decide +kernel
theorem dX6_waterFor_23 : decode cX6_waterFor 23 = .ok (.iconst 0, 1) := by decide +kernel
theorem dX6_waterFor_24 : decode cX6_waterFor 24 = .ok (.istore_n 3, 1) := by decide +kernel
theorem dX6_waterFor_25 : decode cX6_waterFor 25 = .ok (.iload_n 3, 1) := by decide +kernel
theorem dX6_waterFor_26 : decode cX6_waterFor 26 = .ok (.bipush 9, 2) := by decide +kernel
theorem dX6_waterFor_28 : decode cX6_waterFor 28 = .ok (.if_icmp .gt 38, 3) := by decide +kernel
theorem dX6_waterFor_31 : decode cX6_waterFor 31 = .ok (.aload_n 0, 1) := by decide +kernel
theorem dX6_waterFor_32 : decode cX6_waterFor 32 = .ok (.aload_n 2, 1) := by decide +kernel
theorem dX6_waterFor_33 : decode cX6_waterFor 33 = .ok (.getfield 166, 3) := by decide +kernel
theorem dX6_waterFor_36 : decode cX6_waterFor 36 = .ok (.iload_n 3, 1) := by decide +kernel
theorem dX6_waterFor_37 : decode cX6_waterFor 37 = .ok (.invokevirtual 169, 3) := by decide +kernel
theorem dX6_waterFor_40 : decode cX6_waterFor 40 = .ok (.aload_n 0, 1) := by decide +kernel
theorem dX6_waterFor_41 : decode cX6_waterFor 41 = .ok (.getfield 23, 3) := by decide +kernel
theorem dX6_waterFor_44 : decode cX6_waterFor 44 = .ok (.aload_n 2, 1) := by decide +kernel
theorem dX6_waterFor_45 : decode cX6_waterFor 45 = .ok (.invokevirtual 173, 3) := by decide +kernel
theorem dX6_waterFor_48 : decode cX6_waterFor 48 = .ok (.aload_n 0, 1) := by decide +kernel
theorem dX6_waterFor_49 : decode cX6_waterFor 49 = .ok (.getfield 23, 3) := by decide +kernel
theorem dX6_waterFor_52 : decode cX6_waterFor 52 = .ok (.getfield 177, 3) := by decide +kernel
theorem dX6_waterFor_55 : decode cX6_waterFor 55 = .ok (.if_icmp .ge 5, 3) := by decide +kernel
theorem dX6_waterFor_58 : decode cX6_waterFor 58 = .ok (.iload_n 3, 1) := by decide +kernel
theorem dX6_waterFor_59 : decode cX6_waterFor 59 = .ok (.ireturn, 1) := by decide +kernel
theorem dX6_waterFor_60 : decode cX6_waterFor 60 = .ok (.iinc 3 1, 3) := by decide +kernel
theorem dX6_waterFor_63 : decode cX6_waterFor 63 = .ok (.goto (-38), 3) := by decide +kernel
theorem dX6_waterFor_66 : decode cX6_waterFor 66 = .ok (.bipush (-9), 2) := by decide +kernel
theorem dX6_waterFor_68 : decode cX6_waterFor 68 = .ok (.ireturn, 1) := by decide +kernel
set_option maxRecDepth 20000 in
theorem ggX6_limitFor_X2_houseAt : GoodIn wsX6_limitFor wsX2_houseAt := goodIn_r _ [11, 12, 13, 123, 124, 125, 126, 127, 128, 129, 130, 131, 132, 133, 134, 135, 136, 137] (by decide +kernel) (by decide +kernel)
set_option maxRecDepth 20000 in
theorem gX6_limitFor_X2_houseAt : GoodIn wsX6_limitFor (wsV RX6 88 RX2 yX2_houseAt wsX2_houseAt) := goodIn_app (goodIn_of _ (by decide +kernel)) ggX6_limitFor_X2_houseAt
set_option maxRecDepth 20000 in
theorem ggX6_limitFor_X2_copyFrom : GoodIn wsX6_limitFor wsX2_copyFrom := goodIn_r _ [17, 18, 12, 19, 20, 21, 22, 23, 24, 25, 26, 27, 28, 29, 13, 30, 31, 32, 33, 34, 35, 36, 37, 38, 39, 40, 41, 42, 43, 44, 45, 46, 47, 48, 49, 50, 51, 52, 53, 54, 55, 56, 57, 58, 59, 60, 123, 124, 125, 126, 127, 128, 129, 130, 131, 132, 133, 134, 135, 136, 137, 138, 139, 140, 141, 142, 143, 144, 118, 119, 120, 121, 122, 145, 146, 147] (by decide +kernel) (by decide +kernel)
set_option maxRecDepth 20000 in
theorem gX6_limitFor_X2_copyFrom : GoodIn wsX6_limitFor (wsV RX6 67 RX2 yX2_copyFrom wsX2_copyFrom) := goodIn_app (goodIn_of _ (by decide +kernel)) ggX6_limitFor_X2_copyFrom
set_option maxRecDepth 20000 in
theorem ggX6_limitFor_X2_changeLimit : GoodIn wsX6_limitFor wsX2_changeLimit := goodIn_r _ [64, 65, 66, 67, 68, 10, 69, 18, 29, 70, 71, 72, 73, 74, 75, 34, 76, 38, 138, 139, 140, 141, 142, 143, 144, 123, 124, 125, 126, 127, 128, 129, 130, 131, 132, 133, 134, 135, 136, 137] (by decide +kernel) (by decide +kernel)
set_option maxRecDepth 20000 in
theorem gX6_limitFor_X2_changeLimit : GoodIn wsX6_limitFor (wsV RX6 118 RX2 yX2_changeLimit wsX2_changeLimit) := goodIn_app (goodIn_of _ (by decide +kernel)) ggX6_limitFor_X2_changeLimit
set_option maxRecDepth 20000 in
theorem ggX6_limitFor_X2_raiseDust : GoodIn wsX6_limitFor wsX2_raiseDust := goodIn_r _ [80, 29, 23, 22, 81, 82, 83, 34, 84, 40, 85, 86, 87, 88, 89, 90, 91, 92, 36, 93, 94, 95, 96, 39, 37, 97, 98, 99, 123, 124, 125, 126, 127, 128, 129, 130, 131, 132, 133, 134, 135, 136, 137, 138, 139, 140, 141, 142, 143, 144] (by decide +kernel) (by decide +kernel)
set_option maxRecDepth 20000 in
theorem gX6_limitFor_X2_raiseDust : GoodIn wsX6_limitFor (wsV RX6 180 RX2 yX2_raiseDust wsX2_raiseDust) := goodIn_app (goodIn_of _ (by decide +kernel)) ggX6_limitFor_X2_raiseDust
set_option maxRecDepth 20000 in
theorem ggX6_limitFor_X2_dustFor : GoodIn wsX6_limitFor wsX2_dustFor := goodIn_r _ [103, 104, 105, 106, 107, 108, 10, 109, 18, 29, 110, 118, 119, 120, 121, 122, 123, 124, 125, 126, 127, 128, 129, 130, 131, 132, 133, 134, 135, 136, 137, 138, 139, 140, 141, 142, 143, 144] (by decide +kernel) (by decide +kernel)
set_option maxRecDepth 20000 in
theorem gX6_limitFor_X2_dustFor : GoodIn wsX6_limitFor (wsV RX6 173 RX2 yX2_dustFor wsX2_dustFor) := goodIn_app (goodIn_of _ (by decide +kernel)) ggX6_limitFor_X2_dustFor
theorem dX6_limitFor_0 : decode cX6_limitFor 0 = .ok (.aload_n 0, 1) := by decide +kernel
theorem dX6_limitFor_1 : decode cX6_limitFor 1 = .ok (.getfield 19, 3) := by decide +kernel
theorem dX6_limitFor_4 : decode cX6_limitFor 4 = .ok (.iload_n 1, 1) := by decide +kernel
theorem dX6_limitFor_5 : decode cX6_limitFor 5 = .ok (.invokevirtual 88, 3) := by decide +kernel
theorem dX6_limitFor_8 : decode cX6_limitFor 8 = .ok (.astore_n 2, 1) := by decide +kernel
theorem dX6_limitFor_9 : decode cX6_limitFor 9 = .ok (.aload_n 2, 1) := by decide +kernel
theorem dX6_limitFor_10 : decode cX6_limitFor 10 = .ok (.ifnonnull 13, 3) := by decide +kernel
theorem dX6_limitFor_13 : decode cX6_limitFor 13 = .ok (.new 149, 3) := by decide +kernel
theorem dX6_limitFor_16 : decode cX6_limitFor 16 = .ok (.dup, 1) := by decide +kernel
theorem dX6_limitFor_17 : decode cX6_limitFor 17 = .ok (.ldc 151, 2) := by decide +kernel
theorem dX6_limitFor_19 : decode cX6_limitFor 19 = .ok (.invokespecial 153, 3) := by decide +kernel
theorem dX6_limitFor_22 : decode cX6_limitFor 22 = .ok (.athrow, 1) := by decide +kernel
theorem dX6_limitFor_23 : decode cX6_limitFor 23 = .ok (.iconst 5, 1) := by decide +kernel
theorem dX6_limitFor_24 : decode cX6_limitFor 24 = .ok (.istore_n 3, 1) := by decide +kernel
theorem dX6_limitFor_25 : decode cX6_limitFor 25 = .ok (.iload_n 3, 1) := by decide +kernel
theorem dX6_limitFor_26 : decode cX6_limitFor 26 = .ok (.iconst 1, 1) := by decide +kernel
theorem dX6_limitFor_27 : decode cX6_limitFor 27 = .ok (.if_icmp .lt 62, 3) := by decide +kernel
theorem dX6_limitFor_30 : decode cX6_limitFor 30 = .ok (.aload_n 0, 1) := by decide +kernel
theorem dX6_limitFor_31 : decode cX6_limitFor 31 = .ok (.getfield 23, 3) := by decide +kernel
theorem dX6_limitFor_34 : decode cX6_limitFor 34 = .ok (.aload_n 0, 1) := by decide +kernel
theorem dX6_limitFor_35 : decode cX6_limitFor 35 = .ok (.getfield 19, 3) := by decide +kernel
theorem dX6_limitFor_38 : decode cX6_limitFor 38 = .ok (.invokevirtual 67, 3) := by decide +kernel
theorem dX6_limitFor_41 : decode cX6_limitFor 41 = .ok (.aload_n 0, 1) := by decide +kernel
theorem dX6_limitFor_42 : decode cX6_limitFor 42 = .ok (.getfield 23, 3) := by decide +kernel
theorem dX6_limitFor_45 : decode cX6_limitFor 45 = .ok (.aload_n 2, 1) := by decide +kernel
theorem dX6_limitFor_46 : decode cX6_limitFor 46 = .ok (.getfield 166, 3) := by decide +kernel
theorem dX6_limitFor_49 : decode cX6_limitFor 49 = .ok (.iload_n 3, 1) := by decide +kernel
theorem dX6_limitFor_50 : decode cX6_limitFor 50 = .ok (.invokevirtual 118, 3) := by decide +kernel
theorem dX6_limitFor_53 : decode cX6_limitFor 53 = .ok (.ifCond .lt 30, 3) := by decide +kernel
theorem dX6_limitFor_56 : decode cX6_limitFor 56 = .ok (.aload_n 0, 1) := by decide +kernel
theorem dX6_limitFor_57 : decode cX6_limitFor 57 = .ok (.getfield 23, 3) := by decide +kernel
theorem dX6_limitFor_60 : decode cX6_limitFor 60 = .ok (.invokevirtual 180, 3) := by decide +kernel
theorem dX6_limitFor_63 : decode cX6_limitFor 63 = .ok (.aload_n 0, 1) := by decide +kernel
theorem dX6_limitFor_64 : decode cX6_limitFor 64 = .ok (.getfield 23, 3) := by decide +kernel
theorem dX6_limitFor_67 : decode cX6_limitFor 67 = .ok (.aload_n 2, 1) := by decide +kernel
theorem dX6_limitFor_68 : decode cX6_limitFor 68 = .ok (.invokevirtual 173, 3) := by decide +kernel
theorem dX6_limitFor_71 : decode cX6_limitFor 71 = .ok (.aload_n 0, 1) := by decide +kernel
theorem dX6_limitFor_72 : decode cX6_limitFor 72 = .ok (.getfield 23, 3) := by decide +kernel
theorem dX6_limitFor_75 : decode cX6_limitFor 75 = .ok (.getfield 177, 3) := by decide +kernel
theorem dX6_limitFor_78 : decode cX6_limitFor 78 = .ok (.if_icmp .ge 5, 3) := by decide +kernel
theorem dX6_limitFor_81 : decode cX6_limitFor 81 = .ok (.iload_n 3, 1) := by decide +kernel
theorem dX6_limitFor_82 : decode cX6_limitFor 82 = .ok (.ireturn, 1) := by decide +kernel
theorem dX6_limitFor_83 : decode cX6_limitFor 83 = .ok (.iinc 3 (-1), 3) := by decide +kernel
theorem dX6_limitFor_86 : decode cX6_limitFor 86 = .ok (.goto (-61), 3) := by decide +kernel
theorem dX6_limitFor_89 : decode cX6_limitFor 89 = .ok (.bipush (-9), 2) := by decide +kernel
theorem dX6_limitFor_91 : decode cX6_limitFor 91 = .ok (.ireturn, 1) := by decide +kernel
set_option maxRecDepth 20000 in
theorem ggX6_bestSpray_X2_wagonAt : GoodIn wsX6_bestSpray wsX2_wagonAt := goodIn_r _ [12, 13, 14, 139, 140, 141, 142, 143, 144, 145, 146, 147, 148, 149, 150, 151, 152, 153] (by decide +kernel) (by decide +kernel)
set_option maxRecDepth 20000 in
theorem gX6_bestSpray_X2_wagonAt : GoodIn wsX6_bestSpray (wsV RX6 95 RX2 yX2_wagonAt wsX2_wagonAt) := goodIn_app (goodIn_of _ (by decide +kernel)) ggX6_bestSpray_X2_wagonAt
set_option maxRecDepth 20000 in
theorem ggX6_bestSpray_X6_within : GoodIn wsX6_bestSpray wsX6_within := goodIn_r _ [18] (by decide +kernel) (by decide +kernel)
set_option maxRecDepth 20000 in
theorem gX6_bestSpray_X6_within : GoodIn wsX6_bestSpray (va_wsS RX6 154 yX6_within wsX6_within) := goodIn_app (goodIn_of _ (by decide +kernel)) ggX6_bestSpray_X6_within
set_option maxRecDepth 20000 in
theorem ggX6_bestSpray_X5_couldSpray : GoodIn wsX6_bestSpray wsX5_couldSpray := goodIn_r _ [23, 24, 25, 26, 27, 28, 22, 29, 30, 31, 32, 33, 34, 154, 155, 156] (by decide +kernel) (by decide +kernel)
set_option maxRecDepth 20000 in
theorem gX6_bestSpray_X5_couldSpray : GoodIn wsX6_bestSpray (wsV RX6 187 RX5 yX5_couldSpray wsX5_couldSpray) := goodIn_app (goodIn_of _ (by decide +kernel)) ggX6_bestSpray_X5_couldSpray
set_option maxRecDepth 20000 in
theorem ggX6_bestSpray_X6_tryWater : GoodIn wsX6_bestSpray wsX6_tryWater := goodIn_r _ [38, 7, 5, 39, 40, 41, 11, 42, 43, 44, 13, 45, 46, 47, 48, 49, 50, 51, 52, 53, 54, 55, 14, 56, 57, 58, 59, 60, 61, 62, 63, 64, 65, 66, 67, 68, 69, 70, 71, 72, 73, 74, 75, 76, 77, 78, 79, 80, 22, 81, 30, 25, 24, 82, 83, 84, 85, 86, 87, 88, 89, 90, 91, 33, 92, 93, 94, 95, 96, 97, 98, 99, 100, 101, 102, 103, 104, 105, 106, 107, 108, 109, 110, 111, 132, 133, 134, 135, 136, 137, 138, 139, 140, 141, 142, 143, 144, 145, 146, 147, 148, 149, 150, 151, 152, 153, 157, 158, 159, 160, 161, 162, 163, 164, 165, 166, 167, 168, 154, 155, 156] (by decide +kernel) (by decide +kernel)
set_option maxRecDepth 20000 in
theorem gX6_bestSpray_X6_tryWater : GoodIn wsX6_bestSpray (wsV RX6 169 RX6 yX6_tryWater wsX6_tryWater) := goodIn_app (goodIn_of _ (by decide +kernel)) ggX6_bestSpray_X6_tryWater
set_option maxRecDepth 20000 in
theorem ggX6_bestSpray_X2_dustForAll : GoodIn wsX6_bestSpray wsX2_dustForAll := goodIn_r _ [115, 44, 116, 117, 118, 11, 119, 55, 120, 121, 122, 123, 124, 125, 126, 127, 128, 129, 43, 54, 130, 139, 140, 141, 142, 143, 144, 145, 146, 147, 148, 149, 150, 151, 152, 153, 164, 165, 166, 167, 168, 157, 158, 159, 160, 161, 162, 163] (by decide +kernel) (by decide +kernel)
set_option maxRecDepth 20000 in
theorem gX6_bestSpray_X2_dustForAll : GoodIn wsX6_bestSpray (wsV RX6 191 RX2 yX2_dustForAll wsX2_dustForAll) := goodIn_app (goodIn_of _ (by decide +kernel)) ggX6_bestSpray_X2_dustForAll
set_option maxRecDepth 20000 in
theorem ggX6_bestSpray_X5_wayTo : GoodIn wsX6_bestSpray wsX5_wayTo := goodIn_r _ [29, 30, 31, 32, 33, 34, 154, 155, 156] (by decide +kernel) (by decide +kernel)
set_option maxRecDepth 20000 in
theorem gX6_bestSpray_X5_wayTo : GoodIn wsX6_bestSpray (wsV RX6 194 RX5 yX5_wayTo wsX5_wayTo) := goodIn_app (goodIn_of _ (by decide +kernel)) ggX6_bestSpray_X5_wayTo
theorem dX6_bestSpray_0 : decode cX6_bestSpray 0 = .ok (.aload_n 0, 1) := by decide +kernel
theorem dX6_bestSpray_1 : decode cX6_bestSpray 1 = .ok (.getfield 19, 3) := by decide +kernel
theorem dX6_bestSpray_4 : decode cX6_bestSpray 4 = .ok (.iload_n 1, 1) := by decide +kernel
theorem dX6_bestSpray_5 : decode cX6_bestSpray 5 = .ok (.invokevirtual 95, 3) := by decide +kernel
theorem dX6_bestSpray_8 : decode cX6_bestSpray 8 = .ok (.astore_n 3, 1) := by decide +kernel
theorem dX6_bestSpray_9 : decode cX6_bestSpray 9 = .ok (.aload_n 3, 1) := by decide +kernel
theorem dX6_bestSpray_10 : decode cX6_bestSpray 10 = .ok (.ifnonnull 13, 3) := by decide +kernel
theorem dX6_bestSpray_13 : decode cX6_bestSpray 13 = .ok (.new 149, 3) := by decide +kernel
theorem dX6_bestSpray_16 : decode cX6_bestSpray 16 = .ok (.dup, 1) := by decide +kernel
theorem dX6_bestSpray_17 : decode cX6_bestSpray 17 = .ok (.ldc 183, 2) := by decide +kernel
theorem dX6_bestSpray_19 : decode cX6_bestSpray 19 = .ok (.invokespecial 153, 3) := by decide +kernel
theorem dX6_bestSpray_22 : decode cX6_bestSpray 22 = .ok (.athrow, 1) := by decide +kernel
theorem dX6_bestSpray_23 : decode cX6_bestSpray 23 = .ok (.iload_n 2, 1) := by decide +kernel
theorem dX6_bestSpray_24 : decode cX6_bestSpray 24 = .ok (.iconst 1, 1) := by decide +kernel
theorem dX6_bestSpray_25 : decode cX6_bestSpray 25 = .ok (.bipush 9, 2) := by decide +kernel
theorem dX6_bestSpray_27 : decode cX6_bestSpray 27 = .ok (.invokestatic 154, 3) := by decide +kernel
theorem dX6_bestSpray_30 : decode cX6_bestSpray 30 = .ok (.ifCond .ne 13, 3) := by decide +kernel
theorem dX6_bestSpray_33 : decode cX6_bestSpray 33 = .ok (.new 158, 3) := by decide +kernel
theorem dX6_bestSpray_36 : decode cX6_bestSpray 36 = .ok (.dup, 1) := by decide +kernel
theorem dX6_bestSpray_37 : decode cX6_bestSpray 37 = .ok (.ldc 185, 2) := by decide +kernel
theorem dX6_bestSpray_39 : decode cX6_bestSpray 39 = .ok (.invokespecial 162, 3) := by decide +kernel
theorem dX6_bestSpray_42 : decode cX6_bestSpray 42 = .ok (.athrow, 1) := by decide +kernel
theorem dX6_bestSpray_43 : decode cX6_bestSpray 43 = .ok (.bipush (-9), 2) := by decide +kernel
theorem dX6_bestSpray_45 : decode cX6_bestSpray 45 = .ok (.istore 4, 2) := by decide +kernel
theorem dX6_bestSpray_47 : decode cX6_bestSpray 47 = .ok (.iconst 0, 1) := by decide +kernel
theorem dX6_bestSpray_48 : decode cX6_bestSpray 48 = .ok (.istore 5, 2) := by decide +kernel
theorem dX6_bestSpray_50 : decode cX6_bestSpray 50 = .ok (.iconst 0, 1) := by decide +kernel
theorem dX6_bestSpray_51 : decode cX6_bestSpray 51 = .ok (.istore 6, 2) := by decide +kernel
theorem dX6_bestSpray_53 : decode cX6_bestSpray 53 = .ok (.iload 6, 2) := by decide +kernel
theorem dX6_bestSpray_55 : decode cX6_bestSpray 55 = .ok (.aload_n 0, 1) := by decide +kernel
theorem dX6_bestSpray_56 : decode cX6_bestSpray 56 = .ok (.getfield 19, 3) := by decide +kernel
theorem dX6_bestSpray_59 : decode cX6_bestSpray 59 = .ok (.getfield 74, 3) := by decide +kernel
theorem dX6_bestSpray_62 : decode cX6_bestSpray 62 = .ok (.if_icmp .ge 98, 3) := by decide +kernel
theorem dX6_bestSpray_65 : decode cX6_bestSpray 65 = .ok (.aload_n 3, 1) := by decide +kernel
theorem dX6_bestSpray_66 : decode cX6_bestSpray 66 = .ok (.iload 6, 2) := by decide +kernel
theorem dX6_bestSpray_68 : decode cX6_bestSpray 68 = .ok (.iload_n 2, 1) := by decide +kernel
theorem dX6_bestSpray_69 : decode cX6_bestSpray 69 = .ok (.invokevirtual 187, 3) := by decide +kernel
theorem dX6_bestSpray_72 : decode cX6_bestSpray 72 = .ok (.ifCond .eq 82, 3) := by decide +kernel
theorem dX6_bestSpray_75 : decode cX6_bestSpray 75 = .ok (.aload_n 0, 1) := by decide +kernel
theorem dX6_bestSpray_76 : decode cX6_bestSpray 76 = .ok (.iload 6, 2) := by decide +kernel
theorem dX6_bestSpray_78 : decode cX6_bestSpray 78 = .ok (.iload_n 2, 1) := by decide +kernel
theorem dX6_bestSpray_79 : decode cX6_bestSpray 79 = .ok (.invokevirtual 169, 3) := by decide +kernel
theorem dX6_bestSpray_82 : decode cX6_bestSpray 82 = .ok (.aload_n 0, 1) := by decide +kernel
theorem dX6_bestSpray_83 : decode cX6_bestSpray 83 = .ok (.getfield 23, 3) := by decide +kernel
theorem dX6_bestSpray_86 : decode cX6_bestSpray 86 = .ok (.invokevirtual 191, 3) := by decide +kernel
theorem dX6_bestSpray_89 : decode cX6_bestSpray 89 = .ok (.istore 7, 2) := by decide +kernel
theorem dX6_bestSpray_91 : decode cX6_bestSpray 91 = .ok (.iload 4, 2) := by decide +kernel
theorem dX6_bestSpray_93 : decode cX6_bestSpray 93 = .ok (.bipush (-9), 2) := by decide +kernel
theorem dX6_bestSpray_95 : decode cX6_bestSpray 95 = .ok (.if_icmp .eq 22, 3) := by decide +kernel
theorem dX6_bestSpray_98 : decode cX6_bestSpray 98 = .ok (.aload_n 3, 1) := by decide +kernel
theorem dX6_bestSpray_99 : decode cX6_bestSpray 99 = .ok (.iload 6, 2) := by decide +kernel
theorem dX6_bestSpray_101 : decode cX6_bestSpray 101 = .ok (.invokevirtual 194, 3) := by decide +kernel
theorem dX6_bestSpray_104 : decode cX6_bestSpray 104 = .ok (.aload_n 3, 1) := by decide +kernel
theorem dX6_bestSpray_105 : decode cX6_bestSpray 105 = .ok (.iload 4, 2) := by decide +kernel
theorem dX6_bestSpray_107 : decode cX6_bestSpray 107 = .ok (.invokevirtual 194, 3) := by decide +kernel
theorem dX6_bestSpray_110 : decode cX6_bestSpray 110 = .ok (.if_icmp .ge 7, 3) := by decide +kernel
theorem dX6_bestSpray_113 : decode cX6_bestSpray 113 = .ok (.iconst 1, 1) := by decide +kernel
theorem dX6_bestSpray_114 : decode cX6_bestSpray 114 = .ok (.goto 4, 3) := by decide +kernel
theorem dX6_bestSpray_117 : decode cX6_bestSpray 117 = .ok (.iconst 0, 1) := by decide +kernel
theorem dX6_bestSpray_118 : decode cX6_bestSpray 118 = .ok (.istore 8, 2) := by decide +kernel
theorem dX6_bestSpray_120 : decode cX6_bestSpray 120 = .ok (.iload 4, 2) := by decide +kernel
theorem dX6_bestSpray_122 : decode cX6_bestSpray 122 = .ok (.bipush (-9), 2) := by decide +kernel
theorem dX6_bestSpray_124 : decode cX6_bestSpray 124 = .ok (.if_icmp .eq 22, 3) := by decide +kernel
theorem dX6_bestSpray_127 : decode cX6_bestSpray 127 = .ok (.iload 7, 2) := by decide +kernel
theorem dX6_bestSpray_129 : decode cX6_bestSpray 129 = .ok (.iload 5, 2) := by decide +kernel
theorem dX6_bestSpray_131 : decode cX6_bestSpray 131 = .ok (.if_icmp .lt 15, 3) := by decide +kernel
theorem dX6_bestSpray_134 : decode cX6_bestSpray 134 = .ok (.iload 7, 2) := by decide +kernel
theorem dX6_bestSpray_136 : decode cX6_bestSpray 136 = .ok (.iload 5, 2) := by decide +kernel
theorem dX6_bestSpray_138 : decode cX6_bestSpray 138 = .ok (.if_icmp .ne 16, 3) := by decide +kernel
theorem dX6_bestSpray_141 : decode cX6_bestSpray 141 = .ok (.iload 8, 2) := by decide +kernel
theorem dX6_bestSpray_143 : decode cX6_bestSpray 143 = .ok (.ifCond .eq 11, 3) := by decide +kernel
theorem dX6_bestSpray_146 : decode cX6_bestSpray 146 = .ok (.iload 6, 2) := by decide +kernel
theorem dX6_bestSpray_148 : decode cX6_bestSpray 148 = .ok (.istore 4, 2) := by decide +kernel
theorem dX6_bestSpray_150 : decode cX6_bestSpray 150 = .ok (.iload 7, 2) := by decide +kernel
theorem dX6_bestSpray_152 : decode cX6_bestSpray 152 = .ok (.istore 5, 2) := by decide +kernel
theorem dX6_bestSpray_154 : decode cX6_bestSpray 154 = .ok (.iinc 6 1, 3) := by decide +kernel
theorem dX6_bestSpray_157 : decode cX6_bestSpray 157 = .ok (.goto (-104), 3) := by decide +kernel
theorem dX6_bestSpray_160 : decode cX6_bestSpray 160 = .ok (.iload 4, 2) := by decide +kernel
theorem dX6_bestSpray_162 : decode cX6_bestSpray 162 = .ok (.ireturn, 1) := by decide +kernel
set_option maxRecDepth 20000 in
theorem ggX6_complainsIn_X2_copyFrom : GoodIn wsX6_complainsIn wsX2_copyFrom := goodIn_r _ [10, 11, 12, 13, 14, 15, 16, 17, 18, 19, 20, 21, 22, 23, 24, 25, 26, 27, 28, 29, 30, 31, 32, 33, 34, 35, 36, 37, 38, 39, 40, 41, 42, 43, 44, 45, 46, 47, 48, 49, 50, 51, 52, 53, 54, 55, 139, 140, 141, 142, 143, 144, 145, 146, 147, 148, 149, 150, 151, 152, 153, 154, 155, 156, 157, 158, 159, 160, 134, 135, 136, 137, 138, 161, 162, 163] (by decide +kernel) (by decide +kernel)
set_option maxRecDepth 20000 in
theorem gX6_complainsIn_X2_copyFrom : GoodIn wsX6_complainsIn (wsV RX6 67 RX2 yX2_copyFrom wsX2_copyFrom) := goodIn_app (goodIn_of _ (by decide +kernel)) ggX6_complainsIn_X2_copyFrom
set_option maxRecDepth 20000 in
theorem ggX6_complainsIn_X2_houseAt : GoodIn wsX6_complainsIn wsX2_houseAt := goodIn_r _ [59, 12, 24, 139, 140, 141, 142, 143, 144, 145, 146, 147, 148, 149, 150, 151, 152, 153] (by decide +kernel) (by decide +kernel)
set_option maxRecDepth 20000 in
theorem gX6_complainsIn_X2_houseAt : GoodIn wsX6_complainsIn (wsV RX6 88 RX2 yX2_houseAt wsX2_houseAt) := goodIn_app (goodIn_of _ (by decide +kernel)) ggX6_complainsIn_X2_houseAt
set_option maxRecDepth 20000 in
theorem ggX6_complainsIn_X2_goHour : GoodIn wsX6_complainsIn wsX2_goHour := goodIn_r _ [63, 23, 64, 65, 66, 9, 67, 17, 16, 68, 69, 70, 29, 71, 35, 72, 73, 74, 75, 76, 77, 78, 79, 31, 80, 81, 82, 83, 34, 32, 84, 85, 86, 87, 88, 89, 90, 12, 91, 92, 93, 18, 21, 94, 95, 57, 58, 59, 24, 96, 97, 98, 99, 11, 100, 101, 102, 103, 104, 105, 106, 107, 108, 109, 110, 111, 112, 113, 37, 33, 114, 115, 116, 117, 118, 119, 120, 121, 122, 123, 124, 125, 15, 14, 20, 25, 126, 139, 140, 141, 142, 143, 144, 145, 146, 147, 148, 149, 150, 151, 152, 153, 154, 155, 156, 157, 158, 159, 160, 134, 135, 136, 137, 138, 161, 162, 163] (by decide +kernel) (by decide +kernel)
set_option maxRecDepth 20000 in
theorem gX6_complainsIn_X2_goHour : GoodIn wsX6_complainsIn (wsV RX6 200 RX2 yX2_goHour wsX2_goHour) := goodIn_app (goodIn_of _ (by decide +kernel)) ggX6_complainsIn_X2_goHour
theorem dX6_complainsIn_0 : decode cX6_complainsIn 0 = .ok (.aload_n 0, 1) := by decide +kernel
theorem dX6_complainsIn_1 : decode cX6_complainsIn 1 = .ok (.getfield 23, 3) := by decide +kernel
theorem dX6_complainsIn_4 : decode cX6_complainsIn 4 = .ok (.aload_n 0, 1) := by decide +kernel
theorem dX6_complainsIn_5 : decode cX6_complainsIn 5 = .ok (.getfield 19, 3) := by decide +kernel
theorem dX6_complainsIn_8 : decode cX6_complainsIn 8 = .ok (.invokevirtual 67, 3) := by decide +kernel
theorem dX6_complainsIn_11 : decode cX6_complainsIn 11 = .ok (.aload_n 0, 1) := by decide +kernel
theorem dX6_complainsIn_12 : decode cX6_complainsIn 12 = .ok (.getfield 23, 3) := by decide +kernel
theorem dX6_complainsIn_15 : decode cX6_complainsIn 15 = .ok (.iload_n 1, 1) := by decide +kernel
theorem dX6_complainsIn_16 : decode cX6_complainsIn 16 = .ok (.invokevirtual 88, 3) := by decide +kernel
theorem dX6_complainsIn_19 : decode cX6_complainsIn 19 = .ok (.astore_n 2, 1) := by decide +kernel
theorem dX6_complainsIn_20 : decode cX6_complainsIn 20 = .ok (.aload_n 2, 1) := by decide +kernel
theorem dX6_complainsIn_21 : decode cX6_complainsIn 21 = .ok (.ifnonnull 13, 3) := by decide +kernel
theorem dX6_complainsIn_24 : decode cX6_complainsIn 24 = .ok (.new 149, 3) := by decide +kernel
theorem dX6_complainsIn_27 : decode cX6_complainsIn 27 = .ok (.dup, 1) := by decide +kernel
theorem dX6_complainsIn_28 : decode cX6_complainsIn 28 = .ok (.ldc 151, 2) := by decide +kernel
theorem dX6_complainsIn_30 : decode cX6_complainsIn 30 = .ok (.invokespecial 153, 3) := by decide +kernel
theorem dX6_complainsIn_33 : decode cX6_complainsIn 33 = .ok (.athrow, 1) := by decide +kernel
theorem dX6_complainsIn_34 : decode cX6_complainsIn 34 = .ok (.aload_n 2, 1) := by decide +kernel
theorem dX6_complainsIn_35 : decode cX6_complainsIn 35 = .ok (.getfield 197, 3) := by decide +kernel
theorem dX6_complainsIn_38 : decode cX6_complainsIn 38 = .ok (.istore_n 3, 1) := by decide +kernel
theorem dX6_complainsIn_39 : decode cX6_complainsIn 39 = .ok (.iconst 1, 1) := by decide +kernel
theorem dX6_complainsIn_40 : decode cX6_complainsIn 40 = .ok (.istore 4, 2) := by decide +kernel
theorem dX6_complainsIn_42 : decode cX6_complainsIn 42 = .ok (.iload 4, 2) := by decide +kernel
theorem dX6_complainsIn_44 : decode cX6_complainsIn 44 = .ok (.bipush 50, 2) := by decide +kernel
theorem dX6_complainsIn_46 : decode cX6_complainsIn 46 = .ok (.if_icmp .gt 27, 3) := by decide +kernel
theorem dX6_complainsIn_49 : decode cX6_complainsIn 49 = .ok (.aload_n 0, 1) := by decide +kernel
theorem dX6_complainsIn_50 : decode cX6_complainsIn 50 = .ok (.getfield 23, 3) := by decide +kernel
theorem dX6_complainsIn_53 : decode cX6_complainsIn 53 = .ok (.invokevirtual 200, 3) := by decide +kernel
theorem dX6_complainsIn_56 : decode cX6_complainsIn 56 = .ok (.aload_n 2, 1) := by decide +kernel
theorem dX6_complainsIn_57 : decode cX6_complainsIn 57 = .ok (.getfield 197, 3) := by decide +kernel
theorem dX6_complainsIn_60 : decode cX6_complainsIn 60 = .ok (.iload_n 3, 1) := by decide +kernel
theorem dX6_complainsIn_61 : decode cX6_complainsIn 61 = .ok (.if_icmp .eq 6, 3) := by decide +kernel
theorem dX6_complainsIn_64 : decode cX6_complainsIn 64 = .ok (.iload 4, 2) := by decide +kernel
theorem dX6_complainsIn_66 : decode cX6_complainsIn 66 = .ok (.ireturn, 1) := by decide +kernel
theorem dX6_complainsIn_67 : decode cX6_complainsIn 67 = .ok (.iinc 4 1, 3) := by decide +kernel
theorem dX6_complainsIn_70 : decode cX6_complainsIn 70 = .ok (.goto (-28), 3) := by decide +kernel
theorem dX6_complainsIn_73 : decode cX6_complainsIn 73 = .ok (.bipush (-9), 2) := by decide +kernel
theorem dX6_complainsIn_75 : decode cX6_complainsIn 75 = .ok (.ireturn, 1) := by decide +kernel
set_option maxRecDepth 20000 in
theorem ggX6_runScript_X6_within : GoodIn wsX6_runScript wsX6_within := goodIn_r _ [9] (by decide +kernel) (by decide +kernel)
set_option maxRecDepth 20000 in
theorem gX6_runScript_X6_within : GoodIn wsX6_runScript (va_wsS RX6 154 yX6_within wsX6_within) := goodIn_app (goodIn_of _ (by decide +kernel)) ggX6_runScript_X6_within
set_option maxRecDepth 20000 in
theorem ggX6_runScript_X6_splitScript : GoodIn wsX6_runScript wsX6_splitScript := goodIn_r _ [13, 5, 14, 211, 212, 213, 214, 215, 216, 217] (by decide +kernel) (by decide +kernel)
set_option maxRecDepth 20000 in
theorem gX6_runScript_X6_splitScript : GoodIn wsX6_runScript (wsV RX6 206 RX6 yX6_splitScript wsX6_splitScript) := goodIn_app (goodIn_of _ (by decide +kernel)) ggX6_runScript_X6_splitScript
set_option maxRecDepth 20000 in
theorem ggX6_runScript_X2_copyFrom : GoodIn wsX6_runScript wsX2_copyFrom := goodIn_r _ [19, 20, 21, 22, 23, 24, 25, 26, 27, 28, 29, 30, 31, 32, 33, 34, 35, 36, 37, 38, 39, 40, 41, 42, 43, 44, 45, 46, 47, 48, 49, 50, 51, 52, 53, 54, 55, 56, 57, 58, 59, 60, 61, 62, 63, 64, 218, 219, 220, 221, 222, 223, 224, 225, 226, 227, 228, 229, 230, 231, 232, 233, 234, 235, 236, 237, 238, 239, 240, 241, 242, 243, 244, 245, 246, 247] (by decide +kernel) (by decide +kernel)
set_option maxRecDepth 20000 in
theorem gX6_runScript_X2_copyFrom : GoodIn wsX6_runScript (wsV RX6 67 RX2 yX2_copyFrom wsX2_copyFrom) := goodIn_app (goodIn_of _ (by decide +kernel)) ggX6_runScript_X2_copyFrom
set_option maxRecDepth 20000 in
theorem ggX6_runScript_X2_obeys : GoodIn wsX6_runScript wsX2_obeys := goodIn_r _ [68, 69, 70, 71, 18, 72, 30, 7, 8, 9, 73, 74, 75, 76, 32, 77, 78, 79, 80, 26, 25, 81, 82, 83, 38, 84, 44, 85, 86, 87, 88, 89, 90, 91, 92, 40, 93, 94, 95, 96, 43, 41, 97, 98, 99, 100, 101, 102, 103, 21, 104, 105, 106, 27, 107, 108, 109, 110, 111, 33, 112, 113, 114, 115, 20, 116, 117, 118, 119, 120, 121, 122, 123, 124, 125, 126, 127, 128, 129, 46, 42, 130, 131, 132, 133, 134, 135, 136, 137, 138, 139, 140, 141, 24, 23, 29, 34, 142, 143, 144, 145, 146, 147, 148, 149, 150, 151, 22, 152, 153, 154, 60, 155, 62, 156, 157, 158, 159, 160, 161, 162, 163, 31, 164, 165, 166, 167, 168, 64, 63, 169, 170, 171, 172, 173, 174, 175, 176, 177, 28, 178, 179, 180, 181, 182, 183, 184, 185, 186, 187, 188, 189, 190, 191, 192, 193, 194, 195, 196, 197, 198, 199, 200, 201, 202, 203, 204, 205, 206, 207, 208, 209, 210, 218, 219, 220, 221, 222, 223, 224, 225, 226, 227, 228, 229, 230, 231, 232, 233, 234, 235, 236, 237, 238, 239, 240, 241, 242, 243, 244, 245, 246, 247] (by decide +kernel) (by decide +kernel)
set_option maxRecDepth 20000 in
theorem gX6_runScript_X2_obeys : GoodIn wsX6_runScript (wsV RX6 212 RX2 yX2_obeys wsX2_obeys) := goodIn_app (goodIn_of _ (by decide +kernel)) ggX6_runScript_X2_obeys
theorem dX6_runScript_0 : decode cX6_runScript 0 = .ok (.iload_n 1, 1) := by decide +kernel
theorem dX6_runScript_1 : decode cX6_runScript 1 = .ok (.iconst 1, 1) := by decide +kernel
theorem dX6_runScript_2 : decode cX6_runScript 2 = .ok (.iconst 4, 1) := by decide +kernel
theorem dX6_runScript_3 : decode cX6_runScript 3 = .ok (.invokestatic 154, 3) := by decide +kernel
theorem dX6_runScript_6 : decode cX6_runScript 6 = .ok (.ifCond .eq 18, 3) := by decide +kernel
theorem dX6_runScript_9 : decode cX6_runScript 9 = .ok (.lload_n 2, 1) := by decide +kernel
theorem dX6_runScript_10 : decode cX6_runScript 10 = .ok (.lconst 0, 1) := by decide +kernel
theorem dX6_runScript_11 : decode cX6_runScript 11 = .ok (.lcmp, 1) := by decide +kernel
theorem dX6_runScript_12 : decode cX6_runScript 12 = .ok (.ifCond .lt 12, 3) := by decide +kernel
theorem dX6_runScript_15 : decode cX6_runScript 15 = .ok (.aload_n 0, 1) := by decide +kernel
theorem dX6_runScript_16 : decode cX6_runScript 16 = .ok (.iload_n 1, 1) := by decide +kernel
theorem dX6_runScript_17 : decode cX6_runScript 17 = .ok (.lload_n 2, 1) := by decide +kernel
theorem dX6_runScript_18 : decode cX6_runScript 18 = .ok (.invokevirtual 206, 3) := by decide +kernel
theorem dX6_runScript_21 : decode cX6_runScript 21 = .ok (.ifCond .ne 13, 3) := by decide +kernel
theorem dX6_runScript_24 : decode cX6_runScript 24 = .ok (.new 158, 3) := by decide +kernel
theorem dX6_runScript_27 : decode cX6_runScript 27 = .ok (.dup, 1) := by decide +kernel
theorem dX6_runScript_28 : decode cX6_runScript 28 = .ok (.ldc 210, 2) := by decide +kernel
theorem dX6_runScript_30 : decode cX6_runScript 30 = .ok (.invokespecial 162, 3) := by decide +kernel
theorem dX6_runScript_33 : decode cX6_runScript 33 = .ok (.athrow, 1) := by decide +kernel
theorem dX6_runScript_34 : decode cX6_runScript 34 = .ok (.aload_n 0, 1) := by decide +kernel
theorem dX6_runScript_35 : decode cX6_runScript 35 = .ok (.getfield 23, 3) := by decide +kernel
theorem dX6_runScript_38 : decode cX6_runScript 38 = .ok (.aload_n 0, 1) := by decide +kernel
theorem dX6_runScript_39 : decode cX6_runScript 39 = .ok (.getfield 19, 3) := by decide +kernel
theorem dX6_runScript_42 : decode cX6_runScript 42 = .ok (.invokevirtual 67, 3) := by decide +kernel
theorem dX6_runScript_45 : decode cX6_runScript 45 = .ok (.iconst 0, 1) := by decide +kernel
theorem dX6_runScript_46 : decode cX6_runScript 46 = .ok (.istore 4, 2) := by decide +kernel
theorem dX6_runScript_48 : decode cX6_runScript 48 = .ok (.iload 4, 2) := by decide +kernel
theorem dX6_runScript_50 : decode cX6_runScript 50 = .ok (.iload_n 1, 1) := by decide +kernel
theorem dX6_runScript_51 : decode cX6_runScript 51 = .ok (.if_icmp .ge 35, 3) := by decide +kernel
theorem dX6_runScript_54 : decode cX6_runScript 54 = .ok (.iload 4, 2) := by decide +kernel
theorem dX6_runScript_56 : decode cX6_runScript 56 = .ok (.iconst 4, 1) := by decide +kernel
theorem dX6_runScript_57 : decode cX6_runScript 57 = .ok (.if_icmp .ge 29, 3) := by decide +kernel
theorem dX6_runScript_60 : decode cX6_runScript 60 = .ok (.aload_n 0, 1) := by decide +kernel
theorem dX6_runScript_61 : decode cX6_runScript 61 = .ok (.getfield 23, 3) := by decide +kernel
theorem dX6_runScript_64 : decode cX6_runScript 64 = .ok (.aload_n 0, 1) := by decide +kernel
theorem dX6_runScript_65 : decode cX6_runScript 65 = .ok (.getfield 41, 3) := by decide +kernel
theorem dX6_runScript_68 : decode cX6_runScript 68 = .ok (.iload 4, 2) := by decide +kernel
theorem dX6_runScript_70 : decode cX6_runScript 70 = .ok (.iaload, 1) := by decide +kernel
theorem dX6_runScript_71 : decode cX6_runScript 71 = .ok (.invokevirtual 212, 3) := by decide +kernel
theorem dX6_runScript_74 : decode cX6_runScript 74 = .ok (.ifCond .ne 6, 3) := by decide +kernel
theorem dX6_runScript_77 : decode cX6_runScript 77 = .ok (.iload 4, 2) := by decide +kernel
theorem dX6_runScript_79 : decode cX6_runScript 79 = .ok (.ireturn, 1) := by decide +kernel
theorem dX6_runScript_80 : decode cX6_runScript 80 = .ok (.iinc 4 1, 3) := by decide +kernel
theorem dX6_runScript_83 : decode cX6_runScript 83 = .ok (.goto (-35), 3) := by decide +kernel
theorem dX6_runScript_86 : decode cX6_runScript 86 = .ok (.bipush (-9), 2) := by decide +kernel
theorem dX6_runScript_88 : decode cX6_runScript 88 = .ok (.ireturn, 1) := by decide +kernel
set_option maxRecDepth 20000 in
theorem ggX6_simulate_X6_within : GoodIn wsX6_simulate wsX6_within := goodIn_r _ [16] (by decide +kernel) (by decide +kernel)
set_option maxRecDepth 20000 in
theorem gX6_simulate_X6_within : GoodIn wsX6_simulate (va_wsS RX6 154 yX6_within wsX6_within) := goodIn_app (goodIn_of _ (by decide +kernel)) ggX6_simulate_X6_within
set_option maxRecDepth 20000 in
theorem ggX6_simulate_X2_copyFrom : GoodIn wsX6_simulate wsX2_copyFrom := goodIn_r _ [21, 22, 23, 24, 25, 26, 27, 28, 29, 30, 31, 32, 33, 34, 35, 36, 37, 38, 39, 40, 41, 42, 43, 44, 45, 46, 47, 48, 49, 50, 51, 52, 53, 54, 55, 56, 57, 58, 59, 60, 61, 62, 63, 64, 65, 66, 183, 184, 185, 186, 187, 188, 189, 190, 191, 192, 193, 194, 195, 196, 197, 198, 199, 200, 201, 202, 203, 204, 178, 179, 180, 181, 182, 205, 206, 207] (by decide +kernel) (by decide +kernel)
set_option maxRecDepth 20000 in
theorem gX6_simulate_X2_copyFrom : GoodIn wsX6_simulate (wsV RX6 67 RX2 yX2_copyFrom wsX2_copyFrom) := goodIn_app (goodIn_of _ (by decide +kernel)) ggX6_simulate_X2_copyFrom
set_option maxRecDepth 20000 in
theorem ggX6_simulate_X2_houseAt : GoodIn wsX6_simulate wsX2_houseAt := goodIn_r _ [70, 23, 35, 183, 184, 185, 186, 187, 188, 189, 190, 191, 192, 193, 194, 195, 196, 197] (by decide +kernel) (by decide +kernel)
set_option maxRecDepth 20000 in
theorem gX6_simulate_X2_houseAt : GoodIn wsX6_simulate (wsV RX6 88 RX2 yX2_houseAt wsX2_houseAt) := goodIn_app (goodIn_of _ (by decide +kernel)) ggX6_simulate_X2_houseAt
set_option maxRecDepth 20000 in
theorem ggX6_simulate_X2_meetChance : GoodIn wsX6_simulate wsX2_meetChance := goodIn_r _ [74, 27, 28, 24, 22, 75, 76, 10, 11, 12, 77, 78, 79, 20, 80, 36, 81, 82, 83, 84, 85, 86, 87, 88, 89, 90, 34, 91, 92, 93, 62, 94, 64, 95, 96, 97, 98, 99, 100, 101, 33, 102, 14, 15, 16, 103, 104, 105, 106, 66, 65, 107, 108, 109, 110, 40, 111, 46, 112, 183, 184, 185, 186, 187, 188, 189, 190, 191, 192, 193, 194, 195, 196, 197, 205, 206, 207, 198, 199, 200, 201, 202, 203, 204] (by decide +kernel) (by decide +kernel)
set_option maxRecDepth 20000 in
theorem gX6_simulate_X2_meetChance : GoodIn wsX6_simulate (wsV RX6 220 RX2 yX2_meetChance wsX2_meetChance) := goodIn_app (goodIn_of _ (by decide +kernel)) ggX6_simulate_X2_meetChance
set_option maxRecDepth 20000 in
theorem ggX6_simulate_X2_goHour : GoodIn wsX6_simulate wsX2_goHour := goodIn_r _ [116, 34, 117, 118, 119, 20, 120, 28, 27, 121, 122, 123, 40, 124, 46, 125, 126, 11, 127, 128, 129, 130, 131, 42, 132, 133, 134, 135, 45, 43, 112, 10, 12, 136, 137, 138, 139, 23, 140, 141, 142, 29, 32, 143, 144, 68, 69, 70, 35, 87, 88, 89, 90, 22, 145, 146, 147, 148, 149, 150, 151, 152, 153, 154, 155, 156, 157, 158, 48, 44, 159, 160, 161, 162, 163, 164, 165, 166, 167, 168, 169, 170, 26, 25, 31, 36, 85, 183, 184, 185, 186, 187, 188, 189, 190, 191, 192, 193, 194, 195, 196, 197, 198, 199, 200, 201, 202, 203, 204, 178, 179, 180, 181, 182, 205, 206, 207] (by decide +kernel) (by decide +kernel)
set_option maxRecDepth 20000 in
theorem gX6_simulate_X2_goHour : GoodIn wsX6_simulate (wsV RX6 200 RX2 yX2_goHour wsX2_goHour) := goodIn_app (goodIn_of _ (by decide +kernel)) ggX6_simulate_X2_goHour
theorem dX6_simulate_0 : decode cX6_simulate 0 = .ok (.iload_n 3, 1) := by decide +kernel
theorem dX6_simulate_1 : decode cX6_simulate 1 = .ok (.iconst 1, 1) := by decide +kernel
theorem dX6_simulate_2 : decode cX6_simulate 2 = .ok (.bipush 99, 2) := by decide +kernel
theorem dX6_simulate_4 : decode cX6_simulate 4 = .ok (.invokestatic 154, 3) := by decide +kernel
theorem dX6_simulate_7 : decode cX6_simulate 7 = .ok (.ifCond .ne 13, 3) := by decide +kernel
theorem dX6_simulate_10 : decode cX6_simulate 10 = .ok (.new 158, 3) := by decide +kernel
theorem dX6_simulate_13 : decode cX6_simulate 13 = .ok (.dup, 1) := by decide +kernel
theorem dX6_simulate_14 : decode cX6_simulate 14 = .ok (.ldc 160, 2) := by decide +kernel
theorem dX6_simulate_16 : decode cX6_simulate 16 = .ok (.invokespecial 162, 3) := by decide +kernel
theorem dX6_simulate_19 : decode cX6_simulate 19 = .ok (.athrow, 1) := by decide +kernel
theorem dX6_simulate_20 : decode cX6_simulate 20 = .ok (.aload_n 0, 1) := by decide +kernel
theorem dX6_simulate_21 : decode cX6_simulate 21 = .ok (.getfield 23, 3) := by decide +kernel
theorem dX6_simulate_24 : decode cX6_simulate 24 = .ok (.aload_n 0, 1) := by decide +kernel
theorem dX6_simulate_25 : decode cX6_simulate 25 = .ok (.getfield 19, 3) := by decide +kernel
theorem dX6_simulate_28 : decode cX6_simulate 28 = .ok (.invokevirtual 67, 3) := by decide +kernel
theorem dX6_simulate_31 : decode cX6_simulate 31 = .ok (.aload_n 0, 1) := by decide +kernel
theorem dX6_simulate_32 : decode cX6_simulate 32 = .ok (.getfield 23, 3) := by decide +kernel
theorem dX6_simulate_35 : decode cX6_simulate 35 = .ok (.iconst 0, 1) := by decide +kernel
theorem dX6_simulate_36 : decode cX6_simulate 36 = .ok (.invokevirtual 88, 3) := by decide +kernel
theorem dX6_simulate_39 : decode cX6_simulate 39 = .ok (.astore 4, 2) := by decide +kernel
theorem dX6_simulate_41 : decode cX6_simulate 41 = .ok (.lload_n 1, 1) := by decide +kernel
theorem dX6_simulate_42 : decode cX6_simulate 42 = .ok (.lstore 5, 2) := by decide +kernel
theorem dX6_simulate_44 : decode cX6_simulate 44 = .ok (.iconst 0, 1) := by decide +kernel
theorem dX6_simulate_45 : decode cX6_simulate 45 = .ok (.istore 7, 2) := by decide +kernel
theorem dX6_simulate_47 : decode cX6_simulate 47 = .ok (.iconst 0, 1) := by decide +kernel
theorem dX6_simulate_48 : decode cX6_simulate 48 = .ok (.istore 8, 2) := by decide +kernel
theorem dX6_simulate_50 : decode cX6_simulate 50 = .ok (.iload 8, 2) := by decide +kernel
theorem dX6_simulate_52 : decode cX6_simulate 52 = .ok (.iload_n 3, 1) := by decide +kernel
theorem dX6_simulate_53 : decode cX6_simulate 53 = .ok (.if_icmp .ge 60, 3) := by decide +kernel
theorem dX6_simulate_56 : decode cX6_simulate 56 = .ok (.lload 5, 2) := by decide +kernel
theorem dX6_simulate_58 : decode cX6_simulate 58 = .ok (.ldc2_w 216, 3) := by decide +kernel
theorem dX6_simulate_61 : decode cX6_simulate 61 = .ok (.lmul, 1) := by decide +kernel
theorem dX6_simulate_62 : decode cX6_simulate 62 = .ok (.ldc2_w 218, 3) := by decide +kernel
theorem dX6_simulate_65 : decode cX6_simulate 65 = .ok (.ladd, 1) := by decide +kernel
theorem dX6_simulate_66 : decode cX6_simulate 66 = .ok (.lstore 5, 2) := by decide +kernel
theorem dX6_simulate_68 : decode cX6_simulate 68 = .ok (.aload_n 0, 1) := by decide +kernel
theorem dX6_simulate_69 : decode cX6_simulate 69 = .ok (.getfield 23, 3) := by decide +kernel
theorem dX6_simulate_72 : decode cX6_simulate 72 = .ok (.lload 5, 2) := by decide +kernel
theorem dX6_simulate_74 : decode cX6_simulate 74 = .ok (.bipush 33, 2) := by decide +kernel
theorem dX6_simulate_76 : decode cX6_simulate 76 = .ok (.lushr, 1) := by decide +kernel
theorem dX6_simulate_77 : decode cX6_simulate 77 = .ok (.l2i, 1) := by decide +kernel
theorem dX6_simulate_78 : decode cX6_simulate 78 = .ok (.invokevirtual 220, 3) := by decide +kernel
theorem dX6_simulate_81 : decode cX6_simulate 81 = .ok (.aload_n 0, 1) := by decide +kernel
theorem dX6_simulate_82 : decode cX6_simulate 82 = .ok (.getfield 23, 3) := by decide +kernel
theorem dX6_simulate_85 : decode cX6_simulate 85 = .ok (.invokevirtual 200, 3) := by decide +kernel
theorem dX6_simulate_88 : decode cX6_simulate 88 = .ok (.iload 7, 2) := by decide +kernel
theorem dX6_simulate_90 : decode cX6_simulate 90 = .ok (.aload 4, 2) := by decide +kernel
theorem dX6_simulate_92 : decode cX6_simulate 92 = .ok (.ifnonnull 7, 3) := by decide +kernel
theorem dX6_simulate_95 : decode cX6_simulate 95 = .ok (.iconst 0, 1) := by decide +kernel
theorem dX6_simulate_96 : decode cX6_simulate 96 = .ok (.goto 8, 3) := by decide +kernel
theorem dX6_simulate_99 : decode cX6_simulate 99 = .ok (.aload 4, 2) := by decide +kernel
theorem dX6_simulate_101 : decode cX6_simulate 101 = .ok (.getfield 163, 3) := by decide +kernel
theorem dX6_simulate_104 : decode cX6_simulate 104 = .ok (.iadd, 1) := by decide +kernel
theorem dX6_simulate_105 : decode cX6_simulate 105 = .ok (.istore 7, 2) := by decide +kernel
theorem dX6_simulate_107 : decode cX6_simulate 107 = .ok (.iinc 8 1, 3) := by decide +kernel
theorem dX6_simulate_110 : decode cX6_simulate 110 = .ok (.goto (-60), 3) := by decide +kernel
theorem dX6_simulate_113 : decode cX6_simulate 113 = .ok (.sipush 10000, 3) := by decide +kernel
theorem dX6_simulate_116 : decode cX6_simulate 116 = .ok (.aload_n 0, 1) := by decide +kernel
theorem dX6_simulate_117 : decode cX6_simulate 117 = .ok (.getfield 23, 3) := by decide +kernel
theorem dX6_simulate_120 : decode cX6_simulate 120 = .ok (.getfield 224, 3) := by decide +kernel
theorem dX6_simulate_123 : decode cX6_simulate 123 = .ok (.aload_n 0, 1) := by decide +kernel
theorem dX6_simulate_124 : decode cX6_simulate 124 = .ok (.getfield 19, 3) := by decide +kernel
theorem dX6_simulate_127 : decode cX6_simulate 127 = .ok (.getfield 224, 3) := by decide +kernel
theorem dX6_simulate_130 : decode cX6_simulate 130 = .ok (.isub, 1) := by decide +kernel
theorem dX6_simulate_131 : decode cX6_simulate 131 = .ok (.imul, 1) := by decide +kernel
theorem dX6_simulate_132 : decode cX6_simulate 132 = .ok (.sipush 9999, 3) := by decide +kernel
theorem dX6_simulate_135 : decode cX6_simulate 135 = .ok (.iload 7, 2) := by decide +kernel
theorem dX6_simulate_137 : decode cX6_simulate 137 = .ok (.invokestatic 225, 3) := by decide +kernel
theorem dX6_simulate_140 : decode cX6_simulate 140 = .ok (.iadd, 1) := by decide +kernel
theorem dX6_simulate_141 : decode cX6_simulate 141 = .ok (.ireturn, 1) := by decide +kernel
set_option maxRecDepth 20000 in
theorem ggX6_save_X2_copyFrom : GoodIn wsX6_save wsX2_copyFrom := goodIn_r _ [10, 11, 12, 13, 14, 15, 16, 17, 18, 19, 20, 21, 22, 23, 24, 25, 26, 27, 28, 29, 30, 31, 32, 33, 34, 35, 36, 37, 38, 39, 40, 41, 42, 43, 44, 45, 46, 47, 48, 49, 50, 51, 52, 53, 54, 55, 67, 68, 69, 70, 71, 72, 73, 74, 75, 76, 77, 78, 79, 80, 81, 82, 83, 84, 85, 86, 87, 88, 89, 90, 91, 92, 93, 94, 95, 96] (by decide +kernel) (by decide +kernel)
set_option maxRecDepth 20000 in
theorem gX6_save_X2_copyFrom : GoodIn wsX6_save (wsV RX6 67 RX2 yX2_copyFrom wsX2_copyFrom) := goodIn_app (goodIn_of _ (by decide +kernel)) ggX6_save_X2_copyFrom
set_option maxRecDepth 20000 in
theorem ggX6_save_X2_time : GoodIn wsX6_save wsX2_time := goodIn_r _ [59, 14, 15, 67, 68, 69, 70, 71, 72, 73, 74, 75, 76, 77, 78, 79, 80, 81] (by decide +kernel) (by decide +kernel)
set_option maxRecDepth 20000 in
theorem gX6_save_X2_time : GoodIn wsX6_save (wsV RX6 232 RX2 yX2_time wsX2_time) := goodIn_app (goodIn_of _ (by decide +kernel)) ggX6_save_X2_time
theorem dX6_save_0 : decode cX6_save 0 = .ok (.iload_n 1, 1) := by decide +kernel
theorem dX6_save_1 : decode cX6_save 1 = .ok (.ifCond .lt 8, 3) := by decide +kernel
theorem dX6_save_4 : decode cX6_save 4 = .ok (.iload_n 1, 1) := by decide +kernel
theorem dX6_save_5 : decode cX6_save 5 = .ok (.iconst 2, 1) := by decide +kernel
theorem dX6_save_6 : decode cX6_save 6 = .ok (.if_icmp .lt 13, 3) := by decide +kernel
theorem dX6_save_9 : decode cX6_save 9 = .ok (.new 149, 3) := by decide +kernel
theorem dX6_save_12 : decode cX6_save 12 = .ok (.dup, 1) := by decide +kernel
theorem dX6_save_13 : decode cX6_save 13 = .ok (.ldc 230, 2) := by decide +kernel
theorem dX6_save_15 : decode cX6_save 15 = .ok (.invokespecial 153, 3) := by decide +kernel
theorem dX6_save_18 : decode cX6_save 18 = .ok (.athrow, 1) := by decide +kernel
theorem dX6_save_19 : decode cX6_save 19 = .ok (.aload_n 0, 1) := by decide +kernel
theorem dX6_save_20 : decode cX6_save 20 = .ok (.getfield 33, 3) := by decide +kernel
theorem dX6_save_23 : decode cX6_save 23 = .ok (.iload_n 1, 1) := by decide +kernel
theorem dX6_save_24 : decode cX6_save 24 = .ok (.aaload, 1) := by decide +kernel
theorem dX6_save_25 : decode cX6_save 25 = .ok (.aload_n 0, 1) := by decide +kernel
theorem dX6_save_26 : decode cX6_save 26 = .ok (.getfield 19, 3) := by decide +kernel
theorem dX6_save_29 : decode cX6_save 29 = .ok (.invokevirtual 67, 3) := by decide +kernel
theorem dX6_save_32 : decode cX6_save 32 = .ok (.aload_n 0, 1) := by decide +kernel
theorem dX6_save_33 : decode cX6_save 33 = .ok (.getfield 37, 3) := by decide +kernel
theorem dX6_save_36 : decode cX6_save 36 = .ok (.iload_n 1, 1) := by decide +kernel
theorem dX6_save_37 : decode cX6_save 37 = .ok (.iconst 1, 1) := by decide +kernel
theorem dX6_save_38 : decode cX6_save 38 = .ok (.bastore, 1) := by decide +kernel
theorem dX6_save_39 : decode cX6_save 39 = .ok (.aload_n 0, 1) := by decide +kernel
theorem dX6_save_40 : decode cX6_save 40 = .ok (.getfield 19, 3) := by decide +kernel
theorem dX6_save_43 : decode cX6_save 43 = .ok (.invokevirtual 232, 3) := by decide +kernel
theorem dX6_save_46 : decode cX6_save 46 = .ok (.ireturn, 1) := by decide +kernel
set_option maxRecDepth 20000 in
theorem ggX6_restore_X2_copyFrom : GoodIn wsX6_restore wsX2_copyFrom := goodIn_r _ [13, 14, 15, 16, 17, 18, 19, 20, 21, 22, 23, 24, 25, 26, 27, 28, 29, 30, 31, 32, 33, 34, 35, 36, 37, 38, 39, 40, 41, 42, 43, 44, 45, 46, 47, 48, 49, 50, 51, 52, 53, 54, 55, 56, 57, 58, 76, 77, 78, 79, 80, 81, 82, 83, 84, 85, 86, 87, 88, 89, 90, 91, 92, 93, 94, 95, 96, 97, 98, 99, 100, 101, 102, 103, 104, 105] (by decide +kernel) (by decide +kernel)
set_option maxRecDepth 20000 in
theorem gX6_restore_X2_copyFrom : GoodIn wsX6_restore (wsV RX6 67 RX2 yX2_copyFrom wsX2_copyFrom) := goodIn_app (goodIn_of _ (by decide +kernel)) ggX6_restore_X2_copyFrom
set_option maxRecDepth 20000 in
theorem ggX6_restore_X0_forgetAll : GoodIn wsX6_restore wsX0_forgetAll := goodIn_r _ [63, 64, 106, 107] (by decide +kernel) (by decide +kernel)
set_option maxRecDepth 20000 in
theorem gX6_restore_X0_forgetAll : GoodIn wsX6_restore (wsV RX6 71 RX0 yX0_forgetAll wsX0_forgetAll) := goodIn_app (goodIn_of _ (by decide +kernel)) ggX6_restore_X0_forgetAll
set_option maxRecDepth 20000 in
theorem ggX6_restore_X2_time : GoodIn wsX6_restore wsX2_time := goodIn_r _ [68, 17, 18, 76, 77, 78, 79, 80, 81, 82, 83, 84, 85, 86, 87, 88, 89, 90] (by decide +kernel) (by decide +kernel)
set_option maxRecDepth 20000 in
theorem gX6_restore_X2_time : GoodIn wsX6_restore (wsV RX6 232 RX2 yX2_time wsX2_time) := goodIn_app (goodIn_of _ (by decide +kernel)) ggX6_restore_X2_time
theorem dX6_restore_0 : decode cX6_restore 0 = .ok (.iload_n 1, 1) := by decide +kernel
theorem dX6_restore_1 : decode cX6_restore 1 = .ok (.ifCond .lt 8, 3) := by decide +kernel
theorem dX6_restore_4 : decode cX6_restore 4 = .ok (.iload_n 1, 1) := by decide +kernel
theorem dX6_restore_5 : decode cX6_restore 5 = .ok (.iconst 2, 1) := by decide +kernel
theorem dX6_restore_6 : decode cX6_restore 6 = .ok (.if_icmp .lt 13, 3) := by decide +kernel
theorem dX6_restore_9 : decode cX6_restore 9 = .ok (.new 149, 3) := by decide +kernel
theorem dX6_restore_12 : decode cX6_restore 12 = .ok (.dup, 1) := by decide +kernel
theorem dX6_restore_13 : decode cX6_restore 13 = .ok (.ldc 230, 2) := by decide +kernel
theorem dX6_restore_15 : decode cX6_restore 15 = .ok (.invokespecial 153, 3) := by decide +kernel
theorem dX6_restore_18 : decode cX6_restore 18 = .ok (.athrow, 1) := by decide +kernel
theorem dX6_restore_19 : decode cX6_restore 19 = .ok (.aload_n 0, 1) := by decide +kernel
theorem dX6_restore_20 : decode cX6_restore 20 = .ok (.getfield 37, 3) := by decide +kernel
theorem dX6_restore_23 : decode cX6_restore 23 = .ok (.iload_n 1, 1) := by decide +kernel
theorem dX6_restore_24 : decode cX6_restore 24 = .ok (.baload, 1) := by decide +kernel
theorem dX6_restore_25 : decode cX6_restore 25 = .ok (.ifCond .ne 13, 3) := by decide +kernel
theorem dX6_restore_28 : decode cX6_restore 28 = .ok (.new 60, 3) := by decide +kernel
theorem dX6_restore_31 : decode cX6_restore 31 = .ok (.dup, 1) := by decide +kernel
theorem dX6_restore_32 : decode cX6_restore 32 = .ok (.ldc 235, 2) := by decide +kernel
theorem dX6_restore_34 : decode cX6_restore 34 = .ok (.invokespecial 64, 3) := by decide +kernel
theorem dX6_restore_37 : decode cX6_restore 37 = .ok (.athrow, 1) := by decide +kernel
theorem dX6_restore_38 : decode cX6_restore 38 = .ok (.aload_n 0, 1) := by decide +kernel
theorem dX6_restore_39 : decode cX6_restore 39 = .ok (.getfield 19, 3) := by decide +kernel
theorem dX6_restore_42 : decode cX6_restore 42 = .ok (.aload_n 0, 1) := by decide +kernel
theorem dX6_restore_43 : decode cX6_restore 43 = .ok (.getfield 33, 3) := by decide +kernel
theorem dX6_restore_46 : decode cX6_restore 46 = .ok (.iload_n 1, 1) := by decide +kernel
theorem dX6_restore_47 : decode cX6_restore 47 = .ok (.aaload, 1) := by decide +kernel
theorem dX6_restore_48 : decode cX6_restore 48 = .ok (.invokevirtual 67, 3) := by decide +kernel
theorem dX6_restore_51 : decode cX6_restore 51 = .ok (.aload_n 0, 1) := by decide +kernel
theorem dX6_restore_52 : decode cX6_restore 52 = .ok (.getfield 29, 3) := by decide +kernel
theorem dX6_restore_55 : decode cX6_restore 55 = .ok (.invokevirtual 71, 3) := by decide +kernel
theorem dX6_restore_58 : decode cX6_restore 58 = .ok (.aload_n 0, 1) := by decide +kernel
theorem dX6_restore_59 : decode cX6_restore 59 = .ok (.getfield 19, 3) := by decide +kernel
theorem dX6_restore_62 : decode cX6_restore 62 = .ok (.invokevirtual 232, 3) := by decide +kernel
theorem dX6_restore_65 : decode cX6_restore 65 = .ok (.ireturn, 1) := by decide +kernel
theorem dX6_answered_0 : decode cX6_answered 0 = .ok (.iload_n 0, 1) := by decide +kernel
theorem dX6_answered_1 : decode cX6_answered 1 = .ok (.iconst (-1), 1) := by decide +kernel
theorem dX6_answered_2 : decode cX6_answered 2 = .ok (.if_icmp .ne 13, 3) := by decide +kernel
theorem dX6_answered_5 : decode cX6_answered 5 = .ok (.new 149, 3) := by decide +kernel
theorem dX6_answered_8 : decode cX6_answered 8 = .ok (.dup, 1) := by decide +kernel
theorem dX6_answered_9 : decode cX6_answered 9 = .ok (.ldc 237, 2) := by decide +kernel
theorem dX6_answered_11 : decode cX6_answered 11 = .ok (.invokespecial 153, 3) := by decide +kernel
theorem dX6_answered_14 : decode cX6_answered 14 = .ok (.athrow, 1) := by decide +kernel
theorem dX6_answered_15 : decode cX6_answered 15 = .ok (.iload_n 0, 1) := by decide +kernel
theorem dX6_answered_16 : decode cX6_answered 16 = .ok (.bipush (-2), 2) := by decide +kernel
theorem dX6_answered_18 : decode cX6_answered 18 = .ok (.if_icmp .ne 13, 3) := by decide +kernel
theorem dX6_answered_21 : decode cX6_answered 21 = .ok (.new 158, 3) := by decide +kernel
theorem dX6_answered_24 : decode cX6_answered 24 = .ok (.dup, 1) := by decide +kernel
theorem dX6_answered_25 : decode cX6_answered 25 = .ok (.ldc 239, 2) := by decide +kernel
theorem dX6_answered_27 : decode cX6_answered 27 = .ok (.invokespecial 162, 3) := by decide +kernel
theorem dX6_answered_30 : decode cX6_answered 30 = .ok (.athrow, 1) := by decide +kernel
theorem dX6_answered_31 : decode cX6_answered 31 = .ok (.iload_n 0, 1) := by decide +kernel
theorem dX6_answered_32 : decode cX6_answered 32 = .ok (.bipush (-3), 2) := by decide +kernel
theorem dX6_answered_34 : decode cX6_answered 34 = .ok (.if_icmp .ne 13, 3) := by decide +kernel
theorem dX6_answered_37 : decode cX6_answered 37 = .ok (.new 60, 3) := by decide +kernel
theorem dX6_answered_40 : decode cX6_answered 40 = .ok (.dup, 1) := by decide +kernel
theorem dX6_answered_41 : decode cX6_answered 41 = .ok (.ldc 241, 2) := by decide +kernel
theorem dX6_answered_43 : decode cX6_answered 43 = .ok (.invokespecial 64, 3) := by decide +kernel
theorem dX6_answered_46 : decode cX6_answered 46 = .ok (.athrow, 1) := by decide +kernel
theorem dX6_answered_47 : decode cX6_answered 47 = .ok (.iload_n 0, 1) := by decide +kernel
theorem dX6_answered_48 : decode cX6_answered 48 = .ok (.ireturn, 1) := by decide +kernel
set_option maxRecDepth 20000 in
theorem ggX6_acted_X6_answered : GoodIn wsX6_acted wsX6_answered := goodIn_ca (goodIn_ca (goodIn_ca (goodIn_r _ [5, 6, 7, 8, 9, 10, 11] (by decide +kernel) (by decide +kernel)) (goodIn_sub (fun _ h => List.mem_cons_of_mem _ (List.mem_append_left _ (List.mem_append_left _ (List.mem_append_right _ h)))) (by decide +kernel))) (goodIn_sub (fun _ h => List.mem_cons_of_mem _ (List.mem_append_left _ (List.mem_append_right _ h))) (by decide +kernel))) (goodIn_sub (fun _ h => List.mem_cons_of_mem _ (List.mem_append_right _ h)) (by decide +kernel))
set_option maxRecDepth 20000 in
theorem gX6_acted_X6_answered : GoodIn wsX6_acted (va_wsS RX6 49 yX6_answered wsX6_answered) := goodIn_app (goodIn_of _ (by decide +kernel)) ggX6_acted_X6_answered
set_option maxRecDepth 20000 in
theorem ggX6_acted_X0_keepDraft : GoodIn wsX6_acted wsX0_keepDraft := goodIn_r _ [16, 17, 18, 19, 20, 15, 21, 22, 30, 31] (by decide +kernel) (by decide +kernel)
set_option maxRecDepth 20000 in
theorem gX6_acted_X0_keepDraft : GoodIn wsX6_acted (wsV RX6 243 RX0 yX0_keepDraft wsX0_keepDraft) := goodIn_app (goodIn_of _ (by decide +kernel)) ggX6_acted_X0_keepDraft
theorem dX6_acted_0 : decode cX6_acted 0 = .ok (.iload_n 1, 1) := by decide +kernel
theorem dX6_acted_1 : decode cX6_acted 1 = .ok (.invokestatic 49, 3) := by decide +kernel
theorem dX6_acted_4 : decode cX6_acted 4 = .ok (.istore_n 2, 1) := by decide +kernel
theorem dX6_acted_5 : decode cX6_acted 5 = .ok (.aload_n 0, 1) := by decide +kernel
theorem dX6_acted_6 : decode cX6_acted 6 = .ok (.getfield 29, 3) := by decide +kernel
theorem dX6_acted_9 : decode cX6_acted 9 = .ok (.invokevirtual 243, 3) := by decide +kernel
theorem dX6_acted_12 : decode cX6_acted 12 = .ok (.iload_n 2, 1) := by decide +kernel
theorem dX6_acted_13 : decode cX6_acted 13 = .ok (.ireturn, 1) := by decide +kernel
theorem dX6_within_0 : decode cX6_within 0 = .ok (.iload_n 0, 1) := by decide +kernel
theorem dX6_within_1 : decode cX6_within 1 = .ok (.iload_n 1, 1) := by decide +kernel
theorem dX6_within_2 : decode cX6_within 2 = .ok (.if_icmp .lt 12, 3) := by decide +kernel
theorem dX6_within_5 : decode cX6_within 5 = .ok (.iload_n 0, 1) := by decide +kernel
theorem dX6_within_6 : decode cX6_within 6 = .ok (.iload_n 2, 1) := by decide +kernel
theorem dX6_within_7 : decode cX6_within 7 = .ok (.if_icmp .gt 7, 3) := by decide +kernel
theorem dX6_within_10 : decode cX6_within 10 = .ok (.iconst 1, 1) := by decide +kernel
theorem dX6_within_11 : decode cX6_within 11 = .ok (.goto 4, 3) := by decide +kernel
theorem dX6_within_14 : decode cX6_within 14 = .ok (.iconst 0, 1) := by decide +kernel
theorem dX6_within_15 : decode cX6_within 15 = .ok (.ireturn, 1) := by decide +kernel
set_option maxRecDepth 20000 in
theorem ggX6_tryWater_X2_copyFrom : GoodIn wsX6_tryWater wsX2_copyFrom := goodIn_r _ [7, 8, 9, 10, 11, 12, 13, 14, 15, 16, 17, 18, 19, 20, 21, 22, 23, 24, 25, 26, 27, 28, 29, 30, 31, 32, 33, 34, 35, 36, 37, 38, 39, 40, 41, 42, 43, 44, 45, 46, 47, 48, 49, 50, 51, 52, 91, 92, 93, 94, 95, 96, 97, 98, 99, 100, 101, 102, 103, 104, 105, 106, 107, 108, 109, 110, 111, 112, 113, 114, 115, 116, 117, 118, 119, 120] (by decide +kernel) (by decide +kernel)
set_option maxRecDepth 20000 in
theorem gX6_tryWater_X2_copyFrom : GoodIn wsX6_tryWater (wsV RX6 67 RX2 yX2_copyFrom wsX2_copyFrom) := goodIn_app (goodIn_of _ (by decide +kernel)) ggX6_tryWater_X2_copyFrom
set_option maxRecDepth 20000 in
theorem ggX6_tryWater_X2_segmentAt : GoodIn wsX6_tryWater wsX2_segmentAt := goodIn_r _ [56, 8, 20, 91, 92, 93, 94, 95, 96, 97, 98, 99, 100, 101, 102, 103, 104, 105] (by decide +kernel) (by decide +kernel)
set_option maxRecDepth 20000 in
theorem gX6_tryWater_X2_segmentAt : GoodIn wsX6_tryWater (wsV RX6 81 RX2 yX2_segmentAt wsX2_segmentAt) := goodIn_app (goodIn_of _ (by decide +kernel)) ggX6_tryWater_X2_segmentAt
set_option maxRecDepth 20000 in
theorem ggX6_tryWater_X3_wet : GoodIn wsX6_tryWater wsX3_wet := goodIn_r _ [60, 32, 61, 62, 63, 64, 106, 107, 108, 109, 110, 111, 112] (by decide +kernel) (by decide +kernel)
set_option maxRecDepth 20000 in
theorem gX6_tryWater_X3_wet : GoodIn wsX6_tryWater (wsV RX6 246 RX3 yX3_wet wsX3_wet) := goodIn_app (goodIn_of _ (by decide +kernel)) ggX6_tryWater_X3_wet
set_option maxRecDepth 20000 in
theorem ggX6_tryWater_X2_raiseDust : GoodIn wsX6_tryWater wsX2_raiseDust := goodIn_r _ [68, 20, 14, 13, 69, 70, 71, 26, 72, 32, 73, 74, 63, 75, 76, 77, 78, 79, 28, 80, 81, 82, 83, 31, 29, 61, 62, 64, 91, 92, 93, 94, 95, 96, 97, 98, 99, 100, 101, 102, 103, 104, 105, 106, 107, 108, 109, 110, 111, 112] (by decide +kernel) (by decide +kernel)
set_option maxRecDepth 20000 in
theorem gX6_tryWater_X2_raiseDust : GoodIn wsX6_tryWater (wsV RX6 180 RX2 yX2_raiseDust wsX2_raiseDust) := goodIn_app (goodIn_of _ (by decide +kernel)) ggX6_tryWater_X2_raiseDust
theorem dX6_tryWater_0 : decode cX6_tryWater 0 = .ok (.aload_n 0, 1) := by decide +kernel
theorem dX6_tryWater_1 : decode cX6_tryWater 1 = .ok (.getfield 23, 3) := by decide +kernel
theorem dX6_tryWater_4 : decode cX6_tryWater 4 = .ok (.aload_n 0, 1) := by decide +kernel
theorem dX6_tryWater_5 : decode cX6_tryWater 5 = .ok (.getfield 19, 3) := by decide +kernel
theorem dX6_tryWater_8 : decode cX6_tryWater 8 = .ok (.invokevirtual 67, 3) := by decide +kernel
theorem dX6_tryWater_11 : decode cX6_tryWater 11 = .ok (.aload_n 0, 1) := by decide +kernel
theorem dX6_tryWater_12 : decode cX6_tryWater 12 = .ok (.getfield 23, 3) := by decide +kernel
theorem dX6_tryWater_15 : decode cX6_tryWater 15 = .ok (.iload_n 1, 1) := by decide +kernel
theorem dX6_tryWater_16 : decode cX6_tryWater 16 = .ok (.invokevirtual 81, 3) := by decide +kernel
theorem dX6_tryWater_19 : decode cX6_tryWater 19 = .ok (.astore_n 3, 1) := by decide +kernel
theorem dX6_tryWater_20 : decode cX6_tryWater 20 = .ok (.aload_n 3, 1) := by decide +kernel
theorem dX6_tryWater_21 : decode cX6_tryWater 21 = .ok (.ifnull 8, 3) := by decide +kernel
theorem dX6_tryWater_24 : decode cX6_tryWater 24 = .ok (.aload_n 3, 1) := by decide +kernel
theorem dX6_tryWater_25 : decode cX6_tryWater 25 = .ok (.iload_n 2, 1) := by decide +kernel
theorem dX6_tryWater_26 : decode cX6_tryWater 26 = .ok (.invokevirtual 246, 3) := by decide +kernel
theorem dX6_tryWater_29 : decode cX6_tryWater 29 = .ok (.aload_n 0, 1) := by decide +kernel
theorem dX6_tryWater_30 : decode cX6_tryWater 30 = .ok (.getfield 23, 3) := by decide +kernel
theorem dX6_tryWater_33 : decode cX6_tryWater 33 = .ok (.invokevirtual 180, 3) := by decide +kernel
theorem dX6_tryWater_36 : decode cX6_tryWater 36 = .ok (.return_, 1) := by decide +kernel
theorem dX6_splitScript_0 : decode cX6_splitScript 0 = .ok (.lload_n 2, 1) := by decide +kernel
theorem dX6_splitScript_1 : decode cX6_splitScript 1 = .ok (.lstore 4, 2) := by decide +kernel
theorem dX6_splitScript_3 : decode cX6_splitScript 3 = .ok (.iload_n 1, 1) := by decide +kernel
theorem dX6_splitScript_4 : decode cX6_splitScript 4 = .ok (.iconst 1, 1) := by decide +kernel
theorem dX6_splitScript_5 : decode cX6_splitScript 5 = .ok (.isub, 1) := by decide +kernel
theorem dX6_splitScript_6 : decode cX6_splitScript 6 = .ok (.istore 6, 2) := by decide +kernel
theorem dX6_splitScript_8 : decode cX6_splitScript 8 = .ok (.iload 6, 2) := by decide +kernel
theorem dX6_splitScript_10 : decode cX6_splitScript 10 = .ok (.ifCond .lt 37, 3) := by decide +kernel
theorem dX6_splitScript_13 : decode cX6_splitScript 13 = .ok (.iload 6, 2) := by decide +kernel
theorem dX6_splitScript_15 : decode cX6_splitScript 15 = .ok (.iconst 4, 1) := by decide +kernel
theorem dX6_splitScript_16 : decode cX6_splitScript 16 = .ok (.if_icmp .ge 17, 3) := by decide +kernel
theorem dX6_splitScript_19 : decode cX6_splitScript 19 = .ok (.aload_n 0, 1) := by decide +kernel
theorem dX6_splitScript_20 : decode cX6_splitScript 20 = .ok (.getfield 41, 3) := by decide +kernel
theorem dX6_splitScript_23 : decode cX6_splitScript 23 = .ok (.iload 6, 2) := by decide +kernel
theorem dX6_splitScript_25 : decode cX6_splitScript 25 = .ok (.lload 4, 2) := by decide +kernel
theorem dX6_splitScript_27 : decode cX6_splitScript 27 = .ok (.ldc2_w 249, 3) := by decide +kernel
theorem dX6_splitScript_30 : decode cX6_splitScript 30 = .ok (.lrem, 1) := by decide +kernel
theorem dX6_splitScript_31 : decode cX6_splitScript 31 = .ok (.l2i, 1) := by decide +kernel
theorem dX6_splitScript_32 : decode cX6_splitScript 32 = .ok (.iastore, 1) := by decide +kernel
theorem dX6_splitScript_33 : decode cX6_splitScript 33 = .ok (.lload 4, 2) := by decide +kernel
theorem dX6_splitScript_35 : decode cX6_splitScript 35 = .ok (.ldc2_w 249, 3) := by decide +kernel
theorem dX6_splitScript_38 : decode cX6_splitScript 38 = .ok (.ldiv, 1) := by decide +kernel
theorem dX6_splitScript_39 : decode cX6_splitScript 39 = .ok (.lstore 4, 2) := by decide +kernel
theorem dX6_splitScript_41 : decode cX6_splitScript 41 = .ok (.iinc 6 (-1), 3) := by decide +kernel
theorem dX6_splitScript_44 : decode cX6_splitScript 44 = .ok (.goto (-36), 3) := by decide +kernel
theorem dX6_splitScript_47 : decode cX6_splitScript 47 = .ok (.lload 4, 2) := by decide +kernel
theorem dX6_splitScript_49 : decode cX6_splitScript 49 = .ok (.lconst 0, 1) := by decide +kernel
theorem dX6_splitScript_50 : decode cX6_splitScript 50 = .ok (.lcmp, 1) := by decide +kernel
theorem dX6_splitScript_51 : decode cX6_splitScript 51 = .ok (.ifCond .ne 7, 3) := by decide +kernel
theorem dX6_splitScript_54 : decode cX6_splitScript 54 = .ok (.iconst 1, 1) := by decide +kernel
theorem dX6_splitScript_55 : decode cX6_splitScript 55 = .ok (.goto 4, 3) := by decide +kernel
theorem dX6_splitScript_58 : decode cX6_splitScript 58 = .ok (.iconst 0, 1) := by decide +kernel
theorem dX6_splitScript_59 : decode cX6_splitScript 59 = .ok (.ireturn, 1) := by decide +kernel
