set_option maxRecDepth 20000 in
theorem ggL_append_X6_append : GoodIn wsL_append wsX6_append := goodIn_ca (goodIn_ca (goodIn_ca (goodIn_r _ [7, 8, 9, 10, 11, 12, 13, 14, 15, 16, 6, 17, 18, 19, 20, 21, 22, 23, 24, 25, 26, 27, 28, 29, 30, 31, 32, 33, 34, 35, 36, 37] (by decide +kernel) (by decide +kernel)) (goodIn_sub (fun _ h => List.mem_cons_of_mem _ (List.mem_append_left _ (List.mem_append_left _ (List.mem_append_right _ h)))) (by decide +kernel))) (goodIn_sub (fun _ h => List.mem_cons_of_mem _ (List.mem_append_left _ (List.mem_append_right _ h))) (by decide +kernel))) (goodIn_sub (fun _ h => List.mem_cons_of_mem _ (List.mem_append_right _ h)) (by decide +kernel))
set_option maxRecDepth 20000 in
theorem gL_append_X6_append : GoodIn wsL_append (wsV RL 7 RX6 yX6_append wsX6_append) := goodIn_app (goodIn_of _ (by decide +kernel)) ggL_append_X6_append
theorem dL_append_0 : decode cL_append 0 = .ok (.aload_n 2, 1) := by decide +kernel
theorem dL_append_1 : decode cL_append 1 = .ok (.iconst 0, 1) := by decide +kernel
theorem dL_append_2 : decode cL_append 2 = .ok (.aload_n 0, 1) := by decide +kernel
theorem dL_append_3 : decode cL_append 3 = .ok (.iload_n 1, 1) := by decide +kernel
theorem dL_append_4 : decode cL_append 4 = .ok (.invokevirtual 7, 3) := by decide +kernel
theorem dL_append_7 : decode cL_append 7 = .ok (.i2l, 1) := by decide +kernel
theorem dL_append_8 : decode cL_append 8 = .ok (.lastore, 1) := by decide +kernel
theorem dL_append_9 : decode cL_append 9 = .ok (.goto 9, 3) := by decide +kernel
theorem dL_append_12 : decode cL_append 12 = .ok (.astore_n 3, 1) := by decide +kernel
theorem dL_append_13 : decode cL_append 13 = .ok (.iconst 1, 1) := by decide +kernel
theorem dL_append_14 : decode cL_append 14 = .ok (.ireturn, 1) := by decide +kernel
theorem dL_append_15 : decode cL_append 15 = .ok (.astore_n 3, 1) := by decide +kernel
theorem dL_append_16 : decode cL_append 16 = .ok (.iconst 2, 1) := by decide +kernel
theorem dL_append_17 : decode cL_append 17 = .ok (.ireturn, 1) := by decide +kernel
theorem dL_append_18 : decode cL_append 18 = .ok (.iconst 0, 1) := by decide +kernel
theorem dL_append_19 : decode cL_append 19 = .ok (.ireturn, 1) := by decide +kernel
set_option maxRecDepth 20000 in
theorem ggL_load_X6_load : GoodIn wsL_load wsX6_load := goodIn_ca (goodIn_r _ [6, 7, 8, 9, 10, 11, 12, 13, 14, 15, 16, 17, 18, 19, 20, 21, 22, 23, 24, 25, 26, 27, 28, 29, 30, 31, 32, 33, 34, 35, 36, 37, 38, 39, 40, 41, 42, 43, 44, 45, 46, 47, 48, 49, 50, 51, 52, 53, 54, 55, 56, 57, 58, 59, 60, 61, 62, 63, 64, 65, 66, 67, 68, 69, 70, 71, 72, 73, 74, 75, 76, 77, 78, 79, 5, 80, 81, 82, 83, 84, 85, 86, 87, 88, 89, 90, 91, 92, 93, 94, 95, 96, 97, 98, 99, 100, 101, 102, 103, 104, 105, 106, 107, 108, 109, 110, 111, 112, 113, 114, 115, 116, 117, 118, 119, 120, 121, 122, 123, 124, 125, 126, 127, 128, 129, 130, 131, 132, 133, 134, 135, 136, 137, 138, 139, 140, 141, 142, 143, 144, 145, 146, 147, 148, 149, 150, 151, 152, 153, 154, 155, 156, 157, 158, 159, 160, 161, 162, 163, 164, 165, 166, 167, 168, 169, 170, 171, 172, 173, 174, 175, 176, 177, 178, 179, 180, 181, 182, 183, 184, 185, 186, 187, 188, 189, 190, 191, 192, 193, 194, 195, 196, 197, 198, 199, 200, 201, 202, 203, 204, 205] (by decide +kernel) (by decide +kernel)) (goodIn_sub (fun _ h => List.mem_cons_of_mem _ (List.mem_append_right _ h)) (by decide +kernel))
set_option maxRecDepth 20000 in
theorem gL_load_X6_load : GoodIn wsL_load (wsV RL 17 RX6 yX6_load wsX6_load) := goodIn_app (goodIn_of _ (by decide +kernel)) ggL_load_X6_load
theorem dL_load_0 : decode cL_load 0 = .ok (.aload_n 1, 1) := by decide +kernel
theorem dL_load_1 : decode cL_load 1 = .ok (.iconst 0, 1) := by decide +kernel
theorem dL_load_2 : decode cL_load 2 = .ok (.aload_n 0, 1) := by decide +kernel
theorem dL_load_3 : decode cL_load 3 = .ok (.invokevirtual 17, 3) := by decide +kernel
theorem dL_load_6 : decode cL_load 6 = .ok (.i2l, 1) := by decide +kernel
theorem dL_load_7 : decode cL_load 7 = .ok (.lastore, 1) := by decide +kernel
theorem dL_load_8 : decode cL_load 8 = .ok (.goto 6, 3) := by decide +kernel
theorem dL_load_11 : decode cL_load 11 = .ok (.astore_n 2, 1) := by decide +kernel
theorem dL_load_12 : decode cL_load 12 = .ok (.iconst 1, 1) := by decide +kernel
theorem dL_load_13 : decode cL_load 13 = .ok (.ireturn, 1) := by decide +kernel
theorem dL_load_14 : decode cL_load 14 = .ok (.iconst 0, 1) := by decide +kernel
theorem dL_load_15 : decode cL_load 15 = .ok (.ireturn, 1) := by decide +kernel
set_option maxRecDepth 20000 in
theorem ggL_about_X6_about : GoodIn wsL_about wsX6_about := goodIn_ca (goodIn_ca (goodIn_ca (goodIn_r _ [6, 7, 8, 9, 10, 11, 12, 13, 14, 15, 16, 17, 18, 19, 20, 21, 22, 23, 24, 25, 26, 27, 28, 29, 30, 31, 32, 33, 34, 35, 36, 5, 37, 38, 39, 40, 41, 42, 43, 44, 45, 46, 47, 48, 49, 50, 51, 52, 53, 54, 55, 56, 57, 58, 59, 60, 61, 62, 63, 64, 65, 66, 67, 68, 69, 70, 71, 72] (by decide +kernel) (by decide +kernel)) (goodIn_sub (fun _ h => List.mem_cons_of_mem _ (List.mem_append_left _ (List.mem_append_left _ (List.mem_append_right _ h)))) (by decide +kernel))) (goodIn_sub (fun _ h => List.mem_cons_of_mem _ (List.mem_append_left _ (List.mem_append_right _ h))) (by decide +kernel))) (goodIn_sub (fun _ h => List.mem_cons_of_mem _ (List.mem_append_right _ h)) (by decide +kernel))
set_option maxRecDepth 20000 in
theorem gL_about_X6_about : GoodIn wsL_about (wsV RL 21 RX6 yX6_about wsX6_about) := goodIn_app (goodIn_of _ (by decide +kernel)) ggL_about_X6_about
theorem dL_about_0 : decode cL_about 0 = .ok (.aload_n 2, 1) := by decide +kernel
theorem dL_about_1 : decode cL_about 1 = .ok (.iconst 0, 1) := by decide +kernel
theorem dL_about_2 : decode cL_about 2 = .ok (.aload_n 0, 1) := by decide +kernel
theorem dL_about_3 : decode cL_about 3 = .ok (.iload_n 1, 1) := by decide +kernel
theorem dL_about_4 : decode cL_about 4 = .ok (.invokevirtual 21, 3) := by decide +kernel
theorem dL_about_7 : decode cL_about 7 = .ok (.i2l, 1) := by decide +kernel
theorem dL_about_8 : decode cL_about 8 = .ok (.lastore, 1) := by decide +kernel
theorem dL_about_9 : decode cL_about 9 = .ok (.goto 6, 3) := by decide +kernel
theorem dL_about_12 : decode cL_about 12 = .ok (.astore_n 3, 1) := by decide +kernel
theorem dL_about_13 : decode cL_about 13 = .ok (.iconst 1, 1) := by decide +kernel
theorem dL_about_14 : decode cL_about 14 = .ok (.ireturn, 1) := by decide +kernel
theorem dL_about_15 : decode cL_about 15 = .ok (.iconst 0, 1) := by decide +kernel
theorem dL_about_16 : decode cL_about 16 = .ok (.ireturn, 1) := by decide +kernel
set_option maxRecDepth 20000 in
theorem ggL_segment_X6_segment : GoodIn wsL_segment wsX6_segment := goodIn_ca (goodIn_ca (goodIn_ca (goodIn_r _ [7, 8, 9, 10, 11, 12, 13, 14, 15, 16, 17, 18, 19, 20, 21, 22, 23, 24, 25, 26, 27, 28, 29, 6, 30, 31, 32, 33, 34, 35, 36, 37, 38, 39, 40, 41, 42, 43, 44, 45, 46, 47, 48, 49, 50, 51, 52, 53, 54, 55, 56, 57, 58, 59, 60, 61, 62, 63, 64, 65] (by decide +kernel) (by decide +kernel)) (goodIn_sub (fun _ h => List.mem_cons_of_mem _ (List.mem_append_left _ (List.mem_append_left _ (List.mem_append_right _ h)))) (by decide +kernel))) (goodIn_sub (fun _ h => List.mem_cons_of_mem _ (List.mem_append_left _ (List.mem_append_right _ h))) (by decide +kernel))) (goodIn_sub (fun _ h => List.mem_cons_of_mem _ (List.mem_append_right _ h)) (by decide +kernel))
set_option maxRecDepth 20000 in
theorem gL_segment_X6_segment : GoodIn wsL_segment (wsV RL 24 RX6 yX6_segment wsX6_segment) := goodIn_app (goodIn_of _ (by decide +kernel)) ggL_segment_X6_segment
theorem dL_segment_0 : decode cL_segment 0 = .ok (.aload_n 3, 1) := by decide +kernel
theorem dL_segment_1 : decode cL_segment 1 = .ok (.iconst 0, 1) := by decide +kernel
theorem dL_segment_2 : decode cL_segment 2 = .ok (.aload_n 0, 1) := by decide +kernel
theorem dL_segment_3 : decode cL_segment 3 = .ok (.iload_n 1, 1) := by decide +kernel
theorem dL_segment_4 : decode cL_segment 4 = .ok (.iload_n 2, 1) := by decide +kernel
theorem dL_segment_5 : decode cL_segment 5 = .ok (.invokevirtual 24, 3) := by decide +kernel
theorem dL_segment_8 : decode cL_segment 8 = .ok (.i2l, 1) := by decide +kernel
theorem dL_segment_9 : decode cL_segment 9 = .ok (.lastore, 1) := by decide +kernel
theorem dL_segment_10 : decode cL_segment 10 = .ok (.goto 11, 3) := by decide +kernel
theorem dL_segment_13 : decode cL_segment 13 = .ok (.astore 4, 2) := by decide +kernel
theorem dL_segment_15 : decode cL_segment 15 = .ok (.iconst 1, 1) := by decide +kernel
theorem dL_segment_16 : decode cL_segment 16 = .ok (.ireturn, 1) := by decide +kernel
theorem dL_segment_17 : decode cL_segment 17 = .ok (.astore 4, 2) := by decide +kernel
theorem dL_segment_19 : decode cL_segment 19 = .ok (.iconst 2, 1) := by decide +kernel
theorem dL_segment_20 : decode cL_segment 20 = .ok (.ireturn, 1) := by decide +kernel
theorem dL_segment_21 : decode cL_segment 21 = .ok (.iconst 0, 1) := by decide +kernel
theorem dL_segment_22 : decode cL_segment 22 = .ok (.ireturn, 1) := by decide +kernel
set_option maxRecDepth 20000 in
theorem ggL_house_X6_house : GoodIn wsL_house wsX6_house := goodIn_ca (goodIn_ca (goodIn_ca (goodIn_r _ [7, 8, 9, 10, 11, 12, 13, 14, 15, 16, 17, 18, 19, 20, 21, 22, 23, 24, 25, 26, 27, 6, 28, 29, 30, 31, 32, 33, 34, 35, 36, 37, 38, 39, 40, 41, 42, 43, 44, 45, 46, 47, 48, 49, 50, 51, 52, 53, 54, 55, 56, 57, 58, 59, 60, 61] (by decide +kernel) (by decide +kernel)) (goodIn_sub (fun _ h => List.mem_cons_of_mem _ (List.mem_append_left _ (List.mem_append_left _ (List.mem_append_right _ h)))) (by decide +kernel))) (goodIn_sub (fun _ h => List.mem_cons_of_mem _ (List.mem_append_left _ (List.mem_append_right _ h))) (by decide +kernel))) (goodIn_sub (fun _ h => List.mem_cons_of_mem _ (List.mem_append_right _ h)) (by decide +kernel))
set_option maxRecDepth 20000 in
theorem gL_house_X6_house : GoodIn wsL_house (wsV RL 30 RX6 yX6_house wsX6_house) := goodIn_app (goodIn_of _ (by decide +kernel)) ggL_house_X6_house
theorem dL_house_0 : decode cL_house 0 = .ok (.aload_n 3, 1) := by decide +kernel
theorem dL_house_1 : decode cL_house 1 = .ok (.iconst 0, 1) := by decide +kernel
theorem dL_house_2 : decode cL_house 2 = .ok (.aload_n 0, 1) := by decide +kernel
theorem dL_house_3 : decode cL_house 3 = .ok (.iload_n 1, 1) := by decide +kernel
theorem dL_house_4 : decode cL_house 4 = .ok (.iload_n 2, 1) := by decide +kernel
theorem dL_house_5 : decode cL_house 5 = .ok (.invokevirtual 30, 3) := by decide +kernel
theorem dL_house_8 : decode cL_house 8 = .ok (.i2l, 1) := by decide +kernel
theorem dL_house_9 : decode cL_house 9 = .ok (.lastore, 1) := by decide +kernel
theorem dL_house_10 : decode cL_house 10 = .ok (.goto 11, 3) := by decide +kernel
theorem dL_house_13 : decode cL_house 13 = .ok (.astore 4, 2) := by decide +kernel
theorem dL_house_15 : decode cL_house 15 = .ok (.iconst 1, 1) := by decide +kernel
theorem dL_house_16 : decode cL_house 16 = .ok (.ireturn, 1) := by decide +kernel
theorem dL_house_17 : decode cL_house 17 = .ok (.astore 4, 2) := by decide +kernel
theorem dL_house_19 : decode cL_house 19 = .ok (.iconst 2, 1) := by decide +kernel
theorem dL_house_20 : decode cL_house 20 = .ok (.ireturn, 1) := by decide +kernel
theorem dL_house_21 : decode cL_house 21 = .ok (.iconst 0, 1) := by decide +kernel
theorem dL_house_22 : decode cL_house 22 = .ok (.ireturn, 1) := by decide +kernel
set_option maxRecDepth 20000 in
theorem ggL_wagon_X6_wagon : GoodIn wsL_wagon wsX6_wagon := goodIn_ca (goodIn_ca (goodIn_ca (goodIn_r _ [7, 8, 9, 10, 11, 12, 13, 14, 15, 16, 17, 18, 19, 20, 21, 22, 23, 24, 25, 6, 26, 27, 28, 29, 30, 31, 32, 33, 34, 35, 36, 37, 38, 39, 40, 41, 42, 43, 44, 45, 46, 47, 48, 49, 50, 51, 52, 53, 54, 55, 56, 57] (by decide +kernel) (by decide +kernel)) (goodIn_sub (fun _ h => List.mem_cons_of_mem _ (List.mem_append_left _ (List.mem_append_left _ (List.mem_append_right _ h)))) (by decide +kernel))) (goodIn_sub (fun _ h => List.mem_cons_of_mem _ (List.mem_append_left _ (List.mem_append_right _ h))) (by decide +kernel))) (goodIn_sub (fun _ h => List.mem_cons_of_mem _ (List.mem_append_right _ h)) (by decide +kernel))
set_option maxRecDepth 20000 in
theorem gL_wagon_X6_wagon : GoodIn wsL_wagon (wsV RL 33 RX6 yX6_wagon wsX6_wagon) := goodIn_app (goodIn_of _ (by decide +kernel)) ggL_wagon_X6_wagon
theorem dL_wagon_0 : decode cL_wagon 0 = .ok (.aload_n 3, 1) := by decide +kernel
theorem dL_wagon_1 : decode cL_wagon 1 = .ok (.iconst 0, 1) := by decide +kernel
theorem dL_wagon_2 : decode cL_wagon 2 = .ok (.aload_n 0, 1) := by decide +kernel
theorem dL_wagon_3 : decode cL_wagon 3 = .ok (.iload_n 1, 1) := by decide +kernel
theorem dL_wagon_4 : decode cL_wagon 4 = .ok (.iload_n 2, 1) := by decide +kernel
theorem dL_wagon_5 : decode cL_wagon 5 = .ok (.invokevirtual 33, 3) := by decide +kernel
theorem dL_wagon_8 : decode cL_wagon 8 = .ok (.i2l, 1) := by decide +kernel
theorem dL_wagon_9 : decode cL_wagon 9 = .ok (.lastore, 1) := by decide +kernel
theorem dL_wagon_10 : decode cL_wagon 10 = .ok (.goto 11, 3) := by decide +kernel
theorem dL_wagon_13 : decode cL_wagon 13 = .ok (.astore 4, 2) := by decide +kernel
theorem dL_wagon_15 : decode cL_wagon 15 = .ok (.iconst 1, 1) := by decide +kernel
theorem dL_wagon_16 : decode cL_wagon 16 = .ok (.ireturn, 1) := by decide +kernel
theorem dL_wagon_17 : decode cL_wagon 17 = .ok (.astore 4, 2) := by decide +kernel
theorem dL_wagon_19 : decode cL_wagon 19 = .ok (.iconst 2, 1) := by decide +kernel
theorem dL_wagon_20 : decode cL_wagon 20 = .ok (.ireturn, 1) := by decide +kernel
theorem dL_wagon_21 : decode cL_wagon 21 = .ok (.iconst 0, 1) := by decide +kernel
theorem dL_wagon_22 : decode cL_wagon 22 = .ok (.ireturn, 1) := by decide +kernel
set_option maxRecDepth 20000 in
theorem ggL_addHouse_X6_addHouse : GoodIn wsL_addHouse wsX6_addHouse := goodIn_ca (goodIn_ca (goodIn_ca (goodIn_r _ [8, 9, 10, 11, 12, 13, 14, 15, 16, 17, 18, 19, 20, 21, 22, 23, 24, 25, 26, 27, 28, 29, 30, 31, 32, 33, 34, 35, 36, 37, 38, 39, 40, 41, 42, 43, 44, 45, 46, 47, 48, 49, 50, 51, 52, 53, 54, 55, 56, 57, 58, 59, 60, 61, 62, 63, 64, 65, 66, 67, 68, 69, 70, 71, 72, 73, 74, 75, 76, 7, 77, 78, 79, 80, 81, 82, 83, 84, 85, 86, 87, 88, 89, 90, 91, 92, 93, 94, 95, 96, 97, 98, 99, 100, 101, 102, 103, 104, 105, 106, 107, 108, 109, 110, 111, 112, 113, 114, 115, 116, 117, 118, 119, 120, 121, 122, 123, 124, 125, 126, 127, 128, 129, 130, 131, 132, 133, 134, 135, 136, 137, 138, 139, 140, 141] (by decide +kernel) (by decide +kernel)) (goodIn_sub (fun _ h => List.mem_cons_of_mem _ (List.mem_append_left _ (List.mem_append_left _ (List.mem_append_right _ h)))) (by decide +kernel))) (goodIn_sub (fun _ h => List.mem_cons_of_mem _ (List.mem_append_left _ (List.mem_append_right _ h))) (by decide +kernel))) (goodIn_sub (fun _ h => List.mem_cons_of_mem _ (List.mem_append_right _ h)) (by decide +kernel))
set_option maxRecDepth 20000 in
theorem gL_addHouse_X6_addHouse : GoodIn wsL_addHouse (wsV RL 36 RX6 yX6_addHouse wsX6_addHouse) := goodIn_app (goodIn_of _ (by decide +kernel)) ggL_addHouse_X6_addHouse
theorem dL_addHouse_0 : decode cL_addHouse 0 = .ok (.aload_n 3, 1) := by decide +kernel
theorem dL_addHouse_1 : decode cL_addHouse 1 = .ok (.iconst 0, 1) := by decide +kernel
theorem dL_addHouse_2 : decode cL_addHouse 2 = .ok (.aload_n 0, 1) := by decide +kernel
theorem dL_addHouse_3 : decode cL_addHouse 3 = .ok (.iload_n 1, 1) := by decide +kernel
theorem dL_addHouse_4 : decode cL_addHouse 4 = .ok (.iload_n 2, 1) := by decide +kernel
theorem dL_addHouse_5 : decode cL_addHouse 5 = .ok (.invokevirtual 36, 3) := by decide +kernel
theorem dL_addHouse_8 : decode cL_addHouse 8 = .ok (.i2l, 1) := by decide +kernel
theorem dL_addHouse_9 : decode cL_addHouse 9 = .ok (.lastore, 1) := by decide +kernel
theorem dL_addHouse_10 : decode cL_addHouse 10 = .ok (.goto 15, 3) := by decide +kernel
theorem dL_addHouse_13 : decode cL_addHouse 13 = .ok (.astore 4, 2) := by decide +kernel
theorem dL_addHouse_15 : decode cL_addHouse 15 = .ok (.iconst 1, 1) := by decide +kernel
theorem dL_addHouse_16 : decode cL_addHouse 16 = .ok (.ireturn, 1) := by decide +kernel
theorem dL_addHouse_17 : decode cL_addHouse 17 = .ok (.astore 4, 2) := by decide +kernel
theorem dL_addHouse_19 : decode cL_addHouse 19 = .ok (.iconst 2, 1) := by decide +kernel
theorem dL_addHouse_20 : decode cL_addHouse 20 = .ok (.ireturn, 1) := by decide +kernel
theorem dL_addHouse_21 : decode cL_addHouse 21 = .ok (.astore 4, 2) := by decide +kernel
theorem dL_addHouse_23 : decode cL_addHouse 23 = .ok (.iconst 3, 1) := by decide +kernel
theorem dL_addHouse_24 : decode cL_addHouse 24 = .ok (.ireturn, 1) := by decide +kernel
theorem dL_addHouse_25 : decode cL_addHouse 25 = .ok (.iconst 0, 1) := by decide +kernel
theorem dL_addHouse_26 : decode cL_addHouse 26 = .ok (.ireturn, 1) := by decide +kernel
set_option maxRecDepth 20000 in
theorem ggL_addWagon_X6_addWagon : GoodIn wsL_addWagon wsX6_addWagon := goodIn_ca (goodIn_ca (goodIn_ca (goodIn_r _ [7, 8, 9, 10, 11, 12, 13, 14, 15, 16, 17, 18, 19, 20, 21, 22, 23, 24, 25, 26, 27, 28, 29, 30, 31, 32, 33, 34, 35, 36, 37, 38, 39, 40, 41, 42, 43, 44, 45, 46, 47, 48, 49, 50, 51, 52, 53, 54, 55, 56, 57, 58, 59, 60, 61, 62, 63, 64, 65, 66, 67, 68, 69, 70, 71, 72, 73, 74, 75, 76, 77, 78, 79, 80, 81, 6, 82, 83, 84, 85, 86, 87, 88, 89, 90, 91, 92, 93, 94, 95, 96, 97, 98, 99, 100, 101, 102, 103, 104, 105, 106, 107, 108, 109, 110, 111, 112, 113, 114, 115, 116, 117, 118, 119, 120, 121, 122, 123, 124, 125, 126, 127, 128, 129, 130, 131, 132, 133, 134, 135, 136, 137, 138] (by decide +kernel) (by decide +kernel)) (goodIn_sub (fun _ h => List.mem_cons_of_mem _ (List.mem_append_left _ (List.mem_append_left _ (List.mem_append_right _ h)))) (by decide +kernel))) (goodIn_sub (fun _ h => List.mem_cons_of_mem _ (List.mem_append_left _ (List.mem_append_right _ h))) (by decide +kernel))) (goodIn_sub (fun _ h => List.mem_cons_of_mem _ (List.mem_append_right _ h)) (by decide +kernel))
set_option maxRecDepth 20000 in
theorem gL_addWagon_X6_addWagon : GoodIn wsL_addWagon (wsV RL 39 RX6 yX6_addWagon wsX6_addWagon) := goodIn_app (goodIn_of _ (by decide +kernel)) ggL_addWagon_X6_addWagon
theorem dL_addWagon_0 : decode cL_addWagon 0 = .ok (.aload_n 2, 1) := by decide +kernel
theorem dL_addWagon_1 : decode cL_addWagon 1 = .ok (.iconst 0, 1) := by decide +kernel
theorem dL_addWagon_2 : decode cL_addWagon 2 = .ok (.aload_n 0, 1) := by decide +kernel
theorem dL_addWagon_3 : decode cL_addWagon 3 = .ok (.iload_n 1, 1) := by decide +kernel
theorem dL_addWagon_4 : decode cL_addWagon 4 = .ok (.invokevirtual 39, 3) := by decide +kernel
theorem dL_addWagon_7 : decode cL_addWagon 7 = .ok (.i2l, 1) := by decide +kernel
theorem dL_addWagon_8 : decode cL_addWagon 8 = .ok (.lastore, 1) := by decide +kernel
theorem dL_addWagon_9 : decode cL_addWagon 9 = .ok (.goto 9, 3) := by decide +kernel
theorem dL_addWagon_12 : decode cL_addWagon 12 = .ok (.astore_n 3, 1) := by decide +kernel
theorem dL_addWagon_13 : decode cL_addWagon 13 = .ok (.iconst 1, 1) := by decide +kernel
theorem dL_addWagon_14 : decode cL_addWagon 14 = .ok (.ireturn, 1) := by decide +kernel
theorem dL_addWagon_15 : decode cL_addWagon 15 = .ok (.astore_n 3, 1) := by decide +kernel
theorem dL_addWagon_16 : decode cL_addWagon 16 = .ok (.iconst 2, 1) := by decide +kernel
theorem dL_addWagon_17 : decode cL_addWagon 17 = .ok (.ireturn, 1) := by decide +kernel
theorem dL_addWagon_18 : decode cL_addWagon 18 = .ok (.iconst 0, 1) := by decide +kernel
theorem dL_addWagon_19 : decode cL_addWagon 19 = .ok (.ireturn, 1) := by decide +kernel
set_option maxRecDepth 20000 in
theorem ggL_setSurface_X6_setSurface : GoodIn wsL_setSurface wsX6_setSurface := goodIn_ca (goodIn_ca (goodIn_ca (goodIn_r _ [7, 8, 9, 10, 11, 12, 13, 14, 15, 16, 17, 18, 19, 20, 21, 22, 23, 24, 25, 26, 27, 28, 29, 30, 31, 32, 33, 34, 35, 36, 37, 38, 39, 40, 41, 42, 43, 44, 45, 46, 47, 48, 49, 50, 51, 52, 53, 54, 55, 56, 57, 58, 59, 60, 61, 62, 63, 64, 65, 66, 67, 68, 69, 70, 71, 72, 73, 74, 75, 76, 6, 77, 78, 79, 80, 81, 82, 83, 84, 85, 86, 87, 88, 89, 90, 91, 92, 93, 94, 95, 96, 97, 98, 99, 100, 101, 102, 103, 104, 105, 106, 107, 108, 109, 110, 111, 112, 113, 114, 115, 116, 117, 118, 119, 120, 121, 122, 123, 124, 125, 126, 127, 128, 129, 130, 131, 132, 133, 134, 135, 136, 137] (by decide +kernel) (by decide +kernel)) (goodIn_sub (fun _ h => List.mem_cons_of_mem _ (List.mem_append_left _ (List.mem_append_left _ (List.mem_append_right _ h)))) (by decide +kernel))) (goodIn_sub (fun _ h => List.mem_cons_of_mem _ (List.mem_append_left _ (List.mem_append_right _ h))) (by decide +kernel))) (goodIn_sub (fun _ h => List.mem_cons_of_mem _ (List.mem_append_right _ h)) (by decide +kernel))
set_option maxRecDepth 20000 in
theorem gL_setSurface_X6_setSurface : GoodIn wsL_setSurface (wsV RL 42 RX6 yX6_setSurface wsX6_setSurface) := goodIn_app (goodIn_of _ (by decide +kernel)) ggL_setSurface_X6_setSurface
theorem dL_setSurface_0 : decode cL_setSurface 0 = .ok (.aload_n 3, 1) := by decide +kernel
theorem dL_setSurface_1 : decode cL_setSurface 1 = .ok (.iconst 0, 1) := by decide +kernel
theorem dL_setSurface_2 : decode cL_setSurface 2 = .ok (.aload_n 0, 1) := by decide +kernel
theorem dL_setSurface_3 : decode cL_setSurface 3 = .ok (.iload_n 1, 1) := by decide +kernel
theorem dL_setSurface_4 : decode cL_setSurface 4 = .ok (.iload_n 2, 1) := by decide +kernel
theorem dL_setSurface_5 : decode cL_setSurface 5 = .ok (.invokevirtual 42, 3) := by decide +kernel
theorem dL_setSurface_8 : decode cL_setSurface 8 = .ok (.i2l, 1) := by decide +kernel
theorem dL_setSurface_9 : decode cL_setSurface 9 = .ok (.lastore, 1) := by decide +kernel
theorem dL_setSurface_10 : decode cL_setSurface 10 = .ok (.goto 11, 3) := by decide +kernel
theorem dL_setSurface_13 : decode cL_setSurface 13 = .ok (.astore 4, 2) := by decide +kernel
theorem dL_setSurface_15 : decode cL_setSurface 15 = .ok (.iconst 1, 1) := by decide +kernel
theorem dL_setSurface_16 : decode cL_setSurface 16 = .ok (.ireturn, 1) := by decide +kernel
theorem dL_setSurface_17 : decode cL_setSurface 17 = .ok (.astore 4, 2) := by decide +kernel
theorem dL_setSurface_19 : decode cL_setSurface 19 = .ok (.iconst 2, 1) := by decide +kernel
theorem dL_setSurface_20 : decode cL_setSurface 20 = .ok (.ireturn, 1) := by decide +kernel
theorem dL_setSurface_21 : decode cL_setSurface 21 = .ok (.iconst 0, 1) := by decide +kernel
theorem dL_setSurface_22 : decode cL_setSurface 22 = .ok (.ireturn, 1) := by decide +kernel
set_option maxRecDepth 20000 in
theorem ggL_setLimit_X6_setLimit : GoodIn wsL_setLimit wsX6_setLimit := goodIn_ca (goodIn_ca (goodIn_ca (goodIn_r _ [8, 9, 10, 11, 12, 13, 14, 15, 16, 17, 18, 19, 20, 21, 22, 23, 24, 25, 26, 27, 28, 29, 30, 31, 32, 33, 34, 35, 36, 37, 38, 39, 40, 41, 42, 43, 44, 45, 46, 47, 48, 49, 50, 51, 52, 53, 54, 55, 56, 57, 58, 59, 60, 61, 62, 63, 64, 65, 66, 67, 68, 69, 70, 71, 72, 73, 74, 75, 76, 77, 7, 78, 79, 80, 81, 82, 83, 84, 85, 86, 87, 88, 89, 90, 91, 92, 93, 94, 95, 96, 97, 98, 99, 100, 101, 102, 103, 104, 105, 106, 107, 108, 109, 110, 111, 112, 113, 114, 115, 116, 117, 118, 119, 120, 121, 122, 123, 124, 125, 126, 127, 128, 129, 130, 131, 132, 133, 134, 135, 136, 137, 138, 139, 140, 141, 142] (by decide +kernel) (by decide +kernel)) (goodIn_sub (fun _ h => List.mem_cons_of_mem _ (List.mem_append_left _ (List.mem_append_left _ (List.mem_append_right _ h)))) (by decide +kernel))) (goodIn_sub (fun _ h => List.mem_cons_of_mem _ (List.mem_append_left _ (List.mem_append_right _ h))) (by decide +kernel))) (goodIn_sub (fun _ h => List.mem_cons_of_mem _ (List.mem_append_right _ h)) (by decide +kernel))
set_option maxRecDepth 20000 in
theorem gL_setLimit_X6_setLimit : GoodIn wsL_setLimit (wsV RL 45 RX6 yX6_setLimit wsX6_setLimit) := goodIn_app (goodIn_of _ (by decide +kernel)) ggL_setLimit_X6_setLimit
theorem dL_setLimit_0 : decode cL_setLimit 0 = .ok (.aload_n 3, 1) := by decide +kernel
theorem dL_setLimit_1 : decode cL_setLimit 1 = .ok (.iconst 0, 1) := by decide +kernel
theorem dL_setLimit_2 : decode cL_setLimit 2 = .ok (.aload_n 0, 1) := by decide +kernel
theorem dL_setLimit_3 : decode cL_setLimit 3 = .ok (.iload_n 1, 1) := by decide +kernel
theorem dL_setLimit_4 : decode cL_setLimit 4 = .ok (.iload_n 2, 1) := by decide +kernel
theorem dL_setLimit_5 : decode cL_setLimit 5 = .ok (.invokevirtual 45, 3) := by decide +kernel
theorem dL_setLimit_8 : decode cL_setLimit 8 = .ok (.i2l, 1) := by decide +kernel
theorem dL_setLimit_9 : decode cL_setLimit 9 = .ok (.lastore, 1) := by decide +kernel
theorem dL_setLimit_10 : decode cL_setLimit 10 = .ok (.goto 15, 3) := by decide +kernel
theorem dL_setLimit_13 : decode cL_setLimit 13 = .ok (.astore 4, 2) := by decide +kernel
theorem dL_setLimit_15 : decode cL_setLimit 15 = .ok (.iconst 1, 1) := by decide +kernel
theorem dL_setLimit_16 : decode cL_setLimit 16 = .ok (.ireturn, 1) := by decide +kernel
theorem dL_setLimit_17 : decode cL_setLimit 17 = .ok (.astore 4, 2) := by decide +kernel
theorem dL_setLimit_19 : decode cL_setLimit 19 = .ok (.iconst 2, 1) := by decide +kernel
theorem dL_setLimit_20 : decode cL_setLimit 20 = .ok (.ireturn, 1) := by decide +kernel
theorem dL_setLimit_21 : decode cL_setLimit 21 = .ok (.astore 4, 2) := by decide +kernel
theorem dL_setLimit_23 : decode cL_setLimit 23 = .ok (.iconst 3, 1) := by decide +kernel
theorem dL_setLimit_24 : decode cL_setLimit 24 = .ok (.ireturn, 1) := by decide +kernel
theorem dL_setLimit_25 : decode cL_setLimit 25 = .ok (.iconst 0, 1) := by decide +kernel
theorem dL_setLimit_26 : decode cL_setLimit 26 = .ok (.ireturn, 1) := by decide +kernel
set_option maxRecDepth 20000 in
theorem ggL_set_X6_set : GoodIn wsL_set wsX6_set := goodIn_ca (goodIn_ca (goodIn_ca (goodIn_r _ [6, 7, 8, 9, 10, 11, 12, 13, 14, 15, 16, 17, 18, 19, 20, 21, 22, 23, 24, 25, 26, 27, 28, 29, 30, 31, 32, 33, 34, 35, 36, 37, 38, 39, 40, 41, 42, 43, 44, 45, 46, 47, 48, 49, 50, 51, 52, 53, 54, 55, 56, 57, 58, 59, 60, 61, 62, 63, 64, 65, 66, 67, 68, 69, 70, 71, 72, 73, 74, 75, 76, 77, 78, 79, 80, 81, 82, 83, 5, 84, 85, 86, 87, 88, 89, 90, 91, 92, 93, 94, 95, 96, 97, 98, 99, 100, 101, 102, 103, 104, 105, 106, 107, 108, 109, 110, 111, 112, 113, 114, 115, 116, 117, 118, 119, 120, 121, 122, 123, 124, 125, 126, 127, 128, 129, 130, 131, 132, 133, 134, 135, 136, 137, 138, 139, 140, 141, 142, 143, 144] (by decide +kernel) (by decide +kernel)) (goodIn_sub (fun _ h => List.mem_cons_of_mem _ (List.mem_append_left _ (List.mem_append_left _ (List.mem_append_right _ h)))) (by decide +kernel))) (goodIn_sub (fun _ h => List.mem_cons_of_mem _ (List.mem_append_left _ (List.mem_append_right _ h))) (by decide +kernel))) (goodIn_sub (fun _ h => List.mem_cons_of_mem _ (List.mem_append_right _ h)) (by decide +kernel))
set_option maxRecDepth 20000 in
theorem gL_set_X6_set : GoodIn wsL_set (wsV RL 48 RX6 yX6_set wsX6_set) := goodIn_app (goodIn_of _ (by decide +kernel)) ggL_set_X6_set
theorem dL_set_0 : decode cL_set 0 = .ok (.aload_n 3, 1) := by decide +kernel
theorem dL_set_1 : decode cL_set 1 = .ok (.iconst 0, 1) := by decide +kernel
theorem dL_set_2 : decode cL_set 2 = .ok (.aload_n 0, 1) := by decide +kernel
theorem dL_set_3 : decode cL_set 3 = .ok (.iload_n 1, 1) := by decide +kernel
theorem dL_set_4 : decode cL_set 4 = .ok (.iload_n 2, 1) := by decide +kernel
theorem dL_set_5 : decode cL_set 5 = .ok (.invokevirtual 48, 3) := by decide +kernel
theorem dL_set_8 : decode cL_set 8 = .ok (.i2l, 1) := by decide +kernel
theorem dL_set_9 : decode cL_set 9 = .ok (.lastore, 1) := by decide +kernel
theorem dL_set_10 : decode cL_set 10 = .ok (.goto 7, 3) := by decide +kernel
theorem dL_set_13 : decode cL_set 13 = .ok (.astore 4, 2) := by decide +kernel
theorem dL_set_15 : decode cL_set 15 = .ok (.iconst 1, 1) := by decide +kernel
theorem dL_set_16 : decode cL_set 16 = .ok (.ireturn, 1) := by decide +kernel
theorem dL_set_17 : decode cL_set 17 = .ok (.iconst 0, 1) := by decide +kernel
theorem dL_set_18 : decode cL_set 18 = .ok (.ireturn, 1) := by decide +kernel
set_option maxRecDepth 20000 in
theorem ggL_drive_X6_drive : GoodIn wsL_drive wsX6_drive := goodIn_ca (goodIn_ca (goodIn_ca (goodIn_r _ [7, 8, 9, 10, 11, 12, 13, 14, 15, 16, 17, 18, 19, 20, 21, 22, 23, 24, 25, 26, 27, 28, 29, 30, 31, 32, 33, 34, 35, 36, 37, 38, 39, 40, 41, 42, 43, 44, 45, 46, 47, 48, 49, 50, 51, 52, 53, 54, 55, 56, 57, 58, 59, 60, 61, 62, 63, 64, 65, 66, 67, 68, 69, 70, 71, 72, 73, 74, 75, 76, 77, 78, 79, 80, 81, 82, 83, 84, 85, 86, 87, 88, 89, 90, 91, 6, 92, 93, 94, 95, 96, 97, 98, 99, 100, 101, 102, 103, 104, 105, 106, 107, 108, 109, 110, 111, 112, 113, 114, 115, 116, 117, 118, 119, 120, 121, 122, 123, 124, 125, 126, 127, 128, 129, 130, 131, 132, 133, 134, 135, 136, 137, 138, 139, 140, 141, 142, 143, 144, 145, 146, 147, 148] (by decide +kernel) (by decide +kernel)) (goodIn_sub (fun _ h => List.mem_cons_of_mem _ (List.mem_append_left _ (List.mem_append_left _ (List.mem_append_right _ h)))) (by decide +kernel))) (goodIn_sub (fun _ h => List.mem_cons_of_mem _ (List.mem_append_left _ (List.mem_append_right _ h))) (by decide +kernel))) (goodIn_sub (fun _ h => List.mem_cons_of_mem _ (List.mem_append_right _ h)) (by decide +kernel))
set_option maxRecDepth 20000 in
theorem gL_drive_X6_drive : GoodIn wsL_drive (wsV RL 51 RX6 yX6_drive wsX6_drive) := goodIn_app (goodIn_of _ (by decide +kernel)) ggL_drive_X6_drive
theorem dL_drive_0 : decode cL_drive 0 = .ok (.aload_n 3, 1) := by decide +kernel
theorem dL_drive_1 : decode cL_drive 1 = .ok (.iconst 0, 1) := by decide +kernel
theorem dL_drive_2 : decode cL_drive 2 = .ok (.aload_n 0, 1) := by decide +kernel
theorem dL_drive_3 : decode cL_drive 3 = .ok (.iload_n 1, 1) := by decide +kernel
theorem dL_drive_4 : decode cL_drive 4 = .ok (.iload_n 2, 1) := by decide +kernel
theorem dL_drive_5 : decode cL_drive 5 = .ok (.invokevirtual 51, 3) := by decide +kernel
theorem dL_drive_8 : decode cL_drive 8 = .ok (.i2l, 1) := by decide +kernel
theorem dL_drive_9 : decode cL_drive 9 = .ok (.lastore, 1) := by decide +kernel
theorem dL_drive_10 : decode cL_drive 10 = .ok (.goto 11, 3) := by decide +kernel
theorem dL_drive_13 : decode cL_drive 13 = .ok (.astore 4, 2) := by decide +kernel
theorem dL_drive_15 : decode cL_drive 15 = .ok (.iconst 1, 1) := by decide +kernel
theorem dL_drive_16 : decode cL_drive 16 = .ok (.ireturn, 1) := by decide +kernel
theorem dL_drive_17 : decode cL_drive 17 = .ok (.astore 4, 2) := by decide +kernel
theorem dL_drive_19 : decode cL_drive 19 = .ok (.iconst 2, 1) := by decide +kernel
theorem dL_drive_20 : decode cL_drive 20 = .ok (.ireturn, 1) := by decide +kernel
theorem dL_drive_21 : decode cL_drive 21 = .ok (.iconst 0, 1) := by decide +kernel
theorem dL_drive_22 : decode cL_drive 22 = .ok (.ireturn, 1) := by decide +kernel
set_option maxRecDepth 20000 in
theorem ggL_spray_X6_spray : GoodIn wsL_spray wsX6_spray := goodIn_ca (goodIn_ca (goodIn_ca (goodIn_r _ [8, 9, 10, 11, 12, 13, 14, 15, 16, 17, 18, 19, 20, 21, 22, 23, 24, 25, 26, 27, 28, 29, 30, 31, 32, 33, 34, 35, 36, 37, 38, 39, 40, 41, 42, 43, 44, 45, 46, 47, 48, 49, 50, 51, 52, 53, 54, 55, 56, 57, 58, 59, 60, 61, 62, 63, 64, 65, 66, 67, 68, 69, 70, 71, 72, 73, 74, 75, 76, 77, 78, 79, 80, 81, 82, 83, 84, 7, 85, 86, 87, 88, 89, 90, 91, 92, 93, 94, 95, 96, 97, 98, 99, 100, 101, 102, 103, 104, 105, 106, 107, 108, 109, 110, 111, 112, 113, 114, 115, 116, 117, 118, 119, 120, 121, 122, 123, 124, 125, 126, 127, 128, 129, 130, 131, 132, 133, 134, 135, 136, 137, 138, 139, 140, 141, 142, 143, 144, 145, 146, 147, 148, 149, 150, 151, 152, 153, 154, 155, 156, 157, 158, 159, 160, 161, 162, 163, 164] (by decide +kernel) (by decide +kernel)) (goodIn_sub (fun _ h => List.mem_cons_of_mem _ (List.mem_append_left _ (List.mem_append_left _ (List.mem_append_right _ h)))) (by decide +kernel))) (goodIn_sub (fun _ h => List.mem_cons_of_mem _ (List.mem_append_left _ (List.mem_append_right _ h))) (by decide +kernel))) (goodIn_sub (fun _ h => List.mem_cons_of_mem _ (List.mem_append_right _ h)) (by decide +kernel))
set_option maxRecDepth 20000 in
theorem gL_spray_X6_spray : GoodIn wsL_spray (wsV RL 54 RX6 yX6_spray wsX6_spray) := goodIn_app (goodIn_of _ (by decide +kernel)) ggL_spray_X6_spray
theorem dL_spray_0 : decode cL_spray 0 = .ok (.aload_n 3, 1) := by decide +kernel
theorem dL_spray_1 : decode cL_spray 1 = .ok (.iconst 0, 1) := by decide +kernel
theorem dL_spray_2 : decode cL_spray 2 = .ok (.aload_n 0, 1) := by decide +kernel
theorem dL_spray_3 : decode cL_spray 3 = .ok (.iload_n 1, 1) := by decide +kernel
theorem dL_spray_4 : decode cL_spray 4 = .ok (.iload_n 2, 1) := by decide +kernel
theorem dL_spray_5 : decode cL_spray 5 = .ok (.invokevirtual 54, 3) := by decide +kernel
theorem dL_spray_8 : decode cL_spray 8 = .ok (.i2l, 1) := by decide +kernel
theorem dL_spray_9 : decode cL_spray 9 = .ok (.lastore, 1) := by decide +kernel
theorem dL_spray_10 : decode cL_spray 10 = .ok (.goto 15, 3) := by decide +kernel
theorem dL_spray_13 : decode cL_spray 13 = .ok (.astore 4, 2) := by decide +kernel
theorem dL_spray_15 : decode cL_spray 15 = .ok (.iconst 1, 1) := by decide +kernel
theorem dL_spray_16 : decode cL_spray 16 = .ok (.ireturn, 1) := by decide +kernel
theorem dL_spray_17 : decode cL_spray 17 = .ok (.astore 4, 2) := by decide +kernel
theorem dL_spray_19 : decode cL_spray 19 = .ok (.iconst 2, 1) := by decide +kernel
theorem dL_spray_20 : decode cL_spray 20 = .ok (.ireturn, 1) := by decide +kernel
theorem dL_spray_21 : decode cL_spray 21 = .ok (.astore 4, 2) := by decide +kernel
theorem dL_spray_23 : decode cL_spray 23 = .ok (.iconst 3, 1) := by decide +kernel
theorem dL_spray_24 : decode cL_spray 24 = .ok (.ireturn, 1) := by decide +kernel
theorem dL_spray_25 : decode cL_spray 25 = .ok (.iconst 0, 1) := by decide +kernel
theorem dL_spray_26 : decode cL_spray 26 = .ok (.ireturn, 1) := by decide +kernel
set_option maxRecDepth 20000 in
theorem ggL_fill_X6_fill : GoodIn wsL_fill wsX6_fill := goodIn_ca (goodIn_ca (goodIn_ca (goodIn_r _ [7, 8, 9, 10, 11, 12, 13, 14, 15, 16, 17, 18, 19, 20, 21, 22, 23, 24, 25, 26, 27, 28, 29, 30, 31, 32, 33, 34, 35, 36, 37, 38, 39, 40, 41, 42, 43, 44, 45, 46, 47, 48, 49, 50, 51, 52, 53, 54, 55, 56, 57, 58, 59, 60, 61, 62, 63, 64, 65, 66, 67, 68, 69, 70, 71, 72, 73, 74, 75, 76, 77, 78, 79, 80, 81, 82, 83, 84, 85, 86, 87, 88, 89, 90, 91, 92, 93, 6, 94, 95, 96, 97, 98, 99, 100, 101, 102, 103, 104, 105, 106, 107, 108, 109, 110, 111, 112, 113, 114, 115, 116, 117, 118, 119, 120, 121, 122, 123, 124, 125, 126, 127, 128, 129, 130, 131, 132, 133, 134, 135, 136, 137, 138, 139, 140, 141, 142, 143, 144, 145, 146, 147, 148, 149, 150] (by decide +kernel) (by decide +kernel)) (goodIn_sub (fun _ h => List.mem_cons_of_mem _ (List.mem_append_left _ (List.mem_append_left _ (List.mem_append_right _ h)))) (by decide +kernel))) (goodIn_sub (fun _ h => List.mem_cons_of_mem _ (List.mem_append_left _ (List.mem_append_right _ h))) (by decide +kernel))) (goodIn_sub (fun _ h => List.mem_cons_of_mem _ (List.mem_append_right _ h)) (by decide +kernel))
set_option maxRecDepth 20000 in
theorem gL_fill_X6_fill : GoodIn wsL_fill (wsV RL 57 RX6 yX6_fill wsX6_fill) := goodIn_app (goodIn_of _ (by decide +kernel)) ggL_fill_X6_fill
theorem dL_fill_0 : decode cL_fill 0 = .ok (.aload_n 2, 1) := by decide +kernel
theorem dL_fill_1 : decode cL_fill 1 = .ok (.iconst 0, 1) := by decide +kernel
theorem dL_fill_2 : decode cL_fill 2 = .ok (.aload_n 0, 1) := by decide +kernel
theorem dL_fill_3 : decode cL_fill 3 = .ok (.iload_n 1, 1) := by decide +kernel
theorem dL_fill_4 : decode cL_fill 4 = .ok (.invokevirtual 57, 3) := by decide +kernel
theorem dL_fill_7 : decode cL_fill 7 = .ok (.i2l, 1) := by decide +kernel
theorem dL_fill_8 : decode cL_fill 8 = .ok (.lastore, 1) := by decide +kernel
theorem dL_fill_9 : decode cL_fill 9 = .ok (.goto 9, 3) := by decide +kernel
theorem dL_fill_12 : decode cL_fill 12 = .ok (.astore_n 3, 1) := by decide +kernel
theorem dL_fill_13 : decode cL_fill 13 = .ok (.iconst 1, 1) := by decide +kernel
theorem dL_fill_14 : decode cL_fill 14 = .ok (.ireturn, 1) := by decide +kernel
theorem dL_fill_15 : decode cL_fill 15 = .ok (.astore_n 3, 1) := by decide +kernel
theorem dL_fill_16 : decode cL_fill 16 = .ok (.iconst 2, 1) := by decide +kernel
theorem dL_fill_17 : decode cL_fill 17 = .ok (.ireturn, 1) := by decide +kernel
theorem dL_fill_18 : decode cL_fill 18 = .ok (.iconst 0, 1) := by decide +kernel
theorem dL_fill_19 : decode cL_fill 19 = .ok (.ireturn, 1) := by decide +kernel
set_option maxRecDepth 20000 in
theorem ggL_pass_X6_pass : GoodIn wsL_pass wsX6_pass := goodIn_ca (goodIn_ca (goodIn_ca (goodIn_r _ [6, 7, 8, 9, 10, 11, 12, 13, 14, 15, 16, 17, 18, 19, 20, 21, 22, 23, 24, 25, 26, 27, 28, 29, 30, 31, 32, 33, 34, 35, 36, 37, 38, 39, 40, 41, 42, 43, 44, 45, 46, 47, 48, 49, 50, 51, 52, 53, 54, 55, 56, 57, 58, 59, 60, 61, 62, 63, 64, 65, 66, 67, 68, 69, 70, 5, 71, 72, 73, 74, 75, 76, 77, 78, 79, 80, 81, 82, 83, 84, 85, 86, 87, 88, 89, 90, 91, 92, 93, 94, 95, 96, 97, 98, 99, 100, 101, 102, 103, 104, 105, 106, 107, 108, 109, 110, 111, 112, 113, 114, 115, 116, 117, 118, 119, 120, 121, 122, 123, 124, 125, 126, 127, 128, 129, 130, 131, 132, 133, 134, 135, 136, 137, 138, 139, 140, 141, 142, 143, 144, 145, 146, 147, 148, 149, 150, 151, 152, 153, 154, 155, 156, 157, 158, 159, 160, 161, 162, 163, 164, 165, 166, 167, 168, 169, 170, 171, 172, 173, 174, 175, 176, 177, 178, 179, 180, 181, 182, 183, 184, 185, 186, 187, 188, 189, 190, 191, 192, 193, 194, 195, 196, 197, 198, 199, 200, 201] (by decide +kernel) (by decide +kernel)) (goodIn_sub (fun _ h => List.mem_cons_of_mem _ (List.mem_append_left _ (List.mem_append_left _ (List.mem_append_right _ h)))) (by decide +kernel))) (goodIn_sub (fun _ h => List.mem_cons_of_mem _ (List.mem_append_left _ (List.mem_append_right _ h))) (by decide +kernel))) (goodIn_sub (fun _ h => List.mem_cons_of_mem _ (List.mem_append_right _ h)) (by decide +kernel))
set_option maxRecDepth 20000 in
theorem gL_pass_X6_pass : GoodIn wsL_pass (wsV RL 60 RX6 yX6_pass wsX6_pass) := goodIn_app (goodIn_of _ (by decide +kernel)) ggL_pass_X6_pass
theorem dL_pass_0 : decode cL_pass 0 = .ok (.aload_n 2, 1) := by decide +kernel
theorem dL_pass_1 : decode cL_pass 1 = .ok (.iconst 0, 1) := by decide +kernel
theorem dL_pass_2 : decode cL_pass 2 = .ok (.aload_n 0, 1) := by decide +kernel
theorem dL_pass_3 : decode cL_pass 3 = .ok (.iload_n 1, 1) := by decide +kernel
theorem dL_pass_4 : decode cL_pass 4 = .ok (.invokevirtual 60, 3) := by decide +kernel
theorem dL_pass_7 : decode cL_pass 7 = .ok (.i2l, 1) := by decide +kernel
theorem dL_pass_8 : decode cL_pass 8 = .ok (.lastore, 1) := by decide +kernel
theorem dL_pass_9 : decode cL_pass 9 = .ok (.goto 6, 3) := by decide +kernel
theorem dL_pass_12 : decode cL_pass 12 = .ok (.astore_n 3, 1) := by decide +kernel
theorem dL_pass_13 : decode cL_pass 13 = .ok (.iconst 1, 1) := by decide +kernel
theorem dL_pass_14 : decode cL_pass 14 = .ok (.ireturn, 1) := by decide +kernel
theorem dL_pass_15 : decode cL_pass 15 = .ok (.iconst 0, 1) := by decide +kernel
theorem dL_pass_16 : decode cL_pass 16 = .ok (.ireturn, 1) := by decide +kernel
set_option maxRecDepth 20000 in
theorem ggL_undo_X6_undo : GoodIn wsL_undo wsX6_undo := goodIn_ca (goodIn_r _ [6, 7, 8, 9, 10, 11, 12, 13, 14, 15, 16, 17, 18, 19, 20, 21, 22, 23, 24, 25, 26, 27, 28, 29, 30, 31, 32, 33, 34, 35, 36, 37, 38, 39, 40, 41, 42, 43, 44, 45, 46, 47, 48, 49, 50, 51, 52, 53, 54, 55, 56, 57, 58, 59, 60, 61, 62, 63, 64, 65, 66, 67, 68, 69, 70, 71, 72, 73, 74, 75, 76, 77, 78, 79, 80, 81, 82, 83, 84, 85, 86, 87, 88, 89, 90, 91, 92, 93, 94, 95, 96, 97, 98, 99, 100, 101, 102, 103, 104, 105, 106, 107] (by decide +kernel) (by decide +kernel)) (goodIn_sub (fun _ h => List.mem_cons_of_mem _ (List.mem_append_right _ h)) (by decide +kernel))
set_option maxRecDepth 20000 in
theorem gL_undo_X6_undo : GoodIn wsL_undo (wsV RL 63 RX6 yX6_undo wsX6_undo) := goodIn_app (goodIn_of _ (by decide +kernel)) ggL_undo_X6_undo
theorem dL_undo_0 : decode cL_undo 0 = .ok (.aload_n 1, 1) := by decide +kernel
theorem dL_undo_1 : decode cL_undo 1 = .ok (.iconst 0, 1) := by decide +kernel
theorem dL_undo_2 : decode cL_undo 2 = .ok (.aload_n 0, 1) := by decide +kernel
theorem dL_undo_3 : decode cL_undo 3 = .ok (.invokevirtual 63, 3) := by decide +kernel
theorem dL_undo_6 : decode cL_undo 6 = .ok (.i2l, 1) := by decide +kernel
theorem dL_undo_7 : decode cL_undo 7 = .ok (.lastore, 1) := by decide +kernel
theorem dL_undo_8 : decode cL_undo 8 = .ok (.goto 6, 3) := by decide +kernel
theorem dL_undo_11 : decode cL_undo 11 = .ok (.astore_n 2, 1) := by decide +kernel
theorem dL_undo_12 : decode cL_undo 12 = .ok (.iconst 1, 1) := by decide +kernel
theorem dL_undo_13 : decode cL_undo 13 = .ok (.ireturn, 1) := by decide +kernel
theorem dL_undo_14 : decode cL_undo 14 = .ok (.iconst 0, 1) := by decide +kernel
theorem dL_undo_15 : decode cL_undo 15 = .ok (.ireturn, 1) := by decide +kernel
set_option maxRecDepth 20000 in
theorem ggL_whyNoFill_X6_whyNoFill : GoodIn wsL_whyNoFill wsX6_whyNoFill := goodIn_ca (goodIn_ca (goodIn_ca (goodIn_r _ [6, 7, 8, 9, 10, 11, 12, 13, 14, 15, 16, 17, 18, 19, 20, 21, 22, 23, 24, 25, 26, 27, 28, 29, 30, 31, 32, 5, 33, 34, 35, 36, 37, 38, 39, 40, 41, 42, 43, 44, 45, 46, 47, 48, 49, 50, 51, 52, 53, 54, 55, 56, 57, 58, 59, 60, 61, 62, 63, 64, 65, 66, 67, 68, 69, 70, 71] (by decide +kernel) (by decide +kernel)) (goodIn_sub (fun _ h => List.mem_cons_of_mem _ (List.mem_append_left _ (List.mem_append_left _ (List.mem_append_right _ h)))) (by decide +kernel))) (goodIn_sub (fun _ h => List.mem_cons_of_mem _ (List.mem_append_left _ (List.mem_append_right _ h))) (by decide +kernel))) (goodIn_sub (fun _ h => List.mem_cons_of_mem _ (List.mem_append_right _ h)) (by decide +kernel))
set_option maxRecDepth 20000 in
theorem gL_whyNoFill_X6_whyNoFill : GoodIn wsL_whyNoFill (wsV RL 66 RX6 yX6_whyNoFill wsX6_whyNoFill) := goodIn_app (goodIn_of _ (by decide +kernel)) ggL_whyNoFill_X6_whyNoFill
theorem dL_whyNoFill_0 : decode cL_whyNoFill 0 = .ok (.aload_n 2, 1) := by decide +kernel
theorem dL_whyNoFill_1 : decode cL_whyNoFill 1 = .ok (.iconst 0, 1) := by decide +kernel
theorem dL_whyNoFill_2 : decode cL_whyNoFill 2 = .ok (.aload_n 0, 1) := by decide +kernel
theorem dL_whyNoFill_3 : decode cL_whyNoFill 3 = .ok (.iload_n 1, 1) := by decide +kernel
theorem dL_whyNoFill_4 : decode cL_whyNoFill 4 = .ok (.invokevirtual 66, 3) := by decide +kernel
theorem dL_whyNoFill_7 : decode cL_whyNoFill 7 = .ok (.i2l, 1) := by decide +kernel
theorem dL_whyNoFill_8 : decode cL_whyNoFill 8 = .ok (.lastore, 1) := by decide +kernel
theorem dL_whyNoFill_9 : decode cL_whyNoFill 9 = .ok (.goto 6, 3) := by decide +kernel
theorem dL_whyNoFill_12 : decode cL_whyNoFill 12 = .ok (.astore_n 3, 1) := by decide +kernel
theorem dL_whyNoFill_13 : decode cL_whyNoFill 13 = .ok (.iconst 1, 1) := by decide +kernel
theorem dL_whyNoFill_14 : decode cL_whyNoFill 14 = .ok (.ireturn, 1) := by decide +kernel
theorem dL_whyNoFill_15 : decode cL_whyNoFill 15 = .ok (.iconst 0, 1) := by decide +kernel
theorem dL_whyNoFill_16 : decode cL_whyNoFill 16 = .ok (.ireturn, 1) := by decide +kernel
set_option maxRecDepth 20000 in
theorem ggL_ahead_X6_ahead : GoodIn wsL_ahead wsX6_ahead := goodIn_ca (goodIn_ca (goodIn_r _ [7, 8, 9, 10, 11, 12, 13, 14, 15, 16, 17, 18, 19, 20, 21, 22, 23, 24, 25, 26, 27, 28, 29, 30, 31, 32, 33, 34, 35, 36, 37, 38, 39, 40, 41, 42, 43, 44, 45, 46, 47, 48, 49, 50, 51, 52, 53, 54, 55, 56, 57, 58, 59, 60, 61, 62, 63, 64, 65, 66, 67, 68, 69, 70, 6, 71, 72, 73, 74, 75, 76, 77, 78, 79, 80, 81, 82, 83, 84, 85, 86, 87, 88, 89, 90, 91, 92, 93, 94, 95, 96, 97, 98, 99, 100, 101, 102, 103, 104, 105, 106, 107, 108, 109, 110, 111, 112, 113, 114, 115, 116, 117, 118, 119, 120, 121, 122, 123, 124, 125, 126, 127, 128, 129, 130, 131, 132, 133, 134, 135, 136, 137, 138, 139, 140, 141, 142, 143, 144, 145, 146, 147, 148, 149, 150, 151, 152, 153, 154, 155, 156, 157, 158, 159, 160, 161, 162, 163, 164, 165, 166, 167, 168, 169, 170, 171, 172, 173, 174, 175, 176, 177, 178, 179] (by decide +kernel) (by decide +kernel)) (goodIn_sub (fun _ h => List.mem_cons_of_mem _ (List.mem_append_left _ (List.mem_append_right _ h))) (by decide +kernel))) (goodIn_sub (fun _ h => List.mem_cons_of_mem _ (List.mem_append_right _ h)) (by decide +kernel))
set_option maxRecDepth 20000 in
theorem gL_ahead_X6_ahead : GoodIn wsL_ahead (wsV RL 69 RX6 yX6_ahead wsX6_ahead) := goodIn_app (goodIn_of _ (by decide +kernel)) ggL_ahead_X6_ahead
theorem dL_ahead_0 : decode cL_ahead 0 = .ok (.aload_n 3, 1) := by decide +kernel
theorem dL_ahead_1 : decode cL_ahead 1 = .ok (.iconst 0, 1) := by decide +kernel
theorem dL_ahead_2 : decode cL_ahead 2 = .ok (.aload_n 0, 1) := by decide +kernel
theorem dL_ahead_3 : decode cL_ahead 3 = .ok (.iload_n 1, 1) := by decide +kernel
theorem dL_ahead_4 : decode cL_ahead 4 = .ok (.iload_n 2, 1) := by decide +kernel
theorem dL_ahead_5 : decode cL_ahead 5 = .ok (.invokevirtual 69, 3) := by decide +kernel
theorem dL_ahead_8 : decode cL_ahead 8 = .ok (.i2l, 1) := by decide +kernel
theorem dL_ahead_9 : decode cL_ahead 9 = .ok (.lastore, 1) := by decide +kernel
theorem dL_ahead_10 : decode cL_ahead 10 = .ok (.goto 11, 3) := by decide +kernel
theorem dL_ahead_13 : decode cL_ahead 13 = .ok (.astore 4, 2) := by decide +kernel
theorem dL_ahead_15 : decode cL_ahead 15 = .ok (.iconst 1, 1) := by decide +kernel
theorem dL_ahead_16 : decode cL_ahead 16 = .ok (.ireturn, 1) := by decide +kernel
theorem dL_ahead_17 : decode cL_ahead 17 = .ok (.astore 4, 2) := by decide +kernel
theorem dL_ahead_19 : decode cL_ahead 19 = .ok (.iconst 2, 1) := by decide +kernel
theorem dL_ahead_20 : decode cL_ahead 20 = .ok (.ireturn, 1) := by decide +kernel
theorem dL_ahead_21 : decode cL_ahead 21 = .ok (.iconst 0, 1) := by decide +kernel
theorem dL_ahead_22 : decode cL_ahead 22 = .ok (.ireturn, 1) := by decide +kernel
set_option maxRecDepth 20000 in
theorem ggL_waterFor_X6_waterFor : GoodIn wsL_waterFor wsX6_waterFor := goodIn_ca (goodIn_r _ [6, 7, 8, 9, 10, 11, 12, 13, 14, 15, 16, 17, 18, 19, 20, 21, 22, 5, 23, 24, 25, 26, 27, 28, 29, 30, 31, 32, 33, 34, 35, 36, 37, 38, 39, 40, 41, 42, 43, 44, 45, 46, 47, 48, 49, 50, 51, 52, 53, 54, 55, 56, 57, 58, 59, 60, 61, 62, 63, 64, 65, 66, 67, 68, 69, 70, 71, 72, 73, 74, 75, 76, 77, 78, 79, 80, 81, 82, 83, 84, 85, 86, 87, 88, 89, 90, 91, 92, 93, 94, 95, 96, 97, 98, 99, 100, 101, 102, 103, 104, 105, 106, 107, 108, 109, 110, 111, 112, 113, 114, 115, 116, 117, 118, 119, 120, 121, 122, 123, 124, 125, 126, 127, 128, 129, 130, 131, 132, 133, 134, 135, 136, 137, 138, 139, 140, 141, 142, 143, 144, 145, 146, 147, 148, 149] (by decide +kernel) (by decide +kernel)) (goodIn_sub (fun _ h => List.mem_cons_of_mem _ (List.mem_append_right _ h)) (by decide +kernel))
set_option maxRecDepth 20000 in
theorem gL_waterFor_X6_waterFor : GoodIn wsL_waterFor (wsV RL 72 RX6 yX6_waterFor wsX6_waterFor) := goodIn_app (goodIn_of _ (by decide +kernel)) ggL_waterFor_X6_waterFor
theorem dL_waterFor_0 : decode cL_waterFor 0 = .ok (.aload_n 2, 1) := by decide +kernel
theorem dL_waterFor_1 : decode cL_waterFor 1 = .ok (.iconst 0, 1) := by decide +kernel
theorem dL_waterFor_2 : decode cL_waterFor 2 = .ok (.aload_n 0, 1) := by decide +kernel
theorem dL_waterFor_3 : decode cL_waterFor 3 = .ok (.iload_n 1, 1) := by decide +kernel
theorem dL_waterFor_4 : decode cL_waterFor 4 = .ok (.invokevirtual 72, 3) := by decide +kernel
theorem dL_waterFor_7 : decode cL_waterFor 7 = .ok (.i2l, 1) := by decide +kernel
theorem dL_waterFor_8 : decode cL_waterFor 8 = .ok (.lastore, 1) := by decide +kernel
theorem dL_waterFor_9 : decode cL_waterFor 9 = .ok (.goto 6, 3) := by decide +kernel
theorem dL_waterFor_12 : decode cL_waterFor 12 = .ok (.astore_n 3, 1) := by decide +kernel
theorem dL_waterFor_13 : decode cL_waterFor 13 = .ok (.iconst 1, 1) := by decide +kernel
theorem dL_waterFor_14 : decode cL_waterFor 14 = .ok (.ireturn, 1) := by decide +kernel
theorem dL_waterFor_15 : decode cL_waterFor 15 = .ok (.iconst 0, 1) := by decide +kernel
theorem dL_waterFor_16 : decode cL_waterFor 16 = .ok (.ireturn, 1) := by decide +kernel
set_option maxRecDepth 20000 in
theorem ggL_limitFor_X6_limitFor : GoodIn wsL_limitFor wsX6_limitFor := goodIn_ca (goodIn_r _ [6, 7, 8, 9, 10, 11, 12, 13, 14, 15, 16, 17, 18, 19, 20, 21, 22, 23, 24, 25, 26, 27, 28, 29, 30, 31, 32, 33, 34, 35, 36, 37, 38, 39, 40, 41, 42, 43, 44, 45, 46, 47, 48, 49, 50, 51, 52, 53, 54, 55, 56, 57, 58, 59, 60, 61, 62, 63, 64, 65, 66, 67, 68, 69, 70, 71, 72, 73, 74, 75, 76, 5, 77, 78, 79, 80, 81, 82, 83, 84, 85, 86, 87, 88, 89, 90, 91, 92, 93, 94, 95, 96, 97, 98, 99, 100, 101, 102, 103, 104, 105, 106, 107, 108, 109, 110, 111, 112, 113, 114, 115, 116, 117, 118, 119, 120, 121, 122, 123, 124, 125, 126, 127, 128, 129, 130, 131, 132, 133, 134, 135, 136, 137, 138, 139, 140, 141, 142, 143, 144, 145, 146, 147, 148, 149, 150, 151, 152] (by decide +kernel) (by decide +kernel)) (goodIn_sub (fun _ h => List.mem_cons_of_mem _ (List.mem_append_right _ h)) (by decide +kernel))
set_option maxRecDepth 20000 in
theorem gL_limitFor_X6_limitFor : GoodIn wsL_limitFor (wsV RL 75 RX6 yX6_limitFor wsX6_limitFor) := goodIn_app (goodIn_of _ (by decide +kernel)) ggL_limitFor_X6_limitFor
theorem dL_limitFor_0 : decode cL_limitFor 0 = .ok (.aload_n 2, 1) := by decide +kernel
theorem dL_limitFor_1 : decode cL_limitFor 1 = .ok (.iconst 0, 1) := by decide +kernel
theorem dL_limitFor_2 : decode cL_limitFor 2 = .ok (.aload_n 0, 1) := by decide +kernel
theorem dL_limitFor_3 : decode cL_limitFor 3 = .ok (.iload_n 1, 1) := by decide +kernel
theorem dL_limitFor_4 : decode cL_limitFor 4 = .ok (.invokevirtual 75, 3) := by decide +kernel
theorem dL_limitFor_7 : decode cL_limitFor 7 = .ok (.i2l, 1) := by decide +kernel
theorem dL_limitFor_8 : decode cL_limitFor 8 = .ok (.lastore, 1) := by decide +kernel
theorem dL_limitFor_9 : decode cL_limitFor 9 = .ok (.goto 6, 3) := by decide +kernel
theorem dL_limitFor_12 : decode cL_limitFor 12 = .ok (.astore_n 3, 1) := by decide +kernel
theorem dL_limitFor_13 : decode cL_limitFor 13 = .ok (.iconst 1, 1) := by decide +kernel
theorem dL_limitFor_14 : decode cL_limitFor 14 = .ok (.ireturn, 1) := by decide +kernel
theorem dL_limitFor_15 : decode cL_limitFor 15 = .ok (.iconst 0, 1) := by decide +kernel
theorem dL_limitFor_16 : decode cL_limitFor 16 = .ok (.ireturn, 1) := by decide +kernel
set_option maxRecDepth 20000 in
theorem ggL_bestSpray_X6_bestSpray : GoodIn wsL_bestSpray wsX6_bestSpray := goodIn_ca (goodIn_ca (goodIn_r _ [7, 8, 9, 10, 11, 12, 13, 14, 15, 16, 17, 18, 19, 20, 21, 22, 23, 6, 24, 25, 26, 27, 28, 29, 30, 31, 32, 33, 34, 35, 36, 37, 38, 39, 40, 41, 42, 43, 44, 45, 46, 47, 48, 49, 50, 51, 52, 53, 54, 55, 56, 57, 58, 59, 60, 61, 62, 63, 64, 65, 66, 67, 68, 69, 70, 71, 72, 73, 74, 75, 76, 77, 78, 79, 80, 81, 82, 83, 84, 85, 86, 87, 88, 89, 90, 91, 92, 93, 94, 95, 96, 97, 98, 99, 100, 101, 102, 103, 104, 105, 106, 107, 108, 109, 110, 111, 112, 113, 114, 115, 116, 117, 118, 119, 120, 121, 122, 123, 124, 125, 126, 127, 128, 129, 130, 131, 132, 133, 134, 135, 136, 137, 138, 139, 140, 141, 142, 143, 144, 145, 146, 147, 148, 149, 150, 151, 152, 153, 154, 155, 156, 157, 158, 159, 160, 161, 162, 163, 164, 165, 166, 167, 168, 169, 170, 171, 172, 173, 174] (by decide +kernel) (by decide +kernel)) (goodIn_sub (fun _ h => List.mem_cons_of_mem _ (List.mem_append_left _ (List.mem_append_right _ h))) (by decide +kernel))) (goodIn_sub (fun _ h => List.mem_cons_of_mem _ (List.mem_append_right _ h)) (by decide +kernel))
set_option maxRecDepth 20000 in
theorem gL_bestSpray_X6_bestSpray : GoodIn wsL_bestSpray (wsV RL 78 RX6 yX6_bestSpray wsX6_bestSpray) := goodIn_app (goodIn_of _ (by decide +kernel)) ggL_bestSpray_X6_bestSpray
theorem dL_bestSpray_0 : decode cL_bestSpray 0 = .ok (.aload_n 3, 1) := by decide +kernel
theorem dL_bestSpray_1 : decode cL_bestSpray 1 = .ok (.iconst 0, 1) := by decide +kernel
theorem dL_bestSpray_2 : decode cL_bestSpray 2 = .ok (.aload_n 0, 1) := by decide +kernel
theorem dL_bestSpray_3 : decode cL_bestSpray 3 = .ok (.iload_n 1, 1) := by decide +kernel
theorem dL_bestSpray_4 : decode cL_bestSpray 4 = .ok (.iload_n 2, 1) := by decide +kernel
theorem dL_bestSpray_5 : decode cL_bestSpray 5 = .ok (.invokevirtual 78, 3) := by decide +kernel
theorem dL_bestSpray_8 : decode cL_bestSpray 8 = .ok (.i2l, 1) := by decide +kernel
theorem dL_bestSpray_9 : decode cL_bestSpray 9 = .ok (.lastore, 1) := by decide +kernel
theorem dL_bestSpray_10 : decode cL_bestSpray 10 = .ok (.goto 11, 3) := by decide +kernel
theorem dL_bestSpray_13 : decode cL_bestSpray 13 = .ok (.astore 4, 2) := by decide +kernel
theorem dL_bestSpray_15 : decode cL_bestSpray 15 = .ok (.iconst 1, 1) := by decide +kernel
theorem dL_bestSpray_16 : decode cL_bestSpray 16 = .ok (.ireturn, 1) := by decide +kernel
theorem dL_bestSpray_17 : decode cL_bestSpray 17 = .ok (.astore 4, 2) := by decide +kernel
theorem dL_bestSpray_19 : decode cL_bestSpray 19 = .ok (.iconst 2, 1) := by decide +kernel
theorem dL_bestSpray_20 : decode cL_bestSpray 20 = .ok (.ireturn, 1) := by decide +kernel
theorem dL_bestSpray_21 : decode cL_bestSpray 21 = .ok (.iconst 0, 1) := by decide +kernel
theorem dL_bestSpray_22 : decode cL_bestSpray 22 = .ok (.ireturn, 1) := by decide +kernel
set_option maxRecDepth 20000 in
theorem ggL_complainsIn_X6_complainsIn : GoodIn wsL_complainsIn wsX6_complainsIn := goodIn_ca (goodIn_r _ [6, 7, 8, 9, 10, 11, 12, 13, 14, 15, 16, 17, 18, 19, 20, 21, 22, 23, 24, 25, 26, 27, 28, 29, 30, 31, 32, 33, 34, 35, 36, 37, 38, 39, 40, 41, 42, 43, 44, 45, 46, 47, 48, 49, 50, 51, 52, 53, 54, 55, 56, 57, 58, 59, 60, 61, 62, 63, 64, 65, 66, 67, 68, 69, 70, 71, 72, 73, 74, 75, 76, 77, 78, 79, 80, 81, 82, 83, 84, 85, 86, 87, 88, 89, 90, 91, 92, 93, 94, 95, 96, 97, 98, 99, 100, 101, 102, 103, 104, 105, 106, 107, 108, 109, 110, 111, 112, 113, 114, 115, 116, 117, 118, 119, 120, 121, 122, 123, 124, 125, 126, 127, 128, 129, 130, 131, 132, 133, 134, 135, 136, 137, 138, 139, 140, 141, 142, 143, 144, 145, 146, 147, 148, 149, 150, 151, 152, 153, 154, 155, 156, 157, 158, 159, 160, 161, 162, 163, 164, 165, 166, 167, 168, 169] (by decide +kernel) (by decide +kernel)) (goodIn_sub (fun _ h => List.mem_cons_of_mem _ (List.mem_append_right _ h)) (by decide +kernel))
set_option maxRecDepth 20000 in
theorem gL_complainsIn_X6_complainsIn : GoodIn wsL_complainsIn (wsV RL 81 RX6 yX6_complainsIn wsX6_complainsIn) := goodIn_app (goodIn_of _ (by decide +kernel)) ggL_complainsIn_X6_complainsIn
theorem dL_complainsIn_0 : decode cL_complainsIn 0 = .ok (.aload_n 2, 1) := by decide +kernel
theorem dL_complainsIn_1 : decode cL_complainsIn 1 = .ok (.iconst 0, 1) := by decide +kernel
theorem dL_complainsIn_2 : decode cL_complainsIn 2 = .ok (.aload_n 0, 1) := by decide +kernel
theorem dL_complainsIn_3 : decode cL_complainsIn 3 = .ok (.iload_n 1, 1) := by decide +kernel
theorem dL_complainsIn_4 : decode cL_complainsIn 4 = .ok (.invokevirtual 81, 3) := by decide +kernel
theorem dL_complainsIn_7 : decode cL_complainsIn 7 = .ok (.i2l, 1) := by decide +kernel
theorem dL_complainsIn_8 : decode cL_complainsIn 8 = .ok (.lastore, 1) := by decide +kernel
theorem dL_complainsIn_9 : decode cL_complainsIn 9 = .ok (.goto 6, 3) := by decide +kernel
theorem dL_complainsIn_12 : decode cL_complainsIn 12 = .ok (.astore_n 3, 1) := by decide +kernel
theorem dL_complainsIn_13 : decode cL_complainsIn 13 = .ok (.iconst 1, 1) := by decide +kernel
theorem dL_complainsIn_14 : decode cL_complainsIn 14 = .ok (.ireturn, 1) := by decide +kernel
theorem dL_complainsIn_15 : decode cL_complainsIn 15 = .ok (.iconst 0, 1) := by decide +kernel
theorem dL_complainsIn_16 : decode cL_complainsIn 16 = .ok (.ireturn, 1) := by decide +kernel
set_option maxRecDepth 20000 in
theorem ggL_runScript_X6_runScript : GoodIn wsL_runScript wsX6_runScript := goodIn_ca (goodIn_r _ [6, 7, 8, 9, 10, 11, 12, 13, 5, 14, 15, 16, 17, 18, 19, 20, 21, 22, 23, 24, 25, 26, 27, 28, 29, 30, 31, 32, 33, 34, 35, 36, 37, 38, 39, 40, 41, 42, 43, 44, 45, 46, 47, 48, 49, 50, 51, 52, 53, 54, 55, 56, 57, 58, 59, 60, 61, 62, 63, 64, 65, 66, 67, 68, 69, 70, 71, 72, 73, 74, 75, 76, 77, 78, 79, 80, 81, 82, 83, 84, 85, 86, 87, 88, 89, 90, 91, 92, 93, 94, 95, 96, 97, 98, 99, 100, 101, 102, 103, 104, 105, 106, 107, 108, 109, 110, 111, 112, 113, 114, 115, 116, 117, 118, 119, 120, 121, 122, 123, 124, 125, 126, 127, 128, 129, 130, 131, 132, 133, 134, 135, 136, 137, 138, 139, 140, 141, 142, 143, 144, 145, 146, 147, 148, 149, 150, 151, 152, 153, 154, 155, 156, 157, 158, 159, 160, 161, 162, 163, 164, 165, 166, 167, 168, 169, 170, 171, 172, 173, 174, 175, 176, 177, 178, 179, 180, 181, 182, 183, 184, 185, 186, 187, 188, 189, 190, 191, 192, 193, 194, 195, 196, 197, 198, 199, 200, 201, 202, 203, 204, 205, 206, 207, 208, 209, 210, 211, 212, 213, 214, 215, 216, 217, 218, 219, 220, 221, 222, 223, 224, 225, 226, 227, 228, 229, 230, 231, 232, 233, 234, 235, 236, 237, 238, 239, 240, 241, 242, 243, 244, 245, 246, 247, 248, 249, 250, 251, 252] (by decide +kernel) (by decide +kernel)) (goodIn_sub (fun _ h => List.mem_cons_of_mem _ (List.mem_append_right _ h)) (by decide +kernel))
set_option maxRecDepth 20000 in
theorem gL_runScript_X6_runScript : GoodIn wsL_runScript (wsV RL 84 RX6 yX6_runScript wsX6_runScript) := goodIn_app (goodIn_of _ (by decide +kernel)) ggL_runScript_X6_runScript
theorem dL_runScript_0 : decode cL_runScript 0 = .ok (.aload 4, 2) := by decide +kernel
theorem dL_runScript_2 : decode cL_runScript 2 = .ok (.iconst 0, 1) := by decide +kernel
theorem dL_runScript_3 : decode cL_runScript 3 = .ok (.aload_n 0, 1) := by decide +kernel
theorem dL_runScript_4 : decode cL_runScript 4 = .ok (.iload_n 1, 1) := by decide +kernel
theorem dL_runScript_5 : decode cL_runScript 5 = .ok (.lload_n 2, 1) := by decide +kernel
theorem dL_runScript_6 : decode cL_runScript 6 = .ok (.invokevirtual 84, 3) := by decide +kernel
theorem dL_runScript_9 : decode cL_runScript 9 = .ok (.i2l, 1) := by decide +kernel
theorem dL_runScript_10 : decode cL_runScript 10 = .ok (.lastore, 1) := by decide +kernel
theorem dL_runScript_11 : decode cL_runScript 11 = .ok (.goto 7, 3) := by decide +kernel
theorem dL_runScript_14 : decode cL_runScript 14 = .ok (.astore 5, 2) := by decide +kernel
theorem dL_runScript_16 : decode cL_runScript 16 = .ok (.iconst 1, 1) := by decide +kernel
theorem dL_runScript_17 : decode cL_runScript 17 = .ok (.ireturn, 1) := by decide +kernel
theorem dL_runScript_18 : decode cL_runScript 18 = .ok (.iconst 0, 1) := by decide +kernel
theorem dL_runScript_19 : decode cL_runScript 19 = .ok (.ireturn, 1) := by decide +kernel
set_option maxRecDepth 20000 in
theorem ggL_simulate_X6_simulate : GoodIn wsL_simulate wsX6_simulate := goodIn_ca (goodIn_r _ [6, 7, 8, 9, 10, 11, 12, 13, 14, 15, 16, 17, 18, 19, 20, 5, 21, 22, 23, 24, 25, 26, 27, 28, 29, 30, 31, 32, 33, 34, 35, 36, 37, 38, 39, 40, 41, 42, 43, 44, 45, 46, 47, 48, 49, 50, 51, 52, 53, 54, 55, 56, 57, 58, 59, 60, 61, 62, 63, 64, 65, 66, 67, 68, 69, 70, 71, 72, 73, 74, 75, 76, 77, 78, 79, 80, 81, 82, 83, 84, 85, 86, 87, 88, 89, 90, 91, 92, 93, 94, 95, 96, 97, 98, 99, 100, 101, 102, 103, 104, 105, 106, 107, 108, 109, 110, 111, 112, 113, 114, 115, 116, 117, 118, 119, 120, 121, 122, 123, 124, 125, 126, 127, 128, 129, 130, 131, 132, 133, 134, 135, 136, 137, 138, 139, 140, 141, 142, 143, 144, 145, 146, 147, 148, 149, 150, 151, 152, 153, 154, 155, 156, 157, 158, 159, 160, 161, 162, 163, 164, 165, 166, 167, 168, 169, 170, 171, 172, 173, 174, 175, 176, 177, 178, 179, 180, 181, 182, 183, 184, 185, 186, 187, 188, 189, 190, 191, 192, 193, 194, 195, 196, 197, 198, 199, 200, 201, 202, 203, 204, 205, 206, 207, 208, 209, 210, 211, 212] (by decide +kernel) (by decide +kernel)) (goodIn_sub (fun _ h => List.mem_cons_of_mem _ (List.mem_append_right _ h)) (by decide +kernel))
set_option maxRecDepth 20000 in
theorem gL_simulate_X6_simulate : GoodIn wsL_simulate (wsV RL 88 RX6 yX6_simulate wsX6_simulate) := goodIn_app (goodIn_of _ (by decide +kernel)) ggL_simulate_X6_simulate
theorem dL_simulate_0 : decode cL_simulate 0 = .ok (.aload 4, 2) := by decide +kernel
theorem dL_simulate_2 : decode cL_simulate 2 = .ok (.iconst 0, 1) := by decide +kernel
theorem dL_simulate_3 : decode cL_simulate 3 = .ok (.aload_n 0, 1) := by decide +kernel
theorem dL_simulate_4 : decode cL_simulate 4 = .ok (.lload_n 1, 1) := by decide +kernel
theorem dL_simulate_5 : decode cL_simulate 5 = .ok (.iload_n 3, 1) := by decide +kernel
theorem dL_simulate_6 : decode cL_simulate 6 = .ok (.invokevirtual 88, 3) := by decide +kernel
theorem dL_simulate_9 : decode cL_simulate 9 = .ok (.i2l, 1) := by decide +kernel
theorem dL_simulate_10 : decode cL_simulate 10 = .ok (.lastore, 1) := by decide +kernel
theorem dL_simulate_11 : decode cL_simulate 11 = .ok (.goto 7, 3) := by decide +kernel
theorem dL_simulate_14 : decode cL_simulate 14 = .ok (.astore 5, 2) := by decide +kernel
theorem dL_simulate_16 : decode cL_simulate 16 = .ok (.iconst 1, 1) := by decide +kernel
theorem dL_simulate_17 : decode cL_simulate 17 = .ok (.ireturn, 1) := by decide +kernel
theorem dL_simulate_18 : decode cL_simulate 18 = .ok (.iconst 0, 1) := by decide +kernel
theorem dL_simulate_19 : decode cL_simulate 19 = .ok (.ireturn, 1) := by decide +kernel
set_option maxRecDepth 20000 in
theorem ggL_save_X6_save : GoodIn wsL_save wsX6_save := goodIn_ca (goodIn_r _ [6, 7, 8, 9, 10, 11, 12, 13, 14, 15, 16, 17, 18, 19, 20, 21, 22, 23, 24, 25, 26, 27, 28, 29, 30, 31, 32, 33, 34, 35, 36, 37, 38, 39, 40, 41, 42, 43, 44, 45, 46, 47, 48, 49, 50, 51, 52, 53, 54, 55, 56, 57, 58, 59, 60, 61, 62, 63, 64, 65, 66, 67, 68, 69, 70, 71, 72, 73, 74, 75, 76, 77, 78, 79, 80, 81, 82, 83, 84, 85, 86, 87, 88, 89, 90, 91, 92, 93, 94, 95, 96, 97, 98, 99, 100, 101, 102] (by decide +kernel) (by decide +kernel)) (goodIn_sub (fun _ h => List.mem_cons_of_mem _ (List.mem_append_right _ h)) (by decide +kernel))
set_option maxRecDepth 20000 in
theorem gL_save_X6_save : GoodIn wsL_save (wsV RL 92 RX6 yX6_save wsX6_save) := goodIn_app (goodIn_of _ (by decide +kernel)) ggL_save_X6_save
theorem dL_save_0 : decode cL_save 0 = .ok (.aload_n 2, 1) := by decide +kernel
theorem dL_save_1 : decode cL_save 1 = .ok (.iconst 0, 1) := by decide +kernel
theorem dL_save_2 : decode cL_save 2 = .ok (.aload_n 0, 1) := by decide +kernel
theorem dL_save_3 : decode cL_save 3 = .ok (.iload_n 1, 1) := by decide +kernel
theorem dL_save_4 : decode cL_save 4 = .ok (.invokevirtual 92, 3) := by decide +kernel
theorem dL_save_7 : decode cL_save 7 = .ok (.i2l, 1) := by decide +kernel
theorem dL_save_8 : decode cL_save 8 = .ok (.lastore, 1) := by decide +kernel
theorem dL_save_9 : decode cL_save 9 = .ok (.goto 6, 3) := by decide +kernel
theorem dL_save_12 : decode cL_save 12 = .ok (.astore_n 3, 1) := by decide +kernel
theorem dL_save_13 : decode cL_save 13 = .ok (.iconst 1, 1) := by decide +kernel
theorem dL_save_14 : decode cL_save 14 = .ok (.ireturn, 1) := by decide +kernel
theorem dL_save_15 : decode cL_save 15 = .ok (.iconst 0, 1) := by decide +kernel
theorem dL_save_16 : decode cL_save 16 = .ok (.ireturn, 1) := by decide +kernel
set_option maxRecDepth 20000 in
theorem ggL_restore_X6_restore : GoodIn wsL_restore wsX6_restore := goodIn_ca (goodIn_ca (goodIn_r _ [7, 8, 9, 10, 11, 12, 13, 14, 15, 16, 17, 18, 19, 20, 21, 22, 23, 24, 25, 26, 27, 28, 29, 30, 31, 32, 33, 34, 35, 36, 37, 38, 39, 40, 41, 42, 43, 44, 45, 46, 47, 48, 49, 50, 51, 52, 53, 54, 55, 56, 57, 58, 59, 60, 61, 62, 63, 64, 65, 66, 67, 68, 69, 70, 71, 72, 73, 74, 75, 76, 77, 78, 79, 80, 81, 82, 83, 84, 85, 86, 87, 88, 89, 90, 91, 92, 93, 94, 95, 96, 97, 98, 99, 100, 101, 102, 103, 104, 105, 106, 107, 108, 109, 110, 111, 112, 113, 114] (by decide +kernel) (by decide +kernel)) (goodIn_sub (fun _ h => List.mem_cons_of_mem _ (List.mem_append_left _ (List.mem_append_right _ h))) (by decide +kernel))) (goodIn_sub (fun _ h => List.mem_cons_of_mem _ (List.mem_append_right _ h)) (by decide +kernel))
set_option maxRecDepth 20000 in
theorem gL_restore_X6_restore : GoodIn wsL_restore (wsV RL 95 RX6 yX6_restore wsX6_restore) := goodIn_app (goodIn_of _ (by decide +kernel)) ggL_restore_X6_restore
theorem dL_restore_0 : decode cL_restore 0 = .ok (.aload_n 2, 1) := by decide +kernel
theorem dL_restore_1 : decode cL_restore 1 = .ok (.iconst 0, 1) := by decide +kernel
theorem dL_restore_2 : decode cL_restore 2 = .ok (.aload_n 0, 1) := by decide +kernel
theorem dL_restore_3 : decode cL_restore 3 = .ok (.iload_n 1, 1) := by decide +kernel
theorem dL_restore_4 : decode cL_restore 4 = .ok (.invokevirtual 95, 3) := by decide +kernel
theorem dL_restore_7 : decode cL_restore 7 = .ok (.i2l, 1) := by decide +kernel
theorem dL_restore_8 : decode cL_restore 8 = .ok (.lastore, 1) := by decide +kernel
theorem dL_restore_9 : decode cL_restore 9 = .ok (.goto 9, 3) := by decide +kernel
theorem dL_restore_12 : decode cL_restore 12 = .ok (.astore_n 3, 1) := by decide +kernel
theorem dL_restore_13 : decode cL_restore 13 = .ok (.iconst 1, 1) := by decide +kernel
theorem dL_restore_14 : decode cL_restore 14 = .ok (.ireturn, 1) := by decide +kernel
theorem dL_restore_15 : decode cL_restore 15 = .ok (.astore_n 3, 1) := by decide +kernel
theorem dL_restore_16 : decode cL_restore 16 = .ok (.iconst 2, 1) := by decide +kernel
theorem dL_restore_17 : decode cL_restore 17 = .ok (.ireturn, 1) := by decide +kernel
theorem dL_restore_18 : decode cL_restore 18 = .ok (.iconst 0, 1) := by decide +kernel
theorem dL_restore_19 : decode cL_restore 19 = .ok (.ireturn, 1) := by decide +kernel
