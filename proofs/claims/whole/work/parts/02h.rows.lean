set_option maxRecDepth 20000 in
theorem ggL_addPlace_X3_addPlace : GoodIn wsL_addPlace wsX3_addPlace := goodIn_ca (goodIn_r _ [6, 7, 8, 9, 10, 11, 12, 13, 14, 15, 16, 17, 18, 19, 20, 21, 22, 23, 24, 25, 26] (by decide +kernel) (by decide +kernel)) (goodIn_sub (fun _ h => List.mem_cons_of_mem _ (List.mem_append_right _ h)) (by decide +kernel))
set_option maxRecDepth 20000 in
theorem gL_addPlace_X3_addPlace : GoodIn wsL_addPlace (wsV RL 7 RX3 yX3_addPlace wsX3_addPlace) := goodIn_app (goodIn_of _ (by decide +kernel)) ggL_addPlace_X3_addPlace
theorem dL_addPlace_0 : decode cL_addPlace 0 = .ok (.aload_n 1, 1) := by decide +kernel
theorem dL_addPlace_1 : decode cL_addPlace 1 = .ok (.iconst 0, 1) := by decide +kernel
theorem dL_addPlace_2 : decode cL_addPlace 2 = .ok (.aload_n 0, 1) := by decide +kernel
theorem dL_addPlace_3 : decode cL_addPlace 3 = .ok (.invokevirtual 7, 3) := by decide +kernel
theorem dL_addPlace_6 : decode cL_addPlace 6 = .ok (.i2l, 1) := by decide +kernel
theorem dL_addPlace_7 : decode cL_addPlace 7 = .ok (.lastore, 1) := by decide +kernel
theorem dL_addPlace_8 : decode cL_addPlace 8 = .ok (.goto 6, 3) := by decide +kernel
theorem dL_addPlace_11 : decode cL_addPlace 11 = .ok (.astore_n 2, 1) := by decide +kernel
theorem dL_addPlace_12 : decode cL_addPlace 12 = .ok (.iconst 1, 1) := by decide +kernel
theorem dL_addPlace_13 : decode cL_addPlace 13 = .ok (.ireturn, 1) := by decide +kernel
theorem dL_addPlace_14 : decode cL_addPlace 14 = .ok (.iconst 0, 1) := by decide +kernel
theorem dL_addPlace_15 : decode cL_addPlace 15 = .ok (.ireturn, 1) := by decide +kernel
set_option maxRecDepth 20000 in
theorem ggL_setMinutes_X3_setMinutes : GoodIn wsL_setMinutes wsX3_setMinutes := goodIn_ca (goodIn_ca (goodIn_r _ [7, 8, 9, 10, 11, 12, 13, 6, 14, 15, 16, 17, 18, 19, 20, 21, 22, 23, 24, 25, 26, 27, 28, 29, 30, 31, 32, 33, 34, 35, 36, 37, 38, 39, 40, 41] (by decide +kernel) (by decide +kernel)) (goodIn_sub (fun _ h => List.mem_cons_of_mem _ (List.mem_append_left _ (List.mem_append_right _ h))) (by decide +kernel))) (goodIn_sub (fun _ h => List.mem_cons_of_mem _ (List.mem_append_right _ h)) (by decide +kernel))
set_option maxRecDepth 20000 in
theorem gL_setMinutes_X3_setMinutes : GoodIn wsL_setMinutes (wsV RL 15 RX3 yX3_setMinutes wsX3_setMinutes) := goodIn_app (goodIn_of _ (by decide +kernel)) ggL_setMinutes_X3_setMinutes
theorem dL_setMinutes_0 : decode cL_setMinutes 0 = .ok (.aload 4, 2) := by decide +kernel
theorem dL_setMinutes_2 : decode cL_setMinutes 2 = .ok (.iconst 0, 1) := by decide +kernel
theorem dL_setMinutes_3 : decode cL_setMinutes 3 = .ok (.aload_n 0, 1) := by decide +kernel
theorem dL_setMinutes_4 : decode cL_setMinutes 4 = .ok (.iload_n 1, 1) := by decide +kernel
theorem dL_setMinutes_5 : decode cL_setMinutes 5 = .ok (.iload_n 2, 1) := by decide +kernel
theorem dL_setMinutes_6 : decode cL_setMinutes 6 = .ok (.iload_n 3, 1) := by decide +kernel
theorem dL_setMinutes_7 : decode cL_setMinutes 7 = .ok (.invokevirtual 15, 3) := by decide +kernel
theorem dL_setMinutes_10 : decode cL_setMinutes 10 = .ok (.i2l, 1) := by decide +kernel
theorem dL_setMinutes_11 : decode cL_setMinutes 11 = .ok (.lastore, 1) := by decide +kernel
theorem dL_setMinutes_12 : decode cL_setMinutes 12 = .ok (.goto 11, 3) := by decide +kernel
theorem dL_setMinutes_15 : decode cL_setMinutes 15 = .ok (.astore 5, 2) := by decide +kernel
theorem dL_setMinutes_17 : decode cL_setMinutes 17 = .ok (.iconst 1, 1) := by decide +kernel
theorem dL_setMinutes_18 : decode cL_setMinutes 18 = .ok (.ireturn, 1) := by decide +kernel
theorem dL_setMinutes_19 : decode cL_setMinutes 19 = .ok (.astore 5, 2) := by decide +kernel
theorem dL_setMinutes_21 : decode cL_setMinutes 21 = .ok (.iconst 2, 1) := by decide +kernel
theorem dL_setMinutes_22 : decode cL_setMinutes 22 = .ok (.ireturn, 1) := by decide +kernel
theorem dL_setMinutes_23 : decode cL_setMinutes 23 = .ok (.iconst 0, 1) := by decide +kernel
theorem dL_setMinutes_24 : decode cL_setMinutes 24 = .ok (.ireturn, 1) := by decide +kernel
set_option maxRecDepth 20000 in
theorem ggL_setTip_X3_setTip : GoodIn wsL_setTip wsX3_setTip := goodIn_ca (goodIn_ca (goodIn_r _ [7, 8, 9, 10, 11, 12, 13, 6, 14, 15, 16, 17, 18, 19, 20, 21, 22, 23, 24, 25, 26, 27, 28, 29, 30, 31, 32, 33, 34, 35, 36, 37, 38, 39, 40, 41, 42, 43, 44, 45, 46, 47] (by decide +kernel) (by decide +kernel)) (goodIn_sub (fun _ h => List.mem_cons_of_mem _ (List.mem_append_left _ (List.mem_append_right _ h))) (by decide +kernel))) (goodIn_sub (fun _ h => List.mem_cons_of_mem _ (List.mem_append_right _ h)) (by decide +kernel))
set_option maxRecDepth 20000 in
theorem gL_setTip_X3_setTip : GoodIn wsL_setTip (wsV RL 23 RX3 yX3_setTip wsX3_setTip) := goodIn_app (goodIn_of _ (by decide +kernel)) ggL_setTip_X3_setTip
theorem dL_setTip_0 : decode cL_setTip 0 = .ok (.aload 4, 2) := by decide +kernel
theorem dL_setTip_2 : decode cL_setTip 2 = .ok (.iconst 0, 1) := by decide +kernel
theorem dL_setTip_3 : decode cL_setTip 3 = .ok (.aload_n 0, 1) := by decide +kernel
theorem dL_setTip_4 : decode cL_setTip 4 = .ok (.iload_n 1, 1) := by decide +kernel
theorem dL_setTip_5 : decode cL_setTip 5 = .ok (.iload_n 2, 1) := by decide +kernel
theorem dL_setTip_6 : decode cL_setTip 6 = .ok (.iload_n 3, 1) := by decide +kernel
theorem dL_setTip_7 : decode cL_setTip 7 = .ok (.invokevirtual 23, 3) := by decide +kernel
theorem dL_setTip_10 : decode cL_setTip 10 = .ok (.ifCond .eq 7, 3) := by decide +kernel
theorem dL_setTip_13 : decode cL_setTip 13 = .ok (.lconst 1, 1) := by decide +kernel
theorem dL_setTip_14 : decode cL_setTip 14 = .ok (.goto 4, 3) := by decide +kernel
theorem dL_setTip_17 : decode cL_setTip 17 = .ok (.lconst 0, 1) := by decide +kernel
theorem dL_setTip_18 : decode cL_setTip 18 = .ok (.lastore, 1) := by decide +kernel
theorem dL_setTip_19 : decode cL_setTip 19 = .ok (.goto 11, 3) := by decide +kernel
theorem dL_setTip_22 : decode cL_setTip 22 = .ok (.astore 5, 2) := by decide +kernel
theorem dL_setTip_24 : decode cL_setTip 24 = .ok (.iconst 1, 1) := by decide +kernel
theorem dL_setTip_25 : decode cL_setTip 25 = .ok (.ireturn, 1) := by decide +kernel
theorem dL_setTip_26 : decode cL_setTip 26 = .ok (.astore 5, 2) := by decide +kernel
theorem dL_setTip_28 : decode cL_setTip 28 = .ok (.iconst 2, 1) := by decide +kernel
theorem dL_setTip_29 : decode cL_setTip 29 = .ok (.ireturn, 1) := by decide +kernel
theorem dL_setTip_30 : decode cL_setTip 30 = .ok (.iconst 0, 1) := by decide +kernel
theorem dL_setTip_31 : decode cL_setTip 31 = .ok (.ireturn, 1) := by decide +kernel
set_option maxRecDepth 20000 in
theorem ggL_setHoliday_X3_setHoliday : GoodIn wsL_setHoliday wsX3_setHoliday := goodIn_ca (goodIn_r _ [6, 7, 8, 9, 10, 11, 12, 13, 14, 15, 16, 17] (by decide +kernel) (by decide +kernel)) (goodIn_sub (fun _ h => List.mem_cons_of_mem _ (List.mem_append_right _ h)) (by decide +kernel))
set_option maxRecDepth 20000 in
theorem gL_setHoliday_X3_setHoliday : GoodIn wsL_setHoliday (wsV RL 27 RX3 yX3_setHoliday wsX3_setHoliday) := goodIn_app (goodIn_of _ (by decide +kernel)) ggL_setHoliday_X3_setHoliday
theorem dL_setHoliday_0 : decode cL_setHoliday 0 = .ok (.aload_n 3, 1) := by decide +kernel
theorem dL_setHoliday_1 : decode cL_setHoliday 1 = .ok (.iconst 0, 1) := by decide +kernel
theorem dL_setHoliday_2 : decode cL_setHoliday 2 = .ok (.aload_n 0, 1) := by decide +kernel
theorem dL_setHoliday_3 : decode cL_setHoliday 3 = .ok (.iload_n 1, 1) := by decide +kernel
theorem dL_setHoliday_4 : decode cL_setHoliday 4 = .ok (.iload_n 2, 1) := by decide +kernel
theorem dL_setHoliday_5 : decode cL_setHoliday 5 = .ok (.invokevirtual 27, 3) := by decide +kernel
theorem dL_setHoliday_8 : decode cL_setHoliday 8 = .ok (.ifCond .eq 7, 3) := by decide +kernel
theorem dL_setHoliday_11 : decode cL_setHoliday 11 = .ok (.lconst 1, 1) := by decide +kernel
theorem dL_setHoliday_12 : decode cL_setHoliday 12 = .ok (.goto 4, 3) := by decide +kernel
theorem dL_setHoliday_15 : decode cL_setHoliday 15 = .ok (.lconst 0, 1) := by decide +kernel
theorem dL_setHoliday_16 : decode cL_setHoliday 16 = .ok (.lastore, 1) := by decide +kernel
theorem dL_setHoliday_17 : decode cL_setHoliday 17 = .ok (.goto 7, 3) := by decide +kernel
theorem dL_setHoliday_20 : decode cL_setHoliday 20 = .ok (.astore 4, 2) := by decide +kernel
theorem dL_setHoliday_22 : decode cL_setHoliday 22 = .ok (.iconst 1, 1) := by decide +kernel
theorem dL_setHoliday_23 : decode cL_setHoliday 23 = .ok (.ireturn, 1) := by decide +kernel
theorem dL_setHoliday_24 : decode cL_setHoliday 24 = .ok (.iconst 0, 1) := by decide +kernel
theorem dL_setHoliday_25 : decode cL_setHoliday 25 = .ok (.ireturn, 1) := by decide +kernel
set_option maxRecDepth 20000 in
theorem ggL_pass_X3_pass : GoodIn wsL_pass wsX3_pass := goodIn_ca (goodIn_ca (goodIn_r _ [7, 8, 9, 10, 11, 12, 13, 6, 14, 15, 16, 17, 18, 19, 20, 21, 22, 23, 24, 25, 26, 27, 28, 29, 30, 31, 32, 33, 34, 35, 36, 37, 38, 39, 40, 41, 42, 43, 44, 45, 46, 47, 48, 49, 50, 51, 52, 53, 54, 55, 56, 57, 58, 59, 60, 61, 62, 63, 64, 65, 66, 67, 68, 69, 70, 71, 72, 73, 74, 75, 76, 77, 78, 79, 80] (by decide +kernel) (by decide +kernel)) (goodIn_sub (fun _ h => List.mem_cons_of_mem _ (List.mem_append_left _ (List.mem_append_right _ h))) (by decide +kernel))) (goodIn_sub (fun _ h => List.mem_cons_of_mem _ (List.mem_append_right _ h)) (by decide +kernel))
set_option maxRecDepth 20000 in
theorem gL_pass_X3_pass : GoodIn wsL_pass (wsV RL 31 RX3 yX3_pass wsX3_pass) := goodIn_app (goodIn_of _ (by decide +kernel)) ggL_pass_X3_pass
theorem dL_pass_0 : decode cL_pass 0 = .ok (.aload_n 2, 1) := by decide +kernel
theorem dL_pass_1 : decode cL_pass 1 = .ok (.iconst 0, 1) := by decide +kernel
theorem dL_pass_2 : decode cL_pass 2 = .ok (.aload_n 0, 1) := by decide +kernel
theorem dL_pass_3 : decode cL_pass 3 = .ok (.iload_n 1, 1) := by decide +kernel
theorem dL_pass_4 : decode cL_pass 4 = .ok (.invokevirtual 31, 3) := by decide +kernel
theorem dL_pass_7 : decode cL_pass 7 = .ok (.i2l, 1) := by decide +kernel
theorem dL_pass_8 : decode cL_pass 8 = .ok (.lastore, 1) := by decide +kernel
theorem dL_pass_9 : decode cL_pass 9 = .ok (.goto 9, 3) := by decide +kernel
theorem dL_pass_12 : decode cL_pass 12 = .ok (.astore_n 3, 1) := by decide +kernel
theorem dL_pass_13 : decode cL_pass 13 = .ok (.iconst 1, 1) := by decide +kernel
theorem dL_pass_14 : decode cL_pass 14 = .ok (.ireturn, 1) := by decide +kernel
theorem dL_pass_15 : decode cL_pass 15 = .ok (.astore_n 3, 1) := by decide +kernel
theorem dL_pass_16 : decode cL_pass 16 = .ok (.iconst 2, 1) := by decide +kernel
theorem dL_pass_17 : decode cL_pass 17 = .ok (.ireturn, 1) := by decide +kernel
theorem dL_pass_18 : decode cL_pass 18 = .ok (.iconst 0, 1) := by decide +kernel
theorem dL_pass_19 : decode cL_pass 19 = .ok (.ireturn, 1) := by decide +kernel
set_option maxRecDepth 20000 in
theorem ggL_addBin_X3_addBin : GoodIn wsL_addBin wsX3_addBin := goodIn_ca (goodIn_ca (goodIn_ca (goodIn_r _ [8, 9, 10, 11, 12, 13, 14, 15, 16, 17, 18, 19, 20, 7, 21, 22, 23, 24, 25, 26, 27, 28, 29, 30, 31, 32, 33, 34, 35, 36, 37, 38, 39, 40, 41, 42, 43, 44, 45, 46, 47, 48, 49, 50, 51, 52, 53, 54, 55, 56, 57, 58, 59, 60, 61, 62, 63, 64, 65, 66, 67, 68, 69, 70, 71, 72, 73, 74, 75, 76, 77, 78, 79, 80, 81, 82, 83, 84, 85, 86, 87, 88, 89, 90, 91, 92, 93, 94, 95, 96, 97, 98, 99, 100, 101, 102, 103, 104, 105, 106, 107, 108, 109, 110, 111, 112, 113, 114, 115, 116, 117, 118, 119, 120, 121, 122, 123, 124, 125, 126, 127, 128, 129, 130, 131, 132] (by decide +kernel) (by decide +kernel)) (goodIn_sub (fun _ h => List.mem_cons_of_mem _ (List.mem_append_left _ (List.mem_append_left _ (List.mem_append_right _ h)))) (by decide +kernel))) (goodIn_sub (fun _ h => List.mem_cons_of_mem _ (List.mem_append_left _ (List.mem_append_right _ h))) (by decide +kernel))) (goodIn_sub (fun _ h => List.mem_cons_of_mem _ (List.mem_append_right _ h)) (by decide +kernel))
set_option maxRecDepth 20000 in
theorem gL_addBin_X3_addBin : GoodIn wsL_addBin (wsV RL 35 RX3 yX3_addBin wsX3_addBin) := goodIn_app (goodIn_of _ (by decide +kernel)) ggL_addBin_X3_addBin
theorem dL_addBin_0 : decode cL_addBin 0 = .ok (.aload 5, 2) := by decide +kernel
theorem dL_addBin_2 : decode cL_addBin 2 = .ok (.iconst 0, 1) := by decide +kernel
theorem dL_addBin_3 : decode cL_addBin 3 = .ok (.aload_n 0, 1) := by decide +kernel
theorem dL_addBin_4 : decode cL_addBin 4 = .ok (.iload_n 1, 1) := by decide +kernel
theorem dL_addBin_5 : decode cL_addBin 5 = .ok (.iload_n 2, 1) := by decide +kernel
theorem dL_addBin_6 : decode cL_addBin 6 = .ok (.iload_n 3, 1) := by decide +kernel
theorem dL_addBin_7 : decode cL_addBin 7 = .ok (.iload 4, 2) := by decide +kernel
theorem dL_addBin_9 : decode cL_addBin 9 = .ok (.invokevirtual 35, 3) := by decide +kernel
theorem dL_addBin_12 : decode cL_addBin 12 = .ok (.i2l, 1) := by decide +kernel
theorem dL_addBin_13 : decode cL_addBin 13 = .ok (.lastore, 1) := by decide +kernel
theorem dL_addBin_14 : decode cL_addBin 14 = .ok (.goto 15, 3) := by decide +kernel
theorem dL_addBin_17 : decode cL_addBin 17 = .ok (.astore 6, 2) := by decide +kernel
theorem dL_addBin_19 : decode cL_addBin 19 = .ok (.iconst 1, 1) := by decide +kernel
theorem dL_addBin_20 : decode cL_addBin 20 = .ok (.ireturn, 1) := by decide +kernel
theorem dL_addBin_21 : decode cL_addBin 21 = .ok (.astore 6, 2) := by decide +kernel
theorem dL_addBin_23 : decode cL_addBin 23 = .ok (.iconst 2, 1) := by decide +kernel
theorem dL_addBin_24 : decode cL_addBin 24 = .ok (.ireturn, 1) := by decide +kernel
theorem dL_addBin_25 : decode cL_addBin 25 = .ok (.astore 6, 2) := by decide +kernel
theorem dL_addBin_27 : decode cL_addBin 27 = .ok (.iconst 3, 1) := by decide +kernel
theorem dL_addBin_28 : decode cL_addBin 28 = .ok (.ireturn, 1) := by decide +kernel
theorem dL_addBin_29 : decode cL_addBin 29 = .ok (.iconst 0, 1) := by decide +kernel
theorem dL_addBin_30 : decode cL_addBin 30 = .ok (.ireturn, 1) := by decide +kernel
set_option maxRecDepth 20000 in
theorem ggL_setGrowth_X3_setGrowth : GoodIn wsL_setGrowth wsX3_setGrowth := goodIn_ca (goodIn_ca (goodIn_r _ [7, 8, 9, 10, 11, 12, 6, 13, 14, 15, 16, 17, 18, 19, 20, 21, 22, 23, 24, 25, 26, 27, 28, 29, 30, 31, 32, 33, 34, 35, 36, 37, 38, 39, 40, 41, 42, 43, 44, 45, 46, 47, 48, 49, 50, 51, 52, 53, 54, 55, 56, 57, 58, 59, 60, 61, 62, 63, 64, 65] (by decide +kernel) (by decide +kernel)) (goodIn_sub (fun _ h => List.mem_cons_of_mem _ (List.mem_append_left _ (List.mem_append_right _ h))) (by decide +kernel))) (goodIn_sub (fun _ h => List.mem_cons_of_mem _ (List.mem_append_right _ h)) (by decide +kernel))
set_option maxRecDepth 20000 in
theorem gL_setGrowth_X3_setGrowth : GoodIn wsL_setGrowth (wsV RL 39 RX3 yX3_setGrowth wsX3_setGrowth) := goodIn_app (goodIn_of _ (by decide +kernel)) ggL_setGrowth_X3_setGrowth
theorem dL_setGrowth_0 : decode cL_setGrowth 0 = .ok (.aload_n 3, 1) := by decide +kernel
theorem dL_setGrowth_1 : decode cL_setGrowth 1 = .ok (.iconst 0, 1) := by decide +kernel
theorem dL_setGrowth_2 : decode cL_setGrowth 2 = .ok (.aload_n 0, 1) := by decide +kernel
theorem dL_setGrowth_3 : decode cL_setGrowth 3 = .ok (.iload_n 1, 1) := by decide +kernel
theorem dL_setGrowth_4 : decode cL_setGrowth 4 = .ok (.iload_n 2, 1) := by decide +kernel
theorem dL_setGrowth_5 : decode cL_setGrowth 5 = .ok (.invokevirtual 39, 3) := by decide +kernel
theorem dL_setGrowth_8 : decode cL_setGrowth 8 = .ok (.i2l, 1) := by decide +kernel
theorem dL_setGrowth_9 : decode cL_setGrowth 9 = .ok (.lastore, 1) := by decide +kernel
theorem dL_setGrowth_10 : decode cL_setGrowth 10 = .ok (.goto 11, 3) := by decide +kernel
theorem dL_setGrowth_13 : decode cL_setGrowth 13 = .ok (.astore 4, 2) := by decide +kernel
theorem dL_setGrowth_15 : decode cL_setGrowth 15 = .ok (.iconst 1, 1) := by decide +kernel
theorem dL_setGrowth_16 : decode cL_setGrowth 16 = .ok (.ireturn, 1) := by decide +kernel
theorem dL_setGrowth_17 : decode cL_setGrowth 17 = .ok (.astore 4, 2) := by decide +kernel
theorem dL_setGrowth_19 : decode cL_setGrowth 19 = .ok (.iconst 2, 1) := by decide +kernel
theorem dL_setGrowth_20 : decode cL_setGrowth 20 = .ok (.ireturn, 1) := by decide +kernel
theorem dL_setGrowth_21 : decode cL_setGrowth 21 = .ok (.iconst 0, 1) := by decide +kernel
theorem dL_setGrowth_22 : decode cL_setGrowth 22 = .ok (.ireturn, 1) := by decide +kernel
set_option maxRecDepth 20000 in
theorem ggL_soil_X3_soil : GoodIn wsL_soil wsX3_soil := goodIn_ca (goodIn_r _ [6, 7, 8, 9, 10, 11, 5, 12, 13, 14, 15, 16, 17, 18, 19, 20, 21, 22, 23, 24, 25, 26, 27, 28, 29, 30, 31, 32, 33, 34, 35, 36, 37, 38, 39, 40, 41, 42, 43, 44, 45, 46, 47, 48, 49, 50, 51, 52, 53, 54, 55, 56, 57, 58] (by decide +kernel) (by decide +kernel)) (goodIn_sub (fun _ h => List.mem_cons_of_mem _ (List.mem_append_right _ h)) (by decide +kernel))
set_option maxRecDepth 20000 in
theorem gL_soil_X3_soil : GoodIn wsL_soil (wsV RL 43 RX3 yX3_soil wsX3_soil) := goodIn_app (goodIn_of _ (by decide +kernel)) ggL_soil_X3_soil
theorem dL_soil_0 : decode cL_soil 0 = .ok (.aload_n 2, 1) := by decide +kernel
theorem dL_soil_1 : decode cL_soil 1 = .ok (.iconst 0, 1) := by decide +kernel
theorem dL_soil_2 : decode cL_soil 2 = .ok (.aload_n 0, 1) := by decide +kernel
theorem dL_soil_3 : decode cL_soil 3 = .ok (.iload_n 1, 1) := by decide +kernel
theorem dL_soil_4 : decode cL_soil 4 = .ok (.invokevirtual 43, 3) := by decide +kernel
theorem dL_soil_7 : decode cL_soil 7 = .ok (.ifCond .eq 7, 3) := by decide +kernel
theorem dL_soil_10 : decode cL_soil 10 = .ok (.lconst 1, 1) := by decide +kernel
theorem dL_soil_11 : decode cL_soil 11 = .ok (.goto 4, 3) := by decide +kernel
theorem dL_soil_14 : decode cL_soil 14 = .ok (.lconst 0, 1) := by decide +kernel
theorem dL_soil_15 : decode cL_soil 15 = .ok (.lastore, 1) := by decide +kernel
theorem dL_soil_16 : decode cL_soil 16 = .ok (.goto 6, 3) := by decide +kernel
theorem dL_soil_19 : decode cL_soil 19 = .ok (.astore_n 3, 1) := by decide +kernel
theorem dL_soil_20 : decode cL_soil 20 = .ok (.iconst 1, 1) := by decide +kernel
theorem dL_soil_21 : decode cL_soil 21 = .ok (.ireturn, 1) := by decide +kernel
theorem dL_soil_22 : decode cL_soil 22 = .ok (.iconst 0, 1) := by decide +kernel
theorem dL_soil_23 : decode cL_soil 23 = .ok (.ireturn, 1) := by decide +kernel
set_option maxRecDepth 20000 in
theorem ggL_bin_X3_bin : GoodIn wsL_bin wsX3_bin := goodIn_ca (goodIn_r _ [6, 7, 8, 9, 10, 11, 12, 13, 5, 14, 15, 16, 17, 18, 19, 20, 21, 22, 23, 24, 25, 26, 27, 28, 29, 30, 31, 32, 33, 34, 35, 36, 37, 38, 39, 40, 41, 42, 43, 44, 45, 46, 47, 48, 49, 50, 51, 52, 53, 54, 55, 56, 57, 58, 59, 60, 61, 62, 63, 64, 65, 66, 67, 68, 69, 70, 71] (by decide +kernel) (by decide +kernel)) (goodIn_sub (fun _ h => List.mem_cons_of_mem _ (List.mem_append_right _ h)) (by decide +kernel))
set_option maxRecDepth 20000 in
theorem gL_bin_X3_bin : GoodIn wsL_bin (wsV RL 47 RX3 yX3_bin wsX3_bin) := goodIn_app (goodIn_of _ (by decide +kernel)) ggL_bin_X3_bin
theorem dL_bin_0 : decode cL_bin 0 = .ok (.aload_n 3, 1) := by decide +kernel
theorem dL_bin_1 : decode cL_bin 1 = .ok (.iconst 0, 1) := by decide +kernel
theorem dL_bin_2 : decode cL_bin 2 = .ok (.aload_n 0, 1) := by decide +kernel
theorem dL_bin_3 : decode cL_bin 3 = .ok (.iload_n 1, 1) := by decide +kernel
theorem dL_bin_4 : decode cL_bin 4 = .ok (.iload_n 2, 1) := by decide +kernel
theorem dL_bin_5 : decode cL_bin 5 = .ok (.invokevirtual 47, 3) := by decide +kernel
theorem dL_bin_8 : decode cL_bin 8 = .ok (.i2l, 1) := by decide +kernel
theorem dL_bin_9 : decode cL_bin 9 = .ok (.lastore, 1) := by decide +kernel
theorem dL_bin_10 : decode cL_bin 10 = .ok (.goto 7, 3) := by decide +kernel
theorem dL_bin_13 : decode cL_bin 13 = .ok (.astore 4, 2) := by decide +kernel
theorem dL_bin_15 : decode cL_bin 15 = .ok (.iconst 1, 1) := by decide +kernel
theorem dL_bin_16 : decode cL_bin 16 = .ok (.ireturn, 1) := by decide +kernel
theorem dL_bin_17 : decode cL_bin 17 = .ok (.iconst 0, 1) := by decide +kernel
theorem dL_bin_18 : decode cL_bin 18 = .ok (.ireturn, 1) := by decide +kernel
set_option maxRecDepth 20000 in
theorem ggL_expected_X3_expected : GoodIn wsL_expected wsX3_expected := goodIn_ca (goodIn_ca (goodIn_r _ [7, 8, 9, 10, 11, 12, 13, 6, 14, 15, 16, 17, 18, 19, 20, 21, 22, 23, 24, 25, 26, 27, 28, 29, 30, 31, 32, 33, 34, 35, 36, 37, 38, 39, 40, 41, 42, 43, 44, 45, 46, 47, 48, 49, 50, 51, 52, 53, 54, 55, 56, 57, 58, 59, 60, 61, 62, 63, 64, 65, 66, 67, 68, 69, 70, 71, 72, 73, 74, 75, 76, 77, 78] (by decide +kernel) (by decide +kernel)) (goodIn_sub (fun _ h => List.mem_cons_of_mem _ (List.mem_append_left _ (List.mem_append_right _ h))) (by decide +kernel))) (goodIn_sub (fun _ h => List.mem_cons_of_mem _ (List.mem_append_right _ h)) (by decide +kernel))
set_option maxRecDepth 20000 in
theorem gL_expected_X3_expected : GoodIn wsL_expected (wsV RL 50 RX3 yX3_expected wsX3_expected) := goodIn_app (goodIn_of _ (by decide +kernel)) ggL_expected_X3_expected
theorem dL_expected_0 : decode cL_expected 0 = .ok (.aload_n 3, 1) := by decide +kernel
theorem dL_expected_1 : decode cL_expected 1 = .ok (.iconst 0, 1) := by decide +kernel
theorem dL_expected_2 : decode cL_expected 2 = .ok (.aload_n 0, 1) := by decide +kernel
theorem dL_expected_3 : decode cL_expected 3 = .ok (.iload_n 1, 1) := by decide +kernel
theorem dL_expected_4 : decode cL_expected 4 = .ok (.iload_n 2, 1) := by decide +kernel
theorem dL_expected_5 : decode cL_expected 5 = .ok (.invokevirtual 50, 3) := by decide +kernel
theorem dL_expected_8 : decode cL_expected 8 = .ok (.i2l, 1) := by decide +kernel
theorem dL_expected_9 : decode cL_expected 9 = .ok (.lastore, 1) := by decide +kernel
theorem dL_expected_10 : decode cL_expected 10 = .ok (.goto 11, 3) := by decide +kernel
theorem dL_expected_13 : decode cL_expected 13 = .ok (.astore 4, 2) := by decide +kernel
theorem dL_expected_15 : decode cL_expected 15 = .ok (.iconst 1, 1) := by decide +kernel
theorem dL_expected_16 : decode cL_expected 16 = .ok (.ireturn, 1) := by decide +kernel
theorem dL_expected_17 : decode cL_expected 17 = .ok (.astore 4, 2) := by decide +kernel
theorem dL_expected_19 : decode cL_expected 19 = .ok (.iconst 2, 1) := by decide +kernel
theorem dL_expected_20 : decode cL_expected 20 = .ok (.ireturn, 1) := by decide +kernel
theorem dL_expected_21 : decode cL_expected 21 = .ok (.iconst 0, 1) := by decide +kernel
theorem dL_expected_22 : decode cL_expected 22 = .ok (.ireturn, 1) := by decide +kernel
set_option maxRecDepth 20000 in
theorem ggL_fullOn_X3_fullOn : GoodIn wsL_fullOn wsX3_fullOn := goodIn_ca (goodIn_r _ [6, 7, 8, 9, 10, 11, 12, 5, 13, 14, 15, 16, 17, 18, 19, 20, 21, 22, 23, 24, 25, 26, 27, 28, 29, 30, 31, 32, 33, 34, 35, 36, 37, 38, 39, 40, 41, 42, 43, 44, 45, 46, 47, 48, 49, 50, 51, 52, 53, 54, 55, 56, 57, 58, 59, 60, 61, 62, 63, 64, 65, 66, 67, 68, 69, 70, 71, 72, 73, 74, 75] (by decide +kernel) (by decide +kernel)) (goodIn_sub (fun _ h => List.mem_cons_of_mem _ (List.mem_append_right _ h)) (by decide +kernel))
set_option maxRecDepth 20000 in
theorem gL_fullOn_X3_fullOn : GoodIn wsL_fullOn (wsV RL 53 RX3 yX3_fullOn wsX3_fullOn) := goodIn_app (goodIn_of _ (by decide +kernel)) ggL_fullOn_X3_fullOn
theorem dL_fullOn_0 : decode cL_fullOn 0 = .ok (.aload_n 2, 1) := by decide +kernel
theorem dL_fullOn_1 : decode cL_fullOn 1 = .ok (.iconst 0, 1) := by decide +kernel
theorem dL_fullOn_2 : decode cL_fullOn 2 = .ok (.aload_n 0, 1) := by decide +kernel
theorem dL_fullOn_3 : decode cL_fullOn 3 = .ok (.iload_n 1, 1) := by decide +kernel
theorem dL_fullOn_4 : decode cL_fullOn 4 = .ok (.invokevirtual 53, 3) := by decide +kernel
theorem dL_fullOn_7 : decode cL_fullOn 7 = .ok (.i2l, 1) := by decide +kernel
theorem dL_fullOn_8 : decode cL_fullOn 8 = .ok (.lastore, 1) := by decide +kernel
theorem dL_fullOn_9 : decode cL_fullOn 9 = .ok (.goto 6, 3) := by decide +kernel
theorem dL_fullOn_12 : decode cL_fullOn 12 = .ok (.astore_n 3, 1) := by decide +kernel
theorem dL_fullOn_13 : decode cL_fullOn 13 = .ok (.iconst 1, 1) := by decide +kernel
theorem dL_fullOn_14 : decode cL_fullOn 14 = .ok (.ireturn, 1) := by decide +kernel
theorem dL_fullOn_15 : decode cL_fullOn 15 = .ok (.iconst 0, 1) := by decide +kernel
theorem dL_fullOn_16 : decode cL_fullOn 16 = .ok (.ireturn, 1) := by decide +kernel
set_option maxRecDepth 20000 in
theorem ggL_planSize_X3_planSize : GoodIn wsL_planSize wsX3_planSize := goodIn_ca (goodIn_r _ [6, 7, 8, 9, 10, 5, 11, 12, 13, 14, 15, 16, 17, 18, 19, 20, 21, 22, 23, 24, 25, 26, 27, 28, 29, 30, 31, 32, 33, 34, 35, 36, 37, 38, 39, 40, 41, 42, 43, 44, 45, 46, 47, 48, 49, 50, 51, 52, 53, 54, 55, 56, 57, 58, 59, 60, 61, 62, 63, 64, 65, 66, 67, 68, 69, 70, 71, 72, 73, 74, 75, 76, 77, 78, 79, 80, 81, 82, 83, 84, 85, 86, 87, 88, 89, 90, 91, 92, 93, 94, 95, 96, 97, 98, 99, 100, 101, 102, 103, 104] (by decide +kernel) (by decide +kernel)) (goodIn_sub (fun _ h => List.mem_cons_of_mem _ (List.mem_append_right _ h)) (by decide +kernel))
set_option maxRecDepth 20000 in
theorem gL_planSize_X3_planSize : GoodIn wsL_planSize (wsV RL 56 RX3 yX3_planSize wsX3_planSize) := goodIn_app (goodIn_of _ (by decide +kernel)) ggL_planSize_X3_planSize
theorem dL_planSize_0 : decode cL_planSize 0 = .ok (.aload_n 2, 1) := by decide +kernel
theorem dL_planSize_1 : decode cL_planSize 1 = .ok (.iconst 0, 1) := by decide +kernel
theorem dL_planSize_2 : decode cL_planSize 2 = .ok (.aload_n 0, 1) := by decide +kernel
theorem dL_planSize_3 : decode cL_planSize 3 = .ok (.iload_n 1, 1) := by decide +kernel
theorem dL_planSize_4 : decode cL_planSize 4 = .ok (.invokevirtual 56, 3) := by decide +kernel
theorem dL_planSize_7 : decode cL_planSize 7 = .ok (.i2l, 1) := by decide +kernel
theorem dL_planSize_8 : decode cL_planSize 8 = .ok (.lastore, 1) := by decide +kernel
theorem dL_planSize_9 : decode cL_planSize 9 = .ok (.goto 6, 3) := by decide +kernel
theorem dL_planSize_12 : decode cL_planSize 12 = .ok (.astore_n 3, 1) := by decide +kernel
theorem dL_planSize_13 : decode cL_planSize 13 = .ok (.iconst 1, 1) := by decide +kernel
theorem dL_planSize_14 : decode cL_planSize 14 = .ok (.ireturn, 1) := by decide +kernel
theorem dL_planSize_15 : decode cL_planSize 15 = .ok (.iconst 0, 1) := by decide +kernel
theorem dL_planSize_16 : decode cL_planSize 16 = .ok (.ireturn, 1) := by decide +kernel
set_option maxRecDepth 20000 in
theorem ggL_planned_X3_planned : GoodIn wsL_planned wsX3_planned := goodIn_ca (goodIn_r _ [6, 7, 8, 9, 10, 11, 12, 13, 5, 14, 15, 16, 17, 18, 19, 20, 21, 22, 23, 24, 25, 26, 27, 28, 29, 30, 31, 32, 33, 34, 35, 36, 37, 38, 39, 40, 41, 42, 43, 44, 45, 46, 47, 48, 49, 50, 51, 52, 53, 54, 55, 56, 57, 58, 59, 60, 61, 62, 63, 64, 65, 66, 67, 68, 69, 70, 71, 72, 73, 74, 75, 76, 77, 78, 79, 80, 81, 82, 83, 84, 85, 86, 87, 88, 89, 90, 91, 92, 93, 94, 95, 96, 97, 98, 99, 100, 101, 102, 103, 104] (by decide +kernel) (by decide +kernel)) (goodIn_sub (fun _ h => List.mem_cons_of_mem _ (List.mem_append_right _ h)) (by decide +kernel))
set_option maxRecDepth 20000 in
theorem gL_planned_X3_planned : GoodIn wsL_planned (wsV RL 59 RX3 yX3_planned wsX3_planned) := goodIn_app (goodIn_of _ (by decide +kernel)) ggL_planned_X3_planned
theorem dL_planned_0 : decode cL_planned 0 = .ok (.aload_n 3, 1) := by decide +kernel
theorem dL_planned_1 : decode cL_planned 1 = .ok (.iconst 0, 1) := by decide +kernel
theorem dL_planned_2 : decode cL_planned 2 = .ok (.aload_n 0, 1) := by decide +kernel
theorem dL_planned_3 : decode cL_planned 3 = .ok (.iload_n 1, 1) := by decide +kernel
theorem dL_planned_4 : decode cL_planned 4 = .ok (.iload_n 2, 1) := by decide +kernel
theorem dL_planned_5 : decode cL_planned 5 = .ok (.invokevirtual 59, 3) := by decide +kernel
theorem dL_planned_8 : decode cL_planned 8 = .ok (.i2l, 1) := by decide +kernel
theorem dL_planned_9 : decode cL_planned 9 = .ok (.lastore, 1) := by decide +kernel
theorem dL_planned_10 : decode cL_planned 10 = .ok (.goto 7, 3) := by decide +kernel
theorem dL_planned_13 : decode cL_planned 13 = .ok (.astore 4, 2) := by decide +kernel
theorem dL_planned_15 : decode cL_planned 15 = .ok (.iconst 1, 1) := by decide +kernel
theorem dL_planned_16 : decode cL_planned 16 = .ok (.ireturn, 1) := by decide +kernel
theorem dL_planned_17 : decode cL_planned 17 = .ok (.iconst 0, 1) := by decide +kernel
theorem dL_planned_18 : decode cL_planned 18 = .ok (.ireturn, 1) := by decide +kernel
set_option maxRecDepth 20000 in
theorem ggL_collect_X3_collect : GoodIn wsL_collect wsX3_collect := goodIn_ca (goodIn_ca (goodIn_ca (goodIn_r _ [8, 9, 10, 11, 12, 7, 13, 14, 15, 16, 17, 18, 19, 20, 21, 22, 23, 24, 25, 26, 27, 28, 29, 30, 31, 32, 33, 34, 35, 36, 37, 38, 39, 40, 41, 42, 43, 44, 45, 46, 47, 48, 49, 50, 51, 52, 53, 54, 55, 56, 57, 58, 59, 60, 61, 62, 63, 64, 65, 66, 67, 68, 69, 70, 71, 72, 73, 74, 75, 76, 77, 78, 79, 80, 81, 82, 83, 84, 85, 86, 87, 88, 89, 90, 91, 92, 93, 94, 95, 96, 97, 98, 99, 100, 101, 102, 103, 104, 105, 106, 107, 108, 109, 110, 111, 112, 113, 114, 115, 116, 117, 118, 119, 120, 121, 122, 123, 124, 125, 126, 127, 128, 129, 130, 131, 132, 133, 134, 135, 136, 137, 138, 139, 140, 141, 142, 143, 144, 145, 146, 147, 148, 149, 150, 151, 152, 153, 154, 155, 156, 157, 158, 159, 160, 161, 162, 163, 164, 165, 166, 167, 168, 169, 170, 171, 172, 173, 174, 175, 176, 177, 178, 179, 180, 181, 182, 183, 184, 185] (by decide +kernel) (by decide +kernel)) (goodIn_sub (fun _ h => List.mem_cons_of_mem _ (List.mem_append_left _ (List.mem_append_left _ (List.mem_append_right _ h)))) (by decide +kernel))) (goodIn_sub (fun _ h => List.mem_cons_of_mem _ (List.mem_append_left _ (List.mem_append_right _ h))) (by decide +kernel))) (goodIn_sub (fun _ h => List.mem_cons_of_mem _ (List.mem_append_right _ h)) (by decide +kernel))
set_option maxRecDepth 20000 in
theorem gL_collect_X3_collect : GoodIn wsL_collect (wsV RL 62 RX3 yX3_collect wsX3_collect) := goodIn_app (goodIn_of _ (by decide +kernel)) ggL_collect_X3_collect
theorem dL_collect_0 : decode cL_collect 0 = .ok (.aload_n 3, 1) := by decide +kernel
theorem dL_collect_1 : decode cL_collect 1 = .ok (.iconst 0, 1) := by decide +kernel
theorem dL_collect_2 : decode cL_collect 2 = .ok (.aload_n 0, 1) := by decide +kernel
theorem dL_collect_3 : decode cL_collect 3 = .ok (.iload_n 1, 1) := by decide +kernel
theorem dL_collect_4 : decode cL_collect 4 = .ok (.iload_n 2, 1) := by decide +kernel
theorem dL_collect_5 : decode cL_collect 5 = .ok (.invokevirtual 62, 3) := by decide +kernel
theorem dL_collect_8 : decode cL_collect 8 = .ok (.i2l, 1) := by decide +kernel
theorem dL_collect_9 : decode cL_collect 9 = .ok (.lastore, 1) := by decide +kernel
theorem dL_collect_10 : decode cL_collect 10 = .ok (.goto 15, 3) := by decide +kernel
theorem dL_collect_13 : decode cL_collect 13 = .ok (.astore 4, 2) := by decide +kernel
theorem dL_collect_15 : decode cL_collect 15 = .ok (.iconst 1, 1) := by decide +kernel
theorem dL_collect_16 : decode cL_collect 16 = .ok (.ireturn, 1) := by decide +kernel
theorem dL_collect_17 : decode cL_collect 17 = .ok (.astore 4, 2) := by decide +kernel
theorem dL_collect_19 : decode cL_collect 19 = .ok (.iconst 2, 1) := by decide +kernel
theorem dL_collect_20 : decode cL_collect 20 = .ok (.ireturn, 1) := by decide +kernel
theorem dL_collect_21 : decode cL_collect 21 = .ok (.astore 4, 2) := by decide +kernel
theorem dL_collect_23 : decode cL_collect 23 = .ok (.iconst 3, 1) := by decide +kernel
theorem dL_collect_24 : decode cL_collect 24 = .ok (.ireturn, 1) := by decide +kernel
theorem dL_collect_25 : decode cL_collect 25 = .ok (.iconst 0, 1) := by decide +kernel
theorem dL_collect_26 : decode cL_collect 26 = .ok (.ireturn, 1) := by decide +kernel
set_option maxRecDepth 20000 in
theorem ggL_fetch_X3_fetch : GoodIn wsL_fetch wsX3_fetch := goodIn_ca (goodIn_ca (goodIn_ca (goodIn_r _ [8, 9, 10, 11, 12, 13, 14, 15, 7, 16, 17, 18, 19, 20, 21, 22, 23, 24, 25, 26, 27, 28, 29, 30, 31, 32, 33, 34, 35, 36, 37, 38, 39, 40, 41, 42, 43, 44, 45, 46, 47, 48, 49, 50, 51, 52, 53, 54, 55, 56, 57, 58, 59, 60, 61, 62, 63, 64, 65, 66, 67, 68, 69, 70, 71, 72, 73, 74, 75, 76, 77, 78, 79, 80, 81, 82, 83, 84, 85, 86, 87, 88, 89, 90, 91, 92, 93, 94, 95, 96, 97, 98, 99, 100, 101, 102, 103, 104, 105, 106, 107, 108, 109, 110, 111, 112, 113, 114, 115, 116, 117, 118, 119, 120, 121, 122, 123, 124, 125, 126, 127, 128, 129, 130, 131, 132, 133, 134, 135, 136, 137, 138, 139, 140, 141, 142, 143, 144, 145, 146, 147, 148, 149, 150, 151, 152, 153, 154, 155, 156, 157, 158] (by decide +kernel) (by decide +kernel)) (goodIn_sub (fun _ h => List.mem_cons_of_mem _ (List.mem_append_left _ (List.mem_append_left _ (List.mem_append_right _ h)))) (by decide +kernel))) (goodIn_sub (fun _ h => List.mem_cons_of_mem _ (List.mem_append_left _ (List.mem_append_right _ h))) (by decide +kernel))) (goodIn_sub (fun _ h => List.mem_cons_of_mem _ (List.mem_append_right _ h)) (by decide +kernel))
set_option maxRecDepth 20000 in
theorem gL_fetch_X3_fetch : GoodIn wsL_fetch (wsV RL 65 RX3 yX3_fetch wsX3_fetch) := goodIn_app (goodIn_of _ (by decide +kernel)) ggL_fetch_X3_fetch
theorem dL_fetch_0 : decode cL_fetch 0 = .ok (.aload_n 3, 1) := by decide +kernel
theorem dL_fetch_1 : decode cL_fetch 1 = .ok (.iconst 0, 1) := by decide +kernel
theorem dL_fetch_2 : decode cL_fetch 2 = .ok (.aload_n 0, 1) := by decide +kernel
theorem dL_fetch_3 : decode cL_fetch 3 = .ok (.iload_n 1, 1) := by decide +kernel
theorem dL_fetch_4 : decode cL_fetch 4 = .ok (.iload_n 2, 1) := by decide +kernel
theorem dL_fetch_5 : decode cL_fetch 5 = .ok (.invokevirtual 65, 3) := by decide +kernel
theorem dL_fetch_8 : decode cL_fetch 8 = .ok (.i2l, 1) := by decide +kernel
theorem dL_fetch_9 : decode cL_fetch 9 = .ok (.lastore, 1) := by decide +kernel
theorem dL_fetch_10 : decode cL_fetch 10 = .ok (.goto 15, 3) := by decide +kernel
theorem dL_fetch_13 : decode cL_fetch 13 = .ok (.astore 4, 2) := by decide +kernel
theorem dL_fetch_15 : decode cL_fetch 15 = .ok (.iconst 1, 1) := by decide +kernel
theorem dL_fetch_16 : decode cL_fetch 16 = .ok (.ireturn, 1) := by decide +kernel
theorem dL_fetch_17 : decode cL_fetch 17 = .ok (.astore 4, 2) := by decide +kernel
theorem dL_fetch_19 : decode cL_fetch 19 = .ok (.iconst 2, 1) := by decide +kernel
theorem dL_fetch_20 : decode cL_fetch 20 = .ok (.ireturn, 1) := by decide +kernel
theorem dL_fetch_21 : decode cL_fetch 21 = .ok (.astore 4, 2) := by decide +kernel
theorem dL_fetch_23 : decode cL_fetch 23 = .ok (.iconst 3, 1) := by decide +kernel
theorem dL_fetch_24 : decode cL_fetch 24 = .ok (.ireturn, 1) := by decide +kernel
theorem dL_fetch_25 : decode cL_fetch 25 = .ok (.iconst 0, 1) := by decide +kernel
theorem dL_fetch_26 : decode cL_fetch 26 = .ok (.ireturn, 1) := by decide +kernel
set_option maxRecDepth 20000 in
theorem ggL_wouldTake_X3_wouldTake : GoodIn wsL_wouldTake wsX3_wouldTake := goodIn_ca (goodIn_ca (goodIn_r _ [7, 8, 9, 10, 11, 12, 13, 14, 15, 16, 17, 18, 6, 19, 20, 21, 22, 23, 24, 25, 26, 27, 28, 29, 30, 31, 32, 33, 34, 35, 36, 37, 38, 39, 40, 41, 42, 43, 44, 45, 46, 47, 48, 49, 50, 51, 52, 53, 54, 55, 56, 57, 58, 59, 60, 61, 62, 63, 64, 65, 66, 67, 68, 69, 70, 71, 72, 73, 74, 75, 76, 77, 78, 79, 80, 81, 82, 83, 84, 85, 86, 87, 88, 89, 90, 91, 92, 93, 94, 95, 96, 97, 98, 99, 100, 101, 102, 103, 104, 105, 106, 107, 108, 109, 110, 111, 112, 113, 114, 115, 116, 117, 118, 119, 120, 121, 122, 123, 124, 125, 126, 127, 128, 129, 130, 131, 132, 133, 134, 135, 136, 137, 138, 139, 140, 141, 142, 143, 144, 145, 146, 147, 148, 149, 150, 151, 152, 153, 154, 155, 156, 157, 158, 159, 160, 161, 162, 163, 164, 165, 166] (by decide +kernel) (by decide +kernel)) (goodIn_sub (fun _ h => List.mem_cons_of_mem _ (List.mem_append_left _ (List.mem_append_right _ h))) (by decide +kernel))) (goodIn_sub (fun _ h => List.mem_cons_of_mem _ (List.mem_append_right _ h)) (by decide +kernel))
set_option maxRecDepth 20000 in
theorem gL_wouldTake_X3_wouldTake : GoodIn wsL_wouldTake (wsV RL 68 RX3 yX3_wouldTake wsX3_wouldTake) := goodIn_app (goodIn_of _ (by decide +kernel)) ggL_wouldTake_X3_wouldTake
theorem dL_wouldTake_0 : decode cL_wouldTake 0 = .ok (.aload_n 3, 1) := by decide +kernel
theorem dL_wouldTake_1 : decode cL_wouldTake 1 = .ok (.iconst 0, 1) := by decide +kernel
theorem dL_wouldTake_2 : decode cL_wouldTake 2 = .ok (.aload_n 0, 1) := by decide +kernel
theorem dL_wouldTake_3 : decode cL_wouldTake 3 = .ok (.iload_n 1, 1) := by decide +kernel
theorem dL_wouldTake_4 : decode cL_wouldTake 4 = .ok (.iload_n 2, 1) := by decide +kernel
theorem dL_wouldTake_5 : decode cL_wouldTake 5 = .ok (.invokevirtual 68, 3) := by decide +kernel
theorem dL_wouldTake_8 : decode cL_wouldTake 8 = .ok (.i2l, 1) := by decide +kernel
theorem dL_wouldTake_9 : decode cL_wouldTake 9 = .ok (.lastore, 1) := by decide +kernel
theorem dL_wouldTake_10 : decode cL_wouldTake 10 = .ok (.goto 11, 3) := by decide +kernel
theorem dL_wouldTake_13 : decode cL_wouldTake 13 = .ok (.astore 4, 2) := by decide +kernel
theorem dL_wouldTake_15 : decode cL_wouldTake 15 = .ok (.iconst 1, 1) := by decide +kernel
theorem dL_wouldTake_16 : decode cL_wouldTake 16 = .ok (.ireturn, 1) := by decide +kernel
theorem dL_wouldTake_17 : decode cL_wouldTake 17 = .ok (.astore 4, 2) := by decide +kernel
theorem dL_wouldTake_19 : decode cL_wouldTake 19 = .ok (.iconst 2, 1) := by decide +kernel
theorem dL_wouldTake_20 : decode cL_wouldTake 20 = .ok (.ireturn, 1) := by decide +kernel
theorem dL_wouldTake_21 : decode cL_wouldTake 21 = .ok (.iconst 0, 1) := by decide +kernel
theorem dL_wouldTake_22 : decode cL_wouldTake 22 = .ok (.ireturn, 1) := by decide +kernel
set_option maxRecDepth 20000 in
theorem ggL_total_X3_total : GoodIn wsL_total wsX3_total := goodIn_ca (goodIn_r _ [6, 7, 8, 9, 10, 11, 12, 5, 13, 14, 15, 16, 17, 18, 19, 20, 21] (by decide +kernel) (by decide +kernel)) (goodIn_sub (fun _ h => List.mem_cons_of_mem _ (List.mem_append_right _ h)) (by decide +kernel))
set_option maxRecDepth 20000 in
theorem gL_total_X3_total : GoodIn wsL_total (wsV RL 71 RX3 yX3_total wsX3_total) := goodIn_app (goodIn_of _ (by decide +kernel)) ggL_total_X3_total
theorem dL_total_0 : decode cL_total 0 = .ok (.aload_n 3, 1) := by decide +kernel
theorem dL_total_1 : decode cL_total 1 = .ok (.iconst 0, 1) := by decide +kernel
theorem dL_total_2 : decode cL_total 2 = .ok (.aload_n 0, 1) := by decide +kernel
theorem dL_total_3 : decode cL_total 3 = .ok (.iload_n 1, 1) := by decide +kernel
theorem dL_total_4 : decode cL_total 4 = .ok (.iload_n 2, 1) := by decide +kernel
theorem dL_total_5 : decode cL_total 5 = .ok (.invokevirtual 71, 3) := by decide +kernel
theorem dL_total_8 : decode cL_total 8 = .ok (.lastore, 1) := by decide +kernel
theorem dL_total_9 : decode cL_total 9 = .ok (.goto 7, 3) := by decide +kernel
theorem dL_total_12 : decode cL_total 12 = .ok (.astore 4, 2) := by decide +kernel
theorem dL_total_14 : decode cL_total 14 = .ok (.iconst 1, 1) := by decide +kernel
theorem dL_total_15 : decode cL_total 15 = .ok (.ireturn, 1) := by decide +kernel
theorem dL_total_16 : decode cL_total 16 = .ok (.iconst 0, 1) := by decide +kernel
theorem dL_total_17 : decode cL_total 17 = .ok (.ireturn, 1) := by decide +kernel
set_option maxRecDepth 20000 in
theorem ggL_wasted_X3_wasted : GoodIn wsL_wasted wsX3_wasted := goodIn_ca (goodIn_r _ [6, 7, 8, 9, 10, 5, 11, 12, 13, 14, 15, 16, 17, 18, 19, 20, 21] (by decide +kernel) (by decide +kernel)) (goodIn_sub (fun _ h => List.mem_cons_of_mem _ (List.mem_append_right _ h)) (by decide +kernel))
set_option maxRecDepth 20000 in
theorem gL_wasted_X3_wasted : GoodIn wsL_wasted (wsV RL 75 RX3 yX3_wasted wsX3_wasted) := goodIn_app (goodIn_of _ (by decide +kernel)) ggL_wasted_X3_wasted
theorem dL_wasted_0 : decode cL_wasted 0 = .ok (.aload_n 2, 1) := by decide +kernel
theorem dL_wasted_1 : decode cL_wasted 1 = .ok (.iconst 0, 1) := by decide +kernel
theorem dL_wasted_2 : decode cL_wasted 2 = .ok (.aload_n 0, 1) := by decide +kernel
theorem dL_wasted_3 : decode cL_wasted 3 = .ok (.iload_n 1, 1) := by decide +kernel
theorem dL_wasted_4 : decode cL_wasted 4 = .ok (.invokevirtual 75, 3) := by decide +kernel
theorem dL_wasted_7 : decode cL_wasted 7 = .ok (.lastore, 1) := by decide +kernel
theorem dL_wasted_8 : decode cL_wasted 8 = .ok (.goto 6, 3) := by decide +kernel
theorem dL_wasted_11 : decode cL_wasted 11 = .ok (.astore_n 3, 1) := by decide +kernel
theorem dL_wasted_12 : decode cL_wasted 12 = .ok (.iconst 1, 1) := by decide +kernel
theorem dL_wasted_13 : decode cL_wasted 13 = .ok (.ireturn, 1) := by decide +kernel
theorem dL_wasted_14 : decode cL_wasted 14 = .ok (.iconst 0, 1) := by decide +kernel
theorem dL_wasted_15 : decode cL_wasted 15 = .ok (.ireturn, 1) := by decide +kernel
set_option maxRecDepth 20000 in
theorem ggL_law_X3_init : GoodIn wsL_law wsX3_init := goodIn_r _ [9, 10, 11, 12, 13, 14, 15, 16, 17, 18, 19, 20, 21, 22, 6, 23, 24, 25, 26, 27, 28, 29, 30, 31, 32, 33, 34, 35, 36, 37, 38, 39, 40, 41, 42, 43, 44, 45, 46, 47, 48, 49, 50, 662, 663, 664, 633, 634, 635, 636, 637, 638, 639, 640, 665, 666, 667] (by decide +kernel) (by decide +kernel)
set_option maxRecDepth 20000 in
theorem gL_law_X3_init : GoodIn wsL_law (wsX3_init) := ggL_law_X3_init
set_option maxRecDepth 20000 in
theorem ggL_law_X4_init : GoodIn wsL_law wsX4_init := goodIn_r _ [53, 54, 11, 12, 55, 25, 56, 57, 21, 58, 59, 60, 61, 62, 63, 64, 65, 66, 67, 68, 6, 69, 70, 71, 641, 642, 643, 644, 645, 646, 647, 648, 649, 650, 651, 652, 653, 654, 655, 656, 657, 658, 659, 660, 661] (by decide +kernel) (by decide +kernel)
set_option maxRecDepth 20000 in
theorem gL_law_X4_init : GoodIn wsL_law (wsX4_init) := ggL_law_X4_init
set_option maxRecDepth 20000 in
theorem ggL_law_L_addPlace : GoodIn wsL_law wsL_addPlace := goodIn_ca (goodIn_r _ [75, 76, 77, 78, 79, 2, 80, 81, 82, 16, 83, 84, 85, 15, 86, 35, 633, 634, 635, 636, 637, 638, 639, 640, 662, 663, 664] (by decide +kernel) (by decide +kernel)) (goodIn_sub (fun _ h => List.mem_append_left _ (List.mem_append_left _ (List.mem_append_right _ h))) (by decide +kernel))
set_option maxRecDepth 20000 in
theorem gL_law_L_addPlace : GoodIn wsL_law (va_wsS RL 83 yL_addPlace wsL_addPlace) := goodIn_app (goodIn_of _ (by decide +kernel)) ggL_law_L_addPlace
set_option maxRecDepth 20000 in
theorem ggL_law_X4_addPlace : GoodIn wsL_law wsX4_addPlace := goodIn_r _ [90, 91, 55, 92, 93, 94, 5, 95, 641, 642, 643, 644, 645, 646, 647, 648, 649, 650, 651, 652, 653, 654, 655, 656, 657, 658, 659, 660, 661] (by decide +kernel) (by decide +kernel)
set_option maxRecDepth 20000 in
theorem gL_law_X4_addPlace : GoodIn wsL_law (wsV RL 88 RX4 yX4_addPlace wsX4_addPlace) := goodIn_app (goodIn_of _ (by decide +kernel)) ggL_law_X4_addPlace
set_option maxRecDepth 20000 in
theorem ggL_law_X4_thrown : GoodIn wsL_law wsX4_thrown := goodIn_r _ [99, 91, 641, 642, 643, 644, 645, 646, 647, 648, 649, 650, 651, 652, 653, 654, 655, 656, 657, 658, 659, 660, 661] (by decide +kernel) (by decide +kernel)
set_option maxRecDepth 20000 in
theorem gL_law_X4_thrown : GoodIn wsL_law (wsV RL 89 RX4 yX4_thrown wsX4_thrown) := goodIn_app (goodIn_of _ (by decide +kernel)) ggL_law_X4_thrown
set_option maxRecDepth 20000 in
theorem ggL_law_L_setMinutes : GoodIn wsL_law wsL_setMinutes := goodIn_ca (goodIn_ca (goodIn_r _ [102, 103, 104, 105, 106, 107, 2, 108, 109, 110, 16, 111, 112, 113, 114, 115, 116, 117, 118, 119, 120, 121, 122, 123, 15, 124, 33, 125, 126, 127, 128, 633, 634, 635, 636, 637, 638, 639, 640, 662, 663, 664] (by decide +kernel) (by decide +kernel)) (goodIn_sub (fun _ h => List.mem_append_left _ (List.mem_append_right _ h)) (by decide +kernel))) (goodIn_sub (fun _ h => List.mem_append_right _ h) (by decide +kernel))
set_option maxRecDepth 20000 in
theorem gL_law_L_setMinutes : GoodIn wsL_law (va_wsS RL 92 yL_setMinutes wsL_setMinutes) := goodIn_app (goodIn_of _ (by decide +kernel)) ggL_law_L_setMinutes
set_option maxRecDepth 20000 in
theorem ggL_law_X4_setMinutes : GoodIn wsL_law wsX4_setMinutes := goodIn_r _ [132, 91, 56, 133, 134, 135, 5, 136, 55, 137, 138, 139, 92, 93, 94, 95, 140, 141, 142, 143, 641, 642, 643, 644, 645, 646, 647, 648, 649, 650, 651, 652, 653, 654, 655, 656, 657, 658, 659, 660, 661] (by decide +kernel) (by decide +kernel)
set_option maxRecDepth 20000 in
theorem gL_law_X4_setMinutes : GoodIn wsL_law (wsV RL 95 RX4 yX4_setMinutes wsX4_setMinutes) := goodIn_app (goodIn_of _ (by decide +kernel)) ggL_law_X4_setMinutes
set_option maxRecDepth 20000 in
theorem ggL_law_L_setTip : GoodIn wsL_law wsL_setTip := goodIn_ca (goodIn_ca (goodIn_r _ [146, 103, 104, 147, 148, 149, 2, 150, 109, 110, 16, 111, 112, 113, 114, 115, 116, 151, 152, 153, 154, 155, 156, 157, 15, 158, 34, 159, 160, 161, 162, 35, 163, 164, 165, 166, 167, 633, 634, 635, 636, 637, 638, 639, 640, 662, 663, 664] (by decide +kernel) (by decide +kernel)) (goodIn_sub (fun _ h => List.mem_append_left _ (List.mem_append_right _ h)) (by decide +kernel))) (goodIn_sub (fun _ h => List.mem_append_right _ h) (by decide +kernel))
set_option maxRecDepth 20000 in
theorem gL_law_L_setTip : GoodIn wsL_law (va_wsS RL 96 yL_setTip wsL_setTip) := goodIn_app (goodIn_of _ (by decide +kernel)) ggL_law_L_setTip
set_option maxRecDepth 20000 in
theorem ggL_law_X4_setTip : GoodIn wsL_law wsX4_setTip := goodIn_r _ [171, 91, 57, 55, 133, 134, 135, 5, 136, 137, 138, 139, 172, 173, 174, 175, 176, 177, 641, 642, 643, 644, 645, 646, 647, 648, 649, 650, 651, 652, 653, 654, 655, 656, 657, 658, 659, 660, 661] (by decide +kernel) (by decide +kernel)
set_option maxRecDepth 20000 in
theorem gL_law_X4_setTip : GoodIn wsL_law (wsV RL 99 RX4 yX4_setTip wsX4_setTip) := goodIn_app (goodIn_of _ (by decide +kernel)) ggL_law_X4_setTip
set_option maxRecDepth 20000 in
theorem ggL_law_L_setHoliday : GoodIn wsL_law wsL_setHoliday := goodIn_ca (goodIn_r _ [180, 103, 181, 182, 183, 2, 184, 115, 116, 22, 633, 634, 635, 636, 637, 638, 639, 640] (by decide +kernel) (by decide +kernel)) (goodIn_sub (fun _ h => List.mem_append_right _ h) (by decide +kernel))
set_option maxRecDepth 20000 in
theorem gL_law_L_setHoliday : GoodIn wsL_law (va_wsS RL 100 yL_setHoliday wsL_setHoliday) := goodIn_app (goodIn_of _ (by decide +kernel)) ggL_law_L_setHoliday
set_option maxRecDepth 20000 in
theorem ggL_law_X4_setHoliday : GoodIn wsL_law wsX4_setHoliday := goodIn_r _ [188, 91, 58, 137, 138, 5, 139, 641, 642, 643, 644, 645, 646, 647, 648, 649, 650, 651, 652, 653, 654, 655, 656, 657, 658, 659, 660, 661] (by decide +kernel) (by decide +kernel)
set_option maxRecDepth 20000 in
theorem gL_law_X4_setHoliday : GoodIn wsL_law (wsV RL 103 RX4 yX4_setHoliday wsX4_setHoliday) := goodIn_app (goodIn_of _ (by decide +kernel)) ggL_law_X4_setHoliday
set_option maxRecDepth 20000 in
theorem ggL_law_L_pass : GoodIn wsL_law wsL_pass := goodIn_ca (goodIn_ca (goodIn_r _ [191, 104, 76, 192, 193, 194, 2, 195, 81, 82, 28, 117, 118, 119, 120, 109, 110, 196, 197, 198, 199, 20, 200, 24, 201, 202, 203, 19, 204, 205, 206, 207, 208, 209, 210, 211, 212, 213, 214, 215, 216, 217, 218, 219, 220, 221, 40, 222, 223, 224, 225, 226, 227, 228, 229, 230, 231, 232, 233, 234, 633, 634, 635, 636, 637, 638, 639, 640, 668, 669, 670, 671, 672, 673, 674, 675, 676, 677, 665, 666, 667] (by decide +kernel) (by decide +kernel)) (goodIn_sub (fun _ h => List.mem_append_left _ (List.mem_append_left _ (List.mem_append_right _ h))) (by decide +kernel))) (goodIn_sub (fun _ h => List.mem_append_left _ (List.mem_append_right _ h)) (by decide +kernel))
set_option maxRecDepth 20000 in
theorem gL_law_L_pass : GoodIn wsL_law (va_wsS RL 104 yL_pass wsL_pass) := goodIn_app (goodIn_of _ (by decide +kernel)) ggL_law_L_pass
set_option maxRecDepth 20000 in
theorem ggL_law_X4_pass : GoodIn wsL_law wsX4_pass := goodIn_r _ [238, 91, 239, 240, 63, 62, 61, 241, 231, 232, 233, 70, 60, 66, 137, 138, 5, 139, 92, 93, 94, 95, 641, 642, 643, 644, 645, 646, 647, 648, 649, 650, 651, 652, 653, 654, 655, 656, 657, 658, 659, 660, 661] (by decide +kernel) (by decide +kernel)
set_option maxRecDepth 20000 in
theorem gL_law_X4_pass : GoodIn wsL_law (wsV RL 107 RX4 yX4_pass wsX4_pass) := goodIn_app (goodIn_of _ (by decide +kernel)) ggL_law_X4_pass
set_option maxRecDepth 20000 in
theorem ggL_law_X3_today : GoodIn wsL_law wsX3_today := goodIn_r _ [245, 28, 633, 634, 635, 636, 637, 638, 639, 640] (by decide +kernel) (by decide +kernel)
set_option maxRecDepth 20000 in
theorem gL_law_X3_today : GoodIn wsL_law (wsV RL 108 RX3 yX3_today wsX3_today) := goodIn_app (goodIn_of _ (by decide +kernel)) ggL_law_X3_today
set_option maxRecDepth 20000 in
theorem ggL_law_X4_today : GoodIn wsL_law wsX4_today := goodIn_r _ [249, 91, 239, 641, 642, 643, 644, 645, 646, 647, 648, 649, 650, 651, 652, 653, 654, 655, 656, 657, 658, 659, 660, 661] (by decide +kernel) (by decide +kernel)
set_option maxRecDepth 20000 in
theorem gL_law_X4_today : GoodIn wsL_law (wsV RL 111 RX4 yX4_today wsX4_today) := goodIn_app (goodIn_of _ (by decide +kernel)) ggL_law_X4_today
set_option maxRecDepth 20000 in
theorem ggL_law_X3_nextWorkday : GoodIn wsL_law wsX3_nextWorkday := goodIn_r _ [253, 28, 22, 633, 634, 635, 636, 637, 638, 639, 640] (by decide +kernel) (by decide +kernel)
set_option maxRecDepth 20000 in
theorem gL_law_X3_nextWorkday : GoodIn wsL_law (wsV RL 112 RX3 yX3_nextWorkday wsX3_nextWorkday) := goodIn_app (goodIn_of _ (by decide +kernel)) ggL_law_X3_nextWorkday
set_option maxRecDepth 20000 in
theorem ggL_law_X4_nextWorkday : GoodIn wsL_law wsX4_nextWorkday := goodIn_r _ [257, 91, 258, 259, 260, 5, 261, 239, 58, 641, 642, 643, 644, 645, 646, 647, 648, 649, 650, 651, 652, 653, 654, 655, 656, 657, 658, 659, 660, 661] (by decide +kernel) (by decide +kernel)
set_option maxRecDepth 20000 in
theorem gL_law_X4_nextWorkday : GoodIn wsL_law (wsV RL 115 RX4 yX4_nextWorkday wsX4_nextWorkday) := goodIn_app (goodIn_of _ (by decide +kernel)) ggL_law_X4_nextWorkday
set_option maxRecDepth 20000 in
theorem ggL_law_L_addBin : GoodIn wsL_law wsL_addBin := goodIn_ca (goodIn_ca (goodIn_ca (goodIn_r _ [264, 103, 104, 76, 265, 266, 267, 2, 268, 115, 116, 81, 82, 20, 269, 270, 225, 28, 111, 112, 113, 114, 16, 151, 152, 153, 154, 117, 118, 119, 120, 109, 110, 201, 202, 203, 19, 204, 205, 271, 272, 273, 274, 11, 12, 275, 276, 229, 228, 227, 277, 278, 234, 279, 280, 281, 282, 283, 284, 285, 286, 40, 287, 288, 289, 290, 291, 292, 293, 294, 295, 296, 297, 298, 39, 299, 231, 232, 233, 300, 301, 302, 303, 304, 305, 306, 307, 308, 309, 310, 311, 312, 313, 314, 315, 316, 317, 318, 319, 320, 321, 322, 323, 324, 325, 326, 327, 328, 329, 633, 634, 635, 636, 637, 638, 639, 640, 668, 669, 670, 671, 672, 673, 674, 675, 676, 677, 662, 663, 664, 665, 666, 667] (by decide +kernel) (by decide +kernel)) (goodIn_sub (fun _ h => List.mem_append_right _ h) (by decide +kernel))) (goodIn_sub (fun _ h => List.mem_append_left _ (List.mem_append_left _ (List.mem_append_right _ h))) (by decide +kernel))) (goodIn_sub (fun _ h => List.mem_append_left _ (List.mem_append_right _ h)) (by decide +kernel))
set_option maxRecDepth 20000 in
theorem gL_law_L_addBin : GoodIn wsL_law (va_wsS RL 116 yL_addBin wsL_addBin) := goodIn_app (goodIn_of _ (by decide +kernel)) ggL_law_L_addBin
set_option maxRecDepth 20000 in
theorem ggL_law_X4_addBin : GoodIn wsL_law wsX4_addBin := goodIn_r _ [333, 91, 240, 59, 60, 61, 62, 63, 64, 65, 239, 133, 134, 135, 5, 136, 55, 137, 138, 139, 172, 173, 174, 92, 93, 94, 95, 641, 642, 643, 644, 645, 646, 647, 648, 649, 650, 651, 652, 653, 654, 655, 656, 657, 658, 659, 660, 661] (by decide +kernel) (by decide +kernel)
set_option maxRecDepth 20000 in
theorem gL_law_X4_addBin : GoodIn wsL_law (wsV RL 119 RX4 yX4_addBin wsX4_addBin) := goodIn_app (goodIn_of _ (by decide +kernel)) ggL_law_X4_addBin
set_option maxRecDepth 20000 in
theorem ggL_law_L_setGrowth : GoodIn wsL_law wsL_setGrowth := goodIn_ca (goodIn_ca (goodIn_r _ [336, 103, 104, 337, 338, 339, 2, 340, 20, 200, 341, 342, 343, 344, 115, 116, 201, 202, 203, 19, 204, 205, 117, 118, 119, 120, 109, 110, 206, 207, 208, 209, 210, 211, 212, 213, 214, 215, 216, 217, 218, 219, 220, 221, 40, 633, 634, 635, 636, 637, 638, 639, 640, 668, 669, 670, 671, 672, 673, 674, 675, 676, 677, 665, 666, 667] (by decide +kernel) (by decide +kernel)) (goodIn_sub (fun _ h => List.mem_append_right _ h) (by decide +kernel))) (goodIn_sub (fun _ h => List.mem_append_left _ (List.mem_append_right _ h)) (by decide +kernel))
set_option maxRecDepth 20000 in
theorem gL_law_L_setGrowth : GoodIn wsL_law (va_wsS RL 120 yL_setGrowth wsL_setGrowth) := goodIn_app (goodIn_of _ (by decide +kernel)) ggL_law_L_setGrowth
set_option maxRecDepth 20000 in
theorem ggL_law_X4_setGrowth : GoodIn wsL_law wsX4_setGrowth := goodIn_r _ [348, 91, 62, 349, 350, 351, 5, 352, 240, 137, 138, 139, 92, 93, 94, 95, 641, 642, 643, 644, 645, 646, 647, 648, 649, 650, 651, 652, 653, 654, 655, 656, 657, 658, 659, 660, 661] (by decide +kernel) (by decide +kernel)
set_option maxRecDepth 20000 in
theorem gL_law_X4_setGrowth : GoodIn wsL_law (wsV RL 123 RX4 yX4_setGrowth wsX4_setGrowth) := goodIn_app (goodIn_of _ (by decide +kernel)) ggL_law_X4_setGrowth
set_option maxRecDepth 20000 in
theorem ggL_law_L_soil : GoodIn wsL_law wsL_soil := goodIn_ca (goodIn_r _ [355, 103, 356, 357, 358, 2, 359, 20, 200, 341, 342, 343, 344, 115, 116, 201, 202, 203, 19, 204, 205, 206, 207, 208, 209, 210, 211, 212, 213, 214, 215, 216, 217, 218, 219, 220, 221, 40, 633, 634, 635, 636, 637, 638, 639, 640, 668, 669, 670, 671, 672, 673, 674, 675, 676, 677, 665, 666, 667] (by decide +kernel) (by decide +kernel)) (goodIn_sub (fun _ h => List.mem_append_right _ h) (by decide +kernel))
set_option maxRecDepth 20000 in
theorem gL_law_L_soil : GoodIn wsL_law (va_wsS RL 124 yL_soil wsL_soil) := goodIn_app (goodIn_of _ (by decide +kernel)) ggL_law_L_soil
set_option maxRecDepth 20000 in
theorem ggL_law_X4_soil : GoodIn wsL_law wsX4_soil := goodIn_r _ [363, 91, 68, 349, 350, 351, 5, 352, 240, 137, 138, 139, 641, 642, 643, 644, 645, 646, 647, 648, 649, 650, 651, 652, 653, 654, 655, 656, 657, 658, 659, 660, 661] (by decide +kernel) (by decide +kernel)
set_option maxRecDepth 20000 in
theorem gL_law_X4_soil : GoodIn wsL_law (wsV RL 126 RX4 yX4_soil wsX4_soil) := goodIn_app (goodIn_of _ (by decide +kernel)) ggL_law_X4_soil
set_option maxRecDepth 20000 in
theorem ggL_law_X3_binCount : GoodIn wsL_law wsX3_binCount := goodIn_r _ [367, 20, 201, 202, 203, 19, 204, 205, 633, 634, 635, 636, 637, 638, 639, 640, 665, 666, 667] (by decide +kernel) (by decide +kernel)
set_option maxRecDepth 20000 in
theorem gL_law_X3_binCount : GoodIn wsL_law (wsV RL 127 RX3 yX3_binCount wsX3_binCount) := goodIn_app (goodIn_of _ (by decide +kernel)) ggL_law_X3_binCount
set_option maxRecDepth 20000 in
theorem ggL_law_X4_binCount : GoodIn wsL_law wsX4_binCount := goodIn_r _ [371, 91, 240, 641, 642, 643, 644, 645, 646, 647, 648, 649, 650, 651, 652, 653, 654, 655, 656, 657, 658, 659, 660, 661] (by decide +kernel) (by decide +kernel)
set_option maxRecDepth 20000 in
theorem gL_law_X4_binCount : GoodIn wsL_law (wsV RL 130 RX4 yX4_binCount wsX4_binCount) := goodIn_app (goodIn_of _ (by decide +kernel)) ggL_law_X4_binCount
set_option maxRecDepth 20000 in
theorem ggL_law_L_bin : GoodIn wsL_law wsL_bin := goodIn_ca (goodIn_r _ [374, 103, 375, 376, 377, 2, 378, 115, 116, 20, 200, 341, 342, 343, 344, 201, 202, 203, 19, 204, 205, 206, 207, 208, 209, 210, 211, 212, 213, 214, 215, 216, 217, 218, 219, 220, 221, 40, 379, 380, 381, 225, 382, 275, 276, 227, 277, 278, 234, 279, 280, 633, 634, 635, 636, 637, 638, 639, 640, 665, 666, 667, 668, 669, 670, 671, 672, 673, 674, 675, 676, 677] (by decide +kernel) (by decide +kernel)) (goodIn_sub (fun _ h => List.mem_append_right _ h) (by decide +kernel))
set_option maxRecDepth 20000 in
theorem gL_law_L_bin : GoodIn wsL_law (va_wsS RL 131 yL_bin wsL_bin) := goodIn_app (goodIn_of _ (by decide +kernel)) ggL_law_L_bin
set_option maxRecDepth 20000 in
theorem ggL_law_X4_bin : GoodIn wsL_law wsX4_bin := goodIn_r _ [386, 91, 349, 350, 351, 5, 352, 240, 137, 138, 139, 387, 388, 389, 390, 59, 60, 63, 64, 65, 66, 67, 68, 92, 93, 94, 95, 641, 642, 643, 644, 645, 646, 647, 648, 649, 650, 651, 652, 653, 654, 655, 656, 657, 658, 659, 660, 661] (by decide +kernel) (by decide +kernel)
set_option maxRecDepth 20000 in
theorem gL_law_X4_bin : GoodIn wsL_law (wsV RL 133 RX4 yX4_bin wsX4_bin) := goodIn_app (goodIn_of _ (by decide +kernel)) ggL_law_X4_bin
set_option maxRecDepth 20000 in
theorem ggL_law_L_expected : GoodIn wsL_law wsL_expected := goodIn_ca (goodIn_ca (goodIn_r _ [393, 103, 104, 394, 395, 396, 2, 397, 28, 20, 200, 341, 342, 343, 344, 115, 116, 201, 202, 203, 19, 204, 205, 117, 118, 119, 120, 109, 110, 206, 207, 208, 209, 210, 211, 212, 213, 214, 215, 216, 217, 218, 219, 220, 221, 40, 398, 399, 400, 225, 401, 229, 277, 278, 402, 324, 232, 325, 633, 634, 635, 636, 637, 638, 639, 640, 665, 666, 667, 668, 669, 670, 671, 672, 673, 674, 675, 676, 677] (by decide +kernel) (by decide +kernel)) (goodIn_sub (fun _ h => List.mem_append_right _ h) (by decide +kernel))) (goodIn_sub (fun _ h => List.mem_append_left _ (List.mem_append_right _ h)) (by decide +kernel))
set_option maxRecDepth 20000 in
theorem gL_law_L_expected : GoodIn wsL_law (va_wsS RL 134 yL_expected wsL_expected) := goodIn_app (goodIn_of _ (by decide +kernel)) ggL_law_L_expected
set_option maxRecDepth 20000 in
theorem ggL_law_X4_expected : GoodIn wsL_law wsX4_expected := goodIn_r _ [406, 91, 239, 349, 350, 351, 5, 352, 240, 137, 138, 139, 92, 93, 94, 95, 407, 408, 409, 410, 61, 64, 65, 411, 324, 232, 325, 641, 642, 643, 644, 645, 646, 647, 648, 649, 650, 651, 652, 653, 654, 655, 656, 657, 658, 659, 660, 661] (by decide +kernel) (by decide +kernel)
set_option maxRecDepth 20000 in
theorem gL_law_X4_expected : GoodIn wsL_law (wsV RL 136 RX4 yX4_expected wsX4_expected) := goodIn_app (goodIn_of _ (by decide +kernel)) ggL_law_X4_expected
set_option maxRecDepth 20000 in
theorem ggL_law_L_fullOn : GoodIn wsL_law wsL_fullOn := goodIn_ca (goodIn_r _ [414, 103, 415, 416, 417, 2, 418, 20, 200, 28, 341, 342, 343, 344, 115, 116, 201, 202, 203, 19, 204, 205, 206, 207, 208, 209, 210, 211, 212, 213, 214, 215, 216, 217, 218, 219, 220, 221, 40, 419, 420, 421, 225, 422, 229, 423, 399, 400, 401, 277, 278, 402, 324, 232, 325, 633, 634, 635, 636, 637, 638, 639, 640, 665, 666, 667, 668, 669, 670, 671, 672, 673, 674, 675, 676, 677] (by decide +kernel) (by decide +kernel)) (goodIn_sub (fun _ h => List.mem_append_right _ h) (by decide +kernel))
set_option maxRecDepth 20000 in
theorem gL_law_L_fullOn : GoodIn wsL_law (va_wsS RL 137 yL_fullOn wsL_fullOn) := goodIn_app (goodIn_of _ (by decide +kernel)) ggL_law_L_fullOn
set_option maxRecDepth 20000 in
theorem ggL_law_X4_fullOn : GoodIn wsL_law wsX4_fullOn := goodIn_r _ [427, 91, 239, 61, 349, 350, 351, 5, 352, 240, 137, 138, 139, 92, 93, 94, 95, 407, 408, 409, 410, 64, 65, 411, 324, 232, 325, 641, 642, 643, 644, 645, 646, 647, 648, 649, 650, 651, 652, 653, 654, 655, 656, 657, 658, 659, 660, 661] (by decide +kernel) (by decide +kernel)
set_option maxRecDepth 20000 in
theorem gL_law_X4_fullOn : GoodIn wsL_law (wsV RL 139 RX4 yX4_fullOn wsX4_fullOn) := goodIn_app (goodIn_of _ (by decide +kernel)) ggL_law_X4_fullOn
set_option maxRecDepth 20000 in
theorem ggL_law_L_planSize : GoodIn wsL_law wsL_planSize := goodIn_ca (goodIn_r _ [430, 103, 431, 432, 433, 2, 434, 27, 151, 152, 153, 154, 115, 116, 435, 436, 437, 438, 20, 200, 28, 26, 439, 251, 252, 253, 22, 201, 202, 203, 19, 204, 205, 206, 207, 208, 209, 210, 211, 212, 213, 214, 215, 216, 217, 218, 219, 220, 221, 40, 440, 441, 442, 225, 443, 229, 423, 399, 400, 401, 277, 278, 402, 324, 232, 325, 444, 420, 421, 422, 445, 446, 447, 448, 16, 121, 122, 123, 15, 124, 33, 633, 634, 635, 636, 637, 638, 639, 640, 668, 669, 670, 671, 672, 673, 674, 675, 676, 677, 665, 666, 667, 662, 663, 664] (by decide +kernel) (by decide +kernel)) (goodIn_sub (fun _ h => List.mem_append_right _ h) (by decide +kernel))
set_option maxRecDepth 20000 in
theorem gL_law_L_planSize : GoodIn wsL_law (va_wsS RL 140 yL_planSize wsL_planSize) := goodIn_app (goodIn_of _ (by decide +kernel)) ggL_law_L_planSize
set_option maxRecDepth 20000 in
theorem ggL_law_X4_planSize : GoodIn wsL_law wsX4_planSize := goodIn_r _ [452, 91, 453, 172, 173, 5, 174, 137, 138, 139, 92, 93, 94, 95, 454, 455, 456, 457, 240, 60, 59, 71, 175, 176, 177, 458, 459, 460, 461, 239, 61, 407, 408, 409, 410, 64, 65, 411, 324, 232, 325, 258, 259, 260, 261, 58, 140, 141, 142, 143, 56, 641, 642, 643, 644, 645, 646, 647, 648, 649, 650, 651, 652, 653, 654, 655, 656, 657, 658, 659, 660, 661] (by decide +kernel) (by decide +kernel)
set_option maxRecDepth 20000 in
theorem gL_law_X4_planSize : GoodIn wsL_law (wsV RL 142 RX4 yX4_planSize wsX4_planSize) := goodIn_app (goodIn_of _ (by decide +kernel)) ggL_law_X4_planSize
set_option maxRecDepth 20000 in
theorem ggL_law_L_planned : GoodIn wsL_law wsL_planned := goodIn_ca (goodIn_r _ [464, 103, 465, 466, 467, 2, 468, 115, 116, 27, 26, 151, 152, 153, 154, 435, 436, 437, 438, 20, 200, 28, 439, 251, 252, 253, 22, 201, 202, 203, 19, 204, 205, 206, 207, 208, 209, 210, 211, 212, 213, 214, 215, 216, 217, 218, 219, 220, 221, 40, 440, 441, 442, 225, 443, 229, 423, 399, 400, 401, 277, 278, 402, 324, 232, 325, 444, 420, 421, 422, 445, 446, 447, 448, 16, 121, 122, 123, 15, 124, 33, 633, 634, 635, 636, 637, 638, 639, 640, 668, 669, 670, 671, 672, 673, 674, 675, 676, 677, 665, 666, 667, 662, 663, 664] (by decide +kernel) (by decide +kernel)) (goodIn_sub (fun _ h => List.mem_append_right _ h) (by decide +kernel))
set_option maxRecDepth 20000 in
theorem gL_law_L_planned : GoodIn wsL_law (va_wsS RL 143 yL_planned wsL_planned) := goodIn_app (goodIn_of _ (by decide +kernel)) ggL_law_L_planned
set_option maxRecDepth 20000 in
theorem ggL_law_X4_planned : GoodIn wsL_law wsX4_planned := goodIn_r _ [472, 91, 453, 71, 172, 173, 5, 174, 137, 138, 139, 92, 93, 94, 95, 454, 455, 456, 457, 240, 60, 59, 175, 176, 177, 458, 459, 460, 461, 239, 61, 407, 408, 409, 410, 64, 65, 411, 324, 232, 325, 258, 259, 260, 261, 58, 140, 141, 142, 143, 56, 641, 642, 643, 644, 645, 646, 647, 648, 649, 650, 651, 652, 653, 654, 655, 656, 657, 658, 659, 660, 661] (by decide +kernel) (by decide +kernel)
set_option maxRecDepth 20000 in
theorem gL_law_X4_planned : GoodIn wsL_law (wsV RL 145 RX4 yX4_planned wsX4_planned) := goodIn_app (goodIn_of _ (by decide +kernel)) ggL_law_X4_planned
set_option maxRecDepth 20000 in
theorem ggL_law_L_collect : GoodIn wsL_law wsL_collect := goodIn_ca (goodIn_ca (goodIn_ca (goodIn_r _ [475, 103, 104, 76, 476, 477, 478, 2, 479, 27, 151, 152, 153, 154, 115, 116, 117, 118, 119, 120, 109, 110, 480, 481, 482, 483, 81, 82, 22, 28, 435, 436, 437, 438, 20, 200, 26, 439, 251, 252, 253, 201, 202, 203, 19, 204, 205, 206, 207, 208, 209, 210, 211, 212, 213, 214, 215, 216, 217, 218, 219, 220, 221, 40, 440, 441, 442, 225, 443, 229, 423, 399, 400, 401, 277, 278, 402, 324, 232, 325, 444, 420, 421, 422, 445, 446, 447, 448, 16, 121, 122, 123, 15, 124, 33, 484, 485, 486, 487, 488, 489, 490, 23, 491, 492, 493, 494, 11, 12, 495, 496, 497, 498, 499, 500, 501, 502, 503, 504, 505, 506, 507, 508, 509, 510, 511, 512, 513, 514, 515, 516, 517, 518, 519, 520, 35, 521, 163, 156, 157, 158, 34, 522, 523, 524, 525, 526, 280, 279, 227, 527, 528, 529, 530, 633, 634, 635, 636, 637, 638, 639, 640, 668, 669, 670, 671, 672, 673, 674, 675, 676, 677, 665, 666, 667, 662, 663, 664, 678, 679, 680, 681, 682, 683, 684, 685] (by decide +kernel) (by decide +kernel)) (goodIn_sub (fun _ h => List.mem_append_right _ h) (by decide +kernel))) (goodIn_sub (fun _ h => List.mem_append_left _ (List.mem_append_right _ h)) (by decide +kernel))) (goodIn_sub (fun _ h => List.mem_append_left _ (List.mem_append_left _ (List.mem_append_right _ h))) (by decide +kernel))
set_option maxRecDepth 20000 in
theorem gL_law_L_collect : GoodIn wsL_law (va_wsS RL 146 yL_collect wsL_collect) := goodIn_app (goodIn_of _ (by decide +kernel)) ggL_law_L_collect
set_option maxRecDepth 20000 in
theorem ggL_law_X4_collect : GoodIn wsL_law wsX4_collect := goodIn_r _ [534, 91, 58, 239, 453, 172, 173, 5, 174, 137, 138, 139, 92, 93, 94, 95, 535, 536, 537, 454, 455, 456, 457, 240, 60, 59, 71, 175, 176, 177, 458, 459, 460, 461, 61, 407, 408, 409, 410, 64, 65, 411, 324, 232, 325, 258, 259, 260, 261, 140, 141, 142, 143, 56, 538, 539, 540, 541, 68, 67, 63, 69, 542, 543, 544, 545, 55, 57, 546, 547, 548, 549, 641, 642, 643, 644, 645, 646, 647, 648, 649, 650, 651, 652, 653, 654, 655, 656, 657, 658, 659, 660, 661] (by decide +kernel) (by decide +kernel)
set_option maxRecDepth 20000 in
theorem gL_law_X4_collect : GoodIn wsL_law (wsV RL 148 RX4 yX4_collect wsX4_collect) := goodIn_app (goodIn_of _ (by decide +kernel)) ggL_law_X4_collect
set_option maxRecDepth 20000 in
theorem ggL_law_L_fetch : GoodIn wsL_law wsL_fetch := goodIn_ca (goodIn_ca (goodIn_ca (goodIn_r _ [552, 103, 104, 76, 553, 554, 555, 2, 556, 26, 27, 20, 200, 341, 342, 343, 344, 115, 116, 201, 202, 203, 19, 204, 205, 117, 118, 119, 120, 109, 110, 480, 481, 482, 483, 81, 82, 22, 28, 206, 207, 208, 209, 210, 211, 212, 213, 214, 215, 216, 217, 218, 219, 220, 221, 40, 484, 485, 486, 487, 488, 489, 490, 16, 23, 491, 492, 493, 494, 11, 12, 495, 496, 497, 498, 499, 500, 501, 502, 503, 504, 505, 506, 507, 324, 232, 325, 508, 509, 510, 511, 512, 122, 123, 15, 124, 33, 513, 514, 515, 516, 517, 518, 519, 520, 35, 521, 163, 156, 157, 158, 34, 522, 523, 524, 525, 225, 526, 280, 279, 278, 227, 277, 527, 528, 529, 530, 633, 634, 635, 636, 637, 638, 639, 640, 668, 669, 670, 671, 672, 673, 674, 675, 676, 677, 665, 666, 667, 678, 679, 680, 681, 682, 683, 684, 685, 662, 663, 664] (by decide +kernel) (by decide +kernel)) (goodIn_sub (fun _ h => List.mem_append_right _ h) (by decide +kernel))) (goodIn_sub (fun _ h => List.mem_append_left _ (List.mem_append_right _ h)) (by decide +kernel))) (goodIn_sub (fun _ h => List.mem_append_left _ (List.mem_append_left _ (List.mem_append_right _ h))) (by decide +kernel))
set_option maxRecDepth 20000 in
theorem gL_law_L_fetch : GoodIn wsL_law (va_wsS RL 149 yL_fetch wsL_fetch) := goodIn_app (goodIn_of _ (by decide +kernel)) ggL_law_L_fetch
set_option maxRecDepth 20000 in
theorem ggL_law_X4_fetch : GoodIn wsL_law wsX4_fetch := goodIn_r _ [560, 91, 58, 239, 453, 71, 60, 349, 350, 351, 5, 352, 240, 137, 138, 139, 92, 93, 94, 95, 535, 536, 537, 538, 539, 540, 541, 59, 68, 67, 63, 411, 324, 232, 325, 69, 140, 141, 142, 143, 56, 542, 543, 544, 545, 55, 57, 175, 176, 177, 546, 547, 548, 549, 65, 64, 641, 642, 643, 644, 645, 646, 647, 648, 649, 650, 651, 652, 653, 654, 655, 656, 657, 658, 659, 660, 661] (by decide +kernel) (by decide +kernel)
set_option maxRecDepth 20000 in
theorem gL_law_X4_fetch : GoodIn wsL_law (wsV RL 151 RX4 yX4_fetch wsX4_fetch) := goodIn_app (goodIn_of _ (by decide +kernel)) ggL_law_X4_fetch
set_option maxRecDepth 20000 in
theorem ggL_law_L_wouldTake : GoodIn wsL_law wsL_wouldTake := goodIn_ca (goodIn_ca (goodIn_r _ [563, 103, 104, 564, 565, 566, 2, 567, 488, 489, 490, 16, 27, 20, 26, 200, 151, 152, 153, 154, 115, 116, 117, 118, 119, 120, 109, 110, 435, 436, 437, 438, 28, 439, 251, 252, 253, 22, 201, 202, 203, 19, 204, 205, 206, 207, 208, 209, 210, 211, 212, 213, 214, 215, 216, 217, 218, 219, 220, 221, 40, 440, 441, 442, 225, 443, 229, 423, 399, 400, 401, 277, 278, 402, 324, 232, 325, 444, 420, 421, 422, 445, 446, 447, 448, 121, 122, 123, 15, 124, 33, 491, 492, 493, 494, 11, 12, 495, 496, 497, 498, 499, 500, 501, 502, 503, 504, 505, 506, 507, 508, 509, 510, 511, 512, 513, 514, 515, 516, 517, 518, 519, 520, 35, 521, 163, 156, 157, 158, 34, 522, 527, 528, 529, 530, 678, 679, 680, 681, 682, 683, 684, 685, 633, 634, 635, 636, 637, 638, 639, 640, 668, 669, 670, 671, 672, 673, 674, 675, 676, 677, 665, 666, 667, 662, 663, 664] (by decide +kernel) (by decide +kernel)) (goodIn_sub (fun _ h => List.mem_append_right _ h) (by decide +kernel))) (goodIn_sub (fun _ h => List.mem_append_left _ (List.mem_append_right _ h)) (by decide +kernel))
set_option maxRecDepth 20000 in
theorem gL_law_L_wouldTake : GoodIn wsL_law (va_wsS RL 152 yL_wouldTake wsL_wouldTake) := goodIn_app (goodIn_of _ (by decide +kernel)) ggL_law_L_wouldTake
set_option maxRecDepth 20000 in
theorem ggL_law_X4_wouldTake : GoodIn wsL_law wsX4_wouldTake := goodIn_r _ [571, 91, 453, 172, 173, 5, 174, 137, 138, 139, 92, 93, 94, 95, 535, 536, 537, 454, 455, 456, 457, 240, 60, 59, 71, 175, 176, 177, 458, 459, 460, 461, 239, 61, 407, 408, 409, 410, 64, 65, 411, 324, 232, 325, 258, 259, 260, 261, 58, 140, 141, 142, 143, 56, 538, 539, 540, 541, 68, 67, 63, 69, 542, 543, 544, 545, 55, 57, 546, 547, 548, 549, 641, 642, 643, 644, 645, 646, 647, 648, 649, 650, 651, 652, 653, 654, 655, 656, 657, 658, 659, 660, 661] (by decide +kernel) (by decide +kernel)
set_option maxRecDepth 20000 in
theorem gL_law_X4_wouldTake : GoodIn wsL_law (wsV RL 154 RX4 yX4_wouldTake wsX4_wouldTake) := goodIn_app (goodIn_of _ (by decide +kernel)) ggL_law_X4_wouldTake
set_option maxRecDepth 20000 in
theorem ggL_law_L_total : GoodIn wsL_law wsL_total := goodIn_ca (goodIn_r _ [574, 103, 575, 576, 577, 2, 578, 115, 116, 23, 151, 152, 153, 154, 633, 634, 635, 636, 637, 638, 639, 640] (by decide +kernel) (by decide +kernel)) (goodIn_sub (fun _ h => List.mem_append_right _ h) (by decide +kernel))
set_option maxRecDepth 20000 in
theorem gL_law_L_total : GoodIn wsL_law (va_wsS RL 155 yL_total wsL_total) := goodIn_app (goodIn_of _ (by decide +kernel)) ggL_law_L_total
set_option maxRecDepth 20000 in
theorem ggL_law_X4_total : GoodIn wsL_law wsX4_total := goodIn_r _ [582, 91, 69, 172, 173, 5, 174, 137, 138, 139, 641, 642, 643, 644, 645, 646, 647, 648, 649, 650, 651, 652, 653, 654, 655, 656, 657, 658, 659, 660, 661] (by decide +kernel) (by decide +kernel)
set_option maxRecDepth 20000 in
theorem gL_law_X4_total : GoodIn wsL_law (wsV RL 157 RX4 yX4_total wsX4_total) := goodIn_app (goodIn_of _ (by decide +kernel)) ggL_law_X4_total
set_option maxRecDepth 20000 in
theorem ggL_law_L_wasted : GoodIn wsL_law wsL_wasted := goodIn_ca (goodIn_r _ [585, 103, 586, 587, 588, 2, 589, 24, 151, 152, 153, 154, 115, 116, 633, 634, 635, 636, 637, 638, 639, 640] (by decide +kernel) (by decide +kernel)) (goodIn_sub (fun _ h => List.mem_append_right _ h) (by decide +kernel))
set_option maxRecDepth 20000 in
theorem gL_law_L_wasted : GoodIn wsL_law (va_wsS RL 158 yL_wasted wsL_wasted) := goodIn_app (goodIn_of _ (by decide +kernel)) ggL_law_L_wasted
set_option maxRecDepth 20000 in
theorem ggL_law_X4_wasted : GoodIn wsL_law wsX4_wasted := goodIn_r _ [593, 91, 70, 172, 173, 5, 174, 137, 138, 139, 641, 642, 643, 644, 645, 646, 647, 648, 649, 650, 651, 652, 653, 654, 655, 656, 657, 658, 659, 660, 661] (by decide +kernel) (by decide +kernel)
set_option maxRecDepth 20000 in
theorem gL_law_X4_wasted : GoodIn wsL_law (wsV RL 160 RX4 yX4_wasted wsX4_wasted) := goodIn_app (goodIn_of _ (by decide +kernel)) ggL_law_X4_wasted
set_option maxRecDepth 20000 in
theorem ggL_law_X3_error : GoodIn wsL_law wsX3_error := goodIn_r _ [597, 20, 200, 28, 598, 599, 232, 600, 201, 202, 203, 19, 204, 205, 206, 207, 208, 209, 210, 211, 212, 213, 214, 215, 216, 217, 218, 219, 220, 221, 40, 398, 399, 400, 225, 401, 229, 277, 278, 402, 324, 325, 633, 634, 635, 636, 637, 638, 639, 640, 668, 669, 670, 671, 672, 673, 674, 675, 676, 677, 665, 666, 667] (by decide +kernel) (by decide +kernel)
set_option maxRecDepth 20000 in
theorem gL_law_X3_error : GoodIn wsL_law (wsV RL 161 RX3 yX3_error wsX3_error) := goodIn_app (goodIn_of _ (by decide +kernel)) ggL_law_X3_error
set_option maxRecDepth 20000 in
theorem ggL_law_X4_error : GoodIn wsL_law wsX4_error := goodIn_r _ [604, 91, 240, 239, 63, 605, 599, 232, 600, 61, 407, 408, 409, 5, 410, 64, 65, 411, 324, 325, 641, 642, 643, 644, 645, 646, 647, 648, 649, 650, 651, 652, 653, 654, 655, 656, 657, 658, 659, 660, 661] (by decide +kernel) (by decide +kernel)
set_option maxRecDepth 20000 in
theorem gL_law_X4_error : GoodIn wsL_law (wsV RL 165 RX4 yX4_error wsX4_error) := goodIn_app (goodIn_of _ (by decide +kernel)) ggL_law_X4_error
set_option maxRecDepth 20000 in
theorem ggL_law_X3_digest : GoodIn wsL_law wsX3_digest := goodIn_r _ [609, 610, 28, 611, 612, 2, 613, 614, 615, 616, 617, 618, 16, 121, 122, 123, 15, 124, 33, 619, 620, 621, 622, 20, 200, 201, 202, 203, 19, 204, 205, 206, 207, 208, 209, 210, 211, 212, 213, 214, 215, 216, 217, 218, 219, 220, 221, 40, 379, 380, 381, 225, 382, 275, 276, 227, 277, 278, 234, 279, 280, 623, 624, 625, 626, 23, 24, 633, 634, 635, 636, 637, 638, 639, 640, 662, 663, 664, 665, 666, 667, 668, 669, 670, 671, 672, 673, 674, 675, 676, 677] (by decide +kernel) (by decide +kernel)
set_option maxRecDepth 20000 in
theorem gL_law_X3_digest : GoodIn wsL_law (wsV RL 166 RX3 yX3_digest wsX3_digest) := goodIn_app (goodIn_of _ (by decide +kernel)) ggL_law_X3_digest
set_option maxRecDepth 20000 in
theorem ggL_law_X4_digest : GoodIn wsL_law wsX4_digest := goodIn_r _ [630, 91, 631, 239, 632, 55, 57, 240, 69, 70, 140, 141, 142, 5, 143, 56, 387, 388, 389, 390, 59, 60, 63, 64, 65, 66, 67, 68, 641, 642, 643, 644, 645, 646, 647, 648, 649, 650, 651, 652, 653, 654, 655, 656, 657, 658, 659, 660, 661] (by decide +kernel) (by decide +kernel)
set_option maxRecDepth 20000 in
theorem gL_law_X4_digest : GoodIn wsL_law (wsV RL 170 RX4 yX4_digest wsX4_digest) := goodIn_app (goodIn_of _ (by decide +kernel)) ggL_law_X4_digest
theorem dL_law_0 : decode cL_law 0 = .ok (.new 8, 3) := by decide +kernel
theorem dL_law_3 : decode cL_law 3 = .ok (.dup, 1) := by decide +kernel
theorem dL_law_4 : decode cL_law 4 = .ok (.invokespecial 79, 3) := by decide +kernel
theorem dL_law_7 : decode cL_law 7 = .ok (.astore_n 1, 1) := by decide +kernel
theorem dL_law_8 : decode cL_law 8 = .ok (.new 80, 3) := by decide +kernel
theorem dL_law_11 : decode cL_law 11 = .ok (.dup, 1) := by decide +kernel
theorem dL_law_12 : decode cL_law 12 = .ok (.invokespecial 82, 3) := by decide +kernel
theorem dL_law_15 : decode cL_law 15 = .ok (.astore_n 2, 1) := by decide +kernel
theorem dL_law_16 : decode cL_law 16 = .ok (.iconst 1, 1) := by decide +kernel
theorem dL_law_17 : decode cL_law 17 = .ok (.newarray .long, 2) := by decide +kernel
theorem dL_law_19 : decode cL_law 19 = .ok (.astore_n 3, 1) := by decide +kernel
theorem dL_law_20 : decode cL_law 20 = .ok (.iconst 0, 1) := by decide +kernel
theorem dL_law_21 : decode cL_law 21 = .ok (.istore 4, 2) := by decide +kernel
theorem dL_law_23 : decode cL_law 23 = .ok (.iload 4, 2) := by decide +kernel
theorem dL_law_25 : decode cL_law 25 = .ok (.aload_n 0, 1) := by decide +kernel
theorem dL_law_26 : decode cL_law 26 = .ok (.arraylength, 1) := by decide +kernel
theorem dL_law_27 : decode cL_law 27 = .ok (.iconst 5, 1) := by decide +kernel
theorem dL_law_28 : decode cL_law 28 = .ok (.isub, 1) := by decide +kernel
theorem dL_law_29 : decode cL_law 29 = .ok (.if_icmp .gt 1454, 3) := by decide +kernel
theorem dL_law_32 : decode cL_law 32 = .ok (.aload_n 0, 1) := by decide +kernel
theorem dL_law_33 : decode cL_law 33 = .ok (.iload 4, 2) := by decide +kernel
theorem dL_law_35 : decode cL_law 35 = .ok (.iaload, 1) := by decide +kernel
theorem dL_law_36 : decode cL_law 36 = .ok (.bipush 31, 2) := by decide +kernel
theorem dL_law_38 : decode cL_law 38 = .ok (.iand, 1) := by decide +kernel
theorem dL_law_39 : decode cL_law 39 = .ok (.tableswitch 1438 0 22 #[105, 149, 229, 332, 423, 479, 492, 505, 597, 665, 728, 741, 809, 877, 933, 989, 1057, 1125, 1193, 1261, 1328, 1383, 1424], 105) := by decide +kernel
theorem dL_law_144 : decode cL_law 144 = .ok (.aload_n 1, 1) := by decide +kernel
theorem dL_law_145 : decode cL_law 145 = .ok (.aload_n 3, 1) := by decide +kernel
theorem dL_law_146 : decode cL_law 146 = .ok (.invokestatic 83, 3) := by decide +kernel
theorem dL_law_149 : decode cL_law 149 = .ok (.istore 5, 2) := by decide +kernel
theorem dL_law_151 : decode cL_law 151 = .ok (.aload_n 2, 1) := by decide +kernel
theorem dL_law_152 : decode cL_law 152 = .ok (.invokevirtual 88, 3) := by decide +kernel
theorem dL_law_155 : decode cL_law 155 = .ok (.istore 6, 2) := by decide +kernel
theorem dL_law_157 : decode cL_law 157 = .ok (.aload_n 2, 1) := by decide +kernel
theorem dL_law_158 : decode cL_law 158 = .ok (.invokevirtual 89, 3) := by decide +kernel
theorem dL_law_161 : decode cL_law 161 = .ok (.iload 5, 2) := by decide +kernel
theorem dL_law_163 : decode cL_law 163 = .ok (.if_icmp .eq 5, 3) := by decide +kernel
theorem dL_law_166 : decode cL_law 166 = .ok (.iconst 0, 1) := by decide +kernel
theorem dL_law_167 : decode cL_law 167 = .ok (.ireturn, 1) := by decide +kernel
theorem dL_law_168 : decode cL_law 168 = .ok (.iload 5, 2) := by decide +kernel
theorem dL_law_170 : decode cL_law 170 = .ok (.ifCond .ne 15, 3) := by decide +kernel
theorem dL_law_173 : decode cL_law 173 = .ok (.aload_n 3, 1) := by decide +kernel
theorem dL_law_174 : decode cL_law 174 = .ok (.iconst 0, 1) := by decide +kernel
theorem dL_law_175 : decode cL_law 175 = .ok (.laload, 1) := by decide +kernel
theorem dL_law_176 : decode cL_law 176 = .ok (.iload 6, 2) := by decide +kernel
theorem dL_law_178 : decode cL_law 178 = .ok (.i2l, 1) := by decide +kernel
theorem dL_law_179 : decode cL_law 179 = .ok (.lcmp, 1) := by decide +kernel
theorem dL_law_180 : decode cL_law 180 = .ok (.ifCond .eq 5, 3) := by decide +kernel
theorem dL_law_183 : decode cL_law 183 = .ok (.iconst 0, 1) := by decide +kernel
theorem dL_law_184 : decode cL_law 184 = .ok (.ireturn, 1) := by decide +kernel
theorem dL_law_185 : decode cL_law 185 = .ok (.goto 1292, 3) := by decide +kernel
theorem dL_law_188 : decode cL_law 188 = .ok (.aload_n 1, 1) := by decide +kernel
theorem dL_law_189 : decode cL_law 189 = .ok (.aload_n 0, 1) := by decide +kernel
theorem dL_law_190 : decode cL_law 190 = .ok (.iload 4, 2) := by decide +kernel
theorem dL_law_192 : decode cL_law 192 = .ok (.iconst 1, 1) := by decide +kernel
theorem dL_law_193 : decode cL_law 193 = .ok (.iadd, 1) := by decide +kernel
theorem dL_law_194 : decode cL_law 194 = .ok (.iaload, 1) := by decide +kernel
theorem dL_law_195 : decode cL_law 195 = .ok (.aload_n 0, 1) := by decide +kernel
theorem dL_law_196 : decode cL_law 196 = .ok (.iload 4, 2) := by decide +kernel
theorem dL_law_198 : decode cL_law 198 = .ok (.iconst 2, 1) := by decide +kernel
theorem dL_law_199 : decode cL_law 199 = .ok (.iadd, 1) := by decide +kernel
theorem dL_law_200 : decode cL_law 200 = .ok (.iaload, 1) := by decide +kernel
theorem dL_law_201 : decode cL_law 201 = .ok (.aload_n 0, 1) := by decide +kernel
theorem dL_law_202 : decode cL_law 202 = .ok (.iload 4, 2) := by decide +kernel
theorem dL_law_204 : decode cL_law 204 = .ok (.iconst 3, 1) := by decide +kernel
theorem dL_law_205 : decode cL_law 205 = .ok (.iadd, 1) := by decide +kernel
theorem dL_law_206 : decode cL_law 206 = .ok (.iaload, 1) := by decide +kernel
theorem dL_law_207 : decode cL_law 207 = .ok (.aload_n 3, 1) := by decide +kernel
theorem dL_law_208 : decode cL_law 208 = .ok (.invokestatic 92, 3) := by decide +kernel
theorem dL_law_211 : decode cL_law 211 = .ok (.istore 5, 2) := by decide +kernel
theorem dL_law_213 : decode cL_law 213 = .ok (.aload_n 2, 1) := by decide +kernel
theorem dL_law_214 : decode cL_law 214 = .ok (.aload_n 0, 1) := by decide +kernel
theorem dL_law_215 : decode cL_law 215 = .ok (.iload 4, 2) := by decide +kernel
theorem dL_law_217 : decode cL_law 217 = .ok (.iconst 1, 1) := by decide +kernel
theorem dL_law_218 : decode cL_law 218 = .ok (.iadd, 1) := by decide +kernel
theorem dL_law_219 : decode cL_law 219 = .ok (.iaload, 1) := by decide +kernel
theorem dL_law_220 : decode cL_law 220 = .ok (.aload_n 0, 1) := by decide +kernel
theorem dL_law_221 : decode cL_law 221 = .ok (.iload 4, 2) := by decide +kernel
theorem dL_law_223 : decode cL_law 223 = .ok (.iconst 2, 1) := by decide +kernel
theorem dL_law_224 : decode cL_law 224 = .ok (.iadd, 1) := by decide +kernel
theorem dL_law_225 : decode cL_law 225 = .ok (.iaload, 1) := by decide +kernel
theorem dL_law_226 : decode cL_law 226 = .ok (.aload_n 0, 1) := by decide +kernel
theorem dL_law_227 : decode cL_law 227 = .ok (.iload 4, 2) := by decide +kernel
theorem dL_law_229 : decode cL_law 229 = .ok (.iconst 3, 1) := by decide +kernel
theorem dL_law_230 : decode cL_law 230 = .ok (.iadd, 1) := by decide +kernel
theorem dL_law_231 : decode cL_law 231 = .ok (.iaload, 1) := by decide +kernel
theorem dL_law_232 : decode cL_law 232 = .ok (.invokevirtual 95, 3) := by decide +kernel
theorem dL_law_235 : decode cL_law 235 = .ok (.istore 6, 2) := by decide +kernel
theorem dL_law_237 : decode cL_law 237 = .ok (.aload_n 2, 1) := by decide +kernel
theorem dL_law_238 : decode cL_law 238 = .ok (.invokevirtual 89, 3) := by decide +kernel
theorem dL_law_241 : decode cL_law 241 = .ok (.iload 5, 2) := by decide +kernel
theorem dL_law_243 : decode cL_law 243 = .ok (.if_icmp .eq 5, 3) := by decide +kernel
theorem dL_law_246 : decode cL_law 246 = .ok (.iconst 0, 1) := by decide +kernel
theorem dL_law_247 : decode cL_law 247 = .ok (.ireturn, 1) := by decide +kernel
theorem dL_law_248 : decode cL_law 248 = .ok (.iload 5, 2) := by decide +kernel
theorem dL_law_250 : decode cL_law 250 = .ok (.ifCond .ne 15, 3) := by decide +kernel
theorem dL_law_253 : decode cL_law 253 = .ok (.aload_n 3, 1) := by decide +kernel
theorem dL_law_254 : decode cL_law 254 = .ok (.iconst 0, 1) := by decide +kernel
theorem dL_law_255 : decode cL_law 255 = .ok (.laload, 1) := by decide +kernel
theorem dL_law_256 : decode cL_law 256 = .ok (.iload 6, 2) := by decide +kernel
theorem dL_law_258 : decode cL_law 258 = .ok (.i2l, 1) := by decide +kernel
theorem dL_law_259 : decode cL_law 259 = .ok (.lcmp, 1) := by decide +kernel
theorem dL_law_260 : decode cL_law 260 = .ok (.ifCond .eq 5, 3) := by decide +kernel
theorem dL_law_263 : decode cL_law 263 = .ok (.iconst 0, 1) := by decide +kernel
theorem dL_law_264 : decode cL_law 264 = .ok (.ireturn, 1) := by decide +kernel
theorem dL_law_265 : decode cL_law 265 = .ok (.goto 1212, 3) := by decide +kernel
theorem dL_law_268 : decode cL_law 268 = .ok (.aload_n 1, 1) := by decide +kernel
theorem dL_law_269 : decode cL_law 269 = .ok (.aload_n 0, 1) := by decide +kernel
theorem dL_law_270 : decode cL_law 270 = .ok (.iload 4, 2) := by decide +kernel
theorem dL_law_272 : decode cL_law 272 = .ok (.iconst 1, 1) := by decide +kernel
theorem dL_law_273 : decode cL_law 273 = .ok (.iadd, 1) := by decide +kernel
theorem dL_law_274 : decode cL_law 274 = .ok (.iaload, 1) := by decide +kernel
theorem dL_law_275 : decode cL_law 275 = .ok (.aload_n 0, 1) := by decide +kernel
theorem dL_law_276 : decode cL_law 276 = .ok (.iload 4, 2) := by decide +kernel
theorem dL_law_278 : decode cL_law 278 = .ok (.iconst 2, 1) := by decide +kernel
theorem dL_law_279 : decode cL_law 279 = .ok (.iadd, 1) := by decide +kernel
theorem dL_law_280 : decode cL_law 280 = .ok (.iaload, 1) := by decide +kernel
theorem dL_law_281 : decode cL_law 281 = .ok (.aload_n 0, 1) := by decide +kernel
theorem dL_law_282 : decode cL_law 282 = .ok (.iload 4, 2) := by decide +kernel
theorem dL_law_284 : decode cL_law 284 = .ok (.iconst 3, 1) := by decide +kernel
theorem dL_law_285 : decode cL_law 285 = .ok (.iadd, 1) := by decide +kernel
theorem dL_law_286 : decode cL_law 286 = .ok (.iaload, 1) := by decide +kernel
theorem dL_law_287 : decode cL_law 287 = .ok (.ifCond .eq 7, 3) := by decide +kernel
theorem dL_law_290 : decode cL_law 290 = .ok (.iconst 1, 1) := by decide +kernel
theorem dL_law_291 : decode cL_law 291 = .ok (.goto 4, 3) := by decide +kernel
theorem dL_law_294 : decode cL_law 294 = .ok (.iconst 0, 1) := by decide +kernel
theorem dL_law_295 : decode cL_law 295 = .ok (.aload_n 3, 1) := by decide +kernel
theorem dL_law_296 : decode cL_law 296 = .ok (.invokestatic 96, 3) := by decide +kernel
theorem dL_law_299 : decode cL_law 299 = .ok (.istore 5, 2) := by decide +kernel
theorem dL_law_301 : decode cL_law 301 = .ok (.aload_n 2, 1) := by decide +kernel
theorem dL_law_302 : decode cL_law 302 = .ok (.aload_n 0, 1) := by decide +kernel
theorem dL_law_303 : decode cL_law 303 = .ok (.iload 4, 2) := by decide +kernel
theorem dL_law_305 : decode cL_law 305 = .ok (.iconst 1, 1) := by decide +kernel
theorem dL_law_306 : decode cL_law 306 = .ok (.iadd, 1) := by decide +kernel
theorem dL_law_307 : decode cL_law 307 = .ok (.iaload, 1) := by decide +kernel
theorem dL_law_308 : decode cL_law 308 = .ok (.aload_n 0, 1) := by decide +kernel
theorem dL_law_309 : decode cL_law 309 = .ok (.iload 4, 2) := by decide +kernel
theorem dL_law_311 : decode cL_law 311 = .ok (.iconst 2, 1) := by decide +kernel
theorem dL_law_312 : decode cL_law 312 = .ok (.iadd, 1) := by decide +kernel
theorem dL_law_313 : decode cL_law 313 = .ok (.iaload, 1) := by decide +kernel
theorem dL_law_314 : decode cL_law 314 = .ok (.aload_n 0, 1) := by decide +kernel
theorem dL_law_315 : decode cL_law 315 = .ok (.iload 4, 2) := by decide +kernel
theorem dL_law_317 : decode cL_law 317 = .ok (.iconst 3, 1) := by decide +kernel
theorem dL_law_318 : decode cL_law 318 = .ok (.iadd, 1) := by decide +kernel
theorem dL_law_319 : decode cL_law 319 = .ok (.iaload, 1) := by decide +kernel
theorem dL_law_320 : decode cL_law 320 = .ok (.ifCond .eq 7, 3) := by decide +kernel
theorem dL_law_323 : decode cL_law 323 = .ok (.iconst 1, 1) := by decide +kernel
theorem dL_law_324 : decode cL_law 324 = .ok (.goto 4, 3) := by decide +kernel
theorem dL_law_327 : decode cL_law 327 = .ok (.iconst 0, 1) := by decide +kernel
theorem dL_law_328 : decode cL_law 328 = .ok (.invokevirtual 99, 3) := by decide +kernel
theorem dL_law_331 : decode cL_law 331 = .ok (.istore 6, 2) := by decide +kernel
theorem dL_law_333 : decode cL_law 333 = .ok (.aload_n 2, 1) := by decide +kernel
theorem dL_law_334 : decode cL_law 334 = .ok (.invokevirtual 89, 3) := by decide +kernel
theorem dL_law_337 : decode cL_law 337 = .ok (.iload 5, 2) := by decide +kernel
theorem dL_law_339 : decode cL_law 339 = .ok (.if_icmp .eq 5, 3) := by decide +kernel
theorem dL_law_342 : decode cL_law 342 = .ok (.iconst 0, 1) := by decide +kernel
theorem dL_law_343 : decode cL_law 343 = .ok (.ireturn, 1) := by decide +kernel
theorem dL_law_344 : decode cL_law 344 = .ok (.iload 5, 2) := by decide +kernel
theorem dL_law_346 : decode cL_law 346 = .ok (.ifCond .ne 22, 3) := by decide +kernel
theorem dL_law_349 : decode cL_law 349 = .ok (.aload_n 3, 1) := by decide +kernel
theorem dL_law_350 : decode cL_law 350 = .ok (.iconst 0, 1) := by decide +kernel
theorem dL_law_351 : decode cL_law 351 = .ok (.laload, 1) := by decide +kernel
theorem dL_law_352 : decode cL_law 352 = .ok (.iload 6, 2) := by decide +kernel
theorem dL_law_354 : decode cL_law 354 = .ok (.ifCond .eq 7, 3) := by decide +kernel
theorem dL_law_357 : decode cL_law 357 = .ok (.lconst 1, 1) := by decide +kernel
theorem dL_law_358 : decode cL_law 358 = .ok (.goto 4, 3) := by decide +kernel
theorem dL_law_361 : decode cL_law 361 = .ok (.lconst 0, 1) := by decide +kernel
theorem dL_law_362 : decode cL_law 362 = .ok (.lcmp, 1) := by decide +kernel
theorem dL_law_363 : decode cL_law 363 = .ok (.ifCond .eq 5, 3) := by decide +kernel
theorem dL_law_366 : decode cL_law 366 = .ok (.iconst 0, 1) := by decide +kernel
theorem dL_law_367 : decode cL_law 367 = .ok (.ireturn, 1) := by decide +kernel
theorem dL_law_368 : decode cL_law 368 = .ok (.goto 1109, 3) := by decide +kernel
theorem dL_law_371 : decode cL_law 371 = .ok (.aload_n 1, 1) := by decide +kernel
theorem dL_law_372 : decode cL_law 372 = .ok (.aload_n 0, 1) := by decide +kernel
theorem dL_law_373 : decode cL_law 373 = .ok (.iload 4, 2) := by decide +kernel
theorem dL_law_375 : decode cL_law 375 = .ok (.iconst 1, 1) := by decide +kernel
theorem dL_law_376 : decode cL_law 376 = .ok (.iadd, 1) := by decide +kernel
theorem dL_law_377 : decode cL_law 377 = .ok (.iaload, 1) := by decide +kernel
theorem dL_law_378 : decode cL_law 378 = .ok (.aload_n 0, 1) := by decide +kernel
theorem dL_law_379 : decode cL_law 379 = .ok (.iload 4, 2) := by decide +kernel
theorem dL_law_381 : decode cL_law 381 = .ok (.iconst 2, 1) := by decide +kernel
theorem dL_law_382 : decode cL_law 382 = .ok (.iadd, 1) := by decide +kernel
theorem dL_law_383 : decode cL_law 383 = .ok (.iaload, 1) := by decide +kernel
theorem dL_law_384 : decode cL_law 384 = .ok (.ifCond .eq 7, 3) := by decide +kernel
theorem dL_law_387 : decode cL_law 387 = .ok (.iconst 1, 1) := by decide +kernel
theorem dL_law_388 : decode cL_law 388 = .ok (.goto 4, 3) := by decide +kernel
theorem dL_law_391 : decode cL_law 391 = .ok (.iconst 0, 1) := by decide +kernel
theorem dL_law_392 : decode cL_law 392 = .ok (.aload_n 3, 1) := by decide +kernel
theorem dL_law_393 : decode cL_law 393 = .ok (.invokestatic 100, 3) := by decide +kernel
theorem dL_law_396 : decode cL_law 396 = .ok (.istore 5, 2) := by decide +kernel
theorem dL_law_398 : decode cL_law 398 = .ok (.aload_n 2, 1) := by decide +kernel
theorem dL_law_399 : decode cL_law 399 = .ok (.aload_n 0, 1) := by decide +kernel
theorem dL_law_400 : decode cL_law 400 = .ok (.iload 4, 2) := by decide +kernel
theorem dL_law_402 : decode cL_law 402 = .ok (.iconst 1, 1) := by decide +kernel
theorem dL_law_403 : decode cL_law 403 = .ok (.iadd, 1) := by decide +kernel
theorem dL_law_404 : decode cL_law 404 = .ok (.iaload, 1) := by decide +kernel
theorem dL_law_405 : decode cL_law 405 = .ok (.aload_n 0, 1) := by decide +kernel
theorem dL_law_406 : decode cL_law 406 = .ok (.iload 4, 2) := by decide +kernel
theorem dL_law_408 : decode cL_law 408 = .ok (.iconst 2, 1) := by decide +kernel
theorem dL_law_409 : decode cL_law 409 = .ok (.iadd, 1) := by decide +kernel
theorem dL_law_410 : decode cL_law 410 = .ok (.iaload, 1) := by decide +kernel
theorem dL_law_411 : decode cL_law 411 = .ok (.ifCond .eq 7, 3) := by decide +kernel
theorem dL_law_414 : decode cL_law 414 = .ok (.iconst 1, 1) := by decide +kernel
theorem dL_law_415 : decode cL_law 415 = .ok (.goto 4, 3) := by decide +kernel
theorem dL_law_418 : decode cL_law 418 = .ok (.iconst 0, 1) := by decide +kernel
theorem dL_law_419 : decode cL_law 419 = .ok (.invokevirtual 103, 3) := by decide +kernel
theorem dL_law_422 : decode cL_law 422 = .ok (.istore 6, 2) := by decide +kernel
theorem dL_law_424 : decode cL_law 424 = .ok (.aload_n 2, 1) := by decide +kernel
theorem dL_law_425 : decode cL_law 425 = .ok (.invokevirtual 89, 3) := by decide +kernel
theorem dL_law_428 : decode cL_law 428 = .ok (.iload 5, 2) := by decide +kernel
theorem dL_law_430 : decode cL_law 430 = .ok (.if_icmp .eq 5, 3) := by decide +kernel
theorem dL_law_433 : decode cL_law 433 = .ok (.iconst 0, 1) := by decide +kernel
theorem dL_law_434 : decode cL_law 434 = .ok (.ireturn, 1) := by decide +kernel
theorem dL_law_435 : decode cL_law 435 = .ok (.iload 5, 2) := by decide +kernel
theorem dL_law_437 : decode cL_law 437 = .ok (.ifCond .ne 22, 3) := by decide +kernel
theorem dL_law_440 : decode cL_law 440 = .ok (.aload_n 3, 1) := by decide +kernel
theorem dL_law_441 : decode cL_law 441 = .ok (.iconst 0, 1) := by decide +kernel
theorem dL_law_442 : decode cL_law 442 = .ok (.laload, 1) := by decide +kernel
theorem dL_law_443 : decode cL_law 443 = .ok (.iload 6, 2) := by decide +kernel
theorem dL_law_445 : decode cL_law 445 = .ok (.ifCond .eq 7, 3) := by decide +kernel
theorem dL_law_448 : decode cL_law 448 = .ok (.lconst 1, 1) := by decide +kernel
theorem dL_law_449 : decode cL_law 449 = .ok (.goto 4, 3) := by decide +kernel
theorem dL_law_452 : decode cL_law 452 = .ok (.lconst 0, 1) := by decide +kernel
theorem dL_law_453 : decode cL_law 453 = .ok (.lcmp, 1) := by decide +kernel
theorem dL_law_454 : decode cL_law 454 = .ok (.ifCond .eq 5, 3) := by decide +kernel
theorem dL_law_457 : decode cL_law 457 = .ok (.iconst 0, 1) := by decide +kernel
theorem dL_law_458 : decode cL_law 458 = .ok (.ireturn, 1) := by decide +kernel
theorem dL_law_459 : decode cL_law 459 = .ok (.goto 1018, 3) := by decide +kernel
theorem dL_law_462 : decode cL_law 462 = .ok (.aload_n 1, 1) := by decide +kernel
theorem dL_law_463 : decode cL_law 463 = .ok (.aload_n 0, 1) := by decide +kernel
theorem dL_law_464 : decode cL_law 464 = .ok (.iload 4, 2) := by decide +kernel
theorem dL_law_466 : decode cL_law 466 = .ok (.iconst 1, 1) := by decide +kernel
theorem dL_law_467 : decode cL_law 467 = .ok (.iadd, 1) := by decide +kernel
theorem dL_law_468 : decode cL_law 468 = .ok (.iaload, 1) := by decide +kernel
theorem dL_law_469 : decode cL_law 469 = .ok (.aload_n 3, 1) := by decide +kernel
theorem dL_law_470 : decode cL_law 470 = .ok (.invokestatic 104, 3) := by decide +kernel
theorem dL_law_473 : decode cL_law 473 = .ok (.istore 5, 2) := by decide +kernel
theorem dL_law_475 : decode cL_law 475 = .ok (.aload_n 2, 1) := by decide +kernel
theorem dL_law_476 : decode cL_law 476 = .ok (.aload_n 0, 1) := by decide +kernel
theorem dL_law_477 : decode cL_law 477 = .ok (.iload 4, 2) := by decide +kernel
theorem dL_law_479 : decode cL_law 479 = .ok (.iconst 1, 1) := by decide +kernel
