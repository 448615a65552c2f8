theorem dX4_expectedOn_23 : decode cX4_expectedOn 23 = .ok (.idiv, 1) := by decide +kernel
theorem dX4_expectedOn_24 : decode cX4_expectedOn 24 = .ok (.invokestatic 111, 3) := by decide +kernel
theorem dX4_expectedOn_27 : decode cX4_expectedOn 27 = .ok (.ireturn, 1) := by decide +kernel
set_option maxRecDepth 20000 in
theorem ggX4_expected_X4_isBin : GoodIn wsX4_expected wsX4_isBin := goodIn_r _ [7, 8, 9, 10, 6, 11, 27, 28, 29, 30, 31, 32, 33, 34, 35, 36, 37, 38, 39, 40, 41, 42, 43, 44, 45, 46, 47] (by decide +kernel) (by decide +kernel)
set_option maxRecDepth 20000 in
theorem gX4_expected_X4_isBin : GoodIn wsX4_expected (wsV RX4 105 RX4 yX4_isBin wsX4_isBin) := goodIn_app (goodIn_of _ (by decide +kernel)) ggX4_expected_X4_isBin
set_option maxRecDepth 20000 in
theorem ggX4_expected_X4_fail : GoodIn wsX4_expected wsX4_fail := goodIn_r _ [15, 1, 27, 28, 29, 30, 31, 32, 33, 34, 35, 36, 37, 38, 39, 40, 41, 42, 43, 44, 45, 46, 47] (by decide +kernel) (by decide +kernel)
set_option maxRecDepth 20000 in
theorem gX4_expected_X4_fail : GoodIn wsX4_expected (wsV RX4 74 RX4 yX4_fail wsX4_fail) := goodIn_app (goodIn_of _ (by decide +kernel)) ggX4_expected_X4_fail
set_option maxRecDepth 20000 in
theorem ggX4_expected_X4_isIn : GoodIn wsX4_expected wsX4_isIn := goodIn_r _ [11] (by decide +kernel) (by decide +kernel)
set_option maxRecDepth 20000 in
theorem gX4_expected_X4_isIn : GoodIn wsX4_expected (va_wsS RX4 67 yX4_isIn wsX4_isIn) := goodIn_app (goodIn_of _ (by decide +kernel)) ggX4_expected_X4_isIn
set_option maxRecDepth 20000 in
theorem ggX4_expected_X4_expectedOn : GoodIn wsX4_expected wsX4_expectedOn := goodIn_r _ [19, 20, 21, 22, 23, 24, 25, 26, 27, 28, 29, 30, 31, 32, 33, 34, 35, 36, 37, 38, 39, 40, 41, 42, 43, 44, 45, 46, 47] (by decide +kernel) (by decide +kernel)
set_option maxRecDepth 20000 in
theorem gX4_expected_X4_expectedOn : GoodIn wsX4_expected (wsV RX4 114 RX4 yX4_expectedOn wsX4_expectedOn) := goodIn_app (goodIn_of _ (by decide +kernel)) ggX4_expected_X4_expectedOn
theorem dX4_expected_0 : decode cX4_expected 0 = .ok (.aload_n 0, 1) := by decide +kernel
theorem dX4_expected_1 : decode cX4_expected 1 = .ok (.iconst 0, 1) := by decide +kernel
theorem dX4_expected_2 : decode cX4_expected 2 = .ok (.putfield 64, 3) := by decide +kernel
theorem dX4_expected_5 : decode cX4_expected 5 = .ok (.aload_n 0, 1) := by decide +kernel
theorem dX4_expected_6 : decode cX4_expected 6 = .ok (.iload_n 1, 1) := by decide +kernel
theorem dX4_expected_7 : decode cX4_expected 7 = .ok (.invokevirtual 105, 3) := by decide +kernel
theorem dX4_expected_10 : decode cX4_expected 10 = .ok (.ifCond .ne 9, 3) := by decide +kernel
theorem dX4_expected_13 : decode cX4_expected 13 = .ok (.aload_n 0, 1) := by decide +kernel
theorem dX4_expected_14 : decode cX4_expected 14 = .ok (.iconst 1, 1) := by decide +kernel
theorem dX4_expected_15 : decode cX4_expected 15 = .ok (.invokevirtual 74, 3) := by decide +kernel
theorem dX4_expected_18 : decode cX4_expected 18 = .ok (.ireturn, 1) := by decide +kernel
theorem dX4_expected_19 : decode cX4_expected 19 = .ok (.iload_n 2, 1) := by decide +kernel
theorem dX4_expected_20 : decode cX4_expected 20 = .ok (.aload_n 0, 1) := by decide +kernel
theorem dX4_expected_21 : decode cX4_expected 21 = .ok (.getfield 93, 3) := by decide +kernel
theorem dX4_expected_24 : decode cX4_expected 24 = .ok (.sipush 999, 3) := by decide +kernel
theorem dX4_expected_27 : decode cX4_expected 27 = .ok (.invokestatic 67, 3) := by decide +kernel
theorem dX4_expected_30 : decode cX4_expected 30 = .ok (.ifCond .eq 12, 3) := by decide +kernel
theorem dX4_expected_33 : decode cX4_expected 33 = .ok (.aload_n 0, 1) := by decide +kernel
theorem dX4_expected_34 : decode cX4_expected 34 = .ok (.iload_n 1, 1) := by decide +kernel
theorem dX4_expected_35 : decode cX4_expected 35 = .ok (.iload_n 2, 1) := by decide +kernel
theorem dX4_expected_36 : decode cX4_expected 36 = .ok (.invokevirtual 114, 3) := by decide +kernel
theorem dX4_expected_39 : decode cX4_expected 39 = .ok (.goto 8, 3) := by decide +kernel
theorem dX4_expected_42 : decode cX4_expected 42 = .ok (.aload_n 0, 1) := by decide +kernel
theorem dX4_expected_43 : decode cX4_expected 43 = .ok (.iconst 2, 1) := by decide +kernel
theorem dX4_expected_44 : decode cX4_expected 44 = .ok (.invokevirtual 74, 3) := by decide +kernel
theorem dX4_expected_47 : decode cX4_expected 47 = .ok (.ireturn, 1) := by decide +kernel
set_option maxRecDepth 20000 in
theorem ggX4_fullOn_X4_isBin : GoodIn wsX4_fullOn wsX4_isBin := goodIn_r _ [8, 9, 10, 11, 7, 12, 27, 28, 29, 30, 31, 32, 33, 34, 35, 36, 37, 38, 39, 40, 41, 42, 43, 44, 45, 46, 47] (by decide +kernel) (by decide +kernel)
set_option maxRecDepth 20000 in
theorem gX4_fullOn_X4_isBin : GoodIn wsX4_fullOn (wsV RX4 105 RX4 yX4_isBin wsX4_isBin) := goodIn_app (goodIn_of _ (by decide +kernel)) ggX4_fullOn_X4_isBin
set_option maxRecDepth 20000 in
theorem ggX4_fullOn_X4_fail : GoodIn wsX4_fullOn wsX4_fail := goodIn_r _ [16, 1, 27, 28, 29, 30, 31, 32, 33, 34, 35, 36, 37, 38, 39, 40, 41, 42, 43, 44, 45, 46, 47] (by decide +kernel) (by decide +kernel)
set_option maxRecDepth 20000 in
theorem gX4_fullOn_X4_fail : GoodIn wsX4_fullOn (wsV RX4 74 RX4 yX4_fail wsX4_fail) := goodIn_app (goodIn_of _ (by decide +kernel)) ggX4_fullOn_X4_fail
set_option maxRecDepth 20000 in
theorem ggX4_fullOn_X4_expectedOn : GoodIn wsX4_fullOn wsX4_expectedOn := goodIn_r _ [20, 3, 21, 22, 23, 24, 25, 26, 27, 28, 29, 30, 31, 32, 33, 34, 35, 36, 37, 38, 39, 40, 41, 42, 43, 44, 45, 46, 47] (by decide +kernel) (by decide +kernel)
set_option maxRecDepth 20000 in
theorem gX4_fullOn_X4_expectedOn : GoodIn wsX4_fullOn (wsV RX4 114 RX4 yX4_expectedOn wsX4_expectedOn) := goodIn_app (goodIn_of _ (by decide +kernel)) ggX4_fullOn_X4_expectedOn
theorem dX4_fullOn_0 : decode cX4_fullOn 0 = .ok (.aload_n 0, 1) := by decide +kernel
theorem dX4_fullOn_1 : decode cX4_fullOn 1 = .ok (.iconst 0, 1) := by decide +kernel
theorem dX4_fullOn_2 : decode cX4_fullOn 2 = .ok (.putfield 64, 3) := by decide +kernel
theorem dX4_fullOn_5 : decode cX4_fullOn 5 = .ok (.aload_n 0, 1) := by decide +kernel
theorem dX4_fullOn_6 : decode cX4_fullOn 6 = .ok (.iload_n 1, 1) := by decide +kernel
theorem dX4_fullOn_7 : decode cX4_fullOn 7 = .ok (.invokevirtual 105, 3) := by decide +kernel
theorem dX4_fullOn_10 : decode cX4_fullOn 10 = .ok (.ifCond .ne 9, 3) := by decide +kernel
theorem dX4_fullOn_13 : decode cX4_fullOn 13 = .ok (.aload_n 0, 1) := by decide +kernel
theorem dX4_fullOn_14 : decode cX4_fullOn 14 = .ok (.iconst 1, 1) := by decide +kernel
theorem dX4_fullOn_15 : decode cX4_fullOn 15 = .ok (.invokevirtual 74, 3) := by decide +kernel
theorem dX4_fullOn_18 : decode cX4_fullOn 18 = .ok (.ireturn, 1) := by decide +kernel
theorem dX4_fullOn_19 : decode cX4_fullOn 19 = .ok (.aload_n 0, 1) := by decide +kernel
theorem dX4_fullOn_20 : decode cX4_fullOn 20 = .ok (.getfield 93, 3) := by decide +kernel
theorem dX4_fullOn_23 : decode cX4_fullOn 23 = .ok (.istore_n 2, 1) := by decide +kernel
theorem dX4_fullOn_24 : decode cX4_fullOn 24 = .ok (.iload_n 2, 1) := by decide +kernel
theorem dX4_fullOn_25 : decode cX4_fullOn 25 = .ok (.sipush 999, 3) := by decide +kernel
theorem dX4_fullOn_28 : decode cX4_fullOn 28 = .ok (.if_icmp .gt 26, 3) := by decide +kernel
theorem dX4_fullOn_31 : decode cX4_fullOn 31 = .ok (.aload_n 0, 1) := by decide +kernel
theorem dX4_fullOn_32 : decode cX4_fullOn 32 = .ok (.iload_n 1, 1) := by decide +kernel
theorem dX4_fullOn_33 : decode cX4_fullOn 33 = .ok (.iload_n 2, 1) := by decide +kernel
theorem dX4_fullOn_34 : decode cX4_fullOn 34 = .ok (.invokevirtual 114, 3) := by decide +kernel
theorem dX4_fullOn_37 : decode cX4_fullOn 37 = .ok (.aload_n 0, 1) := by decide +kernel
theorem dX4_fullOn_38 : decode cX4_fullOn 38 = .ok (.getfield 30, 3) := by decide +kernel
theorem dX4_fullOn_41 : decode cX4_fullOn 41 = .ok (.iload_n 1, 1) := by decide +kernel
theorem dX4_fullOn_42 : decode cX4_fullOn 42 = .ok (.iaload, 1) := by decide +kernel
theorem dX4_fullOn_43 : decode cX4_fullOn 43 = .ok (.if_icmp .ne 5, 3) := by decide +kernel
theorem dX4_fullOn_46 : decode cX4_fullOn 46 = .ok (.iload_n 2, 1) := by decide +kernel
theorem dX4_fullOn_47 : decode cX4_fullOn 47 = .ok (.ireturn, 1) := by decide +kernel
theorem dX4_fullOn_48 : decode cX4_fullOn 48 = .ok (.iinc 2 1, 3) := by decide +kernel
theorem dX4_fullOn_51 : decode cX4_fullOn 51 = .ok (.goto (-27), 3) := by decide +kernel
theorem dX4_fullOn_54 : decode cX4_fullOn 54 = .ok (.iconst (-1), 1) := by decide +kernel
theorem dX4_fullOn_55 : decode cX4_fullOn 55 = .ok (.ireturn, 1) := by decide +kernel
set_option maxRecDepth 20000 in
theorem ggX4_isDue_X4_expectedOn : GoodIn wsX4_isDue wsX4_expectedOn := goodIn_r _ [7, 2, 8, 9, 10, 11, 12, 13, 19, 20, 21, 22, 23, 24, 25, 26, 27, 28, 29, 30, 31, 32, 33, 34, 35, 36, 37, 38, 39] (by decide +kernel) (by decide +kernel)
set_option maxRecDepth 20000 in
theorem gX4_isDue_X4_expectedOn : GoodIn wsX4_isDue (wsV RX4 114 RX4 yX4_expectedOn wsX4_expectedOn) := goodIn_app (goodIn_of _ (by decide +kernel)) ggX4_isDue_X4_expectedOn
set_option maxRecDepth 20000 in
theorem ggX4_isDue_X4_workday : GoodIn wsX4_isDue wsX4_workday := goodIn_r _ [17, 1, 18, 19, 20, 21, 22, 23, 24, 25, 26, 27, 28, 29, 30, 31, 32, 33, 34, 35, 36, 37, 38, 39] (by decide +kernel) (by decide +kernel)
set_option maxRecDepth 20000 in
theorem gX4_isDue_X4_workday : GoodIn wsX4_isDue (wsV RX4 101 RX4 yX4_workday wsX4_workday) := goodIn_app (goodIn_of _ (by decide +kernel)) ggX4_isDue_X4_workday
theorem dX4_isDue_0 : decode cX4_isDue 0 = .ok (.iconst 4, 1) := by decide +kernel
theorem dX4_isDue_1 : decode cX4_isDue 1 = .ok (.aload_n 0, 1) := by decide +kernel
theorem dX4_isDue_2 : decode cX4_isDue 2 = .ok (.iload_n 1, 1) := by decide +kernel
theorem dX4_isDue_3 : decode cX4_isDue 3 = .ok (.aload_n 0, 1) := by decide +kernel
theorem dX4_isDue_4 : decode cX4_isDue 4 = .ok (.getfield 93, 3) := by decide +kernel
theorem dX4_isDue_7 : decode cX4_isDue 7 = .ok (.invokevirtual 114, 3) := by decide +kernel
theorem dX4_isDue_10 : decode cX4_isDue 10 = .ok (.imul, 1) := by decide +kernel
theorem dX4_isDue_11 : decode cX4_isDue 11 = .ok (.iconst 3, 1) := by decide +kernel
theorem dX4_isDue_12 : decode cX4_isDue 12 = .ok (.aload_n 0, 1) := by decide +kernel
theorem dX4_isDue_13 : decode cX4_isDue 13 = .ok (.getfield 30, 3) := by decide +kernel
theorem dX4_isDue_16 : decode cX4_isDue 16 = .ok (.iload_n 1, 1) := by decide +kernel
theorem dX4_isDue_17 : decode cX4_isDue 17 = .ok (.iaload, 1) := by decide +kernel
theorem dX4_isDue_18 : decode cX4_isDue 18 = .ok (.imul, 1) := by decide +kernel
theorem dX4_isDue_19 : decode cX4_isDue 19 = .ok (.if_icmp .ge 21, 3) := by decide +kernel
theorem dX4_isDue_22 : decode cX4_isDue 22 = .ok (.aload_n 0, 1) := by decide +kernel
theorem dX4_isDue_23 : decode cX4_isDue 23 = .ok (.iload_n 1, 1) := by decide +kernel
theorem dX4_isDue_24 : decode cX4_isDue 24 = .ok (.aload_n 0, 1) := by decide +kernel
theorem dX4_isDue_25 : decode cX4_isDue 25 = .ok (.invokevirtual 101, 3) := by decide +kernel
theorem dX4_isDue_28 : decode cX4_isDue 28 = .ok (.invokevirtual 114, 3) := by decide +kernel
theorem dX4_isDue_31 : decode cX4_isDue 31 = .ok (.aload_n 0, 1) := by decide +kernel
theorem dX4_isDue_32 : decode cX4_isDue 32 = .ok (.getfield 30, 3) := by decide +kernel
theorem dX4_isDue_35 : decode cX4_isDue 35 = .ok (.iload_n 1, 1) := by decide +kernel
theorem dX4_isDue_36 : decode cX4_isDue 36 = .ok (.iaload, 1) := by decide +kernel
theorem dX4_isDue_37 : decode cX4_isDue 37 = .ok (.if_icmp .ne 7, 3) := by decide +kernel
theorem dX4_isDue_40 : decode cX4_isDue 40 = .ok (.iconst 1, 1) := by decide +kernel
theorem dX4_isDue_41 : decode cX4_isDue 41 = .ok (.goto 4, 3) := by decide +kernel
theorem dX4_isDue_44 : decode cX4_isDue 44 = .ok (.iconst 0, 1) := by decide +kernel
theorem dX4_isDue_45 : decode cX4_isDue 45 = .ok (.ireturn, 1) := by decide +kernel
set_option maxRecDepth 20000 in
theorem ggX4_makePlan_X4_has : GoodIn wsX4_makePlan wsX4_has := goodIn_r _ [9] (by decide +kernel) (by decide +kernel)
set_option maxRecDepth 20000 in
theorem gX4_makePlan_X4_has : GoodIn wsX4_makePlan (va_wsS RX4 89 yX4_has wsX4_has) := goodIn_app (goodIn_of _ (by decide +kernel)) ggX4_makePlan_X4_has
set_option maxRecDepth 20000 in
theorem ggX4_makePlan_X4_isDue : GoodIn wsX4_makePlan wsX4_isDue := goodIn_r _ [13, 14, 15, 16, 17, 18, 8, 19, 20, 21, 22, 23, 24, 25, 26, 27, 28, 29, 30, 36, 37, 38, 39, 40, 41, 42, 43, 44, 45, 46, 47, 48, 49, 50, 51, 52, 53, 54, 55, 56] (by decide +kernel) (by decide +kernel)
set_option maxRecDepth 20000 in
theorem gX4_makePlan_X4_isDue : GoodIn wsX4_makePlan (wsV RX4 120 RX4 yX4_isDue wsX4_isDue) := goodIn_app (goodIn_of _ (by decide +kernel)) ggX4_makePlan_X4_isDue
set_option maxRecDepth 20000 in
theorem ggX4_makePlan_X4_drive : GoodIn wsX4_makePlan wsX4_drive := goodIn_r _ [34, 35, 36, 37, 38, 39, 40, 41, 42, 43, 44, 45, 46, 47, 48, 49, 50, 51, 52, 53, 54, 55, 56] (by decide +kernel) (by decide +kernel)
set_option maxRecDepth 20000 in
theorem gX4_makePlan_X4_drive : GoodIn wsX4_makePlan (wsV RX4 82 RX4 yX4_drive wsX4_drive) := goodIn_app (goodIn_of _ (by decide +kernel)) ggX4_makePlan_X4_drive
theorem dX4_makePlan_0 : decode cX4_makePlan 0 = .ok (.aload_n 0, 1) := by decide +kernel
theorem dX4_makePlan_1 : decode cX4_makePlan 1 = .ok (.iconst 0, 1) := by decide +kernel
theorem dX4_makePlan_2 : decode cX4_makePlan 2 = .ok (.putfield 117, 3) := by decide +kernel
theorem dX4_makePlan_5 : decode cX4_makePlan 5 = .ok (.iconst 0, 1) := by decide +kernel
theorem dX4_makePlan_6 : decode cX4_makePlan 6 = .ok (.istore_n 2, 1) := by decide +kernel
theorem dX4_makePlan_7 : decode cX4_makePlan 7 = .ok (.iconst 0, 1) := by decide +kernel
theorem dX4_makePlan_8 : decode cX4_makePlan 8 = .ok (.istore_n 3, 1) := by decide +kernel
theorem dX4_makePlan_9 : decode cX4_makePlan 9 = .ok (.iconst 1, 1) := by decide +kernel
theorem dX4_makePlan_10 : decode cX4_makePlan 10 = .ok (.istore 4, 2) := by decide +kernel
theorem dX4_makePlan_12 : decode cX4_makePlan 12 = .ok (.iload 4, 2) := by decide +kernel
theorem dX4_makePlan_14 : decode cX4_makePlan 14 = .ok (.ifCond .eq 153, 3) := by decide +kernel
theorem dX4_makePlan_17 : decode cX4_makePlan 17 = .ok (.iconst (-1), 1) := by decide +kernel
theorem dX4_makePlan_18 : decode cX4_makePlan 18 = .ok (.istore 5, 2) := by decide +kernel
theorem dX4_makePlan_20 : decode cX4_makePlan 20 = .ok (.iconst 0, 1) := by decide +kernel
theorem dX4_makePlan_21 : decode cX4_makePlan 21 = .ok (.istore 6, 2) := by decide +kernel
theorem dX4_makePlan_23 : decode cX4_makePlan 23 = .ok (.iload 6, 2) := by decide +kernel
theorem dX4_makePlan_25 : decode cX4_makePlan 25 = .ok (.aload_n 0, 1) := by decide +kernel
theorem dX4_makePlan_26 : decode cX4_makePlan 26 = .ok (.getfield 71, 3) := by decide +kernel
theorem dX4_makePlan_29 : decode cX4_makePlan 29 = .ok (.if_icmp .ge 78, 3) := by decide +kernel
theorem dX4_makePlan_32 : decode cX4_makePlan 32 = .ok (.aload_n 0, 1) := by decide +kernel
theorem dX4_makePlan_33 : decode cX4_makePlan 33 = .ok (.getfield 27, 3) := by decide +kernel
theorem dX4_makePlan_36 : decode cX4_makePlan 36 = .ok (.iload 6, 2) := by decide +kernel
theorem dX4_makePlan_38 : decode cX4_makePlan 38 = .ok (.iaload, 1) := by decide +kernel
theorem dX4_makePlan_39 : decode cX4_makePlan 39 = .ok (.iload_n 1, 1) := by decide +kernel
theorem dX4_makePlan_40 : decode cX4_makePlan 40 = .ok (.if_icmp .ne 61, 3) := by decide +kernel
theorem dX4_makePlan_43 : decode cX4_makePlan 43 = .ok (.iload_n 2, 1) := by decide +kernel
theorem dX4_makePlan_44 : decode cX4_makePlan 44 = .ok (.iload 6, 2) := by decide +kernel
theorem dX4_makePlan_46 : decode cX4_makePlan 46 = .ok (.invokestatic 89, 3) := by decide +kernel
theorem dX4_makePlan_49 : decode cX4_makePlan 49 = .ok (.ifCond .ne 52, 3) := by decide +kernel
theorem dX4_makePlan_52 : decode cX4_makePlan 52 = .ok (.aload_n 0, 1) := by decide +kernel
theorem dX4_makePlan_53 : decode cX4_makePlan 53 = .ok (.iload 6, 2) := by decide +kernel
theorem dX4_makePlan_55 : decode cX4_makePlan 55 = .ok (.invokevirtual 120, 3) := by decide +kernel
theorem dX4_makePlan_58 : decode cX4_makePlan 58 = .ok (.ifCond .ne 6, 3) := by decide +kernel
theorem dX4_makePlan_61 : decode cX4_makePlan 61 = .ok (.goto 40, 3) := by decide +kernel
theorem dX4_makePlan_64 : decode cX4_makePlan 64 = .ok (.iload 5, 2) := by decide +kernel
theorem dX4_makePlan_66 : decode cX4_makePlan 66 = .ok (.iconst (-1), 1) := by decide +kernel
theorem dX4_makePlan_67 : decode cX4_makePlan 67 = .ok (.if_icmp .eq 30, 3) := by decide +kernel
theorem dX4_makePlan_70 : decode cX4_makePlan 70 = .ok (.aload_n 0, 1) := by decide +kernel
theorem dX4_makePlan_71 : decode cX4_makePlan 71 = .ok (.iload_n 3, 1) := by decide +kernel
theorem dX4_makePlan_72 : decode cX4_makePlan 72 = .ok (.aload_n 0, 1) := by decide +kernel
theorem dX4_makePlan_73 : decode cX4_makePlan 73 = .ok (.getfield 24, 3) := by decide +kernel
theorem dX4_makePlan_76 : decode cX4_makePlan 76 = .ok (.iload 6, 2) := by decide +kernel
theorem dX4_makePlan_78 : decode cX4_makePlan 78 = .ok (.iaload, 1) := by decide +kernel
theorem dX4_makePlan_79 : decode cX4_makePlan 79 = .ok (.invokevirtual 82, 3) := by decide +kernel
theorem dX4_makePlan_82 : decode cX4_makePlan 82 = .ok (.aload_n 0, 1) := by decide +kernel
theorem dX4_makePlan_83 : decode cX4_makePlan 83 = .ok (.iload_n 3, 1) := by decide +kernel
theorem dX4_makePlan_84 : decode cX4_makePlan 84 = .ok (.aload_n 0, 1) := by decide +kernel
theorem dX4_makePlan_85 : decode cX4_makePlan 85 = .ok (.getfield 24, 3) := by decide +kernel
theorem dX4_makePlan_88 : decode cX4_makePlan 88 = .ok (.iload 5, 2) := by decide +kernel
theorem dX4_makePlan_90 : decode cX4_makePlan 90 = .ok (.iaload, 1) := by decide +kernel
theorem dX4_makePlan_91 : decode cX4_makePlan 91 = .ok (.invokevirtual 82, 3) := by decide +kernel
theorem dX4_makePlan_94 : decode cX4_makePlan 94 = .ok (.if_icmp .ge 7, 3) := by decide +kernel
theorem dX4_makePlan_97 : decode cX4_makePlan 97 = .ok (.iload 6, 2) := by decide +kernel
theorem dX4_makePlan_99 : decode cX4_makePlan 99 = .ok (.istore 5, 2) := by decide +kernel
theorem dX4_makePlan_101 : decode cX4_makePlan 101 = .ok (.iinc 6 1, 3) := by decide +kernel
theorem dX4_makePlan_104 : decode cX4_makePlan 104 = .ok (.goto (-81), 3) := by decide +kernel
theorem dX4_makePlan_107 : decode cX4_makePlan 107 = .ok (.iload 5, 2) := by decide +kernel
theorem dX4_makePlan_109 : decode cX4_makePlan 109 = .ok (.iconst (-1), 1) := by decide +kernel
theorem dX4_makePlan_110 : decode cX4_makePlan 110 = .ok (.if_icmp .eq 7, 3) := by decide +kernel
theorem dX4_makePlan_113 : decode cX4_makePlan 113 = .ok (.iconst 1, 1) := by decide +kernel
theorem dX4_makePlan_114 : decode cX4_makePlan 114 = .ok (.goto 4, 3) := by decide +kernel
theorem dX4_makePlan_117 : decode cX4_makePlan 117 = .ok (.iconst 0, 1) := by decide +kernel
theorem dX4_makePlan_118 : decode cX4_makePlan 118 = .ok (.istore 4, 2) := by decide +kernel
theorem dX4_makePlan_120 : decode cX4_makePlan 120 = .ok (.iload 4, 2) := by decide +kernel
theorem dX4_makePlan_122 : decode cX4_makePlan 122 = .ok (.ifCond .ne 6, 3) := by decide +kernel
theorem dX4_makePlan_125 : decode cX4_makePlan 125 = .ok (.goto (-113), 3) := by decide +kernel
theorem dX4_makePlan_128 : decode cX4_makePlan 128 = .ok (.aload_n 0, 1) := by decide +kernel
theorem dX4_makePlan_129 : decode cX4_makePlan 129 = .ok (.getfield 61, 3) := by decide +kernel
theorem dX4_makePlan_132 : decode cX4_makePlan 132 = .ok (.aload_n 0, 1) := by decide +kernel
theorem dX4_makePlan_133 : decode cX4_makePlan 133 = .ok (.getfield 117, 3) := by decide +kernel
theorem dX4_makePlan_136 : decode cX4_makePlan 136 = .ok (.iload 5, 2) := by decide +kernel
theorem dX4_makePlan_138 : decode cX4_makePlan 138 = .ok (.iastore, 1) := by decide +kernel
theorem dX4_makePlan_139 : decode cX4_makePlan 139 = .ok (.aload_n 0, 1) := by decide +kernel
theorem dX4_makePlan_140 : decode cX4_makePlan 140 = .ok (.dup, 1) := by decide +kernel
theorem dX4_makePlan_141 : decode cX4_makePlan 141 = .ok (.getfield 117, 3) := by decide +kernel
theorem dX4_makePlan_144 : decode cX4_makePlan 144 = .ok (.iconst 1, 1) := by decide +kernel
theorem dX4_makePlan_145 : decode cX4_makePlan 145 = .ok (.iadd, 1) := by decide +kernel
theorem dX4_makePlan_146 : decode cX4_makePlan 146 = .ok (.putfield 117, 3) := by decide +kernel
theorem dX4_makePlan_149 : decode cX4_makePlan 149 = .ok (.iload_n 2, 1) := by decide +kernel
theorem dX4_makePlan_150 : decode cX4_makePlan 150 = .ok (.iconst 1, 1) := by decide +kernel
theorem dX4_makePlan_151 : decode cX4_makePlan 151 = .ok (.iload 5, 2) := by decide +kernel
theorem dX4_makePlan_153 : decode cX4_makePlan 153 = .ok (.ishl, 1) := by decide +kernel
theorem dX4_makePlan_154 : decode cX4_makePlan 154 = .ok (.ior, 1) := by decide +kernel
theorem dX4_makePlan_155 : decode cX4_makePlan 155 = .ok (.istore_n 2, 1) := by decide +kernel
theorem dX4_makePlan_156 : decode cX4_makePlan 156 = .ok (.aload_n 0, 1) := by decide +kernel
theorem dX4_makePlan_157 : decode cX4_makePlan 157 = .ok (.getfield 24, 3) := by decide +kernel
theorem dX4_makePlan_160 : decode cX4_makePlan 160 = .ok (.iload 5, 2) := by decide +kernel
theorem dX4_makePlan_162 : decode cX4_makePlan 162 = .ok (.iaload, 1) := by decide +kernel
theorem dX4_makePlan_163 : decode cX4_makePlan 163 = .ok (.istore_n 3, 1) := by decide +kernel
theorem dX4_makePlan_164 : decode cX4_makePlan 164 = .ok (.goto (-152), 3) := by decide +kernel
theorem dX4_makePlan_167 : decode cX4_makePlan 167 = .ok (.return_, 1) := by decide +kernel
set_option maxRecDepth 20000 in
theorem ggX4_planSize_X4_isKind : GoodIn wsX4_planSize wsX4_isKind := goodIn_r _ [6, 7, 8, 5, 9] (by decide +kernel) (by decide +kernel)
set_option maxRecDepth 20000 in
theorem gX4_planSize_X4_isKind : GoodIn wsX4_planSize (va_wsS RX4 86 yX4_isKind wsX4_isKind) := goodIn_app (goodIn_of _ (by decide +kernel)) ggX4_planSize_X4_isKind
set_option maxRecDepth 20000 in
theorem ggX4_planSize_X4_fail : GoodIn wsX4_planSize wsX4_fail := goodIn_r _ [13, 1, 51, 52, 53, 54, 55, 56, 57, 58, 59, 60, 61, 62, 63, 64, 65, 66, 67, 68, 69, 70, 71] (by decide +kernel) (by decide +kernel)
set_option maxRecDepth 20000 in
theorem gX4_planSize_X4_fail : GoodIn wsX4_planSize (wsV RX4 74 RX4 yX4_fail wsX4_fail) := goodIn_app (goodIn_of _ (by decide +kernel)) ggX4_planSize_X4_fail
set_option maxRecDepth 20000 in
theorem ggX4_planSize_X4_makePlan : GoodIn wsX4_planSize wsX4_makePlan := goodIn_r _ [17, 2, 18, 19, 20, 21, 22, 23, 5, 24, 25, 26, 27, 28, 29, 30, 31, 32, 33, 34, 35, 36, 37, 38, 39, 40, 41, 42, 43, 44, 45, 46, 47, 48, 49, 50, 51, 52, 53, 54, 55, 56, 57, 58, 59, 60, 61, 62, 63, 64, 65, 66, 67, 68, 69, 70, 71] (by decide +kernel) (by decide +kernel)
set_option maxRecDepth 20000 in
theorem gX4_planSize_X4_makePlan : GoodIn wsX4_planSize (wsV RX4 123 RX4 yX4_makePlan wsX4_makePlan) := goodIn_app (goodIn_of _ (by decide +kernel)) ggX4_planSize_X4_makePlan
theorem dX4_planSize_0 : decode cX4_planSize 0 = .ok (.aload_n 0, 1) := by decide +kernel
theorem dX4_planSize_1 : decode cX4_planSize 1 = .ok (.iconst 0, 1) := by decide +kernel
theorem dX4_planSize_2 : decode cX4_planSize 2 = .ok (.putfield 64, 3) := by decide +kernel
theorem dX4_planSize_5 : decode cX4_planSize 5 = .ok (.iload_n 1, 1) := by decide +kernel
theorem dX4_planSize_6 : decode cX4_planSize 6 = .ok (.invokestatic 86, 3) := by decide +kernel
theorem dX4_planSize_9 : decode cX4_planSize 9 = .ok (.ifCond .ne 9, 3) := by decide +kernel
theorem dX4_planSize_12 : decode cX4_planSize 12 = .ok (.aload_n 0, 1) := by decide +kernel
theorem dX4_planSize_13 : decode cX4_planSize 13 = .ok (.iconst 1, 1) := by decide +kernel
theorem dX4_planSize_14 : decode cX4_planSize 14 = .ok (.invokevirtual 74, 3) := by decide +kernel
theorem dX4_planSize_17 : decode cX4_planSize 17 = .ok (.ireturn, 1) := by decide +kernel
theorem dX4_planSize_18 : decode cX4_planSize 18 = .ok (.aload_n 0, 1) := by decide +kernel
theorem dX4_planSize_19 : decode cX4_planSize 19 = .ok (.iload_n 1, 1) := by decide +kernel
theorem dX4_planSize_20 : decode cX4_planSize 20 = .ok (.invokevirtual 123, 3) := by decide +kernel
theorem dX4_planSize_23 : decode cX4_planSize 23 = .ok (.aload_n 0, 1) := by decide +kernel
theorem dX4_planSize_24 : decode cX4_planSize 24 = .ok (.getfield 117, 3) := by decide +kernel
theorem dX4_planSize_27 : decode cX4_planSize 27 = .ok (.ireturn, 1) := by decide +kernel
set_option maxRecDepth 20000 in
theorem ggX4_planned_X4_isKind : GoodIn wsX4_planned wsX4_isKind := goodIn_r _ [7, 8, 9, 6, 10] (by decide +kernel) (by decide +kernel)
set_option maxRecDepth 20000 in
theorem gX4_planned_X4_isKind : GoodIn wsX4_planned (va_wsS RX4 86 yX4_isKind wsX4_isKind) := goodIn_app (goodIn_of _ (by decide +kernel)) ggX4_planned_X4_isKind
set_option maxRecDepth 20000 in
theorem ggX4_planned_X4_fail : GoodIn wsX4_planned wsX4_fail := goodIn_r _ [14, 1, 51, 52, 53, 54, 55, 56, 57, 58, 59, 60, 61, 62, 63, 64, 65, 66, 67, 68, 69, 70, 71] (by decide +kernel) (by decide +kernel)
set_option maxRecDepth 20000 in
theorem gX4_planned_X4_fail : GoodIn wsX4_planned (wsV RX4 74 RX4 yX4_fail wsX4_fail) := goodIn_app (goodIn_of _ (by decide +kernel)) ggX4_planned_X4_fail
set_option maxRecDepth 20000 in
theorem ggX4_planned_X4_makePlan : GoodIn wsX4_planned wsX4_makePlan := goodIn_r _ [18, 2, 19, 20, 21, 3, 22, 23, 6, 24, 25, 26, 27, 28, 29, 30, 31, 32, 33, 34, 35, 36, 37, 38, 39, 40, 41, 42, 43, 44, 45, 46, 47, 48, 49, 50, 51, 52, 53, 54, 55, 56, 57, 58, 59, 60, 61, 62, 63, 64, 65, 66, 67, 68, 69, 70, 71] (by decide +kernel) (by decide +kernel)
set_option maxRecDepth 20000 in
theorem gX4_planned_X4_makePlan : GoodIn wsX4_planned (wsV RX4 123 RX4 yX4_makePlan wsX4_makePlan) := goodIn_app (goodIn_of _ (by decide +kernel)) ggX4_planned_X4_makePlan
set_option maxRecDepth 20000 in
theorem ggX4_planned_X4_isIn : GoodIn wsX4_planned wsX4_isIn := goodIn_r _ [10] (by decide +kernel) (by decide +kernel)
set_option maxRecDepth 20000 in
theorem gX4_planned_X4_isIn : GoodIn wsX4_planned (va_wsS RX4 67 yX4_isIn wsX4_isIn) := goodIn_app (goodIn_of _ (by decide +kernel)) ggX4_planned_X4_isIn
theorem dX4_planned_0 : decode cX4_planned 0 = .ok (.aload_n 0, 1) := by decide +kernel
theorem dX4_planned_1 : decode cX4_planned 1 = .ok (.iconst 0, 1) := by decide +kernel
theorem dX4_planned_2 : decode cX4_planned 2 = .ok (.putfield 64, 3) := by decide +kernel
theorem dX4_planned_5 : decode cX4_planned 5 = .ok (.iload_n 1, 1) := by decide +kernel
theorem dX4_planned_6 : decode cX4_planned 6 = .ok (.invokestatic 86, 3) := by decide +kernel
theorem dX4_planned_9 : decode cX4_planned 9 = .ok (.ifCond .ne 9, 3) := by decide +kernel
theorem dX4_planned_12 : decode cX4_planned 12 = .ok (.aload_n 0, 1) := by decide +kernel
theorem dX4_planned_13 : decode cX4_planned 13 = .ok (.iconst 1, 1) := by decide +kernel
theorem dX4_planned_14 : decode cX4_planned 14 = .ok (.invokevirtual 74, 3) := by decide +kernel
theorem dX4_planned_17 : decode cX4_planned 17 = .ok (.ireturn, 1) := by decide +kernel
theorem dX4_planned_18 : decode cX4_planned 18 = .ok (.aload_n 0, 1) := by decide +kernel
theorem dX4_planned_19 : decode cX4_planned 19 = .ok (.iload_n 1, 1) := by decide +kernel
theorem dX4_planned_20 : decode cX4_planned 20 = .ok (.invokevirtual 123, 3) := by decide +kernel
theorem dX4_planned_23 : decode cX4_planned 23 = .ok (.iload_n 2, 1) := by decide +kernel
theorem dX4_planned_24 : decode cX4_planned 24 = .ok (.iconst 0, 1) := by decide +kernel
theorem dX4_planned_25 : decode cX4_planned 25 = .ok (.aload_n 0, 1) := by decide +kernel
theorem dX4_planned_26 : decode cX4_planned 26 = .ok (.getfield 117, 3) := by decide +kernel
theorem dX4_planned_29 : decode cX4_planned 29 = .ok (.iconst 1, 1) := by decide +kernel
theorem dX4_planned_30 : decode cX4_planned 30 = .ok (.isub, 1) := by decide +kernel
theorem dX4_planned_31 : decode cX4_planned 31 = .ok (.invokestatic 67, 3) := by decide +kernel
theorem dX4_planned_34 : decode cX4_planned 34 = .ok (.ifCond .eq 12, 3) := by decide +kernel
theorem dX4_planned_37 : decode cX4_planned 37 = .ok (.aload_n 0, 1) := by decide +kernel
theorem dX4_planned_38 : decode cX4_planned 38 = .ok (.getfield 61, 3) := by decide +kernel
theorem dX4_planned_41 : decode cX4_planned 41 = .ok (.iload_n 2, 1) := by decide +kernel
theorem dX4_planned_42 : decode cX4_planned 42 = .ok (.iaload, 1) := by decide +kernel
theorem dX4_planned_43 : decode cX4_planned 43 = .ok (.goto 8, 3) := by decide +kernel
theorem dX4_planned_46 : decode cX4_planned 46 = .ok (.aload_n 0, 1) := by decide +kernel
theorem dX4_planned_47 : decode cX4_planned 47 = .ok (.iconst 1, 1) := by decide +kernel
theorem dX4_planned_48 : decode cX4_planned 48 = .ok (.invokevirtual 74, 3) := by decide +kernel
theorem dX4_planned_51 : decode cX4_planned 51 = .ok (.ireturn, 1) := by decide +kernel
set_option maxRecDepth 20000 in
theorem ggX4_tipFor_X4_has : GoodIn wsX4_tipFor wsX4_has := goodIn_r _ [6] (by decide +kernel) (by decide +kernel)
set_option maxRecDepth 20000 in
theorem gX4_tipFor_X4_has : GoodIn wsX4_tipFor (va_wsS RX4 89 yX4_has wsX4_has) := goodIn_app (goodIn_of _ (by decide +kernel)) ggX4_tipFor_X4_has
set_option maxRecDepth 20000 in
theorem ggX4_tipFor_X4_drive : GoodIn wsX4_tipFor wsX4_drive := goodIn_r _ [10, 11, 12, 13, 14, 15, 16, 17, 18, 19, 20, 21, 22, 23, 24, 25, 26, 27, 28, 29, 30, 31, 32] (by decide +kernel) (by decide +kernel)
set_option maxRecDepth 20000 in
theorem gX4_tipFor_X4_drive : GoodIn wsX4_tipFor (wsV RX4 82 RX4 yX4_drive wsX4_drive) := goodIn_app (goodIn_of _ (by decide +kernel)) ggX4_tipFor_X4_drive
theorem dX4_tipFor_0 : decode cX4_tipFor 0 = .ok (.iconst (-1), 1) := by decide +kernel
theorem dX4_tipFor_1 : decode cX4_tipFor 1 = .ok (.istore 4, 2) := by decide +kernel
theorem dX4_tipFor_3 : decode cX4_tipFor 3 = .ok (.iconst 0, 1) := by decide +kernel
theorem dX4_tipFor_4 : decode cX4_tipFor 4 = .ok (.istore 5, 2) := by decide +kernel
theorem dX4_tipFor_6 : decode cX4_tipFor 6 = .ok (.iload 5, 2) := by decide +kernel
theorem dX4_tipFor_8 : decode cX4_tipFor 8 = .ok (.aload_n 0, 1) := by decide +kernel
theorem dX4_tipFor_9 : decode cX4_tipFor 9 = .ok (.getfield 7, 3) := by decide +kernel
theorem dX4_tipFor_12 : decode cX4_tipFor 12 = .ok (.if_icmp .ge 69, 3) := by decide +kernel
theorem dX4_tipFor_15 : decode cX4_tipFor 15 = .ok (.aload_n 0, 1) := by decide +kernel
theorem dX4_tipFor_16 : decode cX4_tipFor 16 = .ok (.getfield 17, 3) := by decide +kernel
theorem dX4_tipFor_19 : decode cX4_tipFor 19 = .ok (.iload 5, 2) := by decide +kernel
theorem dX4_tipFor_21 : decode cX4_tipFor 21 = .ok (.iaload, 1) := by decide +kernel
theorem dX4_tipFor_22 : decode cX4_tipFor 22 = .ok (.iload_n 1, 1) := by decide +kernel
theorem dX4_tipFor_23 : decode cX4_tipFor 23 = .ok (.invokestatic 89, 3) := by decide +kernel
theorem dX4_tipFor_26 : decode cX4_tipFor 26 = .ok (.ifCond .ne 6, 3) := by decide +kernel
theorem dX4_tipFor_29 : decode cX4_tipFor 29 = .ok (.goto 46, 3) := by decide +kernel
theorem dX4_tipFor_32 : decode cX4_tipFor 32 = .ok (.iload 4, 2) := by decide +kernel
theorem dX4_tipFor_34 : decode cX4_tipFor 34 = .ok (.iconst (-1), 1) := by decide +kernel
theorem dX4_tipFor_35 : decode cX4_tipFor 35 = .ok (.if_icmp .eq 36, 3) := by decide +kernel
theorem dX4_tipFor_38 : decode cX4_tipFor 38 = .ok (.aload_n 0, 1) := by decide +kernel
theorem dX4_tipFor_39 : decode cX4_tipFor 39 = .ok (.iload_n 2, 1) := by decide +kernel
theorem dX4_tipFor_40 : decode cX4_tipFor 40 = .ok (.iload 5, 2) := by decide +kernel
theorem dX4_tipFor_42 : decode cX4_tipFor 42 = .ok (.invokevirtual 82, 3) := by decide +kernel
theorem dX4_tipFor_45 : decode cX4_tipFor 45 = .ok (.aload_n 0, 1) := by decide +kernel
theorem dX4_tipFor_46 : decode cX4_tipFor 46 = .ok (.iload 5, 2) := by decide +kernel
theorem dX4_tipFor_48 : decode cX4_tipFor 48 = .ok (.iload_n 3, 1) := by decide +kernel
theorem dX4_tipFor_49 : decode cX4_tipFor 49 = .ok (.invokevirtual 82, 3) := by decide +kernel
theorem dX4_tipFor_52 : decode cX4_tipFor 52 = .ok (.iadd, 1) := by decide +kernel
theorem dX4_tipFor_53 : decode cX4_tipFor 53 = .ok (.aload_n 0, 1) := by decide +kernel
theorem dX4_tipFor_54 : decode cX4_tipFor 54 = .ok (.iload_n 2, 1) := by decide +kernel
theorem dX4_tipFor_55 : decode cX4_tipFor 55 = .ok (.iload 4, 2) := by decide +kernel
theorem dX4_tipFor_57 : decode cX4_tipFor 57 = .ok (.invokevirtual 82, 3) := by decide +kernel
theorem dX4_tipFor_60 : decode cX4_tipFor 60 = .ok (.aload_n 0, 1) := by decide +kernel
theorem dX4_tipFor_61 : decode cX4_tipFor 61 = .ok (.iload 4, 2) := by decide +kernel
theorem dX4_tipFor_63 : decode cX4_tipFor 63 = .ok (.iload_n 3, 1) := by decide +kernel
theorem dX4_tipFor_64 : decode cX4_tipFor 64 = .ok (.invokevirtual 82, 3) := by decide +kernel
theorem dX4_tipFor_67 : decode cX4_tipFor 67 = .ok (.iadd, 1) := by decide +kernel
theorem dX4_tipFor_68 : decode cX4_tipFor 68 = .ok (.if_icmp .ge 7, 3) := by decide +kernel
theorem dX4_tipFor_71 : decode cX4_tipFor 71 = .ok (.iload 5, 2) := by decide +kernel
theorem dX4_tipFor_73 : decode cX4_tipFor 73 = .ok (.istore 4, 2) := by decide +kernel
theorem dX4_tipFor_75 : decode cX4_tipFor 75 = .ok (.iinc 5 1, 3) := by decide +kernel
theorem dX4_tipFor_78 : decode cX4_tipFor 78 = .ok (.goto (-72), 3) := by decide +kernel
theorem dX4_tipFor_81 : decode cX4_tipFor 81 = .ok (.iload 4, 2) := by decide +kernel
theorem dX4_tipFor_83 : decode cX4_tipFor 83 = .ok (.ireturn, 1) := by decide +kernel
set_option maxRecDepth 20000 in
theorem ggX4_tour_X4_drive : GoodIn wsX4_tour wsX4_drive := goodIn_r _ [16, 17, 34, 35, 36, 37, 38, 39, 40, 41, 42, 43, 44, 45, 46, 47, 48, 49, 50, 51, 52, 53, 54] (by decide +kernel) (by decide +kernel)
set_option maxRecDepth 20000 in
theorem gX4_tour_X4_drive : GoodIn wsX4_tour (wsV RX4 82 RX4 yX4_drive wsX4_drive) := goodIn_app (goodIn_of _ (by decide +kernel)) ggX4_tour_X4_drive
set_option maxRecDepth 20000 in
theorem ggX4_tour_X4_tipFor : GoodIn wsX4_tour wsX4_tipFor := goodIn_r _ [21, 22, 23, 24, 25, 15, 26, 12, 13, 14, 16, 17, 34, 35, 36, 37, 38, 39, 40, 41, 42, 43, 44, 45, 46, 47, 48, 49, 50, 51, 52, 53, 54] (by decide +kernel) (by decide +kernel)
set_option maxRecDepth 20000 in
theorem gX4_tour_X4_tipFor : GoodIn wsX4_tour (wsV RX4 127 RX4 yX4_tipFor wsX4_tipFor) := goodIn_app (goodIn_of _ (by decide +kernel)) ggX4_tour_X4_tipFor
set_option maxRecDepth 20000 in
theorem ggX4_tour_X4_empty : GoodIn wsX4_tour wsX4_empty := goodIn_r _ [30, 31, 32, 33, 6, 34, 35, 36, 37, 38, 39, 40, 41, 42, 43, 44, 45, 46, 47, 48, 49, 50, 51, 52, 53, 54] (by decide +kernel) (by decide +kernel)
set_option maxRecDepth 20000 in
theorem gX4_tour_X4_empty : GoodIn wsX4_tour (wsV RX4 131 RX4 yX4_empty wsX4_empty) := goodIn_app (goodIn_of _ (by decide +kernel)) ggX4_tour_X4_empty
theorem dX4_tour_0 : decode cX4_tour 0 = .ok (.iconst 0, 1) := by decide +kernel
theorem dX4_tour_1 : decode cX4_tour 1 = .ok (.istore 4, 2) := by decide +kernel
theorem dX4_tour_3 : decode cX4_tour 3 = .ok (.iconst 0, 1) := by decide +kernel
theorem dX4_tour_4 : decode cX4_tour 4 = .ok (.istore 5, 2) := by decide +kernel
theorem dX4_tour_6 : decode cX4_tour 6 = .ok (.iconst 0, 1) := by decide +kernel
theorem dX4_tour_7 : decode cX4_tour 7 = .ok (.istore 6, 2) := by decide +kernel
theorem dX4_tour_9 : decode cX4_tour 9 = .ok (.lconst 0, 1) := by decide +kernel
theorem dX4_tour_10 : decode cX4_tour 10 = .ok (.lstore 7, 2) := by decide +kernel
theorem dX4_tour_12 : decode cX4_tour 12 = .ok (.iconst 0, 1) := by decide +kernel
theorem dX4_tour_13 : decode cX4_tour 13 = .ok (.istore 9, 2) := by decide +kernel
theorem dX4_tour_15 : decode cX4_tour 15 = .ok (.iconst 0, 1) := by decide +kernel
theorem dX4_tour_16 : decode cX4_tour 16 = .ok (.istore 10, 2) := by decide +kernel
theorem dX4_tour_18 : decode cX4_tour 18 = .ok (.iload 10, 2) := by decide +kernel
theorem dX4_tour_20 : decode cX4_tour 20 = .ok (.aload_n 0, 1) := by decide +kernel
theorem dX4_tour_21 : decode cX4_tour 21 = .ok (.getfield 117, 3) := by decide +kernel
theorem dX4_tour_24 : decode cX4_tour 24 = .ok (.if_icmp .ge 202, 3) := by decide +kernel
theorem dX4_tour_27 : decode cX4_tour 27 = .ok (.aload_n 0, 1) := by decide +kernel
theorem dX4_tour_28 : decode cX4_tour 28 = .ok (.getfield 61, 3) := by decide +kernel
theorem dX4_tour_31 : decode cX4_tour 31 = .ok (.iload 10, 2) := by decide +kernel
theorem dX4_tour_33 : decode cX4_tour 33 = .ok (.iaload, 1) := by decide +kernel
theorem dX4_tour_34 : decode cX4_tour 34 = .ok (.istore 11, 2) := by decide +kernel
theorem dX4_tour_36 : decode cX4_tour 36 = .ok (.aload_n 0, 1) := by decide +kernel
theorem dX4_tour_37 : decode cX4_tour 37 = .ok (.getfield 24, 3) := by decide +kernel
theorem dX4_tour_40 : decode cX4_tour 40 = .ok (.iload 11, 2) := by decide +kernel
theorem dX4_tour_42 : decode cX4_tour 42 = .ok (.iaload, 1) := by decide +kernel
theorem dX4_tour_43 : decode cX4_tour 43 = .ok (.istore 12, 2) := by decide +kernel
theorem dX4_tour_45 : decode cX4_tour 45 = .ok (.iload 4, 2) := by decide +kernel
theorem dX4_tour_47 : decode cX4_tour 47 = .ok (.aload_n 0, 1) := by decide +kernel
theorem dX4_tour_48 : decode cX4_tour 48 = .ok (.iload 5, 2) := by decide +kernel
theorem dX4_tour_50 : decode cX4_tour 50 = .ok (.iload 12, 2) := by decide +kernel
theorem dX4_tour_52 : decode cX4_tour 52 = .ok (.invokevirtual 82, 3) := by decide +kernel
theorem dX4_tour_55 : decode cX4_tour 55 = .ok (.iadd, 1) := by decide +kernel
theorem dX4_tour_56 : decode cX4_tour 56 = .ok (.istore 4, 2) := by decide +kernel
theorem dX4_tour_58 : decode cX4_tour 58 = .ok (.iload 12, 2) := by decide +kernel
theorem dX4_tour_60 : decode cX4_tour 60 = .ok (.istore 5, 2) := by decide +kernel
theorem dX4_tour_62 : decode cX4_tour 62 = .ok (.aload_n 0, 1) := by decide +kernel
theorem dX4_tour_63 : decode cX4_tour 63 = .ok (.getfield 51, 3) := by decide +kernel
theorem dX4_tour_66 : decode cX4_tour 66 = .ok (.iload 11, 2) := by decide +kernel
theorem dX4_tour_68 : decode cX4_tour 68 = .ok (.baload, 1) := by decide +kernel
theorem dX4_tour_69 : decode cX4_tour 69 = .ok (.ifCond .eq 44, 3) := by decide +kernel
theorem dX4_tour_72 : decode cX4_tour 72 = .ok (.iinc 4 2, 3) := by decide +kernel
theorem dX4_tour_75 : decode cX4_tour 75 = .ok (.aload_n 0, 1) := by decide +kernel
theorem dX4_tour_76 : decode cX4_tour 76 = .ok (.getfield 51, 3) := by decide +kernel
theorem dX4_tour_79 : decode cX4_tour 79 = .ok (.iload 11, 2) := by decide +kernel
theorem dX4_tour_81 : decode cX4_tour 81 = .ok (.iload_n 3, 1) := by decide +kernel
theorem dX4_tour_82 : decode cX4_tour 82 = .ok (.ifCond .ne 7, 3) := by decide +kernel
theorem dX4_tour_85 : decode cX4_tour 85 = .ok (.iconst 1, 1) := by decide +kernel
theorem dX4_tour_86 : decode cX4_tour 86 = .ok (.goto 4, 3) := by decide +kernel
theorem dX4_tour_89 : decode cX4_tour 89 = .ok (.iconst 0, 1) := by decide +kernel
theorem dX4_tour_90 : decode cX4_tour 90 = .ok (.bastore, 1) := by decide +kernel
theorem dX4_tour_91 : decode cX4_tour 91 = .ok (.aload_n 0, 1) := by decide +kernel
theorem dX4_tour_92 : decode cX4_tour 92 = .ok (.getfield 48, 3) := by decide +kernel
theorem dX4_tour_95 : decode cX4_tour 95 = .ok (.iload 11, 2) := by decide +kernel
theorem dX4_tour_97 : decode cX4_tour 97 = .ok (.dup2, 1) := by decide +kernel
theorem dX4_tour_98 : decode cX4_tour 98 = .ok (.iaload, 1) := by decide +kernel
theorem dX4_tour_99 : decode cX4_tour 99 = .ok (.iload_n 3, 1) := by decide +kernel
theorem dX4_tour_100 : decode cX4_tour 100 = .ok (.ifCond .eq 7, 3) := by decide +kernel
theorem dX4_tour_103 : decode cX4_tour 103 = .ok (.iconst 1, 1) := by decide +kernel
theorem dX4_tour_104 : decode cX4_tour 104 = .ok (.goto 4, 3) := by decide +kernel
theorem dX4_tour_107 : decode cX4_tour 107 = .ok (.iconst 0, 1) := by decide +kernel
theorem dX4_tour_108 : decode cX4_tour 108 = .ok (.iadd, 1) := by decide +kernel
theorem dX4_tour_109 : decode cX4_tour 109 = .ok (.iastore, 1) := by decide +kernel
theorem dX4_tour_110 : decode cX4_tour 110 = .ok (.goto 110, 3) := by decide +kernel
theorem dX4_tour_113 : decode cX4_tour 113 = .ok (.iload 6, 2) := by decide +kernel
theorem dX4_tour_115 : decode cX4_tour 115 = .ok (.ifCond .le 67, 3) := by decide +kernel
theorem dX4_tour_118 : decode cX4_tour 118 = .ok (.iload_n 2, 1) := by decide +kernel
theorem dX4_tour_119 : decode cX4_tour 119 = .ok (.iload 6, 2) := by decide +kernel
theorem dX4_tour_121 : decode cX4_tour 121 = .ok (.isub, 1) := by decide +kernel
theorem dX4_tour_122 : decode cX4_tour 122 = .ok (.aload_n 0, 1) := by decide +kernel
theorem dX4_tour_123 : decode cX4_tour 123 = .ok (.getfield 36, 3) := by decide +kernel
theorem dX4_tour_126 : decode cX4_tour 126 = .ok (.iload 11, 2) := by decide +kernel
theorem dX4_tour_128 : decode cX4_tour 128 = .ok (.iaload, 1) := by decide +kernel
theorem dX4_tour_129 : decode cX4_tour 129 = .ok (.if_icmp .ge 53, 3) := by decide +kernel
theorem dX4_tour_132 : decode cX4_tour 132 = .ok (.aload_n 0, 1) := by decide +kernel
theorem dX4_tour_133 : decode cX4_tour 133 = .ok (.iload_n 1, 1) := by decide +kernel
theorem dX4_tour_134 : decode cX4_tour 134 = .ok (.iload 5, 2) := by decide +kernel
theorem dX4_tour_136 : decode cX4_tour 136 = .ok (.iload 5, 2) := by decide +kernel
theorem dX4_tour_138 : decode cX4_tour 138 = .ok (.invokevirtual 127, 3) := by decide +kernel
theorem dX4_tour_141 : decode cX4_tour 141 = .ok (.istore 13, 2) := by decide +kernel
theorem dX4_tour_143 : decode cX4_tour 143 = .ok (.iload 4, 2) := by decide +kernel
theorem dX4_tour_145 : decode cX4_tour 145 = .ok (.aload_n 0, 1) := by decide +kernel
theorem dX4_tour_146 : decode cX4_tour 146 = .ok (.iload 5, 2) := by decide +kernel
theorem dX4_tour_148 : decode cX4_tour 148 = .ok (.iload 13, 2) := by decide +kernel
theorem dX4_tour_150 : decode cX4_tour 150 = .ok (.invokevirtual 82, 3) := by decide +kernel
theorem dX4_tour_153 : decode cX4_tour 153 = .ok (.aload_n 0, 1) := by decide +kernel
theorem dX4_tour_154 : decode cX4_tour 154 = .ok (.iload 13, 2) := by decide +kernel
theorem dX4_tour_156 : decode cX4_tour 156 = .ok (.iload 5, 2) := by decide +kernel
theorem dX4_tour_158 : decode cX4_tour 158 = .ok (.invokevirtual 82, 3) := by decide +kernel
theorem dX4_tour_161 : decode cX4_tour 161 = .ok (.iadd, 1) := by decide +kernel
theorem dX4_tour_162 : decode cX4_tour 162 = .ok (.bipush 10, 2) := by decide +kernel
theorem dX4_tour_164 : decode cX4_tour 164 = .ok (.iadd, 1) := by decide +kernel
theorem dX4_tour_165 : decode cX4_tour 165 = .ok (.iadd, 1) := by decide +kernel
theorem dX4_tour_166 : decode cX4_tour 166 = .ok (.istore 4, 2) := by decide +kernel
theorem dX4_tour_168 : decode cX4_tour 168 = .ok (.lload 7, 2) := by decide +kernel
theorem dX4_tour_170 : decode cX4_tour 170 = .ok (.iload 6, 2) := by decide +kernel
theorem dX4_tour_172 : decode cX4_tour 172 = .ok (.i2l, 1) := by decide +kernel
theorem dX4_tour_173 : decode cX4_tour 173 = .ok (.ladd, 1) := by decide +kernel
theorem dX4_tour_174 : decode cX4_tour 174 = .ok (.lstore 7, 2) := by decide +kernel
theorem dX4_tour_176 : decode cX4_tour 176 = .ok (.iinc 9 1, 3) := by decide +kernel
theorem dX4_tour_179 : decode cX4_tour 179 = .ok (.iconst 0, 1) := by decide +kernel
theorem dX4_tour_180 : decode cX4_tour 180 = .ok (.istore 6, 2) := by decide +kernel
theorem dX4_tour_182 : decode cX4_tour 182 = .ok (.aload_n 0, 1) := by decide +kernel
theorem dX4_tour_183 : decode cX4_tour 183 = .ok (.getfield 36, 3) := by decide +kernel
theorem dX4_tour_186 : decode cX4_tour 186 = .ok (.iload 11, 2) := by decide +kernel
theorem dX4_tour_188 : decode cX4_tour 188 = .ok (.iaload, 1) := by decide +kernel
theorem dX4_tour_189 : decode cX4_tour 189 = .ok (.iload_n 2, 1) := by decide +kernel
theorem dX4_tour_190 : decode cX4_tour 190 = .ok (.iload 6, 2) := by decide +kernel
theorem dX4_tour_192 : decode cX4_tour 192 = .ok (.isub, 1) := by decide +kernel
theorem dX4_tour_193 : decode cX4_tour 193 = .ok (.invokestatic 111, 3) := by decide +kernel
theorem dX4_tour_196 : decode cX4_tour 196 = .ok (.istore 13, 2) := by decide +kernel
theorem dX4_tour_198 : decode cX4_tour 198 = .ok (.iload 6, 2) := by decide +kernel
theorem dX4_tour_200 : decode cX4_tour 200 = .ok (.iload 13, 2) := by decide +kernel
theorem dX4_tour_202 : decode cX4_tour 202 = .ok (.iadd, 1) := by decide +kernel
theorem dX4_tour_203 : decode cX4_tour 203 = .ok (.istore 6, 2) := by decide +kernel
theorem dX4_tour_205 : decode cX4_tour 205 = .ok (.iinc 4 5, 3) := by decide +kernel
theorem dX4_tour_208 : decode cX4_tour 208 = .ok (.iload_n 3, 1) := by decide +kernel
theorem dX4_tour_209 : decode cX4_tour 209 = .ok (.ifCond .eq 11, 3) := by decide +kernel
theorem dX4_tour_212 : decode cX4_tour 212 = .ok (.aload_n 0, 1) := by decide +kernel
theorem dX4_tour_213 : decode cX4_tour 213 = .ok (.iload 11, 2) := by decide +kernel
theorem dX4_tour_215 : decode cX4_tour 215 = .ok (.iload 13, 2) := by decide +kernel
theorem dX4_tour_217 : decode cX4_tour 217 = .ok (.invokevirtual 131, 3) := by decide +kernel
theorem dX4_tour_220 : decode cX4_tour 220 = .ok (.iinc 10 1, 3) := by decide +kernel
theorem dX4_tour_223 : decode cX4_tour 223 = .ok (.goto (-205), 3) := by decide +kernel
theorem dX4_tour_226 : decode cX4_tour 226 = .ok (.iload 6, 2) := by decide +kernel
theorem dX4_tour_228 : decode cX4_tour 228 = .ok (.ifCond .le 14, 3) := by decide +kernel
theorem dX4_tour_231 : decode cX4_tour 231 = .ok (.aload_n 0, 1) := by decide +kernel
theorem dX4_tour_232 : decode cX4_tour 232 = .ok (.iload_n 1, 1) := by decide +kernel
theorem dX4_tour_233 : decode cX4_tour 233 = .ok (.iload 5, 2) := by decide +kernel
theorem dX4_tour_235 : decode cX4_tour 235 = .ok (.iconst 0, 1) := by decide +kernel
theorem dX4_tour_236 : decode cX4_tour 236 = .ok (.invokevirtual 127, 3) := by decide +kernel
theorem dX4_tour_239 : decode cX4_tour 239 = .ok (.goto 5, 3) := by decide +kernel
theorem dX4_tour_242 : decode cX4_tour 242 = .ok (.iload 5, 2) := by decide +kernel
theorem dX4_tour_244 : decode cX4_tour 244 = .ok (.istore 10, 2) := by decide +kernel
theorem dX4_tour_246 : decode cX4_tour 246 = .ok (.iload 4, 2) := by decide +kernel
theorem dX4_tour_248 : decode cX4_tour 248 = .ok (.aload_n 0, 1) := by decide +kernel
theorem dX4_tour_249 : decode cX4_tour 249 = .ok (.iload 5, 2) := by decide +kernel
theorem dX4_tour_251 : decode cX4_tour 251 = .ok (.iload 10, 2) := by decide +kernel
theorem dX4_tour_253 : decode cX4_tour 253 = .ok (.invokevirtual 82, 3) := by decide +kernel
theorem dX4_tour_256 : decode cX4_tour 256 = .ok (.aload_n 0, 1) := by decide +kernel
theorem dX4_tour_257 : decode cX4_tour 257 = .ok (.iload 10, 2) := by decide +kernel
theorem dX4_tour_259 : decode cX4_tour 259 = .ok (.iconst 0, 1) := by decide +kernel
theorem dX4_tour_260 : decode cX4_tour 260 = .ok (.invokevirtual 82, 3) := by decide +kernel
theorem dX4_tour_263 : decode cX4_tour 263 = .ok (.iadd, 1) := by decide +kernel
theorem dX4_tour_264 : decode cX4_tour 264 = .ok (.iload 6, 2) := by decide +kernel
theorem dX4_tour_266 : decode cX4_tour 266 = .ok (.ifCond .le 8, 3) := by decide +kernel
theorem dX4_tour_269 : decode cX4_tour 269 = .ok (.bipush 10, 2) := by decide +kernel
theorem dX4_tour_271 : decode cX4_tour 271 = .ok (.goto 4, 3) := by decide +kernel
theorem dX4_tour_274 : decode cX4_tour 274 = .ok (.iconst 0, 1) := by decide +kernel
theorem dX4_tour_275 : decode cX4_tour 275 = .ok (.iadd, 1) := by decide +kernel
theorem dX4_tour_276 : decode cX4_tour 276 = .ok (.iadd, 1) := by decide +kernel
theorem dX4_tour_277 : decode cX4_tour 277 = .ok (.istore 4, 2) := by decide +kernel
theorem dX4_tour_279 : decode cX4_tour 279 = .ok (.lload 7, 2) := by decide +kernel
theorem dX4_tour_281 : decode cX4_tour 281 = .ok (.iload 6, 2) := by decide +kernel
theorem dX4_tour_283 : decode cX4_tour 283 = .ok (.i2l, 1) := by decide +kernel
theorem dX4_tour_284 : decode cX4_tour 284 = .ok (.ladd, 1) := by decide +kernel
theorem dX4_tour_285 : decode cX4_tour 285 = .ok (.lstore 7, 2) := by decide +kernel
theorem dX4_tour_287 : decode cX4_tour 287 = .ok (.iload 9, 2) := by decide +kernel
theorem dX4_tour_289 : decode cX4_tour 289 = .ok (.iload 6, 2) := by decide +kernel
theorem dX4_tour_291 : decode cX4_tour 291 = .ok (.ifCond .le 7, 3) := by decide +kernel
theorem dX4_tour_294 : decode cX4_tour 294 = .ok (.iconst 1, 1) := by decide +kernel
theorem dX4_tour_295 : decode cX4_tour 295 = .ok (.goto 4, 3) := by decide +kernel
theorem dX4_tour_298 : decode cX4_tour 298 = .ok (.iconst 0, 1) := by decide +kernel
theorem dX4_tour_299 : decode cX4_tour 299 = .ok (.iadd, 1) := by decide +kernel
theorem dX4_tour_300 : decode cX4_tour 300 = .ok (.istore 9, 2) := by decide +kernel
theorem dX4_tour_302 : decode cX4_tour 302 = .ok (.iload_n 3, 1) := by decide +kernel
theorem dX4_tour_303 : decode cX4_tour 303 = .ok (.ifCond .ne 6, 3) := by decide +kernel
theorem dX4_tour_306 : decode cX4_tour 306 = .ok (.iload 4, 2) := by decide +kernel
theorem dX4_tour_308 : decode cX4_tour 308 = .ok (.ireturn, 1) := by decide +kernel
theorem dX4_tour_309 : decode cX4_tour 309 = .ok (.aload_n 0, 1) := by decide +kernel
theorem dX4_tour_310 : decode cX4_tour 310 = .ok (.getfield 54, 3) := by decide +kernel
theorem dX4_tour_313 : decode cX4_tour 313 = .ok (.iconst 4, 1) := by decide +kernel
theorem dX4_tour_314 : decode cX4_tour 314 = .ok (.iload_n 1, 1) := by decide +kernel
theorem dX4_tour_315 : decode cX4_tour 315 = .ok (.imul, 1) := by decide +kernel
theorem dX4_tour_316 : decode cX4_tour 316 = .ok (.dup2, 1) := by decide +kernel
theorem dX4_tour_317 : decode cX4_tour 317 = .ok (.laload, 1) := by decide +kernel
theorem dX4_tour_318 : decode cX4_tour 318 = .ok (.lload 7, 2) := by decide +kernel
theorem dX4_tour_320 : decode cX4_tour 320 = .ok (.ladd, 1) := by decide +kernel
theorem dX4_tour_321 : decode cX4_tour 321 = .ok (.lastore, 1) := by decide +kernel
theorem dX4_tour_322 : decode cX4_tour 322 = .ok (.aload_n 0, 1) := by decide +kernel
theorem dX4_tour_323 : decode cX4_tour 323 = .ok (.getfield 54, 3) := by decide +kernel
theorem dX4_tour_326 : decode cX4_tour 326 = .ok (.iconst 4, 1) := by decide +kernel
theorem dX4_tour_327 : decode cX4_tour 327 = .ok (.iload_n 1, 1) := by decide +kernel
theorem dX4_tour_328 : decode cX4_tour 328 = .ok (.imul, 1) := by decide +kernel
theorem dX4_tour_329 : decode cX4_tour 329 = .ok (.iconst 1, 1) := by decide +kernel
theorem dX4_tour_330 : decode cX4_tour 330 = .ok (.iadd, 1) := by decide +kernel
theorem dX4_tour_331 : decode cX4_tour 331 = .ok (.dup2, 1) := by decide +kernel
theorem dX4_tour_332 : decode cX4_tour 332 = .ok (.laload, 1) := by decide +kernel
theorem dX4_tour_333 : decode cX4_tour 333 = .ok (.iload 9, 2) := by decide +kernel
theorem dX4_tour_335 : decode cX4_tour 335 = .ok (.i2l, 1) := by decide +kernel
theorem dX4_tour_336 : decode cX4_tour 336 = .ok (.ladd, 1) := by decide +kernel
theorem dX4_tour_337 : decode cX4_tour 337 = .ok (.lastore, 1) := by decide +kernel
theorem dX4_tour_338 : decode cX4_tour 338 = .ok (.aload_n 0, 1) := by decide +kernel
theorem dX4_tour_339 : decode cX4_tour 339 = .ok (.getfield 54, 3) := by decide +kernel
theorem dX4_tour_342 : decode cX4_tour 342 = .ok (.iconst 4, 1) := by decide +kernel
theorem dX4_tour_343 : decode cX4_tour 343 = .ok (.iload_n 1, 1) := by decide +kernel
theorem dX4_tour_344 : decode cX4_tour 344 = .ok (.imul, 1) := by decide +kernel
theorem dX4_tour_345 : decode cX4_tour 345 = .ok (.iconst 2, 1) := by decide +kernel
theorem dX4_tour_346 : decode cX4_tour 346 = .ok (.iadd, 1) := by decide +kernel
theorem dX4_tour_347 : decode cX4_tour 347 = .ok (.dup2, 1) := by decide +kernel
theorem dX4_tour_348 : decode cX4_tour 348 = .ok (.laload, 1) := by decide +kernel
theorem dX4_tour_349 : decode cX4_tour 349 = .ok (.iload 4, 2) := by decide +kernel
theorem dX4_tour_351 : decode cX4_tour 351 = .ok (.i2l, 1) := by decide +kernel
theorem dX4_tour_352 : decode cX4_tour 352 = .ok (.ladd, 1) := by decide +kernel
theorem dX4_tour_353 : decode cX4_tour 353 = .ok (.lastore, 1) := by decide +kernel
theorem dX4_tour_354 : decode cX4_tour 354 = .ok (.aload_n 0, 1) := by decide +kernel
theorem dX4_tour_355 : decode cX4_tour 355 = .ok (.getfield 54, 3) := by decide +kernel
theorem dX4_tour_358 : decode cX4_tour 358 = .ok (.iconst 4, 1) := by decide +kernel
theorem dX4_tour_359 : decode cX4_tour 359 = .ok (.iload_n 1, 1) := by decide +kernel
theorem dX4_tour_360 : decode cX4_tour 360 = .ok (.imul, 1) := by decide +kernel
theorem dX4_tour_361 : decode cX4_tour 361 = .ok (.iconst 3, 1) := by decide +kernel
theorem dX4_tour_362 : decode cX4_tour 362 = .ok (.iadd, 1) := by decide +kernel
theorem dX4_tour_363 : decode cX4_tour 363 = .ok (.dup2, 1) := by decide +kernel
theorem dX4_tour_364 : decode cX4_tour 364 = .ok (.laload, 1) := by decide +kernel
theorem dX4_tour_365 : decode cX4_tour 365 = .ok (.lconst 1, 1) := by decide +kernel
theorem dX4_tour_366 : decode cX4_tour 366 = .ok (.ladd, 1) := by decide +kernel
theorem dX4_tour_367 : decode cX4_tour 367 = .ok (.lastore, 1) := by decide +kernel
theorem dX4_tour_368 : decode cX4_tour 368 = .ok (.iload 4, 2) := by decide +kernel
theorem dX4_tour_370 : decode cX4_tour 370 = .ok (.ireturn, 1) := by decide +kernel
theorem dX4_empty_0 : decode cX4_empty 0 = .ok (.aload_n 0, 1) := by decide +kernel
theorem dX4_empty_1 : decode cX4_empty 1 = .ok (.getfield 93, 3) := by decide +kernel
theorem dX4_empty_4 : decode cX4_empty 4 = .ok (.aload_n 0, 1) := by decide +kernel
theorem dX4_empty_5 : decode cX4_empty 5 = .ok (.getfield 42, 3) := by decide +kernel
theorem dX4_empty_8 : decode cX4_empty 8 = .ok (.iload_n 1, 1) := by decide +kernel
theorem dX4_empty_9 : decode cX4_empty 9 = .ok (.iaload, 1) := by decide +kernel
theorem dX4_empty_10 : decode cX4_empty 10 = .ok (.isub, 1) := by decide +kernel
theorem dX4_empty_11 : decode cX4_empty 11 = .ok (.istore_n 3, 1) := by decide +kernel
theorem dX4_empty_12 : decode cX4_empty 12 = .ok (.iload_n 3, 1) := by decide +kernel
theorem dX4_empty_13 : decode cX4_empty 13 = .ok (.ifCond .le 31, 3) := by decide +kernel
theorem dX4_empty_16 : decode cX4_empty 16 = .ok (.aload_n 0, 1) := by decide +kernel
theorem dX4_empty_17 : decode cX4_empty 17 = .ok (.getfield 39, 3) := by decide +kernel
theorem dX4_empty_20 : decode cX4_empty 20 = .ok (.iload_n 1, 1) := by decide +kernel
theorem dX4_empty_21 : decode cX4_empty 21 = .ok (.iconst 3, 1) := by decide +kernel
theorem dX4_empty_22 : decode cX4_empty 22 = .ok (.aload_n 0, 1) := by decide +kernel
theorem dX4_empty_23 : decode cX4_empty 23 = .ok (.getfield 39, 3) := by decide +kernel
theorem dX4_empty_26 : decode cX4_empty 26 = .ok (.iload_n 1, 1) := by decide +kernel
theorem dX4_empty_27 : decode cX4_empty 27 = .ok (.iaload, 1) := by decide +kernel
theorem dX4_empty_28 : decode cX4_empty 28 = .ok (.imul, 1) := by decide +kernel
theorem dX4_empty_29 : decode cX4_empty 29 = .ok (.bipush 10, 2) := by decide +kernel
theorem dX4_empty_31 : decode cX4_empty 31 = .ok (.aload_n 0, 1) := by decide +kernel
theorem dX4_empty_32 : decode cX4_empty 32 = .ok (.getfield 36, 3) := by decide +kernel
theorem dX4_empty_35 : decode cX4_empty 35 = .ok (.iload_n 1, 1) := by decide +kernel
theorem dX4_empty_36 : decode cX4_empty 36 = .ok (.iaload, 1) := by decide +kernel
theorem dX4_empty_37 : decode cX4_empty 37 = .ok (.imul, 1) := by decide +kernel
theorem dX4_empty_38 : decode cX4_empty 38 = .ok (.iload_n 3, 1) := by decide +kernel
theorem dX4_empty_39 : decode cX4_empty 39 = .ok (.idiv, 1) := by decide +kernel
theorem dX4_empty_40 : decode cX4_empty 40 = .ok (.iadd, 1) := by decide +kernel
theorem dX4_empty_41 : decode cX4_empty 41 = .ok (.iconst 4, 1) := by decide +kernel
theorem dX4_empty_42 : decode cX4_empty 42 = .ok (.idiv, 1) := by decide +kernel
theorem dX4_empty_43 : decode cX4_empty 43 = .ok (.iastore, 1) := by decide +kernel
theorem dX4_empty_44 : decode cX4_empty 44 = .ok (.aload_n 0, 1) := by decide +kernel
theorem dX4_empty_45 : decode cX4_empty 45 = .ok (.getfield 42, 3) := by decide +kernel
theorem dX4_empty_48 : decode cX4_empty 48 = .ok (.iload_n 1, 1) := by decide +kernel
theorem dX4_empty_49 : decode cX4_empty 49 = .ok (.aload_n 0, 1) := by decide +kernel
theorem dX4_empty_50 : decode cX4_empty 50 = .ok (.getfield 93, 3) := by decide +kernel
theorem dX4_empty_53 : decode cX4_empty 53 = .ok (.iastore, 1) := by decide +kernel
theorem dX4_empty_54 : decode cX4_empty 54 = .ok (.aload_n 0, 1) := by decide +kernel
theorem dX4_empty_55 : decode cX4_empty 55 = .ok (.getfield 36, 3) := by decide +kernel
theorem dX4_empty_58 : decode cX4_empty 58 = .ok (.iload_n 1, 1) := by decide +kernel
theorem dX4_empty_59 : decode cX4_empty 59 = .ok (.dup2, 1) := by decide +kernel
theorem dX4_empty_60 : decode cX4_empty 60 = .ok (.iaload, 1) := by decide +kernel
theorem dX4_empty_61 : decode cX4_empty 61 = .ok (.iload_n 2, 1) := by decide +kernel
theorem dX4_empty_62 : decode cX4_empty 62 = .ok (.isub, 1) := by decide +kernel
theorem dX4_empty_63 : decode cX4_empty 63 = .ok (.iastore, 1) := by decide +kernel
theorem dX4_empty_64 : decode cX4_empty 64 = .ok (.return_, 1) := by decide +kernel
set_option maxRecDepth 20000 in
theorem ggX4_collect_X4_isKind : GoodIn wsX4_collect wsX4_isKind := goodIn_r _ [8, 9, 10, 7, 11] (by decide +kernel) (by decide +kernel)
set_option maxRecDepth 20000 in
theorem gX4_collect_X4_isKind : GoodIn wsX4_collect (va_wsS RX4 86 yX4_isKind wsX4_isKind) := goodIn_app (goodIn_of _ (by decide +kernel)) ggX4_collect_X4_isKind
set_option maxRecDepth 20000 in
theorem ggX4_collect_X4_fail : GoodIn wsX4_collect wsX4_fail := goodIn_r _ [15, 1, 72, 73, 74, 75, 76, 77, 78, 79, 80, 81, 82, 83, 84, 85, 86, 87, 88, 89, 90, 91, 92] (by decide +kernel) (by decide +kernel)
set_option maxRecDepth 20000 in
theorem gX4_collect_X4_fail : GoodIn wsX4_collect (wsV RX4 74 RX4 yX4_fail wsX4_fail) := goodIn_app (goodIn_of _ (by decide +kernel)) ggX4_collect_X4_fail
set_option maxRecDepth 20000 in
theorem ggX4_collect_X4_isCapacity : GoodIn wsX4_collect wsX4_isCapacity := goodIn_r _ [18, 9, 10, 7, 11] (by decide +kernel) (by decide +kernel)
set_option maxRecDepth 20000 in
theorem gX4_collect_X4_isCapacity : GoodIn wsX4_collect (va_wsS RX4 135 yX4_isCapacity wsX4_isCapacity) := goodIn_app (goodIn_of _ (by decide +kernel)) ggX4_collect_X4_isCapacity
set_option maxRecDepth 20000 in
theorem ggX4_collect_X4_makePlan : GoodIn wsX4_collect wsX4_makePlan := goodIn_r _ [22, 4, 23, 24, 25, 26, 27, 28, 7, 29, 30, 31, 32, 33, 3, 34, 35, 36, 37, 38, 39, 40, 41, 42, 43, 44, 45, 46, 47, 48, 2, 49, 50, 51, 52, 53, 72, 73, 74, 75, 76, 77, 78, 79, 80, 81, 82, 83, 84, 85, 86, 87, 88, 89, 90, 91, 92] (by decide +kernel) (by decide +kernel)
set_option maxRecDepth 20000 in
theorem gX4_collect_X4_makePlan : GoodIn wsX4_collect (wsV RX4 123 RX4 yX4_makePlan wsX4_makePlan) := goodIn_app (goodIn_of _ (by decide +kernel)) ggX4_collect_X4_makePlan
set_option maxRecDepth 20000 in
theorem ggX4_collect_X4_tour : GoodIn wsX4_collect wsX4_tour := goodIn_r _ [57, 4, 26, 25, 58, 59, 60, 41, 42, 43, 44, 61, 49, 50, 51, 7, 52, 53, 62, 63, 64, 65, 66, 67, 27, 28, 29, 68, 69, 70, 71, 3, 40, 39, 72, 73, 74, 75, 76, 77, 78, 79, 80, 81, 82, 83, 84, 85, 86, 87, 88, 89, 90, 91, 92] (by decide +kernel) (by decide +kernel)
set_option maxRecDepth 20000 in
theorem gX4_collect_X4_tour : GoodIn wsX4_collect (wsV RX4 138 RX4 yX4_tour wsX4_tour) := goodIn_app (goodIn_of _ (by decide +kernel)) ggX4_collect_X4_tour
theorem dX4_collect_0 : decode cX4_collect 0 = .ok (.aload_n 0, 1) := by decide +kernel
theorem dX4_collect_1 : decode cX4_collect 1 = .ok (.iconst 0, 1) := by decide +kernel
theorem dX4_collect_2 : decode cX4_collect 2 = .ok (.putfield 64, 3) := by decide +kernel
theorem dX4_collect_5 : decode cX4_collect 5 = .ok (.iload_n 1, 1) := by decide +kernel
theorem dX4_collect_6 : decode cX4_collect 6 = .ok (.invokestatic 86, 3) := by decide +kernel
theorem dX4_collect_9 : decode cX4_collect 9 = .ok (.ifCond .ne 9, 3) := by decide +kernel
theorem dX4_collect_12 : decode cX4_collect 12 = .ok (.aload_n 0, 1) := by decide +kernel
theorem dX4_collect_13 : decode cX4_collect 13 = .ok (.iconst 1, 1) := by decide +kernel
theorem dX4_collect_14 : decode cX4_collect 14 = .ok (.invokevirtual 74, 3) := by decide +kernel
theorem dX4_collect_17 : decode cX4_collect 17 = .ok (.ireturn, 1) := by decide +kernel
theorem dX4_collect_18 : decode cX4_collect 18 = .ok (.iload_n 2, 1) := by decide +kernel
theorem dX4_collect_19 : decode cX4_collect 19 = .ok (.invokestatic 135, 3) := by decide +kernel
theorem dX4_collect_22 : decode cX4_collect 22 = .ok (.ifCond .ne 9, 3) := by decide +kernel
theorem dX4_collect_25 : decode cX4_collect 25 = .ok (.aload_n 0, 1) := by decide +kernel
theorem dX4_collect_26 : decode cX4_collect 26 = .ok (.iconst 2, 1) := by decide +kernel
theorem dX4_collect_27 : decode cX4_collect 27 = .ok (.invokevirtual 74, 3) := by decide +kernel
theorem dX4_collect_30 : decode cX4_collect 30 = .ok (.ireturn, 1) := by decide +kernel
theorem dX4_collect_31 : decode cX4_collect 31 = .ok (.aload_n 0, 1) := by decide +kernel
theorem dX4_collect_32 : decode cX4_collect 32 = .ok (.getfield 20, 3) := by decide +kernel
theorem dX4_collect_35 : decode cX4_collect 35 = .ok (.aload_n 0, 1) := by decide +kernel
theorem dX4_collect_36 : decode cX4_collect 36 = .ok (.getfield 93, 3) := by decide +kernel
theorem dX4_collect_39 : decode cX4_collect 39 = .ok (.baload, 1) := by decide +kernel
theorem dX4_collect_40 : decode cX4_collect 40 = .ok (.ifCond .eq 9, 3) := by decide +kernel
theorem dX4_collect_43 : decode cX4_collect 43 = .ok (.aload_n 0, 1) := by decide +kernel
theorem dX4_collect_44 : decode cX4_collect 44 = .ok (.iconst 3, 1) := by decide +kernel
theorem dX4_collect_45 : decode cX4_collect 45 = .ok (.invokevirtual 74, 3) := by decide +kernel
theorem dX4_collect_48 : decode cX4_collect 48 = .ok (.ireturn, 1) := by decide +kernel
theorem dX4_collect_49 : decode cX4_collect 49 = .ok (.aload_n 0, 1) := by decide +kernel
theorem dX4_collect_50 : decode cX4_collect 50 = .ok (.iload_n 1, 1) := by decide +kernel
theorem dX4_collect_51 : decode cX4_collect 51 = .ok (.invokevirtual 123, 3) := by decide +kernel
theorem dX4_collect_54 : decode cX4_collect 54 = .ok (.aload_n 0, 1) := by decide +kernel
theorem dX4_collect_55 : decode cX4_collect 55 = .ok (.getfield 117, 3) := by decide +kernel
theorem dX4_collect_58 : decode cX4_collect 58 = .ok (.ifCond .ne 7, 3) := by decide +kernel
theorem dX4_collect_61 : decode cX4_collect 61 = .ok (.iconst 0, 1) := by decide +kernel
theorem dX4_collect_62 : decode cX4_collect 62 = .ok (.goto 10, 3) := by decide +kernel
theorem dX4_collect_65 : decode cX4_collect 65 = .ok (.aload_n 0, 1) := by decide +kernel
theorem dX4_collect_66 : decode cX4_collect 66 = .ok (.iload_n 1, 1) := by decide +kernel
theorem dX4_collect_67 : decode cX4_collect 67 = .ok (.iload_n 2, 1) := by decide +kernel
theorem dX4_collect_68 : decode cX4_collect 68 = .ok (.iconst 1, 1) := by decide +kernel
theorem dX4_collect_69 : decode cX4_collect 69 = .ok (.invokevirtual 138, 3) := by decide +kernel
theorem dX4_collect_72 : decode cX4_collect 72 = .ok (.ireturn, 1) := by decide +kernel
set_option maxRecDepth 20000 in
theorem ggX4_fetch_X4_isBin : GoodIn wsX4_fetch wsX4_isBin := goodIn_r _ [11, 12, 13, 14, 10, 15, 56, 57, 58, 59, 60, 61, 62, 63, 64, 65, 66, 67, 68, 69, 70, 71, 72, 73, 74, 75, 76] (by decide +kernel) (by decide +kernel)
set_option maxRecDepth 20000 in
theorem gX4_fetch_X4_isBin : GoodIn wsX4_fetch (wsV RX4 105 RX4 yX4_isBin wsX4_isBin) := goodIn_app (goodIn_of _ (by decide +kernel)) ggX4_fetch_X4_isBin
set_option maxRecDepth 20000 in
theorem ggX4_fetch_X4_fail : GoodIn wsX4_fetch wsX4_fail := goodIn_r _ [19, 1, 56, 57, 58, 59, 60, 61, 62, 63, 64, 65, 66, 67, 68, 69, 70, 71, 72, 73, 74, 75, 76] (by decide +kernel) (by decide +kernel)
set_option maxRecDepth 20000 in
theorem gX4_fetch_X4_fail : GoodIn wsX4_fetch (wsV RX4 74 RX4 yX4_fail wsX4_fail) := goodIn_app (goodIn_of _ (by decide +kernel)) ggX4_fetch_X4_fail
set_option maxRecDepth 20000 in
theorem ggX4_fetch_X4_isCapacity : GoodIn wsX4_fetch wsX4_isCapacity := goodIn_r _ [22, 13, 14, 10, 15] (by decide +kernel) (by decide +kernel)
set_option maxRecDepth 20000 in
theorem gX4_fetch_X4_isCapacity : GoodIn wsX4_fetch (va_wsS RX4 135 yX4_isCapacity wsX4_isCapacity) := goodIn_app (goodIn_of _ (by decide +kernel)) ggX4_fetch_X4_isCapacity
set_option maxRecDepth 20000 in
theorem ggX4_fetch_X4_tour : GoodIn wsX4_fetch wsX4_tour := goodIn_r _ [26, 4, 5, 27, 28, 29, 30, 31, 32, 33, 34, 35, 36, 37, 38, 10, 39, 40, 41, 42, 43, 44, 45, 46, 47, 48, 49, 50, 51, 52, 53, 3, 54, 55, 56, 57, 58, 59, 60, 61, 62, 63, 64, 65, 66, 67, 68, 69, 70, 71, 72, 73, 74, 75, 76] (by decide +kernel) (by decide +kernel)
set_option maxRecDepth 20000 in
theorem gX4_fetch_X4_tour : GoodIn wsX4_fetch (wsV RX4 138 RX4 yX4_tour wsX4_tour) := goodIn_app (goodIn_of _ (by decide +kernel)) ggX4_fetch_X4_tour
theorem dX4_fetch_0 : decode cX4_fetch 0 = .ok (.aload_n 0, 1) := by decide +kernel
theorem dX4_fetch_1 : decode cX4_fetch 1 = .ok (.iconst 0, 1) := by decide +kernel
theorem dX4_fetch_2 : decode cX4_fetch 2 = .ok (.putfield 64, 3) := by decide +kernel
theorem dX4_fetch_5 : decode cX4_fetch 5 = .ok (.aload_n 0, 1) := by decide +kernel
theorem dX4_fetch_6 : decode cX4_fetch 6 = .ok (.iload_n 1, 1) := by decide +kernel
theorem dX4_fetch_7 : decode cX4_fetch 7 = .ok (.invokevirtual 105, 3) := by decide +kernel
theorem dX4_fetch_10 : decode cX4_fetch 10 = .ok (.ifCond .ne 9, 3) := by decide +kernel
theorem dX4_fetch_13 : decode cX4_fetch 13 = .ok (.aload_n 0, 1) := by decide +kernel
theorem dX4_fetch_14 : decode cX4_fetch 14 = .ok (.iconst 1, 1) := by decide +kernel
theorem dX4_fetch_15 : decode cX4_fetch 15 = .ok (.invokevirtual 74, 3) := by decide +kernel
theorem dX4_fetch_18 : decode cX4_fetch 18 = .ok (.ireturn, 1) := by decide +kernel
theorem dX4_fetch_19 : decode cX4_fetch 19 = .ok (.iload_n 2, 1) := by decide +kernel
theorem dX4_fetch_20 : decode cX4_fetch 20 = .ok (.invokestatic 135, 3) := by decide +kernel
theorem dX4_fetch_23 : decode cX4_fetch 23 = .ok (.ifCond .ne 9, 3) := by decide +kernel
theorem dX4_fetch_26 : decode cX4_fetch 26 = .ok (.aload_n 0, 1) := by decide +kernel
theorem dX4_fetch_27 : decode cX4_fetch 27 = .ok (.iconst 2, 1) := by decide +kernel
theorem dX4_fetch_28 : decode cX4_fetch 28 = .ok (.invokevirtual 74, 3) := by decide +kernel
theorem dX4_fetch_31 : decode cX4_fetch 31 = .ok (.ireturn, 1) := by decide +kernel
theorem dX4_fetch_32 : decode cX4_fetch 32 = .ok (.aload_n 0, 1) := by decide +kernel
theorem dX4_fetch_33 : decode cX4_fetch 33 = .ok (.getfield 20, 3) := by decide +kernel
theorem dX4_fetch_36 : decode cX4_fetch 36 = .ok (.aload_n 0, 1) := by decide +kernel
theorem dX4_fetch_37 : decode cX4_fetch 37 = .ok (.getfield 93, 3) := by decide +kernel
theorem dX4_fetch_40 : decode cX4_fetch 40 = .ok (.baload, 1) := by decide +kernel
theorem dX4_fetch_41 : decode cX4_fetch 41 = .ok (.ifCond .eq 9, 3) := by decide +kernel
theorem dX4_fetch_44 : decode cX4_fetch 44 = .ok (.aload_n 0, 1) := by decide +kernel
theorem dX4_fetch_45 : decode cX4_fetch 45 = .ok (.iconst 3, 1) := by decide +kernel
theorem dX4_fetch_46 : decode cX4_fetch 46 = .ok (.invokevirtual 74, 3) := by decide +kernel
theorem dX4_fetch_49 : decode cX4_fetch 49 = .ok (.ireturn, 1) := by decide +kernel
theorem dX4_fetch_50 : decode cX4_fetch 50 = .ok (.aload_n 0, 1) := by decide +kernel
theorem dX4_fetch_51 : decode cX4_fetch 51 = .ok (.iconst 1, 1) := by decide +kernel
theorem dX4_fetch_52 : decode cX4_fetch 52 = .ok (.putfield 117, 3) := by decide +kernel
theorem dX4_fetch_55 : decode cX4_fetch 55 = .ok (.aload_n 0, 1) := by decide +kernel
theorem dX4_fetch_56 : decode cX4_fetch 56 = .ok (.getfield 61, 3) := by decide +kernel
theorem dX4_fetch_59 : decode cX4_fetch 59 = .ok (.iconst 0, 1) := by decide +kernel
theorem dX4_fetch_60 : decode cX4_fetch 60 = .ok (.iload_n 1, 1) := by decide +kernel
theorem dX4_fetch_61 : decode cX4_fetch 61 = .ok (.iastore, 1) := by decide +kernel
theorem dX4_fetch_62 : decode cX4_fetch 62 = .ok (.aload_n 0, 1) := by decide +kernel
theorem dX4_fetch_63 : decode cX4_fetch 63 = .ok (.aload_n 0, 1) := by decide +kernel
theorem dX4_fetch_64 : decode cX4_fetch 64 = .ok (.getfield 27, 3) := by decide +kernel
theorem dX4_fetch_67 : decode cX4_fetch 67 = .ok (.iload_n 1, 1) := by decide +kernel
theorem dX4_fetch_68 : decode cX4_fetch 68 = .ok (.iaload, 1) := by decide +kernel
theorem dX4_fetch_69 : decode cX4_fetch 69 = .ok (.iload_n 2, 1) := by decide +kernel
theorem dX4_fetch_70 : decode cX4_fetch 70 = .ok (.iconst 1, 1) := by decide +kernel
theorem dX4_fetch_71 : decode cX4_fetch 71 = .ok (.invokevirtual 138, 3) := by decide +kernel
theorem dX4_fetch_74 : decode cX4_fetch 74 = .ok (.ireturn, 1) := by decide +kernel
set_option maxRecDepth 20000 in
theorem ggX4_wouldTake_X4_isKind : GoodIn wsX4_wouldTake wsX4_isKind := goodIn_r _ [6, 7, 8, 5, 9] (by decide +kernel) (by decide +kernel)
set_option maxRecDepth 20000 in
theorem gX4_wouldTake_X4_isKind : GoodIn wsX4_wouldTake (va_wsS RX4 86 yX4_isKind wsX4_isKind) := goodIn_app (goodIn_of _ (by decide +kernel)) ggX4_wouldTake_X4_isKind
set_option maxRecDepth 20000 in
theorem ggX4_wouldTake_X4_fail : GoodIn wsX4_wouldTake wsX4_fail := goodIn_r _ [13, 1, 72, 73, 74, 75, 76, 77, 78, 79, 80, 81, 82, 83, 84, 85, 86, 87, 88, 89, 90, 91, 92] (by decide +kernel) (by decide +kernel)
set_option maxRecDepth 20000 in
theorem gX4_wouldTake_X4_fail : GoodIn wsX4_wouldTake (wsV RX4 74 RX4 yX4_fail wsX4_fail) := goodIn_app (goodIn_of _ (by decide +kernel)) ggX4_wouldTake_X4_fail
set_option maxRecDepth 20000 in
theorem ggX4_wouldTake_X4_isCapacity : GoodIn wsX4_wouldTake wsX4_isCapacity := goodIn_r _ [16, 7, 8, 5, 9] (by decide +kernel) (by decide +kernel)
set_option maxRecDepth 20000 in
theorem gX4_wouldTake_X4_isCapacity : GoodIn wsX4_wouldTake (va_wsS RX4 135 yX4_isCapacity wsX4_isCapacity) := goodIn_app (goodIn_of _ (by decide +kernel)) ggX4_wouldTake_X4_isCapacity
set_option maxRecDepth 20000 in
theorem ggX4_wouldTake_X4_makePlan : GoodIn wsX4_wouldTake wsX4_makePlan := goodIn_r _ [20, 2, 21, 22, 23, 24, 25, 26, 5, 27, 28, 29, 30, 31, 32, 33, 34, 35, 36, 37, 38, 39, 40, 41, 42, 43, 44, 45, 46, 47, 48, 49, 50, 51, 52, 53, 72, 73, 74, 75, 76, 77, 78, 79, 80, 81, 82, 83, 84, 85, 86, 87, 88, 89, 90, 91, 92] (by decide +kernel) (by decide +kernel)
set_option maxRecDepth 20000 in
theorem gX4_wouldTake_X4_makePlan : GoodIn wsX4_wouldTake (wsV RX4 123 RX4 yX4_makePlan wsX4_makePlan) := goodIn_app (goodIn_of _ (by decide +kernel)) ggX4_wouldTake_X4_makePlan
set_option maxRecDepth 20000 in
theorem ggX4_wouldTake_X4_tour : GoodIn wsX4_wouldTake wsX4_tour := goodIn_r _ [57, 2, 24, 23, 58, 59, 60, 40, 41, 42, 43, 61, 49, 50, 51, 5, 52, 53, 62, 63, 64, 65, 66, 67, 25, 26, 27, 68, 69, 70, 71, 32, 39, 38, 72, 73, 74, 75, 76, 77, 78, 79, 80, 81, 82, 83, 84, 85, 86, 87, 88, 89, 90, 91, 92] (by decide +kernel) (by decide +kernel)
set_option maxRecDepth 20000 in
theorem gX4_wouldTake_X4_tour : GoodIn wsX4_wouldTake (wsV RX4 138 RX4 yX4_tour wsX4_tour) := goodIn_app (goodIn_of _ (by decide +kernel)) ggX4_wouldTake_X4_tour
theorem dX4_wouldTake_0 : decode cX4_wouldTake 0 = .ok (.aload_n 0, 1) := by decide +kernel
theorem dX4_wouldTake_1 : decode cX4_wouldTake 1 = .ok (.iconst 0, 1) := by decide +kernel
theorem dX4_wouldTake_2 : decode cX4_wouldTake 2 = .ok (.putfield 64, 3) := by decide +kernel
theorem dX4_wouldTake_5 : decode cX4_wouldTake 5 = .ok (.iload_n 1, 1) := by decide +kernel
theorem dX4_wouldTake_6 : decode cX4_wouldTake 6 = .ok (.invokestatic 86, 3) := by decide +kernel
theorem dX4_wouldTake_9 : decode cX4_wouldTake 9 = .ok (.ifCond .ne 9, 3) := by decide +kernel
theorem dX4_wouldTake_12 : decode cX4_wouldTake 12 = .ok (.aload_n 0, 1) := by decide +kernel
theorem dX4_wouldTake_13 : decode cX4_wouldTake 13 = .ok (.iconst 1, 1) := by decide +kernel
theorem dX4_wouldTake_14 : decode cX4_wouldTake 14 = .ok (.invokevirtual 74, 3) := by decide +kernel
theorem dX4_wouldTake_17 : decode cX4_wouldTake 17 = .ok (.ireturn, 1) := by decide +kernel
theorem dX4_wouldTake_18 : decode cX4_wouldTake 18 = .ok (.iload_n 2, 1) := by decide +kernel
theorem dX4_wouldTake_19 : decode cX4_wouldTake 19 = .ok (.invokestatic 135, 3) := by decide +kernel
theorem dX4_wouldTake_22 : decode cX4_wouldTake 22 = .ok (.ifCond .ne 9, 3) := by decide +kernel
theorem dX4_wouldTake_25 : decode cX4_wouldTake 25 = .ok (.aload_n 0, 1) := by decide +kernel
theorem dX4_wouldTake_26 : decode cX4_wouldTake 26 = .ok (.iconst 2, 1) := by decide +kernel
theorem dX4_wouldTake_27 : decode cX4_wouldTake 27 = .ok (.invokevirtual 74, 3) := by decide +kernel
theorem dX4_wouldTake_30 : decode cX4_wouldTake 30 = .ok (.ireturn, 1) := by decide +kernel
theorem dX4_wouldTake_31 : decode cX4_wouldTake 31 = .ok (.aload_n 0, 1) := by decide +kernel
theorem dX4_wouldTake_32 : decode cX4_wouldTake 32 = .ok (.iload_n 1, 1) := by decide +kernel
theorem dX4_wouldTake_33 : decode cX4_wouldTake 33 = .ok (.invokevirtual 123, 3) := by decide +kernel
theorem dX4_wouldTake_36 : decode cX4_wouldTake 36 = .ok (.aload_n 0, 1) := by decide +kernel
theorem dX4_wouldTake_37 : decode cX4_wouldTake 37 = .ok (.getfield 117, 3) := by decide +kernel
theorem dX4_wouldTake_40 : decode cX4_wouldTake 40 = .ok (.ifCond .ne 7, 3) := by decide +kernel
theorem dX4_wouldTake_43 : decode cX4_wouldTake 43 = .ok (.iconst 0, 1) := by decide +kernel
theorem dX4_wouldTake_44 : decode cX4_wouldTake 44 = .ok (.goto 10, 3) := by decide +kernel
theorem dX4_wouldTake_47 : decode cX4_wouldTake 47 = .ok (.aload_n 0, 1) := by decide +kernel
theorem dX4_wouldTake_48 : decode cX4_wouldTake 48 = .ok (.iload_n 1, 1) := by decide +kernel
theorem dX4_wouldTake_49 : decode cX4_wouldTake 49 = .ok (.iload_n 2, 1) := by decide +kernel
theorem dX4_wouldTake_50 : decode cX4_wouldTake 50 = .ok (.iconst 0, 1) := by decide +kernel
theorem dX4_wouldTake_51 : decode cX4_wouldTake 51 = .ok (.invokevirtual 138, 3) := by decide +kernel
theorem dX4_wouldTake_54 : decode cX4_wouldTake 54 = .ok (.ireturn, 1) := by decide +kernel
set_option maxRecDepth 20000 in
theorem ggX4_total_X4_isKind : GoodIn wsX4_total wsX4_isKind := goodIn_r _ [6, 7, 8, 5, 9] (by decide +kernel) (by decide +kernel)
set_option maxRecDepth 20000 in
theorem gX4_total_X4_isKind : GoodIn wsX4_total (va_wsS RX4 86 yX4_isKind wsX4_isKind) := goodIn_app (goodIn_of _ (by decide +kernel)) ggX4_total_X4_isKind
set_option maxRecDepth 20000 in
theorem ggX4_total_X4_isIn : GoodIn wsX4_total wsX4_isIn := goodIn_r _ [9] (by decide +kernel) (by decide +kernel)
set_option maxRecDepth 20000 in
theorem gX4_total_X4_isIn : GoodIn wsX4_total (va_wsS RX4 67 yX4_isIn wsX4_isIn) := goodIn_app (goodIn_of _ (by decide +kernel)) ggX4_total_X4_isIn
theorem dX4_total_0 : decode cX4_total 0 = .ok (.aload_n 0, 1) := by decide +kernel
theorem dX4_total_1 : decode cX4_total 1 = .ok (.iload_n 1, 1) := by decide +kernel
theorem dX4_total_2 : decode cX4_total 2 = .ok (.invokestatic 86, 3) := by decide +kernel
theorem dX4_total_5 : decode cX4_total 5 = .ok (.ifCond .eq 16, 3) := by decide +kernel
theorem dX4_total_8 : decode cX4_total 8 = .ok (.iload_n 2, 1) := by decide +kernel
theorem dX4_total_9 : decode cX4_total 9 = .ok (.iconst 0, 1) := by decide +kernel
theorem dX4_total_10 : decode cX4_total 10 = .ok (.iconst 3, 1) := by decide +kernel
theorem dX4_total_11 : decode cX4_total 11 = .ok (.invokestatic 67, 3) := by decide +kernel
theorem dX4_total_14 : decode cX4_total 14 = .ok (.ifCond .eq 7, 3) := by decide +kernel
theorem dX4_total_17 : decode cX4_total 17 = .ok (.iconst 0, 1) := by decide +kernel
theorem dX4_total_18 : decode cX4_total 18 = .ok (.goto 4, 3) := by decide +kernel
theorem dX4_total_21 : decode cX4_total 21 = .ok (.iconst 1, 1) := by decide +kernel
theorem dX4_total_22 : decode cX4_total 22 = .ok (.putfield 64, 3) := by decide +kernel
theorem dX4_total_25 : decode cX4_total 25 = .ok (.aload_n 0, 1) := by decide +kernel
theorem dX4_total_26 : decode cX4_total 26 = .ok (.getfield 64, 3) := by decide +kernel
theorem dX4_total_29 : decode cX4_total 29 = .ok (.ifCond .ne 16, 3) := by decide +kernel
theorem dX4_total_32 : decode cX4_total 32 = .ok (.aload_n 0, 1) := by decide +kernel
theorem dX4_total_33 : decode cX4_total 33 = .ok (.getfield 54, 3) := by decide +kernel
theorem dX4_total_36 : decode cX4_total 36 = .ok (.iconst 4, 1) := by decide +kernel
theorem dX4_total_37 : decode cX4_total 37 = .ok (.iload_n 1, 1) := by decide +kernel
theorem dX4_total_38 : decode cX4_total 38 = .ok (.imul, 1) := by decide +kernel
theorem dX4_total_39 : decode cX4_total 39 = .ok (.iload_n 2, 1) := by decide +kernel
theorem dX4_total_40 : decode cX4_total 40 = .ok (.iadd, 1) := by decide +kernel
theorem dX4_total_41 : decode cX4_total 41 = .ok (.laload, 1) := by decide +kernel
theorem dX4_total_42 : decode cX4_total 42 = .ok (.goto 4, 3) := by decide +kernel
theorem dX4_total_45 : decode cX4_total 45 = .ok (.lconst 0, 1) := by decide +kernel
theorem dX4_total_46 : decode cX4_total 46 = .ok (.lreturn, 1) := by decide +kernel
set_option maxRecDepth 20000 in
theorem ggX4_wasted_X4_isKind : GoodIn wsX4_wasted wsX4_isKind := goodIn_r _ [6, 7, 8, 5, 9] (by decide +kernel) (by decide +kernel)
set_option maxRecDepth 20000 in
theorem gX4_wasted_X4_isKind : GoodIn wsX4_wasted (va_wsS RX4 86 yX4_isKind wsX4_isKind) := goodIn_app (goodIn_of _ (by decide +kernel)) ggX4_wasted_X4_isKind
theorem dX4_wasted_0 : decode cX4_wasted 0 = .ok (.aload_n 0, 1) := by decide +kernel
theorem dX4_wasted_1 : decode cX4_wasted 1 = .ok (.iload_n 1, 1) := by decide +kernel
theorem dX4_wasted_2 : decode cX4_wasted 2 = .ok (.invokestatic 86, 3) := by decide +kernel
theorem dX4_wasted_5 : decode cX4_wasted 5 = .ok (.ifCond .eq 7, 3) := by decide +kernel
theorem dX4_wasted_8 : decode cX4_wasted 8 = .ok (.iconst 0, 1) := by decide +kernel
theorem dX4_wasted_9 : decode cX4_wasted 9 = .ok (.goto 4, 3) := by decide +kernel
theorem dX4_wasted_12 : decode cX4_wasted 12 = .ok (.iconst 1, 1) := by decide +kernel
theorem dX4_wasted_13 : decode cX4_wasted 13 = .ok (.putfield 64, 3) := by decide +kernel
theorem dX4_wasted_16 : decode cX4_wasted 16 = .ok (.aload_n 0, 1) := by decide +kernel
theorem dX4_wasted_17 : decode cX4_wasted 17 = .ok (.getfield 64, 3) := by decide +kernel
theorem dX4_wasted_20 : decode cX4_wasted 20 = .ok (.ifCond .ne 12, 3) := by decide +kernel
theorem dX4_wasted_23 : decode cX4_wasted 23 = .ok (.aload_n 0, 1) := by decide +kernel
theorem dX4_wasted_24 : decode cX4_wasted 24 = .ok (.getfield 58, 3) := by decide +kernel
theorem dX4_wasted_27 : decode cX4_wasted 27 = .ok (.iload_n 1, 1) := by decide +kernel
theorem dX4_wasted_28 : decode cX4_wasted 28 = .ok (.laload, 1) := by decide +kernel
theorem dX4_wasted_29 : decode cX4_wasted 29 = .ok (.goto 4, 3) := by decide +kernel
theorem dX4_wasted_32 : decode cX4_wasted 32 = .ok (.lconst 0, 1) := by decide +kernel
theorem dX4_wasted_33 : decode cX4_wasted 33 = .ok (.lreturn, 1) := by decide +kernel
set_option maxRecDepth 20000 in
theorem ggX4_error_X4_expectedOn : GoodIn wsX4_error wsX4_expectedOn := goodIn_r _ [14, 9, 15, 16, 17, 18, 7, 19, 20, 21, 22, 23, 24, 25, 26, 27, 28, 29, 30, 31, 32, 33, 34, 35, 36, 37, 38, 39, 40] (by decide +kernel) (by decide +kernel)
set_option maxRecDepth 20000 in
theorem gX4_error_X4_expectedOn : GoodIn wsX4_error (wsV RX4 114 RX4 yX4_expectedOn wsX4_expectedOn) := goodIn_app (goodIn_of _ (by decide +kernel)) ggX4_error_X4_expectedOn
theorem dX4_error_0 : decode cX4_error 0 = .ok (.aload_n 0, 1) := by decide +kernel
theorem dX4_error_1 : decode cX4_error 1 = .ok (.iconst 0, 1) := by decide +kernel
theorem dX4_error_2 : decode cX4_error 2 = .ok (.putfield 64, 3) := by decide +kernel
theorem dX4_error_5 : decode cX4_error 5 = .ok (.iconst 0, 1) := by decide +kernel
theorem dX4_error_6 : decode cX4_error 6 = .ok (.istore_n 1, 1) := by decide +kernel
theorem dX4_error_7 : decode cX4_error 7 = .ok (.iconst 0, 1) := by decide +kernel
theorem dX4_error_8 : decode cX4_error 8 = .ok (.istore_n 2, 1) := by decide +kernel
theorem dX4_error_9 : decode cX4_error 9 = .ok (.iconst 0, 1) := by decide +kernel
theorem dX4_error_10 : decode cX4_error 10 = .ok (.istore_n 3, 1) := by decide +kernel
theorem dX4_error_11 : decode cX4_error 11 = .ok (.iload_n 3, 1) := by decide +kernel
theorem dX4_error_12 : decode cX4_error 12 = .ok (.aload_n 0, 1) := by decide +kernel
theorem dX4_error_13 : decode cX4_error 13 = .ok (.getfield 71, 3) := by decide +kernel
theorem dX4_error_16 : decode cX4_error 16 = .ok (.if_icmp .ge 40, 3) := by decide +kernel
theorem dX4_error_19 : decode cX4_error 19 = .ok (.iload_n 1, 1) := by decide +kernel
theorem dX4_error_20 : decode cX4_error 20 = .ok (.aload_n 0, 1) := by decide +kernel
theorem dX4_error_21 : decode cX4_error 21 = .ok (.iload_n 3, 1) := by decide +kernel
theorem dX4_error_22 : decode cX4_error 22 = .ok (.aload_n 0, 1) := by decide +kernel
theorem dX4_error_23 : decode cX4_error 23 = .ok (.getfield 93, 3) := by decide +kernel
theorem dX4_error_26 : decode cX4_error 26 = .ok (.invokevirtual 114, 3) := by decide +kernel
theorem dX4_error_29 : decode cX4_error 29 = .ok (.aload_n 0, 1) := by decide +kernel
theorem dX4_error_30 : decode cX4_error 30 = .ok (.getfield 36, 3) := by decide +kernel
theorem dX4_error_33 : decode cX4_error 33 = .ok (.iload_n 3, 1) := by decide +kernel
theorem dX4_error_34 : decode cX4_error 34 = .ok (.iaload, 1) := by decide +kernel
theorem dX4_error_35 : decode cX4_error 35 = .ok (.isub, 1) := by decide +kernel
theorem dX4_error_36 : decode cX4_error 36 = .ok (.invokestatic 142, 3) := by decide +kernel
theorem dX4_error_39 : decode cX4_error 39 = .ok (.iadd, 1) := by decide +kernel
theorem dX4_error_40 : decode cX4_error 40 = .ok (.istore_n 1, 1) := by decide +kernel
theorem dX4_error_41 : decode cX4_error 41 = .ok (.iload_n 2, 1) := by decide +kernel
theorem dX4_error_42 : decode cX4_error 42 = .ok (.aload_n 0, 1) := by decide +kernel
theorem dX4_error_43 : decode cX4_error 43 = .ok (.getfield 30, 3) := by decide +kernel
theorem dX4_error_46 : decode cX4_error 46 = .ok (.iload_n 3, 1) := by decide +kernel
theorem dX4_error_47 : decode cX4_error 47 = .ok (.iaload, 1) := by decide +kernel
theorem dX4_error_48 : decode cX4_error 48 = .ok (.iadd, 1) := by decide +kernel
theorem dX4_error_49 : decode cX4_error 49 = .ok (.istore_n 2, 1) := by decide +kernel
theorem dX4_error_50 : decode cX4_error 50 = .ok (.iinc 3 1, 3) := by decide +kernel
theorem dX4_error_53 : decode cX4_error 53 = .ok (.goto (-42), 3) := by decide +kernel
theorem dX4_error_56 : decode cX4_error 56 = .ok (.aload_n 0, 1) := by decide +kernel
theorem dX4_error_57 : decode cX4_error 57 = .ok (.getfield 71, 3) := by decide +kernel
theorem dX4_error_60 : decode cX4_error 60 = .ok (.ifCond .ne 7, 3) := by decide +kernel
theorem dX4_error_63 : decode cX4_error 63 = .ok (.dconst 0, 1) := by decide +kernel
theorem dX4_error_64 : decode cX4_error 64 = .ok (.goto 8, 3) := by decide +kernel
theorem dX4_error_67 : decode cX4_error 67 = .ok (.iload_n 1, 1) := by decide +kernel
theorem dX4_error_68 : decode cX4_error 68 = .ok (.i2d, 1) := by decide +kernel
theorem dX4_error_69 : decode cX4_error 69 = .ok (.iload_n 2, 1) := by decide +kernel
theorem dX4_error_70 : decode cX4_error 70 = .ok (.i2d, 1) := by decide +kernel
theorem dX4_error_71 : decode cX4_error 71 = .ok (.ddiv, 1) := by decide +kernel
theorem dX4_error_72 : decode cX4_error 72 = .ok (.dreturn, 1) := by decide +kernel
set_option maxRecDepth 20000 in
theorem ggX4_digest_X4_drive : GoodIn wsX4_digest wsX4_drive := goodIn_r _ [14, 15, 28, 29, 30, 31, 32, 33, 34, 35, 36, 37, 38, 39, 40, 41, 42, 43, 44, 45, 46, 47, 48] (by decide +kernel) (by decide +kernel)
set_option maxRecDepth 20000 in
theorem gX4_digest_X4_drive : GoodIn wsX4_digest (wsV RX4 82 RX4 yX4_drive wsX4_drive) := goodIn_app (goodIn_of _ (by decide +kernel)) ggX4_digest_X4_drive
set_option maxRecDepth 20000 in
theorem ggX4_digest_X4_told : GoodIn wsX4_digest wsX4_told := goodIn_r _ [19, 20, 21, 22, 23, 24, 25, 26, 27, 28, 29, 30, 31, 32, 33, 34, 35, 36, 37, 38, 39, 40, 41, 42, 43, 44, 45, 46, 47, 48] (by decide +kernel) (by decide +kernel)
set_option maxRecDepth 20000 in
theorem gX4_digest_X4_told : GoodIn wsX4_digest (wsV RX4 108 RX4 yX4_told wsX4_told) := goodIn_app (goodIn_of _ (by decide +kernel)) ggX4_digest_X4_told
theorem dX4_digest_0 : decode cX4_digest 0 = .ok (.aload_n 0, 1) := by decide +kernel
theorem dX4_digest_1 : decode cX4_digest 1 = .ok (.iconst 0, 1) := by decide +kernel
theorem dX4_digest_2 : decode cX4_digest 2 = .ok (.putfield 64, 3) := by decide +kernel
theorem dX4_digest_5 : decode cX4_digest 5 = .ok (.ldc2_w 145, 3) := by decide +kernel
theorem dX4_digest_8 : decode cX4_digest 8 = .ok (.aload_n 0, 1) := by decide +kernel
theorem dX4_digest_9 : decode cX4_digest 9 = .ok (.getfield 93, 3) := by decide +kernel
theorem dX4_digest_12 : decode cX4_digest 12 = .ok (.i2l, 1) := by decide +kernel
theorem dX4_digest_13 : decode cX4_digest 13 = .ok (.ladd, 1) := by decide +kernel
theorem dX4_digest_14 : decode cX4_digest 14 = .ok (.ldc2_w 147, 3) := by decide +kernel
theorem dX4_digest_17 : decode cX4_digest 17 = .ok (.lmul, 1) := by decide +kernel
theorem dX4_digest_18 : decode cX4_digest 18 = .ok (.aload_n 0, 1) := by decide +kernel
theorem dX4_digest_19 : decode cX4_digest 19 = .ok (.getfield 7, 3) := by decide +kernel
theorem dX4_digest_22 : decode cX4_digest 22 = .ok (.i2l, 1) := by decide +kernel
theorem dX4_digest_23 : decode cX4_digest 23 = .ok (.ladd, 1) := by decide +kernel
theorem dX4_digest_24 : decode cX4_digest 24 = .ok (.lstore_n 1, 1) := by decide +kernel
theorem dX4_digest_25 : decode cX4_digest 25 = .ok (.iconst 0, 1) := by decide +kernel
theorem dX4_digest_26 : decode cX4_digest 26 = .ok (.istore_n 3, 1) := by decide +kernel
theorem dX4_digest_27 : decode cX4_digest 27 = .ok (.iload_n 3, 1) := by decide +kernel
theorem dX4_digest_28 : decode cX4_digest 28 = .ok (.aload_n 0, 1) := by decide +kernel
theorem dX4_digest_29 : decode cX4_digest 29 = .ok (.getfield 7, 3) := by decide +kernel
theorem dX4_digest_32 : decode cX4_digest 32 = .ok (.if_icmp .ge 44, 3) := by decide +kernel
theorem dX4_digest_35 : decode cX4_digest 35 = .ok (.iload_n 3, 1) := by decide +kernel
theorem dX4_digest_36 : decode cX4_digest 36 = .ok (.iconst 1, 1) := by decide +kernel
theorem dX4_digest_37 : decode cX4_digest 37 = .ok (.iadd, 1) := by decide +kernel
theorem dX4_digest_38 : decode cX4_digest 38 = .ok (.istore 4, 2) := by decide +kernel
theorem dX4_digest_40 : decode cX4_digest 40 = .ok (.iload 4, 2) := by decide +kernel
theorem dX4_digest_42 : decode cX4_digest 42 = .ok (.aload_n 0, 1) := by decide +kernel
theorem dX4_digest_43 : decode cX4_digest 43 = .ok (.getfield 7, 3) := by decide +kernel
theorem dX4_digest_46 : decode cX4_digest 46 = .ok (.if_icmp .ge 24, 3) := by decide +kernel
theorem dX4_digest_49 : decode cX4_digest 49 = .ok (.lload_n 1, 1) := by decide +kernel
theorem dX4_digest_50 : decode cX4_digest 50 = .ok (.ldc2_w 147, 3) := by decide +kernel
theorem dX4_digest_53 : decode cX4_digest 53 = .ok (.lmul, 1) := by decide +kernel
theorem dX4_digest_54 : decode cX4_digest 54 = .ok (.aload_n 0, 1) := by decide +kernel
theorem dX4_digest_55 : decode cX4_digest 55 = .ok (.iload_n 3, 1) := by decide +kernel
theorem dX4_digest_56 : decode cX4_digest 56 = .ok (.iload 4, 2) := by decide +kernel
theorem dX4_digest_58 : decode cX4_digest 58 = .ok (.invokevirtual 82, 3) := by decide +kernel
theorem dX4_digest_61 : decode cX4_digest 61 = .ok (.i2l, 1) := by decide +kernel
theorem dX4_digest_62 : decode cX4_digest 62 = .ok (.ladd, 1) := by decide +kernel
theorem dX4_digest_63 : decode cX4_digest 63 = .ok (.lstore_n 1, 1) := by decide +kernel
theorem dX4_digest_64 : decode cX4_digest 64 = .ok (.iinc 4 1, 3) := by decide +kernel
theorem dX4_digest_67 : decode cX4_digest 67 = .ok (.goto (-27), 3) := by decide +kernel
theorem dX4_digest_70 : decode cX4_digest 70 = .ok (.iinc 3 1, 3) := by decide +kernel
theorem dX4_digest_73 : decode cX4_digest 73 = .ok (.goto (-46), 3) := by decide +kernel
theorem dX4_digest_76 : decode cX4_digest 76 = .ok (.iconst 0, 1) := by decide +kernel
theorem dX4_digest_77 : decode cX4_digest 77 = .ok (.istore_n 3, 1) := by decide +kernel
theorem dX4_digest_78 : decode cX4_digest 78 = .ok (.iload_n 3, 1) := by decide +kernel
theorem dX4_digest_79 : decode cX4_digest 79 = .ok (.aload_n 0, 1) := by decide +kernel
theorem dX4_digest_80 : decode cX4_digest 80 = .ok (.getfield 7, 3) := by decide +kernel
theorem dX4_digest_83 : decode cX4_digest 83 = .ok (.if_icmp .ge 23, 3) := by decide +kernel
theorem dX4_digest_86 : decode cX4_digest 86 = .ok (.lload_n 1, 1) := by decide +kernel
theorem dX4_digest_87 : decode cX4_digest 87 = .ok (.ldc2_w 147, 3) := by decide +kernel
theorem dX4_digest_90 : decode cX4_digest 90 = .ok (.lmul, 1) := by decide +kernel
theorem dX4_digest_91 : decode cX4_digest 91 = .ok (.aload_n 0, 1) := by decide +kernel
theorem dX4_digest_92 : decode cX4_digest 92 = .ok (.getfield 17, 3) := by decide +kernel
theorem dX4_digest_95 : decode cX4_digest 95 = .ok (.iload_n 3, 1) := by decide +kernel
theorem dX4_digest_96 : decode cX4_digest 96 = .ok (.iaload, 1) := by decide +kernel
theorem dX4_digest_97 : decode cX4_digest 97 = .ok (.i2l, 1) := by decide +kernel
theorem dX4_digest_98 : decode cX4_digest 98 = .ok (.ladd, 1) := by decide +kernel
theorem dX4_digest_99 : decode cX4_digest 99 = .ok (.lstore_n 1, 1) := by decide +kernel
theorem dX4_digest_100 : decode cX4_digest 100 = .ok (.iinc 3 1, 3) := by decide +kernel
theorem dX4_digest_103 : decode cX4_digest 103 = .ok (.goto (-25), 3) := by decide +kernel
theorem dX4_digest_106 : decode cX4_digest 106 = .ok (.lload_n 1, 1) := by decide +kernel
theorem dX4_digest_107 : decode cX4_digest 107 = .ok (.ldc2_w 147, 3) := by decide +kernel
theorem dX4_digest_110 : decode cX4_digest 110 = .ok (.lmul, 1) := by decide +kernel
theorem dX4_digest_111 : decode cX4_digest 111 = .ok (.aload_n 0, 1) := by decide +kernel
theorem dX4_digest_112 : decode cX4_digest 112 = .ok (.getfield 71, 3) := by decide +kernel
theorem dX4_digest_115 : decode cX4_digest 115 = .ok (.i2l, 1) := by decide +kernel
theorem dX4_digest_116 : decode cX4_digest 116 = .ok (.ladd, 1) := by decide +kernel
theorem dX4_digest_117 : decode cX4_digest 117 = .ok (.lstore_n 1, 1) := by decide +kernel
theorem dX4_digest_118 : decode cX4_digest 118 = .ok (.iconst 0, 1) := by decide +kernel
theorem dX4_digest_119 : decode cX4_digest 119 = .ok (.istore_n 3, 1) := by decide +kernel
theorem dX4_digest_120 : decode cX4_digest 120 = .ok (.iload_n 3, 1) := by decide +kernel
theorem dX4_digest_121 : decode cX4_digest 121 = .ok (.aload_n 0, 1) := by decide +kernel
theorem dX4_digest_122 : decode cX4_digest 122 = .ok (.getfield 71, 3) := by decide +kernel
theorem dX4_digest_125 : decode cX4_digest 125 = .ok (.if_icmp .ge 40, 3) := by decide +kernel
theorem dX4_digest_128 : decode cX4_digest 128 = .ok (.iconst 0, 1) := by decide +kernel
theorem dX4_digest_129 : decode cX4_digest 129 = .ok (.istore 4, 2) := by decide +kernel
theorem dX4_digest_131 : decode cX4_digest 131 = .ok (.iload 4, 2) := by decide +kernel
theorem dX4_digest_133 : decode cX4_digest 133 = .ok (.bipush 8, 2) := by decide +kernel
theorem dX4_digest_135 : decode cX4_digest 135 = .ok (.if_icmp .ge 24, 3) := by decide +kernel
theorem dX4_digest_138 : decode cX4_digest 138 = .ok (.lload_n 1, 1) := by decide +kernel
theorem dX4_digest_139 : decode cX4_digest 139 = .ok (.ldc2_w 147, 3) := by decide +kernel
theorem dX4_digest_142 : decode cX4_digest 142 = .ok (.lmul, 1) := by decide +kernel
theorem dX4_digest_143 : decode cX4_digest 143 = .ok (.aload_n 0, 1) := by decide +kernel
theorem dX4_digest_144 : decode cX4_digest 144 = .ok (.iload_n 3, 1) := by decide +kernel
theorem dX4_digest_145 : decode cX4_digest 145 = .ok (.iload 4, 2) := by decide +kernel
theorem dX4_digest_147 : decode cX4_digest 147 = .ok (.invokevirtual 108, 3) := by decide +kernel
theorem dX4_digest_150 : decode cX4_digest 150 = .ok (.i2l, 1) := by decide +kernel
theorem dX4_digest_151 : decode cX4_digest 151 = .ok (.ladd, 1) := by decide +kernel
theorem dX4_digest_152 : decode cX4_digest 152 = .ok (.lstore_n 1, 1) := by decide +kernel
theorem dX4_digest_153 : decode cX4_digest 153 = .ok (.iinc 4 1, 3) := by decide +kernel
theorem dX4_digest_156 : decode cX4_digest 156 = .ok (.goto (-25), 3) := by decide +kernel
theorem dX4_digest_159 : decode cX4_digest 159 = .ok (.iinc 3 1, 3) := by decide +kernel
theorem dX4_digest_162 : decode cX4_digest 162 = .ok (.goto (-42), 3) := by decide +kernel
theorem dX4_digest_165 : decode cX4_digest 165 = .ok (.iconst 0, 1) := by decide +kernel
theorem dX4_digest_166 : decode cX4_digest 166 = .ok (.istore_n 3, 1) := by decide +kernel
theorem dX4_digest_167 : decode cX4_digest 167 = .ok (.iload_n 3, 1) := by decide +kernel
theorem dX4_digest_168 : decode cX4_digest 168 = .ok (.iconst 3, 1) := by decide +kernel
theorem dX4_digest_169 : decode cX4_digest 169 = .ok (.if_icmp .ge 55, 3) := by decide +kernel
theorem dX4_digest_172 : decode cX4_digest 172 = .ok (.iconst 0, 1) := by decide +kernel
theorem dX4_digest_173 : decode cX4_digest 173 = .ok (.istore 4, 2) := by decide +kernel
theorem dX4_digest_175 : decode cX4_digest 175 = .ok (.iload 4, 2) := by decide +kernel
theorem dX4_digest_177 : decode cX4_digest 177 = .ok (.iconst 4, 1) := by decide +kernel
theorem dX4_digest_178 : decode cX4_digest 178 = .ok (.if_icmp .ge 27, 3) := by decide +kernel
theorem dX4_digest_181 : decode cX4_digest 181 = .ok (.lload_n 1, 1) := by decide +kernel
theorem dX4_digest_182 : decode cX4_digest 182 = .ok (.ldc2_w 147, 3) := by decide +kernel
theorem dX4_digest_185 : decode cX4_digest 185 = .ok (.lmul, 1) := by decide +kernel
theorem dX4_digest_186 : decode cX4_digest 186 = .ok (.aload_n 0, 1) := by decide +kernel
theorem dX4_digest_187 : decode cX4_digest 187 = .ok (.getfield 54, 3) := by decide +kernel
theorem dX4_digest_190 : decode cX4_digest 190 = .ok (.iconst 4, 1) := by decide +kernel
theorem dX4_digest_191 : decode cX4_digest 191 = .ok (.iload_n 3, 1) := by decide +kernel
theorem dX4_digest_192 : decode cX4_digest 192 = .ok (.imul, 1) := by decide +kernel
theorem dX4_digest_193 : decode cX4_digest 193 = .ok (.iload 4, 2) := by decide +kernel
theorem dX4_digest_195 : decode cX4_digest 195 = .ok (.iadd, 1) := by decide +kernel
theorem dX4_digest_196 : decode cX4_digest 196 = .ok (.laload, 1) := by decide +kernel
theorem dX4_digest_197 : decode cX4_digest 197 = .ok (.ladd, 1) := by decide +kernel
theorem dX4_digest_198 : decode cX4_digest 198 = .ok (.lstore_n 1, 1) := by decide +kernel
theorem dX4_digest_199 : decode cX4_digest 199 = .ok (.iinc 4 1, 3) := by decide +kernel
theorem dX4_digest_202 : decode cX4_digest 202 = .ok (.goto (-27), 3) := by decide +kernel
theorem dX4_digest_205 : decode cX4_digest 205 = .ok (.lload_n 1, 1) := by decide +kernel
theorem dX4_digest_206 : decode cX4_digest 206 = .ok (.ldc2_w 147, 3) := by decide +kernel
theorem dX4_digest_209 : decode cX4_digest 209 = .ok (.lmul, 1) := by decide +kernel
theorem dX4_digest_210 : decode cX4_digest 210 = .ok (.aload_n 0, 1) := by decide +kernel
theorem dX4_digest_211 : decode cX4_digest 211 = .ok (.getfield 58, 3) := by decide +kernel
theorem dX4_digest_214 : decode cX4_digest 214 = .ok (.iload_n 3, 1) := by decide +kernel
theorem dX4_digest_215 : decode cX4_digest 215 = .ok (.laload, 1) := by decide +kernel
theorem dX4_digest_216 : decode cX4_digest 216 = .ok (.ladd, 1) := by decide +kernel
theorem dX4_digest_217 : decode cX4_digest 217 = .ok (.lstore_n 1, 1) := by decide +kernel
theorem dX4_digest_218 : decode cX4_digest 218 = .ok (.iinc 3 1, 3) := by decide +kernel
theorem dX4_digest_221 : decode cX4_digest 221 = .ok (.goto (-54), 3) := by decide +kernel
theorem dX4_digest_224 : decode cX4_digest 224 = .ok (.lload_n 1, 1) := by decide +kernel
theorem dX4_digest_225 : decode cX4_digest 225 = .ok (.lreturn, 1) := by decide +kernel
theorem dJ9_abs_0f7a4_0 : decode cJ9_abs_0f7a4 0 = .ok (.iload_n 0, 1) := by decide +kernel
theorem dJ9_abs_0f7a4_1 : decode cJ9_abs_0f7a4 1 = .ok (.ifCond .ge 8, 3) := by decide +kernel
theorem dJ9_abs_0f7a4_4 : decode cJ9_abs_0f7a4 4 = .ok (.iload_n 0, 1) := by decide +kernel
theorem dJ9_abs_0f7a4_5 : decode cJ9_abs_0f7a4 5 = .ok (.ineg, 1) := by decide +kernel
theorem dJ9_abs_0f7a4_6 : decode cJ9_abs_0f7a4 6 = .ok (.goto 4, 3) := by decide +kernel
theorem dJ9_abs_0f7a4_9 : decode cJ9_abs_0f7a4 9 = .ok (.iload_n 0, 1) := by decide +kernel
theorem dJ9_abs_0f7a4_10 : decode cJ9_abs_0f7a4 10 = .ok (.ireturn, 1) := by decide +kernel
theorem dJ9_max_7cf53_0 : decode cJ9_max_7cf53 0 = .ok (.iload_n 0, 1) := by decide +kernel
theorem dJ9_max_7cf53_1 : decode cJ9_max_7cf53 1 = .ok (.iload_n 1, 1) := by decide +kernel
theorem dJ9_max_7cf53_2 : decode cJ9_max_7cf53 2 = .ok (.if_icmp .lt 7, 3) := by decide +kernel
theorem dJ9_max_7cf53_5 : decode cJ9_max_7cf53 5 = .ok (.iload_n 0, 1) := by decide +kernel
theorem dJ9_max_7cf53_6 : decode cJ9_max_7cf53 6 = .ok (.goto 4, 3) := by decide +kernel
theorem dJ9_max_7cf53_9 : decode cJ9_max_7cf53 9 = .ok (.iload_n 1, 1) := by decide +kernel
theorem dJ9_max_7cf53_10 : decode cJ9_max_7cf53 10 = .ok (.ireturn, 1) := by decide +kernel
theorem dJ9_min_7cf53_0 : decode cJ9_min_7cf53 0 = .ok (.iload_n 0, 1) := by decide +kernel
theorem dJ9_min_7cf53_1 : decode cJ9_min_7cf53 1 = .ok (.iload_n 1, 1) := by decide +kernel
theorem dJ9_min_7cf53_2 : decode cJ9_min_7cf53 2 = .ok (.if_icmp .gt 7, 3) := by decide +kernel
theorem dJ9_min_7cf53_5 : decode cJ9_min_7cf53 5 = .ok (.iload_n 0, 1) := by decide +kernel
theorem dJ9_min_7cf53_6 : decode cJ9_min_7cf53 6 = .ok (.goto 4, 3) := by decide +kernel
theorem dJ9_min_7cf53_9 : decode cJ9_min_7cf53 9 = .ok (.iload_n 1, 1) := by decide +kernel
theorem dJ9_min_7cf53_10 : decode cJ9_min_7cf53 10 = .ok (.ireturn, 1) := by decide +kernel
theorem dJxa1e45_init_da8c8_0 : decode cJxa1e45_init_da8c8 0 = .ok (.aload_n 0, 1) := by decide +kernel
theorem dJxa1e45_init_da8c8_1 : decode cJxa1e45_init_da8c8 1 = .ok (.invokespecial 1, 3) := by decide +kernel
theorem dJxa1e45_init_da8c8_4 : decode cJxa1e45_init_da8c8 4 = .ok (.return_, 1) := by decide +kernel
set_option maxRecDepth 20000 in
theorem ggJxc12de_init_da8c8_Jxa1e45_init_da8c8 : GoodIn wsJxc12de_init_da8c8 wsJxa1e45_init_da8c8 := goodIn_r _ [5, 6, 7, 8] (by decide +kernel) (by decide +kernel)
set_option maxRecDepth 20000 in
theorem gJxc12de_init_da8c8_Jxa1e45_init_da8c8 : GoodIn wsJxc12de_init_da8c8 (wsJxa1e45_init_da8c8) := ggJxc12de_init_da8c8_Jxa1e45_init_da8c8
theorem dJxc12de_init_da8c8_0 : decode cJxc12de_init_da8c8 0 = .ok (.aload_n 0, 1) := by decide +kernel
theorem dJxc12de_init_da8c8_1 : decode cJxc12de_init_da8c8 1 = .ok (.invokespecial 1, 3) := by decide +kernel
theorem dJxc12de_init_da8c8_4 : decode cJxc12de_init_da8c8 4 = .ok (.aload_n 0, 1) := by decide +kernel
theorem dJxc12de_init_da8c8_5 : decode cJxc12de_init_da8c8 5 = .ok (.iconst 0, 1) := by decide +kernel
theorem dJxc12de_init_da8c8_6 : decode cJxc12de_init_da8c8 6 = .ok (.putfield 7, 3) := by decide +kernel
theorem dJxc12de_init_da8c8_9 : decode cJxc12de_init_da8c8 9 = .ok (.return_, 1) := by decide +kernel
set_option maxRecDepth 20000 in
theorem ggJx4a65c_init_da8c8_Jxc12de_init_da8c8 : GoodIn wsJx4a65c_init_da8c8 wsJxc12de_init_da8c8 := goodIn_r _ [6, 7, 8, 9, 10, 11, 12, 13, 14, 15, 16, 17] (by decide +kernel) (by decide +kernel)
set_option maxRecDepth 20000 in
theorem gJx4a65c_init_da8c8_Jxc12de_init_da8c8 : GoodIn wsJx4a65c_init_da8c8 (wsJxc12de_init_da8c8) := ggJx4a65c_init_da8c8_Jxc12de_init_da8c8
theorem dJx4a65c_init_da8c8_0 : decode cJx4a65c_init_da8c8 0 = .ok (.aload_n 0, 1) := by decide +kernel
theorem dJx4a65c_init_da8c8_1 : decode cJx4a65c_init_da8c8 1 = .ok (.invokespecial 1, 3) := by decide +kernel
theorem dJx4a65c_init_da8c8_4 : decode cJx4a65c_init_da8c8 4 = .ok (.aload_n 0, 1) := by decide +kernel
theorem dJx4a65c_init_da8c8_5 : decode cJx4a65c_init_da8c8 5 = .ok (.getstatic 39, 3) := by decide +kernel
theorem dJx4a65c_init_da8c8_8 : decode cJx4a65c_init_da8c8 8 = .ok (.putfield 9, 3) := by decide +kernel
theorem dJx4a65c_init_da8c8_11 : decode cJx4a65c_init_da8c8 11 = .ok (.return_, 1) := by decide +kernel
set_option maxRecDepth 20000 in
theorem ggJx4a65c_grow_92f84_J8_newLength_cabcc : GoodIn wsJx4a65c_grow_92f84 wsJ8_newLength_cabcc := goodIn_r _ [11, 12, 4, 5, 6, 13, 14, 15, 10, 16] (by decide +kernel) (by decide +kernel)
set_option maxRecDepth 20000 in
theorem gJx4a65c_grow_92f84_J8_newLength_cabcc : GoodIn wsJx4a65c_grow_92f84 (va_wsS RJx4a65c 73 yJ8_newLength_cabcc wsJ8_newLength_cabcc) := goodIn_app (goodIn_of _ (by decide +kernel)) ggJx4a65c_grow_92f84_J8_newLength_cabcc
set_option maxRecDepth 20000 in
theorem ggJx4a65c_grow_92f84_J7_copyOf_1904c : GoodIn wsJx4a65c_grow_92f84 wsJ7_copyOf_1904c := goodIn_r _ [20, 21, 22, 23, 24, 25, 26, 19, 27, 28, 29, 30, 31, 5, 32, 33, 34, 35, 36] (by decide +kernel) (by decide +kernel)
set_option maxRecDepth 20000 in
theorem gJx4a65c_grow_92f84_J7_copyOf_1904c : GoodIn wsJx4a65c_grow_92f84 (va_wsS RJx4a65c 66 yJ7_copyOf_1904c wsJ7_copyOf_1904c) := goodIn_app (goodIn_of _ (by decide +kernel)) ggJx4a65c_grow_92f84_J7_copyOf_1904c
theorem dJx4a65c_grow_92f84_0 : decode cJx4a65c_grow_92f84 0 = .ok (.aload_n 0, 1) := by decide +kernel
theorem dJx4a65c_grow_92f84_1 : decode cJx4a65c_grow_92f84 1 = .ok (.getfield 9, 3) := by decide +kernel
theorem dJx4a65c_grow_92f84_4 : decode cJx4a65c_grow_92f84 4 = .ok (.arraylength, 1) := by decide +kernel
theorem dJx4a65c_grow_92f84_5 : decode cJx4a65c_grow_92f84 5 = .ok (.istore_n 2, 1) := by decide +kernel
theorem dJx4a65c_grow_92f84_6 : decode cJx4a65c_grow_92f84 6 = .ok (.iload_n 2, 1) := by decide +kernel
theorem dJx4a65c_grow_92f84_7 : decode cJx4a65c_grow_92f84 7 = .ok (.ifCond .gt 13, 3) := by decide +kernel
theorem dJx4a65c_grow_92f84_10 : decode cJx4a65c_grow_92f84 10 = .ok (.aload_n 0, 1) := by decide +kernel
theorem dJx4a65c_grow_92f84_11 : decode cJx4a65c_grow_92f84 11 = .ok (.getfield 9, 3) := by decide +kernel
theorem dJx4a65c_grow_92f84_14 : decode cJx4a65c_grow_92f84 14 = .ok (.getstatic 39, 3) := by decide +kernel
theorem dJx4a65c_grow_92f84_17 : decode cJx4a65c_grow_92f84 17 = .ok (.if_acmp .eq 28, 3) := by decide +kernel
theorem dJx4a65c_grow_92f84_20 : decode cJx4a65c_grow_92f84 20 = .ok (.iload_n 2, 1) := by decide +kernel
theorem dJx4a65c_grow_92f84_21 : decode cJx4a65c_grow_92f84 21 = .ok (.iload_n 1, 1) := by decide +kernel
theorem dJx4a65c_grow_92f84_22 : decode cJx4a65c_grow_92f84 22 = .ok (.iload_n 2, 1) := by decide +kernel
theorem dJx4a65c_grow_92f84_23 : decode cJx4a65c_grow_92f84 23 = .ok (.isub, 1) := by decide +kernel
theorem dJx4a65c_grow_92f84_24 : decode cJx4a65c_grow_92f84 24 = .ok (.iload_n 2, 1) := by decide +kernel
theorem dJx4a65c_grow_92f84_25 : decode cJx4a65c_grow_92f84 25 = .ok (.iconst 1, 1) := by decide +kernel
theorem dJx4a65c_grow_92f84_26 : decode cJx4a65c_grow_92f84 26 = .ok (.ishr, 1) := by decide +kernel
theorem dJx4a65c_grow_92f84_27 : decode cJx4a65c_grow_92f84 27 = .ok (.invokestatic 73, 3) := by decide +kernel
theorem dJx4a65c_grow_92f84_30 : decode cJx4a65c_grow_92f84 30 = .ok (.istore_n 3, 1) := by decide +kernel
theorem dJx4a65c_grow_92f84_31 : decode cJx4a65c_grow_92f84 31 = .ok (.aload_n 0, 1) := by decide +kernel
theorem dJx4a65c_grow_92f84_32 : decode cJx4a65c_grow_92f84 32 = .ok (.aload_n 0, 1) := by decide +kernel
theorem dJx4a65c_grow_92f84_33 : decode cJx4a65c_grow_92f84 33 = .ok (.getfield 9, 3) := by decide +kernel
theorem dJx4a65c_grow_92f84_36 : decode cJx4a65c_grow_92f84 36 = .ok (.iload_n 3, 1) := by decide +kernel
theorem dJx4a65c_grow_92f84_37 : decode cJx4a65c_grow_92f84 37 = .ok (.invokestatic 66, 3) := by decide +kernel
theorem dJx4a65c_grow_92f84_40 : decode cJx4a65c_grow_92f84 40 = .ok (.dup_x1, 1) := by decide +kernel
theorem dJx4a65c_grow_92f84_41 : decode cJx4a65c_grow_92f84 41 = .ok (.putfield 9, 3) := by decide +kernel
theorem dJx4a65c_grow_92f84_44 : decode cJx4a65c_grow_92f84 44 = .ok (.areturn, 1) := by decide +kernel
theorem dJx4a65c_grow_92f84_45 : decode cJx4a65c_grow_92f84 45 = .ok (.aload_n 0, 1) := by decide +kernel
theorem dJx4a65c_grow_92f84_46 : decode cJx4a65c_grow_92f84 46 = .ok (.bipush 10, 2) := by decide +kernel
theorem dJx4a65c_grow_92f84_48 : decode cJx4a65c_grow_92f84 48 = .ok (.iload_n 1, 1) := by decide +kernel
theorem dJx4a65c_grow_92f84_49 : decode cJx4a65c_grow_92f84 49 = .ok (.invokestatic 79, 3) := by decide +kernel
theorem dJx4a65c_grow_92f84_52 : decode cJx4a65c_grow_92f84 52 = .ok (.anewarray 7, 3) := by decide +kernel
theorem dJx4a65c_grow_92f84_55 : decode cJx4a65c_grow_92f84 55 = .ok (.dup_x1, 1) := by decide +kernel
theorem dJx4a65c_grow_92f84_56 : decode cJx4a65c_grow_92f84 56 = .ok (.putfield 9, 3) := by decide +kernel
theorem dJx4a65c_grow_92f84_59 : decode cJx4a65c_grow_92f84 59 = .ok (.areturn, 1) := by decide +kernel
set_option maxRecDepth 20000 in
theorem ggJx4a65c_grow_d5877_Jx4a65c_grow_92f84 : GoodIn wsJx4a65c_grow_d5877 wsJx4a65c_grow_92f84 := goodIn_r _ [6, 7, 8, 9, 10, 11, 12, 13, 14, 15, 16, 17, 18, 19, 20, 21, 22, 23, 24, 25, 26, 27, 28, 29, 30, 31, 32, 33, 34, 35, 36, 37, 38, 39, 40, 41, 42, 43, 44, 45] (by decide +kernel) (by decide +kernel)
set_option maxRecDepth 20000 in
theorem gJx4a65c_grow_d5877_Jx4a65c_grow_92f84 : GoodIn wsJx4a65c_grow_d5877 (wsV RJx4a65c 69 RJx4a65c yJx4a65c_grow_92f84 wsJx4a65c_grow_92f84) := goodIn_app (goodIn_of _ (by decide +kernel)) ggJx4a65c_grow_d5877_Jx4a65c_grow_92f84
theorem dJx4a65c_grow_d5877_0 : decode cJx4a65c_grow_d5877 0 = .ok (.aload_n 0, 1) := by decide +kernel
theorem dJx4a65c_grow_d5877_1 : decode cJx4a65c_grow_d5877 1 = .ok (.aload_n 0, 1) := by decide +kernel
theorem dJx4a65c_grow_d5877_2 : decode cJx4a65c_grow_d5877 2 = .ok (.getfield 48, 3) := by decide +kernel
theorem dJx4a65c_grow_d5877_5 : decode cJx4a65c_grow_d5877 5 = .ok (.iconst 1, 1) := by decide +kernel
theorem dJx4a65c_grow_d5877_6 : decode cJx4a65c_grow_d5877 6 = .ok (.iadd, 1) := by decide +kernel
theorem dJx4a65c_grow_d5877_7 : decode cJx4a65c_grow_d5877 7 = .ok (.invokevirtual 69, 3) := by decide +kernel
theorem dJx4a65c_grow_d5877_10 : decode cJx4a65c_grow_d5877 10 = .ok (.areturn, 1) := by decide +kernel
theorem dJx4a65c_size_8abf5_0 : decode cJx4a65c_size_8abf5 0 = .ok (.aload_n 0, 1) := by decide +kernel
theorem dJx4a65c_size_8abf5_1 : decode cJx4a65c_size_8abf5 1 = .ok (.getfield 48, 3) := by decide +kernel
theorem dJx4a65c_size_8abf5_4 : decode cJx4a65c_size_8abf5 4 = .ok (.ireturn, 1) := by decide +kernel
theorem dJx4a65c_elementData_915e3_0 : decode cJx4a65c_elementData_915e3 0 = .ok (.aload_n 0, 1) := by decide +kernel
theorem dJx4a65c_elementData_915e3_1 : decode cJx4a65c_elementData_915e3 1 = .ok (.getfield 9, 3) := by decide +kernel
theorem dJx4a65c_elementData_915e3_4 : decode cJx4a65c_elementData_915e3 4 = .ok (.iload_n 1, 1) := by decide +kernel
theorem dJx4a65c_elementData_915e3_5 : decode cJx4a65c_elementData_915e3 5 = .ok (.aaload, 1) := by decide +kernel
theorem dJx4a65c_elementData_915e3_6 : decode cJx4a65c_elementData_915e3 6 = .ok (.areturn, 1) := by decide +kernel
set_option maxRecDepth 20000 in
theorem ggJx4a65c_get_915e3_J15_checkIndex_7cf53 : GoodIn wsJx4a65c_get_915e3 wsJ15_checkIndex_7cf53 := goodIn_r _ [5, 6, 7, 8, 9] (by decide +kernel) (by decide +kernel)
set_option maxRecDepth 20000 in
theorem gJx4a65c_get_915e3_J15_checkIndex_7cf53 : GoodIn wsJx4a65c_get_915e3 (va_wsS RJx4a65c 118 yJ15_checkIndex_7cf53 wsJ15_checkIndex_7cf53) := goodIn_app (goodIn_of _ (by decide +kernel)) ggJx4a65c_get_915e3_J15_checkIndex_7cf53
set_option maxRecDepth 20000 in
theorem ggJx4a65c_get_915e3_Jx4a65c_elementData_915e3 : GoodIn wsJx4a65c_get_915e3 wsJx4a65c_elementData_915e3 := goodIn_r _ [14, 15, 16, 17, 18] (by decide +kernel) (by decide +kernel)
set_option maxRecDepth 20000 in
theorem gJx4a65c_get_915e3_Jx4a65c_elementData_915e3 : GoodIn wsJx4a65c_get_915e3 (wsV RJx4a65c 123 RJx4a65c yJx4a65c_elementData_915e3 wsJx4a65c_elementData_915e3) := goodIn_app (goodIn_of _ (by decide +kernel)) ggJx4a65c_get_915e3_Jx4a65c_elementData_915e3
theorem dJx4a65c_get_915e3_0 : decode cJx4a65c_get_915e3 0 = .ok (.iload_n 1, 1) := by decide +kernel
theorem dJx4a65c_get_915e3_1 : decode cJx4a65c_get_915e3 1 = .ok (.aload_n 0, 1) := by decide +kernel
theorem dJx4a65c_get_915e3_2 : decode cJx4a65c_get_915e3 2 = .ok (.getfield 48, 3) := by decide +kernel
theorem dJx4a65c_get_915e3_5 : decode cJx4a65c_get_915e3 5 = .ok (.invokestatic 118, 3) := by decide +kernel
theorem dJx4a65c_get_915e3_8 : decode cJx4a65c_get_915e3 8 = .ok (.pop, 1) := by decide +kernel
theorem dJx4a65c_get_915e3_9 : decode cJx4a65c_get_915e3 9 = .ok (.aload_n 0, 1) := by decide +kernel
theorem dJx4a65c_get_915e3_10 : decode cJx4a65c_get_915e3 10 = .ok (.iload_n 1, 1) := by decide +kernel
theorem dJx4a65c_get_915e3_11 : decode cJx4a65c_get_915e3 11 = .ok (.invokevirtual 123, 3) := by decide +kernel
theorem dJx4a65c_get_915e3_14 : decode cJx4a65c_get_915e3 14 = .ok (.areturn, 1) := by decide +kernel
set_option maxRecDepth 20000 in
theorem ggJx4a65c_add_72be8_Jx4a65c_grow_d5877 : GoodIn wsJx4a65c_add_72be8 wsJx4a65c_grow_d5877 := goodIn_r _ [6, 1, 7, 8, 9, 5, 10, 11, 12, 13, 14, 15, 16, 17, 18, 19, 20, 21, 22, 23, 24, 25, 26, 27, 28, 29, 30, 31, 32, 33, 34, 35, 36, 37, 38, 39, 40, 41, 42, 43, 44, 45, 46, 47, 48, 49] (by decide +kernel) (by decide +kernel)
set_option maxRecDepth 20000 in
theorem gJx4a65c_add_72be8_Jx4a65c_grow_d5877 : GoodIn wsJx4a65c_add_72be8 (wsV RJx4a65c 129 RJx4a65c yJx4a65c_grow_d5877 wsJx4a65c_grow_d5877) := goodIn_app (goodIn_of _ (by decide +kernel)) ggJx4a65c_add_72be8_Jx4a65c_grow_d5877
theorem dJx4a65c_add_72be8_0 : decode cJx4a65c_add_72be8 0 = .ok (.iload_n 3, 1) := by decide +kernel
theorem dJx4a65c_add_72be8_1 : decode cJx4a65c_add_72be8 1 = .ok (.aload_n 2, 1) := by decide +kernel
theorem dJx4a65c_add_72be8_2 : decode cJx4a65c_add_72be8 2 = .ok (.arraylength, 1) := by decide +kernel
theorem dJx4a65c_add_72be8_3 : decode cJx4a65c_add_72be8 3 = .ok (.if_icmp .ne 8, 3) := by decide +kernel
theorem dJx4a65c_add_72be8_6 : decode cJx4a65c_add_72be8 6 = .ok (.aload_n 0, 1) := by decide +kernel
theorem dJx4a65c_add_72be8_7 : decode cJx4a65c_add_72be8 7 = .ok (.invokevirtual 129, 3) := by decide +kernel
theorem dJx4a65c_add_72be8_10 : decode cJx4a65c_add_72be8 10 = .ok (.astore_n 2, 1) := by decide +kernel
theorem dJx4a65c_add_72be8_11 : decode cJx4a65c_add_72be8 11 = .ok (.aload_n 2, 1) := by decide +kernel
theorem dJx4a65c_add_72be8_12 : decode cJx4a65c_add_72be8 12 = .ok (.iload_n 3, 1) := by decide +kernel
theorem dJx4a65c_add_72be8_13 : decode cJx4a65c_add_72be8 13 = .ok (.aload_n 1, 1) := by decide +kernel
theorem dJx4a65c_add_72be8_14 : decode cJx4a65c_add_72be8 14 = .ok (.aastore, 1) := by decide +kernel
theorem dJx4a65c_add_72be8_15 : decode cJx4a65c_add_72be8 15 = .ok (.aload_n 0, 1) := by decide +kernel
theorem dJx4a65c_add_72be8_16 : decode cJx4a65c_add_72be8 16 = .ok (.iload_n 3, 1) := by decide +kernel
theorem dJx4a65c_add_72be8_17 : decode cJx4a65c_add_72be8 17 = .ok (.iconst 1, 1) := by decide +kernel
theorem dJx4a65c_add_72be8_18 : decode cJx4a65c_add_72be8 18 = .ok (.iadd, 1) := by decide +kernel
theorem dJx4a65c_add_72be8_19 : decode cJx4a65c_add_72be8 19 = .ok (.putfield 48, 3) := by decide +kernel
theorem dJx4a65c_add_72be8_22 : decode cJx4a65c_add_72be8 22 = .ok (.return_, 1) := by decide +kernel
set_option maxRecDepth 20000 in
theorem ggJx4a65c_add_9ea2d_Jx4a65c_add_72be8 : GoodIn wsJx4a65c_add_9ea2d wsJx4a65c_add_72be8 := goodIn_r _ [9, 4, 10, 11, 12, 8, 13, 14, 15, 16, 17, 3, 18, 19, 20, 21, 22, 23, 24, 25, 26, 27, 28, 29, 30, 31, 32, 33, 34, 35, 36, 37, 38, 39, 40, 41, 42, 43, 44, 45, 46, 47, 48, 49, 50, 51, 52, 53, 54, 55] (by decide +kernel) (by decide +kernel)
set_option maxRecDepth 20000 in
theorem gJx4a65c_add_9ea2d_Jx4a65c_add_72be8 : GoodIn wsJx4a65c_add_9ea2d (wsV RJx4a65c 131 RJx4a65c yJx4a65c_add_72be8 wsJx4a65c_add_72be8) := goodIn_app (goodIn_of _ (by decide +kernel)) ggJx4a65c_add_9ea2d_Jx4a65c_add_72be8
theorem dJx4a65c_add_9ea2d_0 : decode cJx4a65c_add_9ea2d 0 = .ok (.aload_n 0, 1) := by decide +kernel
theorem dJx4a65c_add_9ea2d_1 : decode cJx4a65c_add_9ea2d 1 = .ok (.dup, 1) := by decide +kernel
theorem dJx4a65c_add_9ea2d_2 : decode cJx4a65c_add_9ea2d 2 = .ok (.getfield 63, 3) := by decide +kernel
theorem dJx4a65c_add_9ea2d_5 : decode cJx4a65c_add_9ea2d 5 = .ok (.iconst 1, 1) := by decide +kernel
theorem dJx4a65c_add_9ea2d_6 : decode cJx4a65c_add_9ea2d 6 = .ok (.iadd, 1) := by decide +kernel
theorem dJx4a65c_add_9ea2d_7 : decode cJx4a65c_add_9ea2d 7 = .ok (.putfield 63, 3) := by decide +kernel
theorem dJx4a65c_add_9ea2d_10 : decode cJx4a65c_add_9ea2d 10 = .ok (.aload_n 0, 1) := by decide +kernel
theorem dJx4a65c_add_9ea2d_11 : decode cJx4a65c_add_9ea2d 11 = .ok (.aload_n 1, 1) := by decide +kernel
theorem dJx4a65c_add_9ea2d_12 : decode cJx4a65c_add_9ea2d 12 = .ok (.aload_n 0, 1) := by decide +kernel
theorem dJx4a65c_add_9ea2d_13 : decode cJx4a65c_add_9ea2d 13 = .ok (.getfield 9, 3) := by decide +kernel
theorem dJx4a65c_add_9ea2d_16 : decode cJx4a65c_add_9ea2d 16 = .ok (.aload_n 0, 1) := by decide +kernel
theorem dJx4a65c_add_9ea2d_17 : decode cJx4a65c_add_9ea2d 17 = .ok (.getfield 48, 3) := by decide +kernel
theorem dJx4a65c_add_9ea2d_20 : decode cJx4a65c_add_9ea2d 20 = .ok (.invokevirtual 131, 3) := by decide +kernel
theorem dJx4a65c_add_9ea2d_23 : decode cJx4a65c_add_9ea2d 23 = .ok (.iconst 1, 1) := by decide +kernel
theorem dJx4a65c_add_9ea2d_24 : decode cJx4a65c_add_9ea2d 24 = .ok (.ireturn, 1) := by decide +kernel
set_option maxRecDepth 20000 in
theorem ggJ7_copyOf_1904c_J7_copyOf_6403c : GoodIn wsJ7_copyOf_1904c wsJ7_copyOf_6403c := goodIn_r _ [8, 9, 10, 11, 12, 13, 14, 15, 16, 17, 18] (by decide +kernel) (by decide +kernel)
set_option maxRecDepth 20000 in
theorem gJ7_copyOf_1904c_J7_copyOf_6403c : GoodIn wsJ7_copyOf_1904c (va_wsS RJ7 300 yJ7_copyOf_6403c wsJ7_copyOf_6403c) := goodIn_app (goodIn_of _ (by decide +kernel)) ggJ7_copyOf_1904c_J7_copyOf_6403c
theorem dJ7_copyOf_1904c_0 : decode cJ7_copyOf_1904c 0 = .ok (.aload_n 0, 1) := by decide +kernel
theorem dJ7_copyOf_1904c_1 : decode cJ7_copyOf_1904c 1 = .ok (.iload_n 1, 1) := by decide +kernel
theorem dJ7_copyOf_1904c_2 : decode cJ7_copyOf_1904c 2 = .ok (.aload_n 0, 1) := by decide +kernel
theorem dJ7_copyOf_1904c_3 : decode cJ7_copyOf_1904c 3 = .ok (.invokevirtual 86, 3) := by decide +kernel
theorem dJ7_copyOf_1904c_6 : decode cJ7_copyOf_1904c 6 = .ok (.invokestatic 300, 3) := by decide +kernel
theorem dJ7_copyOf_1904c_9 : decode cJ7_copyOf_1904c 9 = .ok (.areturn, 1) := by decide +kernel
theorem dJ7_copyOf_6403c_0 : decode cJ7_copyOf_6403c 0 = .ok (.aload_n 2, 1) := by decide +kernel
theorem dJ7_copyOf_6403c_1 : decode cJ7_copyOf_6403c 1 = .ok (.ldc 110, 2) := by decide +kernel
theorem dJ7_copyOf_6403c_3 : decode cJ7_copyOf_6403c 3 = .ok (.if_acmp .ne 10, 3) := by decide +kernel
theorem dJ7_copyOf_6403c_6 : decode cJ7_copyOf_6403c 6 = .ok (.iload_n 1, 1) := by decide +kernel
theorem dJ7_copyOf_6403c_7 : decode cJ7_copyOf_6403c 7 = .ok (.anewarray 2, 3) := by decide +kernel
theorem dJ7_copyOf_6403c_10 : decode cJ7_copyOf_6403c 10 = .ok (.goto 14, 3) := by decide +kernel
theorem dJ7_copyOf_6403c_13 : decode cJ7_copyOf_6403c 13 = .ok (.aload_n 2, 1) := by decide +kernel
theorem dJ7_copyOf_6403c_14 : decode cJ7_copyOf_6403c 14 = .ok (.invokevirtual 90, 3) := by decide +kernel
theorem dJ7_copyOf_6403c_17 : decode cJ7_copyOf_6403c 17 = .ok (.iload_n 1, 1) := by decide +kernel
theorem dJ7_copyOf_6403c_18 : decode cJ7_copyOf_6403c 18 = .ok (.invokestatic 95, 3) := by decide +kernel
theorem dJ7_copyOf_6403c_21 : decode cJ7_copyOf_6403c 21 = .ok (.checkcast 110, 3) := by decide +kernel
theorem dJ7_copyOf_6403c_24 : decode cJ7_copyOf_6403c 24 = .ok (.astore_n 3, 1) := by decide +kernel
theorem dJ7_copyOf_6403c_25 : decode cJ7_copyOf_6403c 25 = .ok (.aload_n 0, 1) := by decide +kernel
theorem dJ7_copyOf_6403c_26 : decode cJ7_copyOf_6403c 26 = .ok (.iconst 0, 1) := by decide +kernel
theorem dJ7_copyOf_6403c_27 : decode cJ7_copyOf_6403c 27 = .ok (.aload_n 3, 1) := by decide +kernel
theorem dJ7_copyOf_6403c_28 : decode cJ7_copyOf_6403c 28 = .ok (.iconst 0, 1) := by decide +kernel
theorem dJ7_copyOf_6403c_29 : decode cJ7_copyOf_6403c 29 = .ok (.aload_n 0, 1) := by decide +kernel
theorem dJ7_copyOf_6403c_30 : decode cJ7_copyOf_6403c 30 = .ok (.arraylength, 1) := by decide +kernel
theorem dJ7_copyOf_6403c_31 : decode cJ7_copyOf_6403c 31 = .ok (.iload_n 1, 1) := by decide +kernel
theorem dJ7_copyOf_6403c_32 : decode cJ7_copyOf_6403c 32 = .ok (.invokestatic 304, 3) := by decide +kernel
theorem dJ7_copyOf_6403c_35 : decode cJ7_copyOf_6403c 35 = .ok (.invokestatic 150, 3) := by decide +kernel
theorem dJ7_copyOf_6403c_38 : decode cJ7_copyOf_6403c 38 = .ok (.aload_n 3, 1) := by decide +kernel
theorem dJ7_copyOf_6403c_39 : decode cJ7_copyOf_6403c 39 = .ok (.areturn, 1) := by decide +kernel
set_option maxRecDepth 20000 in
theorem ggJ15_checkIndex_7cf53_J3_checkIndex_8e157 : GoodIn wsJ15_checkIndex_7cf53 wsJ3_checkIndex_8e157 := goodIn_r _ [4] (by decide +kernel) (by decide +kernel)
set_option maxRecDepth 20000 in
theorem gJ15_checkIndex_7cf53_J3_checkIndex_8e157 : GoodIn wsJ15_checkIndex_7cf53 (va_wsS RJ15 105 yJ3_checkIndex_8e157 wsJ3_checkIndex_8e157) := goodIn_app (goodIn_of _ (by decide +kernel)) ggJ15_checkIndex_7cf53_J3_checkIndex_8e157
theorem dJ15_checkIndex_7cf53_0 : decode cJ15_checkIndex_7cf53 0 = .ok (.iload_n 0, 1) := by decide +kernel
theorem dJ15_checkIndex_7cf53_1 : decode cJ15_checkIndex_7cf53 1 = .ok (.iload_n 1, 1) := by decide +kernel
theorem dJ15_checkIndex_7cf53_2 : decode cJ15_checkIndex_7cf53 2 = .ok (.aconst_null, 1) := by decide +kernel
theorem dJ15_checkIndex_7cf53_3 : decode cJ15_checkIndex_7cf53 3 = .ok (.invokestatic 105, 3) := by decide +kernel
theorem dJ15_checkIndex_7cf53_6 : decode cJ15_checkIndex_7cf53 6 = .ok (.ireturn, 1) := by decide +kernel
set_option maxRecDepth 20000 in
theorem ggJ8_newLength_cabcc_J8_hugeLength_7cf53 : GoodIn wsJ8_newLength_cabcc wsJ8_hugeLength_7cf53 := goodIn_r _ [9, 5] (by decide +kernel) (by decide +kernel)
set_option maxRecDepth 20000 in
theorem gJ8_newLength_cabcc_J8_hugeLength_7cf53 : GoodIn wsJ8_newLength_cabcc (va_wsS RJ8 201 yJ8_hugeLength_7cf53 wsJ8_hugeLength_7cf53) := goodIn_app (goodIn_of _ (by decide +kernel)) ggJ8_newLength_cabcc_J8_hugeLength_7cf53
theorem dJ8_newLength_cabcc_0 : decode cJ8_newLength_cabcc 0 = .ok (.iload_n 0, 1) := by decide +kernel
theorem dJ8_newLength_cabcc_1 : decode cJ8_newLength_cabcc 1 = .ok (.iload_n 1, 1) := by decide +kernel
theorem dJ8_newLength_cabcc_2 : decode cJ8_newLength_cabcc 2 = .ok (.iload_n 2, 1) := by decide +kernel
theorem dJ8_newLength_cabcc_3 : decode cJ8_newLength_cabcc 3 = .ok (.invokestatic 194, 3) := by decide +kernel
theorem dJ8_newLength_cabcc_6 : decode cJ8_newLength_cabcc 6 = .ok (.iadd, 1) := by decide +kernel
theorem dJ8_newLength_cabcc_7 : decode cJ8_newLength_cabcc 7 = .ok (.istore_n 3, 1) := by decide +kernel
theorem dJ8_newLength_cabcc_8 : decode cJ8_newLength_cabcc 8 = .ok (.iconst 0, 1) := by decide +kernel
theorem dJ8_newLength_cabcc_9 : decode cJ8_newLength_cabcc 9 = .ok (.iload_n 3, 1) := by decide +kernel
theorem dJ8_newLength_cabcc_10 : decode cJ8_newLength_cabcc 10 = .ok (.if_icmp .ge 11, 3) := by decide +kernel
theorem dJ8_newLength_cabcc_13 : decode cJ8_newLength_cabcc 13 = .ok (.iload_n 3, 1) := by decide +kernel
theorem dJ8_newLength_cabcc_14 : decode cJ8_newLength_cabcc 14 = .ok (.ldc 200, 2) := by decide +kernel
theorem dJ8_newLength_cabcc_16 : decode cJ8_newLength_cabcc 16 = .ok (.if_icmp .gt 5, 3) := by decide +kernel
theorem dJ8_newLength_cabcc_19 : decode cJ8_newLength_cabcc 19 = .ok (.iload_n 3, 1) := by decide +kernel
theorem dJ8_newLength_cabcc_20 : decode cJ8_newLength_cabcc 20 = .ok (.ireturn, 1) := by decide +kernel
theorem dJ8_newLength_cabcc_21 : decode cJ8_newLength_cabcc 21 = .ok (.iload_n 0, 1) := by decide +kernel
theorem dJ8_newLength_cabcc_22 : decode cJ8_newLength_cabcc 22 = .ok (.iload_n 1, 1) := by decide +kernel
theorem dJ8_newLength_cabcc_23 : decode cJ8_newLength_cabcc 23 = .ok (.invokestatic 201, 3) := by decide +kernel
theorem dJ8_newLength_cabcc_26 : decode cJ8_newLength_cabcc 26 = .ok (.ireturn, 1) := by decide +kernel
theorem dJ8_hugeLength_7cf53_0 : decode cJ8_hugeLength_7cf53 0 = .ok (.iload_n 0, 1) := by decide +kernel
theorem dJ8_hugeLength_7cf53_1 : decode cJ8_hugeLength_7cf53 1 = .ok (.iload_n 1, 1) := by decide +kernel
theorem dJ8_hugeLength_7cf53_2 : decode cJ8_hugeLength_7cf53 2 = .ok (.iadd, 1) := by decide +kernel
theorem dJ8_hugeLength_7cf53_3 : decode cJ8_hugeLength_7cf53 3 = .ok (.istore_n 2, 1) := by decide +kernel
theorem dJ8_hugeLength_7cf53_4 : decode cJ8_hugeLength_7cf53 4 = .ok (.iload_n 2, 1) := by decide +kernel
theorem dJ8_hugeLength_7cf53_5 : decode cJ8_hugeLength_7cf53 5 = .ok (.ifCond .ge 44, 3) := by decide +kernel
theorem dJ8_hugeLength_7cf53_8 : decode cJ8_hugeLength_7cf53 8 = .ok (.new 204, 3) := by decide +kernel
theorem dJ8_hugeLength_7cf53_11 : decode cJ8_hugeLength_7cf53 11 = .ok (.dup, 1) := by decide +kernel
theorem dJ8_hugeLength_7cf53_12 : decode cJ8_hugeLength_7cf53 12 = .ok (.new 89, 3) := by decide +kernel
theorem dJ8_hugeLength_7cf53_15 : decode cJ8_hugeLength_7cf53 15 = .ok (.dup, 1) := by decide +kernel
theorem dJ8_hugeLength_7cf53_16 : decode cJ8_hugeLength_7cf53 16 = .ok (.invokespecial 91, 3) := by decide +kernel
theorem dJ8_hugeLength_7cf53_19 : decode cJ8_hugeLength_7cf53 19 = .ok (.ldc 206, 2) := by decide +kernel
theorem dJ8_hugeLength_7cf53_21 : decode cJ8_hugeLength_7cf53 21 = .ok (.invokevirtual 94, 3) := by decide +kernel
theorem dJ8_hugeLength_7cf53_24 : decode cJ8_hugeLength_7cf53 24 = .ok (.iload_n 0, 1) := by decide +kernel
theorem dJ8_hugeLength_7cf53_25 : decode cJ8_hugeLength_7cf53 25 = .ok (.invokevirtual 98, 3) := by decide +kernel
theorem dJ8_hugeLength_7cf53_28 : decode cJ8_hugeLength_7cf53 28 = .ok (.ldc 208, 2) := by decide +kernel
theorem dJ8_hugeLength_7cf53_30 : decode cJ8_hugeLength_7cf53 30 = .ok (.invokevirtual 94, 3) := by decide +kernel
theorem dJ8_hugeLength_7cf53_33 : decode cJ8_hugeLength_7cf53 33 = .ok (.iload_n 1, 1) := by decide +kernel
theorem dJ8_hugeLength_7cf53_34 : decode cJ8_hugeLength_7cf53 34 = .ok (.invokevirtual 98, 3) := by decide +kernel
theorem dJ8_hugeLength_7cf53_37 : decode cJ8_hugeLength_7cf53 37 = .ok (.ldc 210, 2) := by decide +kernel
theorem dJ8_hugeLength_7cf53_39 : decode cJ8_hugeLength_7cf53 39 = .ok (.invokevirtual 94, 3) := by decide +kernel
theorem dJ8_hugeLength_7cf53_42 : decode cJ8_hugeLength_7cf53 42 = .ok (.invokevirtual 101, 3) := by decide +kernel
theorem dJ8_hugeLength_7cf53_45 : decode cJ8_hugeLength_7cf53 45 = .ok (.invokespecial 212, 3) := by decide +kernel
theorem dJ8_hugeLength_7cf53_48 : decode cJ8_hugeLength_7cf53 48 = .ok (.athrow, 1) := by decide +kernel
theorem dJ8_hugeLength_7cf53_49 : decode cJ8_hugeLength_7cf53 49 = .ok (.iload_n 2, 1) := by decide +kernel
theorem dJ8_hugeLength_7cf53_50 : decode cJ8_hugeLength_7cf53 50 = .ok (.ldc 200, 2) := by decide +kernel
theorem dJ8_hugeLength_7cf53_52 : decode cJ8_hugeLength_7cf53 52 = .ok (.if_icmp .gt 6, 3) := by decide +kernel
theorem dJ8_hugeLength_7cf53_55 : decode cJ8_hugeLength_7cf53 55 = .ok (.ldc 200, 2) := by decide +kernel
theorem dJ8_hugeLength_7cf53_57 : decode cJ8_hugeLength_7cf53 57 = .ok (.ireturn, 1) := by decide +kernel
theorem dJ8_hugeLength_7cf53_58 : decode cJ8_hugeLength_7cf53 58 = .ok (.iload_n 2, 1) := by decide +kernel
theorem dJ8_hugeLength_7cf53_59 : decode cJ8_hugeLength_7cf53 59 = .ok (.ireturn, 1) := by decide +kernel
theorem dJ3_checkIndex_8e157_0 : decode cJ3_checkIndex_8e157 0 = .ok (.iload_n 0, 1) := by decide +kernel
theorem dJ3_checkIndex_8e157_1 : decode cJ3_checkIndex_8e157 1 = .ok (.ifCond .lt 8, 3) := by decide +kernel
theorem dJ3_checkIndex_8e157_4 : decode cJ3_checkIndex_8e157 4 = .ok (.iload_n 0, 1) := by decide +kernel
theorem dJ3_checkIndex_8e157_5 : decode cJ3_checkIndex_8e157 5 = .ok (.iload_n 1, 1) := by decide +kernel
theorem dJ3_checkIndex_8e157_6 : decode cJ3_checkIndex_8e157 6 = .ok (.if_icmp .lt 10, 3) := by decide +kernel
theorem dJ3_checkIndex_8e157_9 : decode cJ3_checkIndex_8e157 9 = .ok (.aload_n 2, 1) := by decide +kernel
theorem dJ3_checkIndex_8e157_10 : decode cJ3_checkIndex_8e157 10 = .ok (.iload_n 0, 1) := by decide +kernel
theorem dJ3_checkIndex_8e157_11 : decode cJ3_checkIndex_8e157 11 = .ok (.iload_n 1, 1) := by decide +kernel
theorem dJ3_checkIndex_8e157_12 : decode cJ3_checkIndex_8e157 12 = .ok (.invokestatic 95, 3) := by decide +kernel
theorem dJ3_checkIndex_8e157_15 : decode cJ3_checkIndex_8e157 15 = .ok (.athrow, 1) := by decide +kernel
theorem dJ3_checkIndex_8e157_16 : decode cJ3_checkIndex_8e157 16 = .ok (.iload_n 0, 1) := by decide +kernel
theorem dJ3_checkIndex_8e157_17 : decode cJ3_checkIndex_8e157 17 = .ok (.ireturn, 1) := by decide +kernel
