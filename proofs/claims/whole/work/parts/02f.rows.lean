theorem dX3_checkKind_1 : decode cX3_checkKind 1 = .ok (.ifCond .lt 8, 3) := by decide +kernel
theorem dX3_checkKind_4 : decode cX3_checkKind 4 = .ok (.iload_n 1, 1) := by decide +kernel
theorem dX3_checkKind_5 : decode cX3_checkKind 5 = .ok (.iconst 3, 1) := by decide +kernel
theorem dX3_checkKind_6 : decode cX3_checkKind 6 = .ok (.if_icmp .lt 13, 3) := by decide +kernel
theorem dX3_checkKind_9 : decode cX3_checkKind 9 = .ok (.new 96, 3) := by decide +kernel
theorem dX3_checkKind_12 : decode cX3_checkKind 12 = .ok (.dup, 1) := by decide +kernel
theorem dX3_checkKind_13 : decode cX3_checkKind 13 = .ok (.ldc 206, 2) := by decide +kernel
theorem dX3_checkKind_15 : decode cX3_checkKind 15 = .ok (.invokespecial 100, 3) := by decide +kernel
theorem dX3_checkKind_18 : decode cX3_checkKind 18 = .ok (.athrow, 1) := by decide +kernel
theorem dX3_checkKind_19 : decode cX3_checkKind 19 = .ok (.return_, 1) := by decide +kernel
set_option maxRecDepth 20000 in
theorem ggX3_checkBin_Jx4a65c_size_8abf5 : GoodIn wsX3_checkBin wsJx4a65c_size_8abf5 := goodIn_r _ [8, 9, 18, 19, 20] (by decide +kernel) (by decide +kernel)
set_option maxRecDepth 20000 in
theorem gX3_checkBin_Jx4a65c_size_8abf5 : GoodIn wsX3_checkBin (wsV RX3 108 RJx4a65c yJx4a65c_size_8abf5 wsJx4a65c_size_8abf5) := goodIn_app (goodIn_of _ (by decide +kernel)) ggX3_checkBin_Jx4a65c_size_8abf5
theorem dX3_checkBin_0 : decode cX3_checkBin 0 = .ok (.iload_n 1, 1) := by decide +kernel
theorem dX3_checkBin_1 : decode cX3_checkBin 1 = .ok (.ifCond .lt 14, 3) := by decide +kernel
theorem dX3_checkBin_4 : decode cX3_checkBin 4 = .ok (.iload_n 1, 1) := by decide +kernel
theorem dX3_checkBin_5 : decode cX3_checkBin 5 = .ok (.aload_n 0, 1) := by decide +kernel
theorem dX3_checkBin_6 : decode cX3_checkBin 6 = .ok (.getfield 19, 3) := by decide +kernel
theorem dX3_checkBin_9 : decode cX3_checkBin 9 = .ok (.invokevirtual 108, 3) := by decide +kernel
theorem dX3_checkBin_12 : decode cX3_checkBin 12 = .ok (.if_icmp .lt 13, 3) := by decide +kernel
theorem dX3_checkBin_15 : decode cX3_checkBin 15 = .ok (.new 96, 3) := by decide +kernel
theorem dX3_checkBin_18 : decode cX3_checkBin 18 = .ok (.dup, 1) := by decide +kernel
theorem dX3_checkBin_19 : decode cX3_checkBin 19 = .ok (.ldc 208, 2) := by decide +kernel
theorem dX3_checkBin_21 : decode cX3_checkBin 21 = .ok (.invokespecial 100, 3) := by decide +kernel
theorem dX3_checkBin_24 : decode cX3_checkBin 24 = .ok (.athrow, 1) := by decide +kernel
theorem dX3_checkBin_25 : decode cX3_checkBin 25 = .ok (.return_, 1) := by decide +kernel
theorem dX3_checkRange_0 : decode cX3_checkRange 0 = .ok (.iload_n 1, 1) := by decide +kernel
theorem dX3_checkRange_1 : decode cX3_checkRange 1 = .ok (.iload_n 2, 1) := by decide +kernel
theorem dX3_checkRange_2 : decode cX3_checkRange 2 = .ok (.if_icmp .lt 8, 3) := by decide +kernel
theorem dX3_checkRange_5 : decode cX3_checkRange 5 = .ok (.iload_n 1, 1) := by decide +kernel
theorem dX3_checkRange_6 : decode cX3_checkRange 6 = .ok (.iload_n 3, 1) := by decide +kernel
theorem dX3_checkRange_7 : decode cX3_checkRange 7 = .ok (.if_icmp .le 13, 3) := by decide +kernel
theorem dX3_checkRange_10 : decode cX3_checkRange 10 = .ok (.new 63, 3) := by decide +kernel
theorem dX3_checkRange_13 : decode cX3_checkRange 13 = .ok (.dup, 1) := by decide +kernel
theorem dX3_checkRange_14 : decode cX3_checkRange 14 = .ok (.ldc 210, 2) := by decide +kernel
theorem dX3_checkRange_16 : decode cX3_checkRange 16 = .ok (.invokespecial 67, 3) := by decide +kernel
theorem dX3_checkRange_19 : decode cX3_checkRange 19 = .ok (.athrow, 1) := by decide +kernel
theorem dX3_checkRange_20 : decode cX3_checkRange 20 = .ok (.return_, 1) := by decide +kernel
theorem dX3_checkWorkday_0 : decode cX3_checkWorkday 0 = .ok (.aload_n 0, 1) := by decide +kernel
theorem dX3_checkWorkday_1 : decode cX3_checkWorkday 1 = .ok (.getfield 23, 3) := by decide +kernel
theorem dX3_checkWorkday_4 : decode cX3_checkWorkday 4 = .ok (.aload_n 0, 1) := by decide +kernel
theorem dX3_checkWorkday_5 : decode cX3_checkWorkday 5 = .ok (.getfield 42, 3) := by decide +kernel
theorem dX3_checkWorkday_8 : decode cX3_checkWorkday 8 = .ok (.baload, 1) := by decide +kernel
theorem dX3_checkWorkday_9 : decode cX3_checkWorkday 9 = .ok (.ifCond .eq 13, 3) := by decide +kernel
theorem dX3_checkWorkday_12 : decode cX3_checkWorkday 12 = .ok (.new 48, 3) := by decide +kernel
theorem dX3_checkWorkday_15 : decode cX3_checkWorkday 15 = .ok (.dup, 1) := by decide +kernel
theorem dX3_checkWorkday_16 : decode cX3_checkWorkday 16 = .ok (.ldc 212, 2) := by decide +kernel
theorem dX3_checkWorkday_18 : decode cX3_checkWorkday 18 = .ok (.invokespecial 52, 3) := by decide +kernel
theorem dX3_checkWorkday_21 : decode cX3_checkWorkday 21 = .ok (.athrow, 1) := by decide +kernel
theorem dX3_checkWorkday_22 : decode cX3_checkWorkday 22 = .ok (.return_, 1) := by decide +kernel
set_option maxRecDepth 20000 in
theorem ggX3_passOneDay_Jx4a65c_size_8abf5 : GoodIn wsX3_passOneDay wsJx4a65c_size_8abf5 := goodIn_r _ [9, 10, 59, 60, 61] (by decide +kernel) (by decide +kernel)
set_option maxRecDepth 20000 in
theorem gX3_passOneDay_Jx4a65c_size_8abf5 : GoodIn wsX3_passOneDay (wsV RX3 108 RJx4a65c yJx4a65c_size_8abf5 wsJx4a65c_size_8abf5) := goodIn_app (goodIn_of _ (by decide +kernel)) ggX3_passOneDay_Jx4a65c_size_8abf5
set_option maxRecDepth 20000 in
theorem ggX3_passOneDay_Jx4a65c_get_915e3 : GoodIn wsX3_passOneDay wsJx4a65c_get_915e3 := goodIn_r _ [14, 10, 15, 16, 17, 18, 19, 20, 21, 22, 23, 24, 25, 8, 26, 27, 59, 60, 61] (by decide +kernel) (by decide +kernel)
set_option maxRecDepth 20000 in
theorem gX3_passOneDay_Jx4a65c_get_915e3 : GoodIn wsX3_passOneDay (wsV RX3 124 RJx4a65c yJx4a65c_get_915e3 wsJx4a65c_get_915e3) := goodIn_app (goodIn_of _ (by decide +kernel)) ggX3_passOneDay_Jx4a65c_get_915e3
set_option maxRecDepth 20000 in
theorem ggX3_passOneDay_X0_fill : GoodIn wsX3_passOneDay wsX0_fill := goodIn_r _ [32, 33, 34, 35, 36, 37, 38, 39, 40, 49, 50, 51, 52, 53, 54, 55, 56, 57, 58] (by decide +kernel) (by decide +kernel)
set_option maxRecDepth 20000 in
theorem gX3_passOneDay_X0_fill : GoodIn wsX3_passOneDay (wsV RX3 214 RX0 yX0_fill wsX0_fill) := goodIn_app (goodIn_of _ (by decide +kernel)) ggX3_passOneDay_X0_fill
theorem dX3_passOneDay_0 : decode cX3_passOneDay 0 = .ok (.aload_n 0, 1) := by decide +kernel
theorem dX3_passOneDay_1 : decode cX3_passOneDay 1 = .ok (.dup, 1) := by decide +kernel
theorem dX3_passOneDay_2 : decode cX3_passOneDay 2 = .ok (.getfield 42, 3) := by decide +kernel
theorem dX3_passOneDay_5 : decode cX3_passOneDay 5 = .ok (.iconst 1, 1) := by decide +kernel
theorem dX3_passOneDay_6 : decode cX3_passOneDay 6 = .ok (.iadd, 1) := by decide +kernel
theorem dX3_passOneDay_7 : decode cX3_passOneDay 7 = .ok (.putfield 42, 3) := by decide +kernel
theorem dX3_passOneDay_10 : decode cX3_passOneDay 10 = .ok (.iconst 0, 1) := by decide +kernel
theorem dX3_passOneDay_11 : decode cX3_passOneDay 11 = .ok (.istore_n 1, 1) := by decide +kernel
theorem dX3_passOneDay_12 : decode cX3_passOneDay 12 = .ok (.iconst 0, 1) := by decide +kernel
theorem dX3_passOneDay_13 : decode cX3_passOneDay 13 = .ok (.istore_n 2, 1) := by decide +kernel
theorem dX3_passOneDay_14 : decode cX3_passOneDay 14 = .ok (.iload_n 2, 1) := by decide +kernel
theorem dX3_passOneDay_15 : decode cX3_passOneDay 15 = .ok (.aload_n 0, 1) := by decide +kernel
theorem dX3_passOneDay_16 : decode cX3_passOneDay 16 = .ok (.getfield 19, 3) := by decide +kernel
theorem dX3_passOneDay_19 : decode cX3_passOneDay 19 = .ok (.invokevirtual 108, 3) := by decide +kernel
theorem dX3_passOneDay_22 : decode cX3_passOneDay 22 = .ok (.if_icmp .ge 55, 3) := by decide +kernel
theorem dX3_passOneDay_25 : decode cX3_passOneDay 25 = .ok (.aload_n 0, 1) := by decide +kernel
theorem dX3_passOneDay_26 : decode cX3_passOneDay 26 = .ok (.getfield 19, 3) := by decide +kernel
theorem dX3_passOneDay_29 : decode cX3_passOneDay 29 = .ok (.iload_n 2, 1) := by decide +kernel
theorem dX3_passOneDay_30 : decode cX3_passOneDay 30 = .ok (.invokevirtual 124, 3) := by decide +kernel
theorem dX3_passOneDay_33 : decode cX3_passOneDay 33 = .ok (.checkcast 113, 3) := by decide +kernel
theorem dX3_passOneDay_36 : decode cX3_passOneDay 36 = .ok (.astore_n 3, 1) := by decide +kernel
theorem dX3_passOneDay_37 : decode cX3_passOneDay 37 = .ok (.aload_n 3, 1) := by decide +kernel
theorem dX3_passOneDay_38 : decode cX3_passOneDay 38 = .ok (.invokevirtual 214, 3) := by decide +kernel
theorem dX3_passOneDay_41 : decode cX3_passOneDay 41 = .ok (.istore 4, 2) := by decide +kernel
theorem dX3_passOneDay_43 : decode cX3_passOneDay 43 = .ok (.aload_n 0, 1) := by decide +kernel
theorem dX3_passOneDay_44 : decode cX3_passOneDay 44 = .ok (.getfield 31, 3) := by decide +kernel
theorem dX3_passOneDay_47 : decode cX3_passOneDay 47 = .ok (.aload_n 3, 1) := by decide +kernel
theorem dX3_passOneDay_48 : decode cX3_passOneDay 48 = .ok (.getfield 158, 3) := by decide +kernel
theorem dX3_passOneDay_51 : decode cX3_passOneDay 51 = .ok (.dup2, 1) := by decide +kernel
theorem dX3_passOneDay_52 : decode cX3_passOneDay 52 = .ok (.laload, 1) := by decide +kernel
theorem dX3_passOneDay_53 : decode cX3_passOneDay 53 = .ok (.iload 4, 2) := by decide +kernel
theorem dX3_passOneDay_55 : decode cX3_passOneDay 55 = .ok (.i2l, 1) := by decide +kernel
theorem dX3_passOneDay_56 : decode cX3_passOneDay 56 = .ok (.ladd, 1) := by decide +kernel
theorem dX3_passOneDay_57 : decode cX3_passOneDay 57 = .ok (.lastore, 1) := by decide +kernel
theorem dX3_passOneDay_58 : decode cX3_passOneDay 58 = .ok (.iload_n 1, 1) := by decide +kernel
theorem dX3_passOneDay_59 : decode cX3_passOneDay 59 = .ok (.iload 4, 2) := by decide +kernel
theorem dX3_passOneDay_61 : decode cX3_passOneDay 61 = .ok (.ifCond .le 7, 3) := by decide +kernel
theorem dX3_passOneDay_64 : decode cX3_passOneDay 64 = .ok (.iconst 1, 1) := by decide +kernel
theorem dX3_passOneDay_65 : decode cX3_passOneDay 65 = .ok (.goto 4, 3) := by decide +kernel
theorem dX3_passOneDay_68 : decode cX3_passOneDay 68 = .ok (.iconst 0, 1) := by decide +kernel
theorem dX3_passOneDay_69 : decode cX3_passOneDay 69 = .ok (.iadd, 1) := by decide +kernel
theorem dX3_passOneDay_70 : decode cX3_passOneDay 70 = .ok (.istore_n 1, 1) := by decide +kernel
theorem dX3_passOneDay_71 : decode cX3_passOneDay 71 = .ok (.iinc 2 1, 3) := by decide +kernel
theorem dX3_passOneDay_74 : decode cX3_passOneDay 74 = .ok (.goto (-60), 3) := by decide +kernel
theorem dX3_passOneDay_77 : decode cX3_passOneDay 77 = .ok (.iload_n 1, 1) := by decide +kernel
theorem dX3_passOneDay_78 : decode cX3_passOneDay 78 = .ok (.ireturn, 1) := by decide +kernel
set_option maxRecDepth 20000 in
theorem ggX3_planRoute_X3_nextWorkday : GoodIn wsX3_planRoute wsX3_nextWorkday := goodIn_r _ [10, 4, 11, 66, 67, 68, 69, 70, 71, 72, 73] (by decide +kernel) (by decide +kernel)
set_option maxRecDepth 20000 in
theorem gX3_planRoute_X3_nextWorkday : GoodIn wsX3_planRoute (wsV RX3 217 RX3 yX3_nextWorkday wsX3_nextWorkday) := goodIn_app (goodIn_of _ (by decide +kernel)) ggX3_planRoute_X3_nextWorkday
set_option maxRecDepth 20000 in
theorem ggX3_planRoute_Jx4a65c_size_8abf5 : GoodIn wsX3_planRoute wsJx4a65c_size_8abf5 := goodIn_r _ [16, 17, 84, 85, 86] (by decide +kernel) (by decide +kernel)
set_option maxRecDepth 20000 in
theorem gX3_planRoute_Jx4a65c_size_8abf5 : GoodIn wsX3_planRoute (wsV RX3 108 RJx4a65c yJx4a65c_size_8abf5 wsJx4a65c_size_8abf5) := goodIn_app (goodIn_of _ (by decide +kernel)) ggX3_planRoute_Jx4a65c_size_8abf5
set_option maxRecDepth 20000 in
theorem ggX3_planRoute_Jx4a65c_get_915e3 : GoodIn wsX3_planRoute wsJx4a65c_get_915e3 := goodIn_r _ [21, 17, 22, 23, 24, 25, 26, 27, 28, 29, 30, 31, 32, 15, 33, 34, 84, 85, 86] (by decide +kernel) (by decide +kernel)
set_option maxRecDepth 20000 in
theorem gX3_planRoute_Jx4a65c_get_915e3 : GoodIn wsX3_planRoute (wsV RX3 124 RJx4a65c yJx4a65c_get_915e3 wsJx4a65c_get_915e3) := goodIn_app (goodIn_of _ (by decide +kernel)) ggX3_planRoute_Jx4a65c_get_915e3
set_option maxRecDepth 20000 in
theorem ggX3_planRoute_X0_isDue : GoodIn wsX3_planRoute wsX0_isDue := goodIn_r _ [39, 40, 41, 42, 43, 38, 44, 45, 46, 47, 48, 49, 50, 51, 52, 53, 54, 74, 75, 76, 77, 78, 79, 80, 81, 82, 83] (by decide +kernel) (by decide +kernel)
set_option maxRecDepth 20000 in
theorem gX3_planRoute_X0_isDue : GoodIn wsX3_planRoute (wsV RX3 220 RX0 yX0_isDue wsX0_isDue) := goodIn_app (goodIn_of _ (by decide +kernel)) ggX3_planRoute_X0_isDue
set_option maxRecDepth 20000 in
theorem ggX3_planRoute_X3_nearestStop : GoodIn wsX3_planRoute wsX3_nearestStop := goodIn_r _ [58, 59, 2, 5, 3, 1, 18, 19, 20, 15, 21, 17, 22, 23, 24, 25, 26, 27, 28, 29, 30, 31, 32, 33, 34, 60, 61, 62, 63, 64, 65, 66, 67, 68, 69, 70, 71, 72, 73, 74, 75, 76, 77, 78, 79, 80, 81, 82, 83, 84, 85, 86, 87, 88, 89] (by decide +kernel) (by decide +kernel)
set_option maxRecDepth 20000 in
theorem gX3_planRoute_X3_nearestStop : GoodIn wsX3_planRoute (wsV RX3 223 RX3 yX3_nearestStop wsX3_nearestStop) := goodIn_app (goodIn_of _ (by decide +kernel)) ggX3_planRoute_X3_nearestStop
theorem dX3_planRoute_0 : decode cX3_planRoute 0 = .ok (.aload_n 0, 1) := by decide +kernel
theorem dX3_planRoute_1 : decode cX3_planRoute 1 = .ok (.invokevirtual 217, 3) := by decide +kernel
theorem dX3_planRoute_4 : decode cX3_planRoute 4 = .ok (.istore_n 2, 1) := by decide +kernel
theorem dX3_planRoute_5 : decode cX3_planRoute 5 = .ok (.aload_n 0, 1) := by decide +kernel
theorem dX3_planRoute_6 : decode cX3_planRoute 6 = .ok (.iconst 0, 1) := by decide +kernel
theorem dX3_planRoute_7 : decode cX3_planRoute 7 = .ok (.putfield 38, 3) := by decide +kernel
theorem dX3_planRoute_10 : decode cX3_planRoute 10 = .ok (.iconst 0, 1) := by decide +kernel
theorem dX3_planRoute_11 : decode cX3_planRoute 11 = .ok (.istore_n 3, 1) := by decide +kernel
theorem dX3_planRoute_12 : decode cX3_planRoute 12 = .ok (.iload_n 3, 1) := by decide +kernel
theorem dX3_planRoute_13 : decode cX3_planRoute 13 = .ok (.aload_n 0, 1) := by decide +kernel
theorem dX3_planRoute_14 : decode cX3_planRoute 14 = .ok (.getfield 19, 3) := by decide +kernel
theorem dX3_planRoute_17 : decode cX3_planRoute 17 = .ok (.invokevirtual 108, 3) := by decide +kernel
theorem dX3_planRoute_20 : decode cX3_planRoute 20 = .ok (.if_icmp .ge 64, 3) := by decide +kernel
theorem dX3_planRoute_23 : decode cX3_planRoute 23 = .ok (.aload_n 0, 1) := by decide +kernel
theorem dX3_planRoute_24 : decode cX3_planRoute 24 = .ok (.getfield 19, 3) := by decide +kernel
theorem dX3_planRoute_27 : decode cX3_planRoute 27 = .ok (.iload_n 3, 1) := by decide +kernel
theorem dX3_planRoute_28 : decode cX3_planRoute 28 = .ok (.invokevirtual 124, 3) := by decide +kernel
theorem dX3_planRoute_31 : decode cX3_planRoute 31 = .ok (.checkcast 113, 3) := by decide +kernel
theorem dX3_planRoute_34 : decode cX3_planRoute 34 = .ok (.astore 4, 2) := by decide +kernel
theorem dX3_planRoute_36 : decode cX3_planRoute 36 = .ok (.aload 4, 2) := by decide +kernel
theorem dX3_planRoute_38 : decode cX3_planRoute 38 = .ok (.getfield 158, 3) := by decide +kernel
theorem dX3_planRoute_41 : decode cX3_planRoute 41 = .ok (.iload_n 1, 1) := by decide +kernel
theorem dX3_planRoute_42 : decode cX3_planRoute 42 = .ok (.if_icmp .ne 36, 3) := by decide +kernel
theorem dX3_planRoute_45 : decode cX3_planRoute 45 = .ok (.aload 4, 2) := by decide +kernel
theorem dX3_planRoute_47 : decode cX3_planRoute 47 = .ok (.aload_n 0, 1) := by decide +kernel
theorem dX3_planRoute_48 : decode cX3_planRoute 48 = .ok (.getfield 42, 3) := by decide +kernel
theorem dX3_planRoute_51 : decode cX3_planRoute 51 = .ok (.iload_n 2, 1) := by decide +kernel
theorem dX3_planRoute_52 : decode cX3_planRoute 52 = .ok (.invokevirtual 220, 3) := by decide +kernel
theorem dX3_planRoute_55 : decode cX3_planRoute 55 = .ok (.ifCond .eq 23, 3) := by decide +kernel
theorem dX3_planRoute_58 : decode cX3_planRoute 58 = .ok (.aload_n 0, 1) := by decide +kernel
theorem dX3_planRoute_59 : decode cX3_planRoute 59 = .ok (.getfield 34, 3) := by decide +kernel
theorem dX3_planRoute_62 : decode cX3_planRoute 62 = .ok (.aload_n 0, 1) := by decide +kernel
theorem dX3_planRoute_63 : decode cX3_planRoute 63 = .ok (.getfield 38, 3) := by decide +kernel
theorem dX3_planRoute_66 : decode cX3_planRoute 66 = .ok (.iload_n 3, 1) := by decide +kernel
theorem dX3_planRoute_67 : decode cX3_planRoute 67 = .ok (.iastore, 1) := by decide +kernel
theorem dX3_planRoute_68 : decode cX3_planRoute 68 = .ok (.aload_n 0, 1) := by decide +kernel
theorem dX3_planRoute_69 : decode cX3_planRoute 69 = .ok (.dup, 1) := by decide +kernel
theorem dX3_planRoute_70 : decode cX3_planRoute 70 = .ok (.getfield 38, 3) := by decide +kernel
theorem dX3_planRoute_73 : decode cX3_planRoute 73 = .ok (.iconst 1, 1) := by decide +kernel
theorem dX3_planRoute_74 : decode cX3_planRoute 74 = .ok (.iadd, 1) := by decide +kernel
theorem dX3_planRoute_75 : decode cX3_planRoute 75 = .ok (.putfield 38, 3) := by decide +kernel
theorem dX3_planRoute_78 : decode cX3_planRoute 78 = .ok (.iinc 3 1, 3) := by decide +kernel
theorem dX3_planRoute_81 : decode cX3_planRoute 81 = .ok (.goto (-69), 3) := by decide +kernel
theorem dX3_planRoute_84 : decode cX3_planRoute 84 = .ok (.iconst 0, 1) := by decide +kernel
theorem dX3_planRoute_85 : decode cX3_planRoute 85 = .ok (.istore_n 3, 1) := by decide +kernel
theorem dX3_planRoute_86 : decode cX3_planRoute 86 = .ok (.iconst 0, 1) := by decide +kernel
theorem dX3_planRoute_87 : decode cX3_planRoute 87 = .ok (.istore 4, 2) := by decide +kernel
theorem dX3_planRoute_89 : decode cX3_planRoute 89 = .ok (.iload 4, 2) := by decide +kernel
theorem dX3_planRoute_91 : decode cX3_planRoute 91 = .ok (.aload_n 0, 1) := by decide +kernel
theorem dX3_planRoute_92 : decode cX3_planRoute 92 = .ok (.getfield 38, 3) := by decide +kernel
theorem dX3_planRoute_95 : decode cX3_planRoute 95 = .ok (.if_icmp .ge 66, 3) := by decide +kernel
theorem dX3_planRoute_98 : decode cX3_planRoute 98 = .ok (.aload_n 0, 1) := by decide +kernel
theorem dX3_planRoute_99 : decode cX3_planRoute 99 = .ok (.iload 4, 2) := by decide +kernel
theorem dX3_planRoute_101 : decode cX3_planRoute 101 = .ok (.iload_n 3, 1) := by decide +kernel
theorem dX3_planRoute_102 : decode cX3_planRoute 102 = .ok (.invokevirtual 223, 3) := by decide +kernel
theorem dX3_planRoute_105 : decode cX3_planRoute 105 = .ok (.istore 5, 2) := by decide +kernel
theorem dX3_planRoute_107 : decode cX3_planRoute 107 = .ok (.aload_n 0, 1) := by decide +kernel
theorem dX3_planRoute_108 : decode cX3_planRoute 108 = .ok (.getfield 34, 3) := by decide +kernel
theorem dX3_planRoute_111 : decode cX3_planRoute 111 = .ok (.iload 5, 2) := by decide +kernel
theorem dX3_planRoute_113 : decode cX3_planRoute 113 = .ok (.iaload, 1) := by decide +kernel
theorem dX3_planRoute_114 : decode cX3_planRoute 114 = .ok (.istore 6, 2) := by decide +kernel
theorem dX3_planRoute_116 : decode cX3_planRoute 116 = .ok (.aload_n 0, 1) := by decide +kernel
theorem dX3_planRoute_117 : decode cX3_planRoute 117 = .ok (.getfield 34, 3) := by decide +kernel
theorem dX3_planRoute_120 : decode cX3_planRoute 120 = .ok (.iload 5, 2) := by decide +kernel
theorem dX3_planRoute_122 : decode cX3_planRoute 122 = .ok (.aload_n 0, 1) := by decide +kernel
theorem dX3_planRoute_123 : decode cX3_planRoute 123 = .ok (.getfield 34, 3) := by decide +kernel
theorem dX3_planRoute_126 : decode cX3_planRoute 126 = .ok (.iload 4, 2) := by decide +kernel
theorem dX3_planRoute_128 : decode cX3_planRoute 128 = .ok (.iaload, 1) := by decide +kernel
theorem dX3_planRoute_129 : decode cX3_planRoute 129 = .ok (.iastore, 1) := by decide +kernel
theorem dX3_planRoute_130 : decode cX3_planRoute 130 = .ok (.aload_n 0, 1) := by decide +kernel
theorem dX3_planRoute_131 : decode cX3_planRoute 131 = .ok (.getfield 34, 3) := by decide +kernel
theorem dX3_planRoute_134 : decode cX3_planRoute 134 = .ok (.iload 4, 2) := by decide +kernel
theorem dX3_planRoute_136 : decode cX3_planRoute 136 = .ok (.iload 6, 2) := by decide +kernel
theorem dX3_planRoute_138 : decode cX3_planRoute 138 = .ok (.iastore, 1) := by decide +kernel
theorem dX3_planRoute_139 : decode cX3_planRoute 139 = .ok (.aload_n 0, 1) := by decide +kernel
theorem dX3_planRoute_140 : decode cX3_planRoute 140 = .ok (.getfield 19, 3) := by decide +kernel
theorem dX3_planRoute_143 : decode cX3_planRoute 143 = .ok (.iload 6, 2) := by decide +kernel
theorem dX3_planRoute_145 : decode cX3_planRoute 145 = .ok (.invokevirtual 124, 3) := by decide +kernel
theorem dX3_planRoute_148 : decode cX3_planRoute 148 = .ok (.checkcast 113, 3) := by decide +kernel
theorem dX3_planRoute_151 : decode cX3_planRoute 151 = .ok (.getfield 226, 3) := by decide +kernel
theorem dX3_planRoute_154 : decode cX3_planRoute 154 = .ok (.istore_n 3, 1) := by decide +kernel
theorem dX3_planRoute_155 : decode cX3_planRoute 155 = .ok (.iinc 4 1, 3) := by decide +kernel
theorem dX3_planRoute_158 : decode cX3_planRoute 158 = .ok (.goto (-69), 3) := by decide +kernel
theorem dX3_planRoute_161 : decode cX3_planRoute 161 = .ok (.return_, 1) := by decide +kernel
set_option maxRecDepth 20000 in
theorem ggX3_nearestStop_Jx4a65c_get_915e3 : GoodIn wsX3_nearestStop wsJx4a65c_get_915e3 := goodIn_r _ [10, 11, 12, 13, 14, 15, 16, 17, 18, 19, 20, 21, 22, 9, 23, 24, 49, 50, 51] (by decide +kernel) (by decide +kernel)
set_option maxRecDepth 20000 in
theorem gX3_nearestStop_Jx4a65c_get_915e3 : GoodIn wsX3_nearestStop (wsV RX3 124 RJx4a65c yJx4a65c_get_915e3 wsJx4a65c_get_915e3) := goodIn_app (goodIn_of _ (by decide +kernel)) ggX3_nearestStop_Jx4a65c_get_915e3
set_option maxRecDepth 20000 in
theorem ggX3_nearestStop_X1_between : GoodIn wsX3_nearestStop wsX1_between := goodIn_r _ [29, 30, 52, 53, 54] (by decide +kernel) (by decide +kernel)
set_option maxRecDepth 20000 in
theorem gX3_nearestStop_X1_between : GoodIn wsX3_nearestStop (wsV RX3 72 RX1 yX1_between wsX1_between) := goodIn_app (goodIn_of _ (by decide +kernel)) ggX3_nearestStop_X1_between
theorem dX3_nearestStop_0 : decode cX3_nearestStop 0 = .ok (.iload_n 1, 1) := by decide +kernel
theorem dX3_nearestStop_1 : decode cX3_nearestStop 1 = .ok (.istore_n 3, 1) := by decide +kernel
theorem dX3_nearestStop_2 : decode cX3_nearestStop 2 = .ok (.aload_n 0, 1) := by decide +kernel
theorem dX3_nearestStop_3 : decode cX3_nearestStop 3 = .ok (.getfield 12, 3) := by decide +kernel
theorem dX3_nearestStop_6 : decode cX3_nearestStop 6 = .ok (.iload_n 2, 1) := by decide +kernel
theorem dX3_nearestStop_7 : decode cX3_nearestStop 7 = .ok (.aload_n 0, 1) := by decide +kernel
theorem dX3_nearestStop_8 : decode cX3_nearestStop 8 = .ok (.getfield 19, 3) := by decide +kernel
theorem dX3_nearestStop_11 : decode cX3_nearestStop 11 = .ok (.aload_n 0, 1) := by decide +kernel
theorem dX3_nearestStop_12 : decode cX3_nearestStop 12 = .ok (.getfield 34, 3) := by decide +kernel
theorem dX3_nearestStop_15 : decode cX3_nearestStop 15 = .ok (.iload_n 1, 1) := by decide +kernel
theorem dX3_nearestStop_16 : decode cX3_nearestStop 16 = .ok (.iaload, 1) := by decide +kernel
theorem dX3_nearestStop_17 : decode cX3_nearestStop 17 = .ok (.invokevirtual 124, 3) := by decide +kernel
theorem dX3_nearestStop_20 : decode cX3_nearestStop 20 = .ok (.checkcast 113, 3) := by decide +kernel
theorem dX3_nearestStop_23 : decode cX3_nearestStop 23 = .ok (.getfield 226, 3) := by decide +kernel
theorem dX3_nearestStop_26 : decode cX3_nearestStop 26 = .ok (.invokevirtual 72, 3) := by decide +kernel
theorem dX3_nearestStop_29 : decode cX3_nearestStop 29 = .ok (.istore 4, 2) := by decide +kernel
theorem dX3_nearestStop_31 : decode cX3_nearestStop 31 = .ok (.iload_n 1, 1) := by decide +kernel
theorem dX3_nearestStop_32 : decode cX3_nearestStop 32 = .ok (.iconst 1, 1) := by decide +kernel
theorem dX3_nearestStop_33 : decode cX3_nearestStop 33 = .ok (.iadd, 1) := by decide +kernel
theorem dX3_nearestStop_34 : decode cX3_nearestStop 34 = .ok (.istore 5, 2) := by decide +kernel
theorem dX3_nearestStop_36 : decode cX3_nearestStop 36 = .ok (.iload 5, 2) := by decide +kernel
theorem dX3_nearestStop_38 : decode cX3_nearestStop 38 = .ok (.aload_n 0, 1) := by decide +kernel
theorem dX3_nearestStop_39 : decode cX3_nearestStop 39 = .ok (.getfield 38, 3) := by decide +kernel
theorem dX3_nearestStop_42 : decode cX3_nearestStop 42 = .ok (.if_icmp .ge 76, 3) := by decide +kernel
theorem dX3_nearestStop_45 : decode cX3_nearestStop 45 = .ok (.aload_n 0, 1) := by decide +kernel
theorem dX3_nearestStop_46 : decode cX3_nearestStop 46 = .ok (.getfield 12, 3) := by decide +kernel
theorem dX3_nearestStop_49 : decode cX3_nearestStop 49 = .ok (.iload_n 2, 1) := by decide +kernel
theorem dX3_nearestStop_50 : decode cX3_nearestStop 50 = .ok (.aload_n 0, 1) := by decide +kernel
theorem dX3_nearestStop_51 : decode cX3_nearestStop 51 = .ok (.getfield 19, 3) := by decide +kernel
theorem dX3_nearestStop_54 : decode cX3_nearestStop 54 = .ok (.aload_n 0, 1) := by decide +kernel
theorem dX3_nearestStop_55 : decode cX3_nearestStop 55 = .ok (.getfield 34, 3) := by decide +kernel
theorem dX3_nearestStop_58 : decode cX3_nearestStop 58 = .ok (.iload 5, 2) := by decide +kernel
theorem dX3_nearestStop_60 : decode cX3_nearestStop 60 = .ok (.iaload, 1) := by decide +kernel
theorem dX3_nearestStop_61 : decode cX3_nearestStop 61 = .ok (.invokevirtual 124, 3) := by decide +kernel
theorem dX3_nearestStop_64 : decode cX3_nearestStop 64 = .ok (.checkcast 113, 3) := by decide +kernel
theorem dX3_nearestStop_67 : decode cX3_nearestStop 67 = .ok (.getfield 226, 3) := by decide +kernel
theorem dX3_nearestStop_70 : decode cX3_nearestStop 70 = .ok (.invokevirtual 72, 3) := by decide +kernel
theorem dX3_nearestStop_73 : decode cX3_nearestStop 73 = .ok (.istore 6, 2) := by decide +kernel
theorem dX3_nearestStop_75 : decode cX3_nearestStop 75 = .ok (.iload 6, 2) := by decide +kernel
theorem dX3_nearestStop_77 : decode cX3_nearestStop 77 = .ok (.iload 4, 2) := by decide +kernel
theorem dX3_nearestStop_79 : decode cX3_nearestStop 79 = .ok (.if_icmp .lt 26, 3) := by decide +kernel
theorem dX3_nearestStop_82 : decode cX3_nearestStop 82 = .ok (.iload 6, 2) := by decide +kernel
theorem dX3_nearestStop_84 : decode cX3_nearestStop 84 = .ok (.iload 4, 2) := by decide +kernel
theorem dX3_nearestStop_86 : decode cX3_nearestStop 86 = .ok (.if_icmp .ne 26, 3) := by decide +kernel
theorem dX3_nearestStop_89 : decode cX3_nearestStop 89 = .ok (.aload_n 0, 1) := by decide +kernel
theorem dX3_nearestStop_90 : decode cX3_nearestStop 90 = .ok (.getfield 34, 3) := by decide +kernel
theorem dX3_nearestStop_93 : decode cX3_nearestStop 93 = .ok (.iload 5, 2) := by decide +kernel
theorem dX3_nearestStop_95 : decode cX3_nearestStop 95 = .ok (.iaload, 1) := by decide +kernel
theorem dX3_nearestStop_96 : decode cX3_nearestStop 96 = .ok (.aload_n 0, 1) := by decide +kernel
theorem dX3_nearestStop_97 : decode cX3_nearestStop 97 = .ok (.getfield 34, 3) := by decide +kernel
theorem dX3_nearestStop_100 : decode cX3_nearestStop 100 = .ok (.iload_n 3, 1) := by decide +kernel
theorem dX3_nearestStop_101 : decode cX3_nearestStop 101 = .ok (.iaload, 1) := by decide +kernel
theorem dX3_nearestStop_102 : decode cX3_nearestStop 102 = .ok (.if_icmp .ge 10, 3) := by decide +kernel
theorem dX3_nearestStop_105 : decode cX3_nearestStop 105 = .ok (.iload 5, 2) := by decide +kernel
theorem dX3_nearestStop_107 : decode cX3_nearestStop 107 = .ok (.istore_n 3, 1) := by decide +kernel
theorem dX3_nearestStop_108 : decode cX3_nearestStop 108 = .ok (.iload 6, 2) := by decide +kernel
theorem dX3_nearestStop_110 : decode cX3_nearestStop 110 = .ok (.istore 4, 2) := by decide +kernel
theorem dX3_nearestStop_112 : decode cX3_nearestStop 112 = .ok (.iinc 5 1, 3) := by decide +kernel
theorem dX3_nearestStop_115 : decode cX3_nearestStop 115 = .ok (.goto (-79), 3) := by decide +kernel
theorem dX3_nearestStop_118 : decode cX3_nearestStop 118 = .ok (.iload_n 3, 1) := by decide +kernel
theorem dX3_nearestStop_119 : decode cX3_nearestStop 119 = .ok (.ireturn, 1) := by decide +kernel
set_option maxRecDepth 20000 in
theorem ggX3_makeTour_X2_init : GoodIn wsX3_makeTour wsX2_init := goodIn_r _ [13, 14, 15, 16, 17, 18, 19, 20, 21, 22, 23, 24, 92, 93, 94, 95, 96, 97, 98, 99] (by decide +kernel) (by decide +kernel)
set_option maxRecDepth 20000 in
theorem gX3_makeTour_X2_init : GoodIn wsX3_makeTour (wsX2_init) := ggX3_makeTour_X2_init
set_option maxRecDepth 20000 in
theorem ggX3_makeTour_Jx4a65c_get_915e3 : GoodIn wsX3_makeTour wsJx4a65c_get_915e3 := goodIn_r _ [29, 30, 31, 32, 33, 34, 35, 36, 37, 38, 39, 40, 41, 28, 42, 43, 108, 109, 110] (by decide +kernel) (by decide +kernel)
set_option maxRecDepth 20000 in
theorem gX3_makeTour_Jx4a65c_get_915e3 : GoodIn wsX3_makeTour (wsV RX3 124 RJx4a65c yJx4a65c_get_915e3 wsJx4a65c_get_915e3) := goodIn_app (goodIn_of _ (by decide +kernel)) ggX3_makeTour_Jx4a65c_get_915e3
set_option maxRecDepth 20000 in
theorem ggX3_makeTour_X2_visit : GoodIn wsX3_makeTour wsX2_visit := goodIn_r _ [47, 22, 21, 19, 20, 48, 49, 50, 51, 52, 53, 54, 3, 55, 17, 56, 57, 58, 59, 60, 61, 62, 63, 64, 65, 18, 23, 24, 66, 67, 68, 69, 70, 71, 72, 73, 74, 75, 76, 77, 111, 112, 113, 114, 115, 116, 117, 118, 119, 120, 92, 93, 94, 95, 96, 97, 98, 99, 121, 122, 123] (by decide +kernel) (by decide +kernel)
set_option maxRecDepth 20000 in
theorem gX3_makeTour_X2_visit : GoodIn wsX3_makeTour (wsV RX3 166 RX2 yX2_visit wsX2_visit) := goodIn_app (goodIn_of _ (by decide +kernel)) ggX3_makeTour_X2_visit
set_option maxRecDepth 20000 in
theorem ggX3_makeTour_X0_endVisit : GoodIn wsX3_makeTour wsX0_endVisit := goodIn_r _ [82, 83, 84, 85, 86, 87, 111, 112, 113, 114, 115, 116, 117, 118, 119, 120] (by decide +kernel) (by decide +kernel)
set_option maxRecDepth 20000 in
theorem gX3_makeTour_X0_endVisit : GoodIn wsX3_makeTour (wsV RX3 229 RX0 yX0_endVisit wsX0_endVisit) := goodIn_app (goodIn_of _ (by decide +kernel)) ggX3_makeTour_X0_endVisit
set_option maxRecDepth 20000 in
theorem ggX3_makeTour_X2_end : GoodIn wsX3_makeTour wsX2_end := goodIn_r _ [91, 21, 62, 63, 64, 3, 65, 22, 17, 18, 20, 23, 24, 66, 67, 68, 59, 69, 70, 71, 49, 50, 51, 72, 73, 74, 75, 76, 77, 57, 58, 60, 61, 52, 53, 54, 55, 56, 92, 93, 94, 95, 96, 97, 98, 99, 121, 122, 123] (by decide +kernel) (by decide +kernel)
set_option maxRecDepth 20000 in
theorem gX3_makeTour_X2_end : GoodIn wsX3_makeTour (wsV RX3 170 RX2 yX2_end wsX2_end) := goodIn_app (goodIn_of _ (by decide +kernel)) ggX3_makeTour_X2_end
theorem dX3_makeTour_0 : decode cX3_makeTour 0 = .ok (.new 161, 3) := by decide +kernel
theorem dX3_makeTour_3 : decode cX3_makeTour 3 = .ok (.dup, 1) := by decide +kernel
theorem dX3_makeTour_4 : decode cX3_makeTour 4 = .ok (.aload_n 0, 1) := by decide +kernel
theorem dX3_makeTour_5 : decode cX3_makeTour 5 = .ok (.getfield 12, 3) := by decide +kernel
theorem dX3_makeTour_8 : decode cX3_makeTour 8 = .ok (.iload_n 1, 1) := by decide +kernel
theorem dX3_makeTour_9 : decode cX3_makeTour 9 = .ok (.iload_n 2, 1) := by decide +kernel
theorem dX3_makeTour_10 : decode cX3_makeTour 10 = .ok (.invokespecial 163, 3) := by decide +kernel
theorem dX3_makeTour_13 : decode cX3_makeTour 13 = .ok (.astore_n 3, 1) := by decide +kernel
theorem dX3_makeTour_14 : decode cX3_makeTour 14 = .ok (.iconst 0, 1) := by decide +kernel
theorem dX3_makeTour_15 : decode cX3_makeTour 15 = .ok (.istore 4, 2) := by decide +kernel
theorem dX3_makeTour_17 : decode cX3_makeTour 17 = .ok (.iload 4, 2) := by decide +kernel
theorem dX3_makeTour_19 : decode cX3_makeTour 19 = .ok (.aload_n 0, 1) := by decide +kernel
theorem dX3_makeTour_20 : decode cX3_makeTour 20 = .ok (.getfield 38, 3) := by decide +kernel
theorem dX3_makeTour_23 : decode cX3_makeTour 23 = .ok (.if_icmp .ge 47, 3) := by decide +kernel
theorem dX3_makeTour_26 : decode cX3_makeTour 26 = .ok (.aload_n 0, 1) := by decide +kernel
theorem dX3_makeTour_27 : decode cX3_makeTour 27 = .ok (.getfield 19, 3) := by decide +kernel
theorem dX3_makeTour_30 : decode cX3_makeTour 30 = .ok (.aload_n 0, 1) := by decide +kernel
theorem dX3_makeTour_31 : decode cX3_makeTour 31 = .ok (.getfield 34, 3) := by decide +kernel
theorem dX3_makeTour_34 : decode cX3_makeTour 34 = .ok (.iload 4, 2) := by decide +kernel
theorem dX3_makeTour_36 : decode cX3_makeTour 36 = .ok (.iaload, 1) := by decide +kernel
theorem dX3_makeTour_37 : decode cX3_makeTour 37 = .ok (.invokevirtual 124, 3) := by decide +kernel
theorem dX3_makeTour_40 : decode cX3_makeTour 40 = .ok (.checkcast 113, 3) := by decide +kernel
theorem dX3_makeTour_43 : decode cX3_makeTour 43 = .ok (.astore 5, 2) := by decide +kernel
theorem dX3_makeTour_45 : decode cX3_makeTour 45 = .ok (.aload_n 3, 1) := by decide +kernel
theorem dX3_makeTour_46 : decode cX3_makeTour 46 = .ok (.aload 5, 2) := by decide +kernel
theorem dX3_makeTour_48 : decode cX3_makeTour 48 = .ok (.invokevirtual 166, 3) := by decide +kernel
theorem dX3_makeTour_51 : decode cX3_makeTour 51 = .ok (.istore 6, 2) := by decide +kernel
theorem dX3_makeTour_53 : decode cX3_makeTour 53 = .ok (.aload 5, 2) := by decide +kernel
theorem dX3_makeTour_55 : decode cX3_makeTour 55 = .ok (.iload 6, 2) := by decide +kernel
theorem dX3_makeTour_57 : decode cX3_makeTour 57 = .ok (.aload_n 0, 1) := by decide +kernel
theorem dX3_makeTour_58 : decode cX3_makeTour 58 = .ok (.getfield 42, 3) := by decide +kernel
theorem dX3_makeTour_61 : decode cX3_makeTour 61 = .ok (.invokevirtual 229, 3) := by decide +kernel
theorem dX3_makeTour_64 : decode cX3_makeTour 64 = .ok (.iinc 4 1, 3) := by decide +kernel
theorem dX3_makeTour_67 : decode cX3_makeTour 67 = .ok (.goto (-50), 3) := by decide +kernel
theorem dX3_makeTour_70 : decode cX3_makeTour 70 = .ok (.aload_n 3, 1) := by decide +kernel
theorem dX3_makeTour_71 : decode cX3_makeTour 71 = .ok (.invokevirtual 170, 3) := by decide +kernel
theorem dX3_makeTour_74 : decode cX3_makeTour 74 = .ok (.iload_n 1, 1) := by decide +kernel
theorem dX3_makeTour_75 : decode cX3_makeTour 75 = .ok (.iconst 4, 1) := by decide +kernel
theorem dX3_makeTour_76 : decode cX3_makeTour 76 = .ok (.imul, 1) := by decide +kernel
theorem dX3_makeTour_77 : decode cX3_makeTour 77 = .ok (.istore 4, 2) := by decide +kernel
theorem dX3_makeTour_79 : decode cX3_makeTour 79 = .ok (.aload_n 0, 1) := by decide +kernel
theorem dX3_makeTour_80 : decode cX3_makeTour 80 = .ok (.getfield 27, 3) := by decide +kernel
theorem dX3_makeTour_83 : decode cX3_makeTour 83 = .ok (.iload 4, 2) := by decide +kernel
theorem dX3_makeTour_85 : decode cX3_makeTour 85 = .ok (.iconst 0, 1) := by decide +kernel
theorem dX3_makeTour_86 : decode cX3_makeTour 86 = .ok (.iadd, 1) := by decide +kernel
theorem dX3_makeTour_87 : decode cX3_makeTour 87 = .ok (.dup2, 1) := by decide +kernel
theorem dX3_makeTour_88 : decode cX3_makeTour 88 = .ok (.laload, 1) := by decide +kernel
theorem dX3_makeTour_89 : decode cX3_makeTour 89 = .ok (.aload_n 3, 1) := by decide +kernel
theorem dX3_makeTour_90 : decode cX3_makeTour 90 = .ok (.getfield 233, 3) := by decide +kernel
theorem dX3_makeTour_93 : decode cX3_makeTour 93 = .ok (.i2l, 1) := by decide +kernel
theorem dX3_makeTour_94 : decode cX3_makeTour 94 = .ok (.ladd, 1) := by decide +kernel
theorem dX3_makeTour_95 : decode cX3_makeTour 95 = .ok (.lastore, 1) := by decide +kernel
theorem dX3_makeTour_96 : decode cX3_makeTour 96 = .ok (.aload_n 0, 1) := by decide +kernel
theorem dX3_makeTour_97 : decode cX3_makeTour 97 = .ok (.getfield 27, 3) := by decide +kernel
theorem dX3_makeTour_100 : decode cX3_makeTour 100 = .ok (.iload 4, 2) := by decide +kernel
theorem dX3_makeTour_102 : decode cX3_makeTour 102 = .ok (.iconst 1, 1) := by decide +kernel
theorem dX3_makeTour_103 : decode cX3_makeTour 103 = .ok (.iadd, 1) := by decide +kernel
theorem dX3_makeTour_104 : decode cX3_makeTour 104 = .ok (.dup2, 1) := by decide +kernel
theorem dX3_makeTour_105 : decode cX3_makeTour 105 = .ok (.laload, 1) := by decide +kernel
theorem dX3_makeTour_106 : decode cX3_makeTour 106 = .ok (.aload_n 3, 1) := by decide +kernel
theorem dX3_makeTour_107 : decode cX3_makeTour 107 = .ok (.getfield 236, 3) := by decide +kernel
theorem dX3_makeTour_110 : decode cX3_makeTour 110 = .ok (.i2l, 1) := by decide +kernel
theorem dX3_makeTour_111 : decode cX3_makeTour 111 = .ok (.ladd, 1) := by decide +kernel
theorem dX3_makeTour_112 : decode cX3_makeTour 112 = .ok (.lastore, 1) := by decide +kernel
theorem dX3_makeTour_113 : decode cX3_makeTour 113 = .ok (.aload_n 0, 1) := by decide +kernel
theorem dX3_makeTour_114 : decode cX3_makeTour 114 = .ok (.getfield 27, 3) := by decide +kernel
theorem dX3_makeTour_117 : decode cX3_makeTour 117 = .ok (.iload 4, 2) := by decide +kernel
theorem dX3_makeTour_119 : decode cX3_makeTour 119 = .ok (.iconst 2, 1) := by decide +kernel
theorem dX3_makeTour_120 : decode cX3_makeTour 120 = .ok (.iadd, 1) := by decide +kernel
theorem dX3_makeTour_121 : decode cX3_makeTour 121 = .ok (.dup2, 1) := by decide +kernel
theorem dX3_makeTour_122 : decode cX3_makeTour 122 = .ok (.laload, 1) := by decide +kernel
theorem dX3_makeTour_123 : decode cX3_makeTour 123 = .ok (.aload_n 3, 1) := by decide +kernel
theorem dX3_makeTour_124 : decode cX3_makeTour 124 = .ok (.getfield 173, 3) := by decide +kernel
theorem dX3_makeTour_127 : decode cX3_makeTour 127 = .ok (.i2l, 1) := by decide +kernel
theorem dX3_makeTour_128 : decode cX3_makeTour 128 = .ok (.ladd, 1) := by decide +kernel
theorem dX3_makeTour_129 : decode cX3_makeTour 129 = .ok (.lastore, 1) := by decide +kernel
theorem dX3_makeTour_130 : decode cX3_makeTour 130 = .ok (.aload_n 0, 1) := by decide +kernel
theorem dX3_makeTour_131 : decode cX3_makeTour 131 = .ok (.getfield 27, 3) := by decide +kernel
theorem dX3_makeTour_134 : decode cX3_makeTour 134 = .ok (.iload 4, 2) := by decide +kernel
theorem dX3_makeTour_136 : decode cX3_makeTour 136 = .ok (.iconst 3, 1) := by decide +kernel
theorem dX3_makeTour_137 : decode cX3_makeTour 137 = .ok (.iadd, 1) := by decide +kernel
theorem dX3_makeTour_138 : decode cX3_makeTour 138 = .ok (.dup2, 1) := by decide +kernel
theorem dX3_makeTour_139 : decode cX3_makeTour 139 = .ok (.laload, 1) := by decide +kernel
theorem dX3_makeTour_140 : decode cX3_makeTour 140 = .ok (.lconst 1, 1) := by decide +kernel
theorem dX3_makeTour_141 : decode cX3_makeTour 141 = .ok (.ladd, 1) := by decide +kernel
theorem dX3_makeTour_142 : decode cX3_makeTour 142 = .ok (.lastore, 1) := by decide +kernel
theorem dX3_makeTour_143 : decode cX3_makeTour 143 = .ok (.aload_n 3, 1) := by decide +kernel
theorem dX3_makeTour_144 : decode cX3_makeTour 144 = .ok (.getfield 173, 3) := by decide +kernel
theorem dX3_makeTour_147 : decode cX3_makeTour 147 = .ok (.ireturn, 1) := by decide +kernel
set_option maxRecDepth 20000 in
theorem ggX3_mixRegion_X3_mix : GoodIn wsX3_mixRegion wsX3_mix := goodIn_r _ [5, 6] (by decide +kernel) (by decide +kernel)
set_option maxRecDepth 20000 in
theorem gX3_mixRegion_X3_mix : GoodIn wsX3_mixRegion (va_wsS RX3 190 yX3_mix wsX3_mix) := goodIn_app (goodIn_of _ (by decide +kernel)) ggX3_mixRegion_X3_mix
set_option maxRecDepth 20000 in
theorem ggX3_mixRegion_X1_between : GoodIn wsX3_mixRegion wsX1_between := goodIn_r _ [11, 12, 21, 22, 23] (by decide +kernel) (by decide +kernel)
set_option maxRecDepth 20000 in
theorem gX3_mixRegion_X1_between : GoodIn wsX3_mixRegion (wsV RX3 72 RX1 yX1_between wsX1_between) := goodIn_app (goodIn_of _ (by decide +kernel)) ggX3_mixRegion_X1_between
theorem dX3_mixRegion_0 : decode cX3_mixRegion 0 = .ok (.lload_n 1, 1) := by decide +kernel
theorem dX3_mixRegion_1 : decode cX3_mixRegion 1 = .ok (.aload_n 0, 1) := by decide +kernel
theorem dX3_mixRegion_2 : decode cX3_mixRegion 2 = .ok (.getfield 12, 3) := by decide +kernel
theorem dX3_mixRegion_5 : decode cX3_mixRegion 5 = .ok (.getfield 45, 3) := by decide +kernel
theorem dX3_mixRegion_8 : decode cX3_mixRegion 8 = .ok (.i2l, 1) := by decide +kernel
theorem dX3_mixRegion_9 : decode cX3_mixRegion 9 = .ok (.invokestatic 190, 3) := by decide +kernel
theorem dX3_mixRegion_12 : decode cX3_mixRegion 12 = .ok (.lstore_n 3, 1) := by decide +kernel
theorem dX3_mixRegion_13 : decode cX3_mixRegion 13 = .ok (.iconst 0, 1) := by decide +kernel
theorem dX3_mixRegion_14 : decode cX3_mixRegion 14 = .ok (.istore 5, 2) := by decide +kernel
theorem dX3_mixRegion_16 : decode cX3_mixRegion 16 = .ok (.iload 5, 2) := by decide +kernel
theorem dX3_mixRegion_18 : decode cX3_mixRegion 18 = .ok (.aload_n 0, 1) := by decide +kernel
theorem dX3_mixRegion_19 : decode cX3_mixRegion 19 = .ok (.getfield 12, 3) := by decide +kernel
theorem dX3_mixRegion_22 : decode cX3_mixRegion 22 = .ok (.getfield 45, 3) := by decide +kernel
theorem dX3_mixRegion_25 : decode cX3_mixRegion 25 = .ok (.if_icmp .ge 50, 3) := by decide +kernel
theorem dX3_mixRegion_28 : decode cX3_mixRegion 28 = .ok (.iload 5, 2) := by decide +kernel
theorem dX3_mixRegion_30 : decode cX3_mixRegion 30 = .ok (.iconst 1, 1) := by decide +kernel
theorem dX3_mixRegion_31 : decode cX3_mixRegion 31 = .ok (.iadd, 1) := by decide +kernel
theorem dX3_mixRegion_32 : decode cX3_mixRegion 32 = .ok (.istore 6, 2) := by decide +kernel
theorem dX3_mixRegion_34 : decode cX3_mixRegion 34 = .ok (.iload 6, 2) := by decide +kernel
theorem dX3_mixRegion_36 : decode cX3_mixRegion 36 = .ok (.aload_n 0, 1) := by decide +kernel
theorem dX3_mixRegion_37 : decode cX3_mixRegion 37 = .ok (.getfield 12, 3) := by decide +kernel
theorem dX3_mixRegion_40 : decode cX3_mixRegion 40 = .ok (.getfield 45, 3) := by decide +kernel
theorem dX3_mixRegion_43 : decode cX3_mixRegion 43 = .ok (.if_icmp .ge 26, 3) := by decide +kernel
theorem dX3_mixRegion_46 : decode cX3_mixRegion 46 = .ok (.lload_n 3, 1) := by decide +kernel
theorem dX3_mixRegion_47 : decode cX3_mixRegion 47 = .ok (.aload_n 0, 1) := by decide +kernel
theorem dX3_mixRegion_48 : decode cX3_mixRegion 48 = .ok (.getfield 12, 3) := by decide +kernel
theorem dX3_mixRegion_51 : decode cX3_mixRegion 51 = .ok (.iload 5, 2) := by decide +kernel
theorem dX3_mixRegion_53 : decode cX3_mixRegion 53 = .ok (.iload 6, 2) := by decide +kernel
theorem dX3_mixRegion_55 : decode cX3_mixRegion 55 = .ok (.invokevirtual 72, 3) := by decide +kernel
theorem dX3_mixRegion_58 : decode cX3_mixRegion 58 = .ok (.i2l, 1) := by decide +kernel
theorem dX3_mixRegion_59 : decode cX3_mixRegion 59 = .ok (.invokestatic 190, 3) := by decide +kernel
theorem dX3_mixRegion_62 : decode cX3_mixRegion 62 = .ok (.lstore_n 3, 1) := by decide +kernel
theorem dX3_mixRegion_63 : decode cX3_mixRegion 63 = .ok (.iinc 6 1, 3) := by decide +kernel
theorem dX3_mixRegion_66 : decode cX3_mixRegion 66 = .ok (.goto (-32), 3) := by decide +kernel
theorem dX3_mixRegion_69 : decode cX3_mixRegion 69 = .ok (.iinc 5 1, 3) := by decide +kernel
theorem dX3_mixRegion_72 : decode cX3_mixRegion 72 = .ok (.goto (-56), 3) := by decide +kernel
theorem dX3_mixRegion_75 : decode cX3_mixRegion 75 = .ok (.iconst 0, 1) := by decide +kernel
theorem dX3_mixRegion_76 : decode cX3_mixRegion 76 = .ok (.istore 5, 2) := by decide +kernel
theorem dX3_mixRegion_78 : decode cX3_mixRegion 78 = .ok (.iload 5, 2) := by decide +kernel
theorem dX3_mixRegion_80 : decode cX3_mixRegion 80 = .ok (.aload_n 0, 1) := by decide +kernel
theorem dX3_mixRegion_81 : decode cX3_mixRegion 81 = .ok (.getfield 12, 3) := by decide +kernel
theorem dX3_mixRegion_84 : decode cX3_mixRegion 84 = .ok (.getfield 45, 3) := by decide +kernel
theorem dX3_mixRegion_87 : decode cX3_mixRegion 87 = .ok (.if_icmp .ge 25, 3) := by decide +kernel
theorem dX3_mixRegion_90 : decode cX3_mixRegion 90 = .ok (.lload_n 3, 1) := by decide +kernel
theorem dX3_mixRegion_91 : decode cX3_mixRegion 91 = .ok (.aload_n 0, 1) := by decide +kernel
theorem dX3_mixRegion_92 : decode cX3_mixRegion 92 = .ok (.getfield 12, 3) := by decide +kernel
theorem dX3_mixRegion_95 : decode cX3_mixRegion 95 = .ok (.getfield 239, 3) := by decide +kernel
theorem dX3_mixRegion_98 : decode cX3_mixRegion 98 = .ok (.iload 5, 2) := by decide +kernel
theorem dX3_mixRegion_100 : decode cX3_mixRegion 100 = .ok (.iaload, 1) := by decide +kernel
theorem dX3_mixRegion_101 : decode cX3_mixRegion 101 = .ok (.i2l, 1) := by decide +kernel
theorem dX3_mixRegion_102 : decode cX3_mixRegion 102 = .ok (.invokestatic 190, 3) := by decide +kernel
theorem dX3_mixRegion_105 : decode cX3_mixRegion 105 = .ok (.lstore_n 3, 1) := by decide +kernel
theorem dX3_mixRegion_106 : decode cX3_mixRegion 106 = .ok (.iinc 5 1, 3) := by decide +kernel
theorem dX3_mixRegion_109 : decode cX3_mixRegion 109 = .ok (.goto (-31), 3) := by decide +kernel
theorem dX3_mixRegion_112 : decode cX3_mixRegion 112 = .ok (.lload_n 3, 1) := by decide +kernel
theorem dX3_mixRegion_113 : decode cX3_mixRegion 113 = .ok (.lreturn, 1) := by decide +kernel
set_option maxRecDepth 20000 in
theorem ggX3_mixBins_Jx4a65c_size_8abf5 : GoodIn wsX3_mixBins wsJx4a65c_size_8abf5 := goodIn_r _ [7, 8, 52, 53, 54] (by decide +kernel) (by decide +kernel)
set_option maxRecDepth 20000 in
theorem gX3_mixBins_Jx4a65c_size_8abf5 : GoodIn wsX3_mixBins (wsV RX3 108 RJx4a65c yJx4a65c_size_8abf5 wsJx4a65c_size_8abf5) := goodIn_app (goodIn_of _ (by decide +kernel)) ggX3_mixBins_Jx4a65c_size_8abf5
set_option maxRecDepth 20000 in
theorem ggX3_mixBins_X3_mix : GoodIn wsX3_mixBins wsX3_mix := goodIn_r _ [12, 13] (by decide +kernel) (by decide +kernel)
set_option maxRecDepth 20000 in
theorem gX3_mixBins_X3_mix : GoodIn wsX3_mixBins (va_wsS RX3 190 yX3_mix wsX3_mix) := goodIn_app (goodIn_of _ (by decide +kernel)) ggX3_mixBins_X3_mix
set_option maxRecDepth 20000 in
theorem ggX3_mixBins_Jx4a65c_get_915e3 : GoodIn wsX3_mixBins wsJx4a65c_get_915e3 := goodIn_r _ [17, 8, 18, 19, 20, 21, 22, 23, 24, 25, 26, 27, 28, 6, 29, 30, 52, 53, 54] (by decide +kernel) (by decide +kernel)
set_option maxRecDepth 20000 in
theorem gX3_mixBins_Jx4a65c_get_915e3 : GoodIn wsX3_mixBins (wsV RX3 124 RJx4a65c yJx4a65c_get_915e3 wsJx4a65c_get_915e3) := goodIn_app (goodIn_of _ (by decide +kernel)) ggX3_mixBins_Jx4a65c_get_915e3
set_option maxRecDepth 20000 in
theorem ggX3_mixBins_X0_fact : GoodIn wsX3_mixBins wsX0_fact := goodIn_r _ [35, 36, 37, 38, 39, 40, 41, 42, 43, 55, 56, 57, 58, 59, 60, 61, 62, 63, 64] (by decide +kernel) (by decide +kernel)
set_option maxRecDepth 20000 in
theorem gX3_mixBins_X0_fact : GoodIn wsX3_mixBins (wsV RX3 137 RX0 yX0_fact wsX0_fact) := goodIn_app (goodIn_of _ (by decide +kernel)) ggX3_mixBins_X0_fact
theorem dX3_mixBins_0 : decode cX3_mixBins 0 = .ok (.lload_n 1, 1) := by decide +kernel
theorem dX3_mixBins_1 : decode cX3_mixBins 1 = .ok (.aload_n 0, 1) := by decide +kernel
theorem dX3_mixBins_2 : decode cX3_mixBins 2 = .ok (.getfield 19, 3) := by decide +kernel
theorem dX3_mixBins_5 : decode cX3_mixBins 5 = .ok (.invokevirtual 108, 3) := by decide +kernel
theorem dX3_mixBins_8 : decode cX3_mixBins 8 = .ok (.i2l, 1) := by decide +kernel
theorem dX3_mixBins_9 : decode cX3_mixBins 9 = .ok (.invokestatic 190, 3) := by decide +kernel
theorem dX3_mixBins_12 : decode cX3_mixBins 12 = .ok (.lstore_n 3, 1) := by decide +kernel
theorem dX3_mixBins_13 : decode cX3_mixBins 13 = .ok (.iconst 0, 1) := by decide +kernel
theorem dX3_mixBins_14 : decode cX3_mixBins 14 = .ok (.istore 5, 2) := by decide +kernel
theorem dX3_mixBins_16 : decode cX3_mixBins 16 = .ok (.iload 5, 2) := by decide +kernel
theorem dX3_mixBins_18 : decode cX3_mixBins 18 = .ok (.aload_n 0, 1) := by decide +kernel
theorem dX3_mixBins_19 : decode cX3_mixBins 19 = .ok (.getfield 19, 3) := by decide +kernel
theorem dX3_mixBins_22 : decode cX3_mixBins 22 = .ok (.invokevirtual 108, 3) := by decide +kernel
theorem dX3_mixBins_25 : decode cX3_mixBins 25 = .ok (.if_icmp .ge 48, 3) := by decide +kernel
theorem dX3_mixBins_28 : decode cX3_mixBins 28 = .ok (.iconst 0, 1) := by decide +kernel
theorem dX3_mixBins_29 : decode cX3_mixBins 29 = .ok (.istore 6, 2) := by decide +kernel
theorem dX3_mixBins_31 : decode cX3_mixBins 31 = .ok (.iload 6, 2) := by decide +kernel
theorem dX3_mixBins_33 : decode cX3_mixBins 33 = .ok (.bipush 8, 2) := by decide +kernel
theorem dX3_mixBins_35 : decode cX3_mixBins 35 = .ok (.if_icmp .ge 32, 3) := by decide +kernel
theorem dX3_mixBins_38 : decode cX3_mixBins 38 = .ok (.lload_n 3, 1) := by decide +kernel
theorem dX3_mixBins_39 : decode cX3_mixBins 39 = .ok (.aload_n 0, 1) := by decide +kernel
theorem dX3_mixBins_40 : decode cX3_mixBins 40 = .ok (.getfield 19, 3) := by decide +kernel
theorem dX3_mixBins_43 : decode cX3_mixBins 43 = .ok (.iload 5, 2) := by decide +kernel
theorem dX3_mixBins_45 : decode cX3_mixBins 45 = .ok (.invokevirtual 124, 3) := by decide +kernel
theorem dX3_mixBins_48 : decode cX3_mixBins 48 = .ok (.checkcast 113, 3) := by decide +kernel
theorem dX3_mixBins_51 : decode cX3_mixBins 51 = .ok (.iload 6, 2) := by decide +kernel
theorem dX3_mixBins_53 : decode cX3_mixBins 53 = .ok (.invokevirtual 137, 3) := by decide +kernel
theorem dX3_mixBins_56 : decode cX3_mixBins 56 = .ok (.i2l, 1) := by decide +kernel
theorem dX3_mixBins_57 : decode cX3_mixBins 57 = .ok (.invokestatic 190, 3) := by decide +kernel
theorem dX3_mixBins_60 : decode cX3_mixBins 60 = .ok (.lstore_n 3, 1) := by decide +kernel
theorem dX3_mixBins_61 : decode cX3_mixBins 61 = .ok (.iinc 6 1, 3) := by decide +kernel
theorem dX3_mixBins_64 : decode cX3_mixBins 64 = .ok (.goto (-33), 3) := by decide +kernel
theorem dX3_mixBins_67 : decode cX3_mixBins 67 = .ok (.iinc 5 1, 3) := by decide +kernel
theorem dX3_mixBins_70 : decode cX3_mixBins 70 = .ok (.goto (-54), 3) := by decide +kernel
theorem dX3_mixBins_73 : decode cX3_mixBins 73 = .ok (.lload_n 3, 1) := by decide +kernel
theorem dX3_mixBins_74 : decode cX3_mixBins 74 = .ok (.lreturn, 1) := by decide +kernel
set_option maxRecDepth 20000 in
theorem ggX3_mixTotals_X3_mix : GoodIn wsX3_mixTotals wsX3_mix := goodIn_r _ [6, 7] (by decide +kernel) (by decide +kernel)
set_option maxRecDepth 20000 in
theorem gX3_mixTotals_X3_mix : GoodIn wsX3_mixTotals (va_wsS RX3 190 yX3_mix wsX3_mix) := goodIn_app (goodIn_of _ (by decide +kernel)) ggX3_mixTotals_X3_mix
theorem dX3_mixTotals_0 : decode cX3_mixTotals 0 = .ok (.lload_n 1, 1) := by decide +kernel
theorem dX3_mixTotals_1 : decode cX3_mixTotals 1 = .ok (.lstore_n 3, 1) := by decide +kernel
theorem dX3_mixTotals_2 : decode cX3_mixTotals 2 = .ok (.iconst 0, 1) := by decide +kernel
theorem dX3_mixTotals_3 : decode cX3_mixTotals 3 = .ok (.istore 5, 2) := by decide +kernel
theorem dX3_mixTotals_5 : decode cX3_mixTotals 5 = .ok (.iload 5, 2) := by decide +kernel
theorem dX3_mixTotals_7 : decode cX3_mixTotals 7 = .ok (.iconst 3, 1) := by decide +kernel
theorem dX3_mixTotals_8 : decode cX3_mixTotals 8 = .ok (.if_icmp .ge 53, 3) := by decide +kernel
theorem dX3_mixTotals_11 : decode cX3_mixTotals 11 = .ok (.iconst 0, 1) := by decide +kernel
theorem dX3_mixTotals_12 : decode cX3_mixTotals 12 = .ok (.istore 6, 2) := by decide +kernel
theorem dX3_mixTotals_14 : decode cX3_mixTotals 14 = .ok (.iload 6, 2) := by decide +kernel
theorem dX3_mixTotals_16 : decode cX3_mixTotals 16 = .ok (.iconst 4, 1) := by decide +kernel
theorem dX3_mixTotals_17 : decode cX3_mixTotals 17 = .ok (.if_icmp .ge 26, 3) := by decide +kernel
theorem dX3_mixTotals_20 : decode cX3_mixTotals 20 = .ok (.lload_n 3, 1) := by decide +kernel
theorem dX3_mixTotals_21 : decode cX3_mixTotals 21 = .ok (.aload_n 0, 1) := by decide +kernel
theorem dX3_mixTotals_22 : decode cX3_mixTotals 22 = .ok (.getfield 27, 3) := by decide +kernel
theorem dX3_mixTotals_25 : decode cX3_mixTotals 25 = .ok (.iload 5, 2) := by decide +kernel
theorem dX3_mixTotals_27 : decode cX3_mixTotals 27 = .ok (.iconst 4, 1) := by decide +kernel
theorem dX3_mixTotals_28 : decode cX3_mixTotals 28 = .ok (.imul, 1) := by decide +kernel
theorem dX3_mixTotals_29 : decode cX3_mixTotals 29 = .ok (.iload 6, 2) := by decide +kernel
theorem dX3_mixTotals_31 : decode cX3_mixTotals 31 = .ok (.iadd, 1) := by decide +kernel
theorem dX3_mixTotals_32 : decode cX3_mixTotals 32 = .ok (.laload, 1) := by decide +kernel
theorem dX3_mixTotals_33 : decode cX3_mixTotals 33 = .ok (.invokestatic 190, 3) := by decide +kernel
theorem dX3_mixTotals_36 : decode cX3_mixTotals 36 = .ok (.lstore_n 3, 1) := by decide +kernel
theorem dX3_mixTotals_37 : decode cX3_mixTotals 37 = .ok (.iinc 6 1, 3) := by decide +kernel
theorem dX3_mixTotals_40 : decode cX3_mixTotals 40 = .ok (.goto (-26), 3) := by decide +kernel
theorem dX3_mixTotals_43 : decode cX3_mixTotals 43 = .ok (.lload_n 3, 1) := by decide +kernel
theorem dX3_mixTotals_44 : decode cX3_mixTotals 44 = .ok (.aload_n 0, 1) := by decide +kernel
theorem dX3_mixTotals_45 : decode cX3_mixTotals 45 = .ok (.getfield 31, 3) := by decide +kernel
theorem dX3_mixTotals_48 : decode cX3_mixTotals 48 = .ok (.iload 5, 2) := by decide +kernel
theorem dX3_mixTotals_50 : decode cX3_mixTotals 50 = .ok (.laload, 1) := by decide +kernel
theorem dX3_mixTotals_51 : decode cX3_mixTotals 51 = .ok (.invokestatic 190, 3) := by decide +kernel
theorem dX3_mixTotals_54 : decode cX3_mixTotals 54 = .ok (.lstore_n 3, 1) := by decide +kernel
theorem dX3_mixTotals_55 : decode cX3_mixTotals 55 = .ok (.iinc 5 1, 3) := by decide +kernel
theorem dX3_mixTotals_58 : decode cX3_mixTotals 58 = .ok (.goto (-53), 3) := by decide +kernel
theorem dX3_mixTotals_61 : decode cX3_mixTotals 61 = .ok (.lload_n 3, 1) := by decide +kernel
theorem dX3_mixTotals_62 : decode cX3_mixTotals 62 = .ok (.lreturn, 1) := by decide +kernel
theorem dX3_mix_0 : decode cX3_mix 0 = .ok (.lload_n 0, 1) := by decide +kernel
theorem dX3_mix_1 : decode cX3_mix 1 = .ok (.ldc2_w 242, 3) := by decide +kernel
theorem dX3_mix_4 : decode cX3_mix 4 = .ok (.lmul, 1) := by decide +kernel
theorem dX3_mix_5 : decode cX3_mix 5 = .ok (.lload_n 2, 1) := by decide +kernel
theorem dX3_mix_6 : decode cX3_mix 6 = .ok (.ladd, 1) := by decide +kernel
theorem dX3_mix_7 : decode cX3_mix 7 = .ok (.lreturn, 1) := by decide +kernel
theorem dX4_init_0 : decode cX4_init 0 = .ok (.aload_n 0, 1) := by decide +kernel
theorem dX4_init_1 : decode cX4_init 1 = .ok (.invokespecial 1, 3) := by decide +kernel
theorem dX4_init_4 : decode cX4_init 4 = .ok (.aload_n 0, 1) := by decide +kernel
theorem dX4_init_5 : decode cX4_init 5 = .ok (.iconst 1, 1) := by decide +kernel
theorem dX4_init_6 : decode cX4_init 6 = .ok (.putfield 7, 3) := by decide +kernel
theorem dX4_init_9 : decode cX4_init 9 = .ok (.aload_n 0, 1) := by decide +kernel
theorem dX4_init_10 : decode cX4_init 10 = .ok (.bipush 100, 2) := by decide +kernel
theorem dX4_init_12 : decode cX4_init 12 = .ok (.newarray .int, 2) := by decide +kernel
theorem dX4_init_14 : decode cX4_init 14 = .ok (.putfield 13, 3) := by decide +kernel
theorem dX4_init_17 : decode cX4_init 17 = .ok (.aload_n 0, 1) := by decide +kernel
theorem dX4_init_18 : decode cX4_init 18 = .ok (.bipush 10, 2) := by decide +kernel
theorem dX4_init_20 : decode cX4_init 20 = .ok (.newarray .int, 2) := by decide +kernel
theorem dX4_init_22 : decode cX4_init 22 = .ok (.putfield 17, 3) := by decide +kernel
theorem dX4_init_25 : decode cX4_init 25 = .ok (.aload_n 0, 1) := by decide +kernel
theorem dX4_init_26 : decode cX4_init 26 = .ok (.sipush 400, 3) := by decide +kernel
theorem dX4_init_29 : decode cX4_init 29 = .ok (.newarray .boolean, 2) := by decide +kernel
theorem dX4_init_31 : decode cX4_init 31 = .ok (.putfield 20, 3) := by decide +kernel
theorem dX4_init_34 : decode cX4_init 34 = .ok (.aload_n 0, 1) := by decide +kernel
theorem dX4_init_35 : decode cX4_init 35 = .ok (.bipush 16, 2) := by decide +kernel
theorem dX4_init_37 : decode cX4_init 37 = .ok (.newarray .int, 2) := by decide +kernel
theorem dX4_init_39 : decode cX4_init 39 = .ok (.putfield 24, 3) := by decide +kernel
theorem dX4_init_42 : decode cX4_init 42 = .ok (.aload_n 0, 1) := by decide +kernel
theorem dX4_init_43 : decode cX4_init 43 = .ok (.bipush 16, 2) := by decide +kernel
theorem dX4_init_45 : decode cX4_init 45 = .ok (.newarray .int, 2) := by decide +kernel
theorem dX4_init_47 : decode cX4_init 47 = .ok (.putfield 27, 3) := by decide +kernel
theorem dX4_init_50 : decode cX4_init 50 = .ok (.aload_n 0, 1) := by decide +kernel
theorem dX4_init_51 : decode cX4_init 51 = .ok (.bipush 16, 2) := by decide +kernel
theorem dX4_init_53 : decode cX4_init 53 = .ok (.newarray .int, 2) := by decide +kernel
theorem dX4_init_55 : decode cX4_init 55 = .ok (.putfield 30, 3) := by decide +kernel
theorem dX4_init_58 : decode cX4_init 58 = .ok (.aload_n 0, 1) := by decide +kernel
theorem dX4_init_59 : decode cX4_init 59 = .ok (.bipush 16, 2) := by decide +kernel
theorem dX4_init_61 : decode cX4_init 61 = .ok (.newarray .int, 2) := by decide +kernel
theorem dX4_init_63 : decode cX4_init 63 = .ok (.putfield 33, 3) := by decide +kernel
theorem dX4_init_66 : decode cX4_init 66 = .ok (.aload_n 0, 1) := by decide +kernel
theorem dX4_init_67 : decode cX4_init 67 = .ok (.bipush 16, 2) := by decide +kernel
theorem dX4_init_69 : decode cX4_init 69 = .ok (.newarray .int, 2) := by decide +kernel
theorem dX4_init_71 : decode cX4_init 71 = .ok (.putfield 36, 3) := by decide +kernel
theorem dX4_init_74 : decode cX4_init 74 = .ok (.aload_n 0, 1) := by decide +kernel
theorem dX4_init_75 : decode cX4_init 75 = .ok (.bipush 16, 2) := by decide +kernel
theorem dX4_init_77 : decode cX4_init 77 = .ok (.newarray .int, 2) := by decide +kernel
theorem dX4_init_79 : decode cX4_init 79 = .ok (.putfield 39, 3) := by decide +kernel
theorem dX4_init_82 : decode cX4_init 82 = .ok (.aload_n 0, 1) := by decide +kernel
theorem dX4_init_83 : decode cX4_init 83 = .ok (.bipush 16, 2) := by decide +kernel
theorem dX4_init_85 : decode cX4_init 85 = .ok (.newarray .int, 2) := by decide +kernel
theorem dX4_init_87 : decode cX4_init 87 = .ok (.putfield 42, 3) := by decide +kernel
theorem dX4_init_90 : decode cX4_init 90 = .ok (.aload_n 0, 1) := by decide +kernel
theorem dX4_init_91 : decode cX4_init 91 = .ok (.bipush 16, 2) := by decide +kernel
theorem dX4_init_93 : decode cX4_init 93 = .ok (.newarray .int, 2) := by decide +kernel
theorem dX4_init_95 : decode cX4_init 95 = .ok (.putfield 45, 3) := by decide +kernel
theorem dX4_init_98 : decode cX4_init 98 = .ok (.aload_n 0, 1) := by decide +kernel
theorem dX4_init_99 : decode cX4_init 99 = .ok (.bipush 16, 2) := by decide +kernel
theorem dX4_init_101 : decode cX4_init 101 = .ok (.newarray .int, 2) := by decide +kernel
theorem dX4_init_103 : decode cX4_init 103 = .ok (.putfield 48, 3) := by decide +kernel
theorem dX4_init_106 : decode cX4_init 106 = .ok (.aload_n 0, 1) := by decide +kernel
theorem dX4_init_107 : decode cX4_init 107 = .ok (.bipush 16, 2) := by decide +kernel
theorem dX4_init_109 : decode cX4_init 109 = .ok (.newarray .boolean, 2) := by decide +kernel
theorem dX4_init_111 : decode cX4_init 111 = .ok (.putfield 51, 3) := by decide +kernel
theorem dX4_init_114 : decode cX4_init 114 = .ok (.aload_n 0, 1) := by decide +kernel
theorem dX4_init_115 : decode cX4_init 115 = .ok (.bipush 12, 2) := by decide +kernel
theorem dX4_init_117 : decode cX4_init 117 = .ok (.newarray .long, 2) := by decide +kernel
theorem dX4_init_119 : decode cX4_init 119 = .ok (.putfield 54, 3) := by decide +kernel
theorem dX4_init_122 : decode cX4_init 122 = .ok (.aload_n 0, 1) := by decide +kernel
theorem dX4_init_123 : decode cX4_init 123 = .ok (.iconst 3, 1) := by decide +kernel
theorem dX4_init_124 : decode cX4_init 124 = .ok (.newarray .long, 2) := by decide +kernel
theorem dX4_init_126 : decode cX4_init 126 = .ok (.putfield 58, 3) := by decide +kernel
theorem dX4_init_129 : decode cX4_init 129 = .ok (.aload_n 0, 1) := by decide +kernel
theorem dX4_init_130 : decode cX4_init 130 = .ok (.bipush 16, 2) := by decide +kernel
theorem dX4_init_132 : decode cX4_init 132 = .ok (.newarray .int, 2) := by decide +kernel
theorem dX4_init_134 : decode cX4_init 134 = .ok (.putfield 61, 3) := by decide +kernel
theorem dX4_init_137 : decode cX4_init 137 = .ok (.aload_n 0, 1) := by decide +kernel
theorem dX4_init_138 : decode cX4_init 138 = .ok (.getfield 17, 3) := by decide +kernel
theorem dX4_init_141 : decode cX4_init 141 = .ok (.iconst 0, 1) := by decide +kernel
theorem dX4_init_142 : decode cX4_init 142 = .ok (.bipush 7, 2) := by decide +kernel
theorem dX4_init_144 : decode cX4_init 144 = .ok (.iastore, 1) := by decide +kernel
theorem dX4_init_145 : decode cX4_init 145 = .ok (.iconst 0, 1) := by decide +kernel
theorem dX4_init_146 : decode cX4_init 146 = .ok (.istore_n 1, 1) := by decide +kernel
theorem dX4_init_147 : decode cX4_init 147 = .ok (.iload_n 1, 1) := by decide +kernel
theorem dX4_init_148 : decode cX4_init 148 = .ok (.bipush 100, 2) := by decide +kernel
theorem dX4_init_150 : decode cX4_init 150 = .ok (.if_icmp .ge 32, 3) := by decide +kernel
theorem dX4_init_153 : decode cX4_init 153 = .ok (.aload_n 0, 1) := by decide +kernel
theorem dX4_init_154 : decode cX4_init 154 = .ok (.getfield 13, 3) := by decide +kernel
theorem dX4_init_157 : decode cX4_init 157 = .ok (.iload_n 1, 1) := by decide +kernel
theorem dX4_init_158 : decode cX4_init 158 = .ok (.iload_n 1, 1) := by decide +kernel
theorem dX4_init_159 : decode cX4_init 159 = .ok (.bipush 10, 2) := by decide +kernel
theorem dX4_init_161 : decode cX4_init 161 = .ok (.idiv, 1) := by decide +kernel
theorem dX4_init_162 : decode cX4_init 162 = .ok (.iload_n 1, 1) := by decide +kernel
theorem dX4_init_163 : decode cX4_init 163 = .ok (.bipush 10, 2) := by decide +kernel
theorem dX4_init_165 : decode cX4_init 165 = .ok (.irem, 1) := by decide +kernel
theorem dX4_init_166 : decode cX4_init 166 = .ok (.if_icmp .ne 7, 3) := by decide +kernel
theorem dX4_init_169 : decode cX4_init 169 = .ok (.iconst 0, 1) := by decide +kernel
theorem dX4_init_170 : decode cX4_init 170 = .ok (.goto 5, 3) := by decide +kernel
theorem dX4_init_173 : decode cX4_init 173 = .ok (.bipush 30, 2) := by decide +kernel
theorem dX4_init_175 : decode cX4_init 175 = .ok (.iastore, 1) := by decide +kernel
theorem dX4_init_176 : decode cX4_init 176 = .ok (.iinc 1 1, 3) := by decide +kernel
theorem dX4_init_179 : decode cX4_init 179 = .ok (.goto (-32), 3) := by decide +kernel
theorem dX4_init_182 : decode cX4_init 182 = .ok (.return_, 1) := by decide +kernel
theorem dX4_thrown_0 : decode cX4_thrown 0 = .ok (.aload_n 0, 1) := by decide +kernel
theorem dX4_thrown_1 : decode cX4_thrown 1 = .ok (.getfield 64, 3) := by decide +kernel
theorem dX4_thrown_4 : decode cX4_thrown 4 = .ok (.ireturn, 1) := by decide +kernel
theorem dX4_fail_0 : decode cX4_fail 0 = .ok (.aload_n 0, 1) := by decide +kernel
theorem dX4_fail_1 : decode cX4_fail 1 = .ok (.iload_n 1, 1) := by decide +kernel
theorem dX4_fail_2 : decode cX4_fail 2 = .ok (.putfield 64, 3) := by decide +kernel
theorem dX4_fail_5 : decode cX4_fail 5 = .ok (.iconst 0, 1) := by decide +kernel
theorem dX4_fail_6 : decode cX4_fail 6 = .ok (.ireturn, 1) := by decide +kernel
theorem dX4_isIn_0 : decode cX4_isIn 0 = .ok (.iload_n 0, 1) := by decide +kernel
theorem dX4_isIn_1 : decode cX4_isIn 1 = .ok (.iload_n 1, 1) := by decide +kernel
theorem dX4_isIn_2 : decode cX4_isIn 2 = .ok (.if_icmp .lt 12, 3) := by decide +kernel
theorem dX4_isIn_5 : decode cX4_isIn 5 = .ok (.iload_n 0, 1) := by decide +kernel
theorem dX4_isIn_6 : decode cX4_isIn 6 = .ok (.iload_n 2, 1) := by decide +kernel
theorem dX4_isIn_7 : decode cX4_isIn 7 = .ok (.if_icmp .gt 7, 3) := by decide +kernel
theorem dX4_isIn_10 : decode cX4_isIn 10 = .ok (.iconst 1, 1) := by decide +kernel
theorem dX4_isIn_11 : decode cX4_isIn 11 = .ok (.goto 4, 3) := by decide +kernel
theorem dX4_isIn_14 : decode cX4_isIn 14 = .ok (.iconst 0, 1) := by decide +kernel
theorem dX4_isIn_15 : decode cX4_isIn 15 = .ok (.ireturn, 1) := by decide +kernel
set_option maxRecDepth 20000 in
theorem ggX4_isPlace_X4_isIn : GoodIn wsX4_isPlace wsX4_isIn := goodIn_r _ [5] (by decide +kernel) (by decide +kernel)
set_option maxRecDepth 20000 in
theorem gX4_isPlace_X4_isIn : GoodIn wsX4_isPlace (va_wsS RX4 67 yX4_isIn wsX4_isIn) := goodIn_app (goodIn_of _ (by decide +kernel)) ggX4_isPlace_X4_isIn
theorem dX4_isPlace_0 : decode cX4_isPlace 0 = .ok (.iload_n 1, 1) := by decide +kernel
theorem dX4_isPlace_1 : decode cX4_isPlace 1 = .ok (.iconst 0, 1) := by decide +kernel
theorem dX4_isPlace_2 : decode cX4_isPlace 2 = .ok (.aload_n 0, 1) := by decide +kernel
theorem dX4_isPlace_3 : decode cX4_isPlace 3 = .ok (.getfield 7, 3) := by decide +kernel
theorem dX4_isPlace_6 : decode cX4_isPlace 6 = .ok (.iconst 1, 1) := by decide +kernel
theorem dX4_isPlace_7 : decode cX4_isPlace 7 = .ok (.isub, 1) := by decide +kernel
theorem dX4_isPlace_8 : decode cX4_isPlace 8 = .ok (.invokestatic 67, 3) := by decide +kernel
theorem dX4_isPlace_11 : decode cX4_isPlace 11 = .ok (.ireturn, 1) := by decide +kernel
set_option maxRecDepth 20000 in
theorem ggX4_isKind_X4_isIn : GoodIn wsX4_isKind wsX4_isIn := goodIn_r _ [4] (by decide +kernel) (by decide +kernel)
set_option maxRecDepth 20000 in
theorem gX4_isKind_X4_isIn : GoodIn wsX4_isKind (va_wsS RX4 67 yX4_isIn wsX4_isIn) := goodIn_app (goodIn_of _ (by decide +kernel)) ggX4_isKind_X4_isIn
theorem dX4_isKind_0 : decode cX4_isKind 0 = .ok (.iload_n 0, 1) := by decide +kernel
theorem dX4_isKind_1 : decode cX4_isKind 1 = .ok (.iconst 0, 1) := by decide +kernel
theorem dX4_isKind_2 : decode cX4_isKind 2 = .ok (.iconst 2, 1) := by decide +kernel
theorem dX4_isKind_3 : decode cX4_isKind 3 = .ok (.invokestatic 67, 3) := by decide +kernel
theorem dX4_isKind_6 : decode cX4_isKind 6 = .ok (.ireturn, 1) := by decide +kernel
set_option maxRecDepth 20000 in
theorem ggX4_isBin_X4_isIn : GoodIn wsX4_isBin wsX4_isIn := goodIn_r _ [5] (by decide +kernel) (by decide +kernel)
set_option maxRecDepth 20000 in
theorem gX4_isBin_X4_isIn : GoodIn wsX4_isBin (va_wsS RX4 67 yX4_isIn wsX4_isIn) := goodIn_app (goodIn_of _ (by decide +kernel)) ggX4_isBin_X4_isIn
theorem dX4_isBin_0 : decode cX4_isBin 0 = .ok (.iload_n 1, 1) := by decide +kernel
theorem dX4_isBin_1 : decode cX4_isBin 1 = .ok (.iconst 0, 1) := by decide +kernel
theorem dX4_isBin_2 : decode cX4_isBin 2 = .ok (.aload_n 0, 1) := by decide +kernel
theorem dX4_isBin_3 : decode cX4_isBin 3 = .ok (.getfield 71, 3) := by decide +kernel
theorem dX4_isBin_6 : decode cX4_isBin 6 = .ok (.iconst 1, 1) := by decide +kernel
theorem dX4_isBin_7 : decode cX4_isBin 7 = .ok (.isub, 1) := by decide +kernel
theorem dX4_isBin_8 : decode cX4_isBin 8 = .ok (.invokestatic 67, 3) := by decide +kernel
theorem dX4_isBin_11 : decode cX4_isBin 11 = .ok (.ireturn, 1) := by decide +kernel
set_option maxRecDepth 20000 in
theorem ggX4_isCapacity_X4_isIn : GoodIn wsX4_isCapacity wsX4_isIn := goodIn_r _ [4] (by decide +kernel) (by decide +kernel)
set_option maxRecDepth 20000 in
theorem gX4_isCapacity_X4_isIn : GoodIn wsX4_isCapacity (va_wsS RX4 67 yX4_isIn wsX4_isIn) := goodIn_app (goodIn_of _ (by decide +kernel)) ggX4_isCapacity_X4_isIn
theorem dX4_isCapacity_0 : decode cX4_isCapacity 0 = .ok (.iload_n 0, 1) := by decide +kernel
theorem dX4_isCapacity_1 : decode cX4_isCapacity 1 = .ok (.bipush 50, 2) := by decide +kernel
theorem dX4_isCapacity_3 : decode cX4_isCapacity 3 = .ok (.sipush 5000, 3) := by decide +kernel
theorem dX4_isCapacity_6 : decode cX4_isCapacity 6 = .ok (.invokestatic 67, 3) := by decide +kernel
theorem dX4_isCapacity_9 : decode cX4_isCapacity 9 = .ok (.ireturn, 1) := by decide +kernel
theorem dX4_has_0 : decode cX4_has 0 = .ok (.iload_n 0, 1) := by decide +kernel
theorem dX4_has_1 : decode cX4_has 1 = .ok (.iload_n 1, 1) := by decide +kernel
theorem dX4_has_2 : decode cX4_has 2 = .ok (.ishr, 1) := by decide +kernel
theorem dX4_has_3 : decode cX4_has 3 = .ok (.iconst 1, 1) := by decide +kernel
theorem dX4_has_4 : decode cX4_has 4 = .ok (.iand, 1) := by decide +kernel
theorem dX4_has_5 : decode cX4_has 5 = .ok (.iconst 1, 1) := by decide +kernel
theorem dX4_has_6 : decode cX4_has 6 = .ok (.if_icmp .ne 7, 3) := by decide +kernel
theorem dX4_has_9 : decode cX4_has 9 = .ok (.iconst 1, 1) := by decide +kernel
theorem dX4_has_10 : decode cX4_has 10 = .ok (.goto 4, 3) := by decide +kernel
theorem dX4_has_13 : decode cX4_has 13 = .ok (.iconst 0, 1) := by decide +kernel
theorem dX4_has_14 : decode cX4_has 14 = .ok (.ireturn, 1) := by decide +kernel
theorem dX4_drive_0 : decode cX4_drive 0 = .ok (.aload_n 0, 1) := by decide +kernel
theorem dX4_drive_1 : decode cX4_drive 1 = .ok (.getfield 13, 3) := by decide +kernel
theorem dX4_drive_4 : decode cX4_drive 4 = .ok (.bipush 10, 2) := by decide +kernel
theorem dX4_drive_6 : decode cX4_drive 6 = .ok (.iload_n 1, 1) := by decide +kernel
theorem dX4_drive_7 : decode cX4_drive 7 = .ok (.imul, 1) := by decide +kernel
theorem dX4_drive_8 : decode cX4_drive 8 = .ok (.iload_n 2, 1) := by decide +kernel
theorem dX4_drive_9 : decode cX4_drive 9 = .ok (.iadd, 1) := by decide +kernel
theorem dX4_drive_10 : decode cX4_drive 10 = .ok (.iaload, 1) := by decide +kernel
theorem dX4_drive_11 : decode cX4_drive 11 = .ok (.ireturn, 1) := by decide +kernel
set_option maxRecDepth 20000 in
theorem ggX4_addPlace_X4_fail : GoodIn wsX4_addPlace wsX4_fail := goodIn_r _ [7, 1, 8, 9, 10, 11, 12, 13, 14, 15, 16, 17, 18, 19, 20, 21, 22, 23, 24, 25, 26, 27, 28] (by decide +kernel) (by decide +kernel)
set_option maxRecDepth 20000 in
theorem gX4_addPlace_X4_fail : GoodIn wsX4_addPlace (wsV RX4 74 RX4 yX4_fail wsX4_fail) := goodIn_app (goodIn_of _ (by decide +kernel)) ggX4_addPlace_X4_fail
theorem dX4_addPlace_0 : decode cX4_addPlace 0 = .ok (.aload_n 0, 1) := by decide +kernel
theorem dX4_addPlace_1 : decode cX4_addPlace 1 = .ok (.iconst 0, 1) := by decide +kernel
theorem dX4_addPlace_2 : decode cX4_addPlace 2 = .ok (.putfield 64, 3) := by decide +kernel
theorem dX4_addPlace_5 : decode cX4_addPlace 5 = .ok (.aload_n 0, 1) := by decide +kernel
theorem dX4_addPlace_6 : decode cX4_addPlace 6 = .ok (.getfield 7, 3) := by decide +kernel
theorem dX4_addPlace_9 : decode cX4_addPlace 9 = .ok (.bipush 10, 2) := by decide +kernel
theorem dX4_addPlace_11 : decode cX4_addPlace 11 = .ok (.if_icmp .ne 9, 3) := by decide +kernel
theorem dX4_addPlace_14 : decode cX4_addPlace 14 = .ok (.aload_n 0, 1) := by decide +kernel
theorem dX4_addPlace_15 : decode cX4_addPlace 15 = .ok (.iconst 1, 1) := by decide +kernel
theorem dX4_addPlace_16 : decode cX4_addPlace 16 = .ok (.invokevirtual 74, 3) := by decide +kernel
theorem dX4_addPlace_19 : decode cX4_addPlace 19 = .ok (.ireturn, 1) := by decide +kernel
theorem dX4_addPlace_20 : decode cX4_addPlace 20 = .ok (.aload_n 0, 1) := by decide +kernel
theorem dX4_addPlace_21 : decode cX4_addPlace 21 = .ok (.dup, 1) := by decide +kernel
theorem dX4_addPlace_22 : decode cX4_addPlace 22 = .ok (.getfield 7, 3) := by decide +kernel
theorem dX4_addPlace_25 : decode cX4_addPlace 25 = .ok (.iconst 1, 1) := by decide +kernel
theorem dX4_addPlace_26 : decode cX4_addPlace 26 = .ok (.iadd, 1) := by decide +kernel
theorem dX4_addPlace_27 : decode cX4_addPlace 27 = .ok (.putfield 7, 3) := by decide +kernel
theorem dX4_addPlace_30 : decode cX4_addPlace 30 = .ok (.aload_n 0, 1) := by decide +kernel
theorem dX4_addPlace_31 : decode cX4_addPlace 31 = .ok (.getfield 7, 3) := by decide +kernel
theorem dX4_addPlace_34 : decode cX4_addPlace 34 = .ok (.iconst 1, 1) := by decide +kernel
theorem dX4_addPlace_35 : decode cX4_addPlace 35 = .ok (.isub, 1) := by decide +kernel
theorem dX4_addPlace_36 : decode cX4_addPlace 36 = .ok (.ireturn, 1) := by decide +kernel
set_option maxRecDepth 20000 in
theorem ggX4_setMinutes_X4_isPlace : GoodIn wsX4_setMinutes wsX4_isPlace := goodIn_r _ [7, 8, 9, 10, 6, 11, 20, 21, 22, 23, 24, 25, 26, 27, 28, 29, 30, 31, 32, 33, 34, 35, 36, 37, 38, 39, 40] (by decide +kernel) (by decide +kernel)
set_option maxRecDepth 20000 in
theorem gX4_setMinutes_X4_isPlace : GoodIn wsX4_setMinutes (wsV RX4 78 RX4 yX4_isPlace wsX4_isPlace) := goodIn_app (goodIn_of _ (by decide +kernel)) ggX4_setMinutes_X4_isPlace
set_option maxRecDepth 20000 in
theorem ggX4_setMinutes_X4_fail : GoodIn wsX4_setMinutes wsX4_fail := goodIn_r _ [15, 1, 20, 21, 22, 23, 24, 25, 26, 27, 28, 29, 30, 31, 32, 33, 34, 35, 36, 37, 38, 39, 40] (by decide +kernel) (by decide +kernel)
set_option maxRecDepth 20000 in
theorem gX4_setMinutes_X4_fail : GoodIn wsX4_setMinutes (wsV RX4 74 RX4 yX4_fail wsX4_fail) := goodIn_app (goodIn_of _ (by decide +kernel)) ggX4_setMinutes_X4_fail
set_option maxRecDepth 20000 in
theorem ggX4_setMinutes_X4_isIn : GoodIn wsX4_setMinutes wsX4_isIn := goodIn_r _ [11] (by decide +kernel) (by decide +kernel)
set_option maxRecDepth 20000 in
theorem gX4_setMinutes_X4_isIn : GoodIn wsX4_setMinutes (va_wsS RX4 67 yX4_isIn wsX4_isIn) := goodIn_app (goodIn_of _ (by decide +kernel)) ggX4_setMinutes_X4_isIn
set_option maxRecDepth 20000 in
theorem ggX4_setMinutes_X4_drive : GoodIn wsX4_setMinutes wsX4_drive := goodIn_r _ [19, 2, 20, 21, 22, 23, 24, 25, 26, 27, 28, 29, 30, 31, 32, 33, 34, 35, 36, 37, 38, 39, 40] (by decide +kernel) (by decide +kernel)
set_option maxRecDepth 20000 in
theorem gX4_setMinutes_X4_drive : GoodIn wsX4_setMinutes (wsV RX4 82 RX4 yX4_drive wsX4_drive) := goodIn_app (goodIn_of _ (by decide +kernel)) ggX4_setMinutes_X4_drive
theorem dX4_setMinutes_0 : decode cX4_setMinutes 0 = .ok (.aload_n 0, 1) := by decide +kernel
theorem dX4_setMinutes_1 : decode cX4_setMinutes 1 = .ok (.iconst 0, 1) := by decide +kernel
theorem dX4_setMinutes_2 : decode cX4_setMinutes 2 = .ok (.putfield 64, 3) := by decide +kernel
theorem dX4_setMinutes_5 : decode cX4_setMinutes 5 = .ok (.aload_n 0, 1) := by decide +kernel
theorem dX4_setMinutes_6 : decode cX4_setMinutes 6 = .ok (.iload_n 1, 1) := by decide +kernel
theorem dX4_setMinutes_7 : decode cX4_setMinutes 7 = .ok (.invokevirtual 78, 3) := by decide +kernel
theorem dX4_setMinutes_10 : decode cX4_setMinutes 10 = .ok (.ifCond .eq 11, 3) := by decide +kernel
theorem dX4_setMinutes_13 : decode cX4_setMinutes 13 = .ok (.aload_n 0, 1) := by decide +kernel
theorem dX4_setMinutes_14 : decode cX4_setMinutes 14 = .ok (.iload_n 2, 1) := by decide +kernel
theorem dX4_setMinutes_15 : decode cX4_setMinutes 15 = .ok (.invokevirtual 78, 3) := by decide +kernel
theorem dX4_setMinutes_18 : decode cX4_setMinutes 18 = .ok (.ifCond .ne 9, 3) := by decide +kernel
theorem dX4_setMinutes_21 : decode cX4_setMinutes 21 = .ok (.aload_n 0, 1) := by decide +kernel
theorem dX4_setMinutes_22 : decode cX4_setMinutes 22 = .ok (.iconst 1, 1) := by decide +kernel
theorem dX4_setMinutes_23 : decode cX4_setMinutes 23 = .ok (.invokevirtual 74, 3) := by decide +kernel
theorem dX4_setMinutes_26 : decode cX4_setMinutes 26 = .ok (.ireturn, 1) := by decide +kernel
theorem dX4_setMinutes_27 : decode cX4_setMinutes 27 = .ok (.iload_n 1, 1) := by decide +kernel
theorem dX4_setMinutes_28 : decode cX4_setMinutes 28 = .ok (.iload_n 2, 1) := by decide +kernel
theorem dX4_setMinutes_29 : decode cX4_setMinutes 29 = .ok (.if_icmp .eq 13, 3) := by decide +kernel
theorem dX4_setMinutes_32 : decode cX4_setMinutes 32 = .ok (.iload_n 3, 1) := by decide +kernel
theorem dX4_setMinutes_33 : decode cX4_setMinutes 33 = .ok (.iconst 1, 1) := by decide +kernel
theorem dX4_setMinutes_34 : decode cX4_setMinutes 34 = .ok (.bipush 120, 2) := by decide +kernel
theorem dX4_setMinutes_36 : decode cX4_setMinutes 36 = .ok (.invokestatic 67, 3) := by decide +kernel
theorem dX4_setMinutes_39 : decode cX4_setMinutes 39 = .ok (.ifCond .ne 9, 3) := by decide +kernel
theorem dX4_setMinutes_42 : decode cX4_setMinutes 42 = .ok (.aload_n 0, 1) := by decide +kernel
theorem dX4_setMinutes_43 : decode cX4_setMinutes 43 = .ok (.iconst 2, 1) := by decide +kernel
theorem dX4_setMinutes_44 : decode cX4_setMinutes 44 = .ok (.invokevirtual 74, 3) := by decide +kernel
theorem dX4_setMinutes_47 : decode cX4_setMinutes 47 = .ok (.ireturn, 1) := by decide +kernel
theorem dX4_setMinutes_48 : decode cX4_setMinutes 48 = .ok (.aload_n 0, 1) := by decide +kernel
theorem dX4_setMinutes_49 : decode cX4_setMinutes 49 = .ok (.iload_n 1, 1) := by decide +kernel
theorem dX4_setMinutes_50 : decode cX4_setMinutes 50 = .ok (.iload_n 2, 1) := by decide +kernel
theorem dX4_setMinutes_51 : decode cX4_setMinutes 51 = .ok (.invokevirtual 82, 3) := by decide +kernel
theorem dX4_setMinutes_54 : decode cX4_setMinutes 54 = .ok (.istore 4, 2) := by decide +kernel
theorem dX4_setMinutes_56 : decode cX4_setMinutes 56 = .ok (.aload_n 0, 1) := by decide +kernel
theorem dX4_setMinutes_57 : decode cX4_setMinutes 57 = .ok (.getfield 13, 3) := by decide +kernel
theorem dX4_setMinutes_60 : decode cX4_setMinutes 60 = .ok (.bipush 10, 2) := by decide +kernel
theorem dX4_setMinutes_62 : decode cX4_setMinutes 62 = .ok (.iload_n 1, 1) := by decide +kernel
theorem dX4_setMinutes_63 : decode cX4_setMinutes 63 = .ok (.imul, 1) := by decide +kernel
theorem dX4_setMinutes_64 : decode cX4_setMinutes 64 = .ok (.iload_n 2, 1) := by decide +kernel
theorem dX4_setMinutes_65 : decode cX4_setMinutes 65 = .ok (.iadd, 1) := by decide +kernel
theorem dX4_setMinutes_66 : decode cX4_setMinutes 66 = .ok (.iload_n 3, 1) := by decide +kernel
theorem dX4_setMinutes_67 : decode cX4_setMinutes 67 = .ok (.iastore, 1) := by decide +kernel
theorem dX4_setMinutes_68 : decode cX4_setMinutes 68 = .ok (.aload_n 0, 1) := by decide +kernel
theorem dX4_setMinutes_69 : decode cX4_setMinutes 69 = .ok (.getfield 13, 3) := by decide +kernel
theorem dX4_setMinutes_72 : decode cX4_setMinutes 72 = .ok (.bipush 10, 2) := by decide +kernel
theorem dX4_setMinutes_74 : decode cX4_setMinutes 74 = .ok (.iload_n 2, 1) := by decide +kernel
theorem dX4_setMinutes_75 : decode cX4_setMinutes 75 = .ok (.imul, 1) := by decide +kernel
theorem dX4_setMinutes_76 : decode cX4_setMinutes 76 = .ok (.iload_n 1, 1) := by decide +kernel
theorem dX4_setMinutes_77 : decode cX4_setMinutes 77 = .ok (.iadd, 1) := by decide +kernel
theorem dX4_setMinutes_78 : decode cX4_setMinutes 78 = .ok (.iload_n 3, 1) := by decide +kernel
theorem dX4_setMinutes_79 : decode cX4_setMinutes 79 = .ok (.iastore, 1) := by decide +kernel
theorem dX4_setMinutes_80 : decode cX4_setMinutes 80 = .ok (.iload 4, 2) := by decide +kernel
theorem dX4_setMinutes_82 : decode cX4_setMinutes 82 = .ok (.ireturn, 1) := by decide +kernel
set_option maxRecDepth 20000 in
theorem ggX4_setTip_X4_isPlace : GoodIn wsX4_setTip wsX4_isPlace := goodIn_r _ [8, 3, 9, 10, 7, 11, 18, 19, 20, 21, 22, 23, 24, 25, 26, 27, 28, 29, 30, 31, 32, 33, 34, 35, 36, 37, 38] (by decide +kernel) (by decide +kernel)
set_option maxRecDepth 20000 in
theorem gX4_setTip_X4_isPlace : GoodIn wsX4_setTip (wsV RX4 78 RX4 yX4_isPlace wsX4_isPlace) := goodIn_app (goodIn_of _ (by decide +kernel)) ggX4_setTip_X4_isPlace
set_option maxRecDepth 20000 in
theorem ggX4_setTip_X4_isKind : GoodIn wsX4_setTip wsX4_isKind := goodIn_r _ [14, 9, 10, 7, 11] (by decide +kernel) (by decide +kernel)
set_option maxRecDepth 20000 in
theorem gX4_setTip_X4_isKind : GoodIn wsX4_setTip (va_wsS RX4 86 yX4_isKind wsX4_isKind) := goodIn_app (goodIn_of _ (by decide +kernel)) ggX4_setTip_X4_isKind
set_option maxRecDepth 20000 in
theorem ggX4_setTip_X4_has : GoodIn wsX4_setTip wsX4_has := goodIn_r _ [17] (by decide +kernel) (by decide +kernel)
set_option maxRecDepth 20000 in
theorem gX4_setTip_X4_has : GoodIn wsX4_setTip (va_wsS RX4 89 yX4_has wsX4_has) := goodIn_app (goodIn_of _ (by decide +kernel)) ggX4_setTip_X4_has
theorem dX4_setTip_0 : decode cX4_setTip 0 = .ok (.aload_n 0, 1) := by decide +kernel
theorem dX4_setTip_1 : decode cX4_setTip 1 = .ok (.aload_n 0, 1) := by decide +kernel
theorem dX4_setTip_2 : decode cX4_setTip 2 = .ok (.iload_n 1, 1) := by decide +kernel
theorem dX4_setTip_3 : decode cX4_setTip 3 = .ok (.invokevirtual 78, 3) := by decide +kernel
theorem dX4_setTip_6 : decode cX4_setTip 6 = .ok (.ifCond .eq 14, 3) := by decide +kernel
theorem dX4_setTip_9 : decode cX4_setTip 9 = .ok (.iload_n 2, 1) := by decide +kernel
theorem dX4_setTip_10 : decode cX4_setTip 10 = .ok (.invokestatic 86, 3) := by decide +kernel
theorem dX4_setTip_13 : decode cX4_setTip 13 = .ok (.ifCond .eq 7, 3) := by decide +kernel
theorem dX4_setTip_16 : decode cX4_setTip 16 = .ok (.iconst 0, 1) := by decide +kernel
theorem dX4_setTip_17 : decode cX4_setTip 17 = .ok (.goto 4, 3) := by decide +kernel
theorem dX4_setTip_20 : decode cX4_setTip 20 = .ok (.iconst 1, 1) := by decide +kernel
theorem dX4_setTip_21 : decode cX4_setTip 21 = .ok (.putfield 64, 3) := by decide +kernel
theorem dX4_setTip_24 : decode cX4_setTip 24 = .ok (.aload_n 0, 1) := by decide +kernel
theorem dX4_setTip_25 : decode cX4_setTip 25 = .ok (.getfield 64, 3) := by decide +kernel
theorem dX4_setTip_28 : decode cX4_setTip 28 = .ok (.ifCond .eq 5, 3) := by decide +kernel
theorem dX4_setTip_31 : decode cX4_setTip 31 = .ok (.iconst 0, 1) := by decide +kernel
theorem dX4_setTip_32 : decode cX4_setTip 32 = .ok (.ireturn, 1) := by decide +kernel
theorem dX4_setTip_33 : decode cX4_setTip 33 = .ok (.aload_n 0, 1) := by decide +kernel
theorem dX4_setTip_34 : decode cX4_setTip 34 = .ok (.getfield 17, 3) := by decide +kernel
theorem dX4_setTip_37 : decode cX4_setTip 37 = .ok (.iload_n 1, 1) := by decide +kernel
theorem dX4_setTip_38 : decode cX4_setTip 38 = .ok (.iaload, 1) := by decide +kernel
theorem dX4_setTip_39 : decode cX4_setTip 39 = .ok (.iload_n 2, 1) := by decide +kernel
theorem dX4_setTip_40 : decode cX4_setTip 40 = .ok (.invokestatic 89, 3) := by decide +kernel
theorem dX4_setTip_43 : decode cX4_setTip 43 = .ok (.istore 4, 2) := by decide +kernel
theorem dX4_setTip_45 : decode cX4_setTip 45 = .ok (.iconst 0, 1) := by decide +kernel
theorem dX4_setTip_46 : decode cX4_setTip 46 = .ok (.istore 5, 2) := by decide +kernel
theorem dX4_setTip_48 : decode cX4_setTip 48 = .ok (.iconst 0, 1) := by decide +kernel
theorem dX4_setTip_49 : decode cX4_setTip 49 = .ok (.istore 6, 2) := by decide +kernel
theorem dX4_setTip_51 : decode cX4_setTip 51 = .ok (.iload 6, 2) := by decide +kernel
theorem dX4_setTip_53 : decode cX4_setTip 53 = .ok (.aload_n 0, 1) := by decide +kernel
theorem dX4_setTip_54 : decode cX4_setTip 54 = .ok (.getfield 7, 3) := by decide +kernel
theorem dX4_setTip_57 : decode cX4_setTip 57 = .ok (.if_icmp .ge 39, 3) := by decide +kernel
theorem dX4_setTip_60 : decode cX4_setTip 60 = .ok (.iload 5, 2) := by decide +kernel
theorem dX4_setTip_62 : decode cX4_setTip 62 = .ok (.iload 6, 2) := by decide +kernel
theorem dX4_setTip_64 : decode cX4_setTip 64 = .ok (.iload_n 1, 1) := by decide +kernel
theorem dX4_setTip_65 : decode cX4_setTip 65 = .ok (.if_icmp .eq 21, 3) := by decide +kernel
theorem dX4_setTip_68 : decode cX4_setTip 68 = .ok (.aload_n 0, 1) := by decide +kernel
theorem dX4_setTip_69 : decode cX4_setTip 69 = .ok (.getfield 17, 3) := by decide +kernel
theorem dX4_setTip_72 : decode cX4_setTip 72 = .ok (.iload 6, 2) := by decide +kernel
theorem dX4_setTip_74 : decode cX4_setTip 74 = .ok (.iaload, 1) := by decide +kernel
theorem dX4_setTip_75 : decode cX4_setTip 75 = .ok (.iload_n 2, 1) := by decide +kernel
theorem dX4_setTip_76 : decode cX4_setTip 76 = .ok (.invokestatic 89, 3) := by decide +kernel
theorem dX4_setTip_79 : decode cX4_setTip 79 = .ok (.ifCond .eq 7, 3) := by decide +kernel
theorem dX4_setTip_82 : decode cX4_setTip 82 = .ok (.iconst 1, 1) := by decide +kernel
theorem dX4_setTip_83 : decode cX4_setTip 83 = .ok (.goto 4, 3) := by decide +kernel
theorem dX4_setTip_86 : decode cX4_setTip 86 = .ok (.iconst 0, 1) := by decide +kernel
theorem dX4_setTip_87 : decode cX4_setTip 87 = .ok (.iadd, 1) := by decide +kernel
theorem dX4_setTip_88 : decode cX4_setTip 88 = .ok (.istore 5, 2) := by decide +kernel
theorem dX4_setTip_90 : decode cX4_setTip 90 = .ok (.iinc 6 1, 3) := by decide +kernel
theorem dX4_setTip_93 : decode cX4_setTip 93 = .ok (.goto (-42), 3) := by decide +kernel
theorem dX4_setTip_96 : decode cX4_setTip 96 = .ok (.iload 4, 2) := by decide +kernel
theorem dX4_setTip_98 : decode cX4_setTip 98 = .ok (.ifCond .eq 17, 3) := by decide +kernel
theorem dX4_setTip_101 : decode cX4_setTip 101 = .ok (.iload_n 3, 1) := by decide +kernel
theorem dX4_setTip_102 : decode cX4_setTip 102 = .ok (.ifCond .ne 13, 3) := by decide +kernel
theorem dX4_setTip_105 : decode cX4_setTip 105 = .ok (.iload 5, 2) := by decide +kernel
theorem dX4_setTip_107 : decode cX4_setTip 107 = .ok (.ifCond .ne 8, 3) := by decide +kernel
theorem dX4_setTip_110 : decode cX4_setTip 110 = .ok (.aload_n 0, 1) := by decide +kernel
theorem dX4_setTip_111 : decode cX4_setTip 111 = .ok (.iconst 2, 1) := by decide +kernel
theorem dX4_setTip_112 : decode cX4_setTip 112 = .ok (.putfield 64, 3) := by decide +kernel
theorem dX4_setTip_115 : decode cX4_setTip 115 = .ok (.aload_n 0, 1) := by decide +kernel
theorem dX4_setTip_116 : decode cX4_setTip 116 = .ok (.getfield 64, 3) := by decide +kernel
theorem dX4_setTip_119 : decode cX4_setTip 119 = .ok (.ifCond .eq 5, 3) := by decide +kernel
theorem dX4_setTip_122 : decode cX4_setTip 122 = .ok (.iconst 0, 1) := by decide +kernel
theorem dX4_setTip_123 : decode cX4_setTip 123 = .ok (.ireturn, 1) := by decide +kernel
theorem dX4_setTip_124 : decode cX4_setTip 124 = .ok (.aload_n 0, 1) := by decide +kernel
theorem dX4_setTip_125 : decode cX4_setTip 125 = .ok (.getfield 17, 3) := by decide +kernel
theorem dX4_setTip_128 : decode cX4_setTip 128 = .ok (.iload_n 1, 1) := by decide +kernel
theorem dX4_setTip_129 : decode cX4_setTip 129 = .ok (.iload_n 3, 1) := by decide +kernel
theorem dX4_setTip_130 : decode cX4_setTip 130 = .ok (.ifCond .eq 16, 3) := by decide +kernel
theorem dX4_setTip_133 : decode cX4_setTip 133 = .ok (.aload_n 0, 1) := by decide +kernel
theorem dX4_setTip_134 : decode cX4_setTip 134 = .ok (.getfield 17, 3) := by decide +kernel
theorem dX4_setTip_137 : decode cX4_setTip 137 = .ok (.iload_n 1, 1) := by decide +kernel
theorem dX4_setTip_138 : decode cX4_setTip 138 = .ok (.iaload, 1) := by decide +kernel
theorem dX4_setTip_139 : decode cX4_setTip 139 = .ok (.iconst 1, 1) := by decide +kernel
theorem dX4_setTip_140 : decode cX4_setTip 140 = .ok (.iload_n 2, 1) := by decide +kernel
theorem dX4_setTip_141 : decode cX4_setTip 141 = .ok (.ishl, 1) := by decide +kernel
theorem dX4_setTip_142 : decode cX4_setTip 142 = .ok (.ior, 1) := by decide +kernel
theorem dX4_setTip_143 : decode cX4_setTip 143 = .ok (.goto 15, 3) := by decide +kernel
theorem dX4_setTip_146 : decode cX4_setTip 146 = .ok (.aload_n 0, 1) := by decide +kernel
theorem dX4_setTip_147 : decode cX4_setTip 147 = .ok (.getfield 17, 3) := by decide +kernel
theorem dX4_setTip_150 : decode cX4_setTip 150 = .ok (.iload_n 1, 1) := by decide +kernel
theorem dX4_setTip_151 : decode cX4_setTip 151 = .ok (.iaload, 1) := by decide +kernel
theorem dX4_setTip_152 : decode cX4_setTip 152 = .ok (.iconst 1, 1) := by decide +kernel
theorem dX4_setTip_153 : decode cX4_setTip 153 = .ok (.iload_n 2, 1) := by decide +kernel
theorem dX4_setTip_154 : decode cX4_setTip 154 = .ok (.ishl, 1) := by decide +kernel
theorem dX4_setTip_155 : decode cX4_setTip 155 = .ok (.iconst (-1), 1) := by decide +kernel
theorem dX4_setTip_156 : decode cX4_setTip 156 = .ok (.ixor, 1) := by decide +kernel
theorem dX4_setTip_157 : decode cX4_setTip 157 = .ok (.iand, 1) := by decide +kernel
theorem dX4_setTip_158 : decode cX4_setTip 158 = .ok (.iastore, 1) := by decide +kernel
theorem dX4_setTip_159 : decode cX4_setTip 159 = .ok (.iload 4, 2) := by decide +kernel
theorem dX4_setTip_161 : decode cX4_setTip 161 = .ok (.ireturn, 1) := by decide +kernel
set_option maxRecDepth 20000 in
theorem ggX4_setHoliday_X4_isIn : GoodIn wsX4_setHoliday wsX4_isIn := goodIn_r _ [6] (by decide +kernel) (by decide +kernel)
set_option maxRecDepth 20000 in
theorem gX4_setHoliday_X4_isIn : GoodIn wsX4_setHoliday (va_wsS RX4 67 yX4_isIn wsX4_isIn) := goodIn_app (goodIn_of _ (by decide +kernel)) ggX4_setHoliday_X4_isIn
theorem dX4_setHoliday_0 : decode cX4_setHoliday 0 = .ok (.aload_n 0, 1) := by decide +kernel
theorem dX4_setHoliday_1 : decode cX4_setHoliday 1 = .ok (.iload_n 1, 1) := by decide +kernel
theorem dX4_setHoliday_2 : decode cX4_setHoliday 2 = .ok (.iconst 0, 1) := by decide +kernel
theorem dX4_setHoliday_3 : decode cX4_setHoliday 3 = .ok (.sipush 399, 3) := by decide +kernel
theorem dX4_setHoliday_6 : decode cX4_setHoliday 6 = .ok (.invokestatic 67, 3) := by decide +kernel
theorem dX4_setHoliday_9 : decode cX4_setHoliday 9 = .ok (.ifCond .eq 7, 3) := by decide +kernel
theorem dX4_setHoliday_12 : decode cX4_setHoliday 12 = .ok (.iconst 0, 1) := by decide +kernel
theorem dX4_setHoliday_13 : decode cX4_setHoliday 13 = .ok (.goto 4, 3) := by decide +kernel
theorem dX4_setHoliday_16 : decode cX4_setHoliday 16 = .ok (.iconst 1, 1) := by decide +kernel
theorem dX4_setHoliday_17 : decode cX4_setHoliday 17 = .ok (.putfield 64, 3) := by decide +kernel
theorem dX4_setHoliday_20 : decode cX4_setHoliday 20 = .ok (.aload_n 0, 1) := by decide +kernel
theorem dX4_setHoliday_21 : decode cX4_setHoliday 21 = .ok (.getfield 64, 3) := by decide +kernel
theorem dX4_setHoliday_24 : decode cX4_setHoliday 24 = .ok (.ifCond .eq 5, 3) := by decide +kernel
theorem dX4_setHoliday_27 : decode cX4_setHoliday 27 = .ok (.iconst 0, 1) := by decide +kernel
theorem dX4_setHoliday_28 : decode cX4_setHoliday 28 = .ok (.ireturn, 1) := by decide +kernel
theorem dX4_setHoliday_29 : decode cX4_setHoliday 29 = .ok (.aload_n 0, 1) := by decide +kernel
theorem dX4_setHoliday_30 : decode cX4_setHoliday 30 = .ok (.getfield 20, 3) := by decide +kernel
theorem dX4_setHoliday_33 : decode cX4_setHoliday 33 = .ok (.iload_n 1, 1) := by decide +kernel
theorem dX4_setHoliday_34 : decode cX4_setHoliday 34 = .ok (.baload, 1) := by decide +kernel
theorem dX4_setHoliday_35 : decode cX4_setHoliday 35 = .ok (.istore_n 3, 1) := by decide +kernel
theorem dX4_setHoliday_36 : decode cX4_setHoliday 36 = .ok (.aload_n 0, 1) := by decide +kernel
theorem dX4_setHoliday_37 : decode cX4_setHoliday 37 = .ok (.getfield 20, 3) := by decide +kernel
theorem dX4_setHoliday_40 : decode cX4_setHoliday 40 = .ok (.iload_n 1, 1) := by decide +kernel
theorem dX4_setHoliday_41 : decode cX4_setHoliday 41 = .ok (.iload_n 2, 1) := by decide +kernel
theorem dX4_setHoliday_42 : decode cX4_setHoliday 42 = .ok (.bastore, 1) := by decide +kernel
theorem dX4_setHoliday_43 : decode cX4_setHoliday 43 = .ok (.iload_n 3, 1) := by decide +kernel
theorem dX4_setHoliday_44 : decode cX4_setHoliday 44 = .ok (.ireturn, 1) := by decide +kernel
set_option maxRecDepth 20000 in
theorem ggX4_pass_X4_isIn : GoodIn wsX4_pass wsX4_isIn := goodIn_r _ [17] (by decide +kernel) (by decide +kernel)
set_option maxRecDepth 20000 in
theorem gX4_pass_X4_isIn : GoodIn wsX4_pass (va_wsS RX4 67 yX4_isIn wsX4_isIn) := goodIn_app (goodIn_of _ (by decide +kernel)) ggX4_pass_X4_isIn
set_option maxRecDepth 20000 in
theorem ggX4_pass_X4_fail : GoodIn wsX4_pass wsX4_fail := goodIn_r _ [21, 1, 22, 23, 24, 25, 26, 27, 28, 29, 30, 31, 32, 33, 34, 35, 36, 37, 38, 39, 40, 41, 42] (by decide +kernel) (by decide +kernel)
set_option maxRecDepth 20000 in
theorem gX4_pass_X4_fail : GoodIn wsX4_pass (wsV RX4 74 RX4 yX4_fail wsX4_fail) := goodIn_app (goodIn_of _ (by decide +kernel)) ggX4_pass_X4_fail
theorem dX4_pass_0 : decode cX4_pass 0 = .ok (.aload_n 0, 1) := by decide +kernel
theorem dX4_pass_1 : decode cX4_pass 1 = .ok (.iconst 0, 1) := by decide +kernel
theorem dX4_pass_2 : decode cX4_pass 2 = .ok (.putfield 64, 3) := by decide +kernel
theorem dX4_pass_5 : decode cX4_pass 5 = .ok (.iload_n 1, 1) := by decide +kernel
theorem dX4_pass_6 : decode cX4_pass 6 = .ok (.iconst 1, 1) := by decide +kernel
theorem dX4_pass_7 : decode cX4_pass 7 = .ok (.bipush 60, 2) := by decide +kernel
theorem dX4_pass_9 : decode cX4_pass 9 = .ok (.invokestatic 67, 3) := by decide +kernel
theorem dX4_pass_12 : decode cX4_pass 12 = .ok (.ifCond .ne 9, 3) := by decide +kernel
theorem dX4_pass_15 : decode cX4_pass 15 = .ok (.aload_n 0, 1) := by decide +kernel
theorem dX4_pass_16 : decode cX4_pass 16 = .ok (.iconst 1, 1) := by decide +kernel
theorem dX4_pass_17 : decode cX4_pass 17 = .ok (.invokevirtual 74, 3) := by decide +kernel
theorem dX4_pass_20 : decode cX4_pass 20 = .ok (.ireturn, 1) := by decide +kernel
theorem dX4_pass_21 : decode cX4_pass 21 = .ok (.aload_n 0, 1) := by decide +kernel
theorem dX4_pass_22 : decode cX4_pass 22 = .ok (.getfield 93, 3) := by decide +kernel
theorem dX4_pass_25 : decode cX4_pass 25 = .ok (.iload_n 1, 1) := by decide +kernel
theorem dX4_pass_26 : decode cX4_pass 26 = .ok (.iadd, 1) := by decide +kernel
theorem dX4_pass_27 : decode cX4_pass 27 = .ok (.sipush 399, 3) := by decide +kernel
theorem dX4_pass_30 : decode cX4_pass 30 = .ok (.if_icmp .le 9, 3) := by decide +kernel
theorem dX4_pass_33 : decode cX4_pass 33 = .ok (.aload_n 0, 1) := by decide +kernel
theorem dX4_pass_34 : decode cX4_pass 34 = .ok (.iconst 2, 1) := by decide +kernel
theorem dX4_pass_35 : decode cX4_pass 35 = .ok (.invokevirtual 74, 3) := by decide +kernel
theorem dX4_pass_38 : decode cX4_pass 38 = .ok (.ireturn, 1) := by decide +kernel
theorem dX4_pass_39 : decode cX4_pass 39 = .ok (.iconst 0, 1) := by decide +kernel
theorem dX4_pass_40 : decode cX4_pass 40 = .ok (.istore_n 2, 1) := by decide +kernel
theorem dX4_pass_41 : decode cX4_pass 41 = .ok (.iconst 0, 1) := by decide +kernel
theorem dX4_pass_42 : decode cX4_pass 42 = .ok (.istore_n 3, 1) := by decide +kernel
theorem dX4_pass_43 : decode cX4_pass 43 = .ok (.iload_n 3, 1) := by decide +kernel
theorem dX4_pass_44 : decode cX4_pass 44 = .ok (.iload_n 1, 1) := by decide +kernel
theorem dX4_pass_45 : decode cX4_pass 45 = .ok (.if_icmp .ge 127, 3) := by decide +kernel
theorem dX4_pass_48 : decode cX4_pass 48 = .ok (.iconst 0, 1) := by decide +kernel
theorem dX4_pass_49 : decode cX4_pass 49 = .ok (.istore 4, 2) := by decide +kernel
theorem dX4_pass_51 : decode cX4_pass 51 = .ok (.iload 4, 2) := by decide +kernel
theorem dX4_pass_53 : decode cX4_pass 53 = .ok (.aload_n 0, 1) := by decide +kernel
theorem dX4_pass_54 : decode cX4_pass 54 = .ok (.getfield 71, 3) := by decide +kernel
theorem dX4_pass_57 : decode cX4_pass 57 = .ok (.if_icmp .ge 109, 3) := by decide +kernel
theorem dX4_pass_60 : decode cX4_pass 60 = .ok (.iconst 0, 1) := by decide +kernel
theorem dX4_pass_61 : decode cX4_pass 61 = .ok (.aload_n 0, 1) := by decide +kernel
theorem dX4_pass_62 : decode cX4_pass 62 = .ok (.getfield 36, 3) := by decide +kernel
theorem dX4_pass_65 : decode cX4_pass 65 = .ok (.iload 4, 2) := by decide +kernel
theorem dX4_pass_67 : decode cX4_pass 67 = .ok (.iaload, 1) := by decide +kernel
theorem dX4_pass_68 : decode cX4_pass 68 = .ok (.aload_n 0, 1) := by decide +kernel
theorem dX4_pass_69 : decode cX4_pass 69 = .ok (.getfield 33, 3) := by decide +kernel
theorem dX4_pass_72 : decode cX4_pass 72 = .ok (.iload 4, 2) := by decide +kernel
theorem dX4_pass_74 : decode cX4_pass 74 = .ok (.iaload, 1) := by decide +kernel
theorem dX4_pass_75 : decode cX4_pass 75 = .ok (.iadd, 1) := by decide +kernel
theorem dX4_pass_76 : decode cX4_pass 76 = .ok (.aload_n 0, 1) := by decide +kernel
theorem dX4_pass_77 : decode cX4_pass 77 = .ok (.getfield 30, 3) := by decide +kernel
theorem dX4_pass_80 : decode cX4_pass 80 = .ok (.iload 4, 2) := by decide +kernel
theorem dX4_pass_82 : decode cX4_pass 82 = .ok (.iaload, 1) := by decide +kernel
theorem dX4_pass_83 : decode cX4_pass 83 = .ok (.isub, 1) := by decide +kernel
theorem dX4_pass_84 : decode cX4_pass 84 = .ok (.invokestatic 96, 3) := by decide +kernel
theorem dX4_pass_87 : decode cX4_pass 87 = .ok (.istore 5, 2) := by decide +kernel
theorem dX4_pass_89 : decode cX4_pass 89 = .ok (.aload_n 0, 1) := by decide +kernel
theorem dX4_pass_90 : decode cX4_pass 90 = .ok (.getfield 36, 3) := by decide +kernel
theorem dX4_pass_93 : decode cX4_pass 93 = .ok (.iload 4, 2) := by decide +kernel
theorem dX4_pass_95 : decode cX4_pass 95 = .ok (.dup2, 1) := by decide +kernel
theorem dX4_pass_96 : decode cX4_pass 96 = .ok (.iaload, 1) := by decide +kernel
theorem dX4_pass_97 : decode cX4_pass 97 = .ok (.aload_n 0, 1) := by decide +kernel
theorem dX4_pass_98 : decode cX4_pass 98 = .ok (.getfield 33, 3) := by decide +kernel
theorem dX4_pass_101 : decode cX4_pass 101 = .ok (.iload 4, 2) := by decide +kernel
theorem dX4_pass_103 : decode cX4_pass 103 = .ok (.iaload, 1) := by decide +kernel
theorem dX4_pass_104 : decode cX4_pass 104 = .ok (.iload 5, 2) := by decide +kernel
theorem dX4_pass_106 : decode cX4_pass 106 = .ok (.isub, 1) := by decide +kernel
theorem dX4_pass_107 : decode cX4_pass 107 = .ok (.iadd, 1) := by decide +kernel
theorem dX4_pass_108 : decode cX4_pass 108 = .ok (.iastore, 1) := by decide +kernel
theorem dX4_pass_109 : decode cX4_pass 109 = .ok (.aload_n 0, 1) := by decide +kernel
theorem dX4_pass_110 : decode cX4_pass 110 = .ok (.getfield 58, 3) := by decide +kernel
theorem dX4_pass_113 : decode cX4_pass 113 = .ok (.aload_n 0, 1) := by decide +kernel
theorem dX4_pass_114 : decode cX4_pass 114 = .ok (.getfield 27, 3) := by decide +kernel
theorem dX4_pass_117 : decode cX4_pass 117 = .ok (.iload 4, 2) := by decide +kernel
theorem dX4_pass_119 : decode cX4_pass 119 = .ok (.iaload, 1) := by decide +kernel
theorem dX4_pass_120 : decode cX4_pass 120 = .ok (.dup2, 1) := by decide +kernel
theorem dX4_pass_121 : decode cX4_pass 121 = .ok (.laload, 1) := by decide +kernel
theorem dX4_pass_122 : decode cX4_pass 122 = .ok (.iload 5, 2) := by decide +kernel
theorem dX4_pass_124 : decode cX4_pass 124 = .ok (.i2l, 1) := by decide +kernel
theorem dX4_pass_125 : decode cX4_pass 125 = .ok (.ladd, 1) := by decide +kernel
theorem dX4_pass_126 : decode cX4_pass 126 = .ok (.lastore, 1) := by decide +kernel
theorem dX4_pass_127 : decode cX4_pass 127 = .ok (.aload_n 0, 1) := by decide +kernel
theorem dX4_pass_128 : decode cX4_pass 128 = .ok (.getfield 45, 3) := by decide +kernel
theorem dX4_pass_131 : decode cX4_pass 131 = .ok (.iload 4, 2) := by decide +kernel
theorem dX4_pass_133 : decode cX4_pass 133 = .ok (.dup2, 1) := by decide +kernel
theorem dX4_pass_134 : decode cX4_pass 134 = .ok (.iaload, 1) := by decide +kernel
theorem dX4_pass_135 : decode cX4_pass 135 = .ok (.iload 5, 2) := by decide +kernel
theorem dX4_pass_137 : decode cX4_pass 137 = .ok (.ifCond .le 7, 3) := by decide +kernel
theorem dX4_pass_140 : decode cX4_pass 140 = .ok (.iconst 1, 1) := by decide +kernel
theorem dX4_pass_141 : decode cX4_pass 141 = .ok (.goto 4, 3) := by decide +kernel
theorem dX4_pass_144 : decode cX4_pass 144 = .ok (.iconst 0, 1) := by decide +kernel
theorem dX4_pass_145 : decode cX4_pass 145 = .ok (.iadd, 1) := by decide +kernel
theorem dX4_pass_146 : decode cX4_pass 146 = .ok (.iastore, 1) := by decide +kernel
theorem dX4_pass_147 : decode cX4_pass 147 = .ok (.iload_n 2, 1) := by decide +kernel
theorem dX4_pass_148 : decode cX4_pass 148 = .ok (.iload 5, 2) := by decide +kernel
theorem dX4_pass_150 : decode cX4_pass 150 = .ok (.ifCond .le 7, 3) := by decide +kernel
theorem dX4_pass_153 : decode cX4_pass 153 = .ok (.iconst 1, 1) := by decide +kernel
theorem dX4_pass_154 : decode cX4_pass 154 = .ok (.goto 4, 3) := by decide +kernel
theorem dX4_pass_157 : decode cX4_pass 157 = .ok (.iconst 0, 1) := by decide +kernel
theorem dX4_pass_158 : decode cX4_pass 158 = .ok (.iadd, 1) := by decide +kernel
theorem dX4_pass_159 : decode cX4_pass 159 = .ok (.istore_n 2, 1) := by decide +kernel
theorem dX4_pass_160 : decode cX4_pass 160 = .ok (.iinc 4 1, 3) := by decide +kernel
theorem dX4_pass_163 : decode cX4_pass 163 = .ok (.goto (-112), 3) := by decide +kernel
theorem dX4_pass_166 : decode cX4_pass 166 = .ok (.iinc 3 1, 3) := by decide +kernel
theorem dX4_pass_169 : decode cX4_pass 169 = .ok (.goto (-126), 3) := by decide +kernel
theorem dX4_pass_172 : decode cX4_pass 172 = .ok (.aload_n 0, 1) := by decide +kernel
theorem dX4_pass_173 : decode cX4_pass 173 = .ok (.dup, 1) := by decide +kernel
theorem dX4_pass_174 : decode cX4_pass 174 = .ok (.getfield 93, 3) := by decide +kernel
theorem dX4_pass_177 : decode cX4_pass 177 = .ok (.iload_n 1, 1) := by decide +kernel
theorem dX4_pass_178 : decode cX4_pass 178 = .ok (.iadd, 1) := by decide +kernel
theorem dX4_pass_179 : decode cX4_pass 179 = .ok (.putfield 93, 3) := by decide +kernel
theorem dX4_pass_182 : decode cX4_pass 182 = .ok (.iload_n 2, 1) := by decide +kernel
theorem dX4_pass_183 : decode cX4_pass 183 = .ok (.ireturn, 1) := by decide +kernel
theorem dX4_today_0 : decode cX4_today 0 = .ok (.aload_n 0, 1) := by decide +kernel
theorem dX4_today_1 : decode cX4_today 1 = .ok (.iconst 0, 1) := by decide +kernel
theorem dX4_today_2 : decode cX4_today 2 = .ok (.putfield 64, 3) := by decide +kernel
theorem dX4_today_5 : decode cX4_today 5 = .ok (.aload_n 0, 1) := by decide +kernel
theorem dX4_today_6 : decode cX4_today 6 = .ok (.getfield 93, 3) := by decide +kernel
theorem dX4_today_9 : decode cX4_today 9 = .ok (.ireturn, 1) := by decide +kernel
theorem dX4_workday_0 : decode cX4_workday 0 = .ok (.aload_n 0, 1) := by decide +kernel
theorem dX4_workday_1 : decode cX4_workday 1 = .ok (.getfield 93, 3) := by decide +kernel
theorem dX4_workday_4 : decode cX4_workday 4 = .ok (.iconst 1, 1) := by decide +kernel
theorem dX4_workday_5 : decode cX4_workday 5 = .ok (.iadd, 1) := by decide +kernel
theorem dX4_workday_6 : decode cX4_workday 6 = .ok (.istore_n 1, 1) := by decide +kernel
theorem dX4_workday_7 : decode cX4_workday 7 = .ok (.iload_n 1, 1) := by decide +kernel
theorem dX4_workday_8 : decode cX4_workday 8 = .ok (.sipush 399, 3) := by decide +kernel
theorem dX4_workday_11 : decode cX4_workday 11 = .ok (.if_icmp .gt 18, 3) := by decide +kernel
theorem dX4_workday_14 : decode cX4_workday 14 = .ok (.aload_n 0, 1) := by decide +kernel
theorem dX4_workday_15 : decode cX4_workday 15 = .ok (.getfield 20, 3) := by decide +kernel
theorem dX4_workday_18 : decode cX4_workday 18 = .ok (.iload_n 1, 1) := by decide +kernel
theorem dX4_workday_19 : decode cX4_workday 19 = .ok (.baload, 1) := by decide +kernel
theorem dX4_workday_20 : decode cX4_workday 20 = .ok (.ifCond .eq 9, 3) := by decide +kernel
theorem dX4_workday_23 : decode cX4_workday 23 = .ok (.iinc 1 1, 3) := by decide +kernel
theorem dX4_workday_26 : decode cX4_workday 26 = .ok (.goto (-19), 3) := by decide +kernel
theorem dX4_workday_29 : decode cX4_workday 29 = .ok (.iload_n 1, 1) := by decide +kernel
theorem dX4_workday_30 : decode cX4_workday 30 = .ok (.ireturn, 1) := by decide +kernel
set_option maxRecDepth 20000 in
theorem ggX4_nextWorkday_X4_workday : GoodIn wsX4_nextWorkday wsX4_workday := goodIn_r _ [6, 7, 8, 9, 10, 11, 12, 13, 14, 15, 16, 17, 18, 19, 20, 21, 22, 23, 24, 25, 26, 27, 28, 29] (by decide +kernel) (by decide +kernel)
set_option maxRecDepth 20000 in
theorem gX4_nextWorkday_X4_workday : GoodIn wsX4_nextWorkday (wsV RX4 101 RX4 yX4_workday wsX4_workday) := goodIn_app (goodIn_of _ (by decide +kernel)) ggX4_nextWorkday_X4_workday
theorem dX4_nextWorkday_0 : decode cX4_nextWorkday 0 = .ok (.aload_n 0, 1) := by decide +kernel
theorem dX4_nextWorkday_1 : decode cX4_nextWorkday 1 = .ok (.iconst 0, 1) := by decide +kernel
theorem dX4_nextWorkday_2 : decode cX4_nextWorkday 2 = .ok (.putfield 64, 3) := by decide +kernel
theorem dX4_nextWorkday_5 : decode cX4_nextWorkday 5 = .ok (.aload_n 0, 1) := by decide +kernel
theorem dX4_nextWorkday_6 : decode cX4_nextWorkday 6 = .ok (.invokevirtual 101, 3) := by decide +kernel
theorem dX4_nextWorkday_9 : decode cX4_nextWorkday 9 = .ok (.ireturn, 1) := by decide +kernel
set_option maxRecDepth 20000 in
theorem ggX4_addBin_X4_isPlace : GoodIn wsX4_addBin wsX4_isPlace := goodIn_r _ [15, 16, 17, 18, 14, 19, 27, 28, 29, 30, 31, 32, 33, 34, 35, 36, 37, 38, 39, 40, 41, 42, 43, 44, 45, 46, 47] (by decide +kernel) (by decide +kernel)
set_option maxRecDepth 20000 in
theorem gX4_addBin_X4_isPlace : GoodIn wsX4_addBin (wsV RX4 78 RX4 yX4_isPlace wsX4_isPlace) := goodIn_app (goodIn_of _ (by decide +kernel)) ggX4_addBin_X4_isPlace
set_option maxRecDepth 20000 in
theorem ggX4_addBin_X4_isKind : GoodIn wsX4_addBin wsX4_isKind := goodIn_r _ [22, 17, 18, 14, 19] (by decide +kernel) (by decide +kernel)
set_option maxRecDepth 20000 in
theorem gX4_addBin_X4_isKind : GoodIn wsX4_addBin (va_wsS RX4 86 yX4_isKind wsX4_isKind) := goodIn_app (goodIn_of _ (by decide +kernel)) ggX4_addBin_X4_isKind
set_option maxRecDepth 20000 in
theorem ggX4_addBin_X4_fail : GoodIn wsX4_addBin wsX4_fail := goodIn_r _ [26, 1, 27, 28, 29, 30, 31, 32, 33, 34, 35, 36, 37, 38, 39, 40, 41, 42, 43, 44, 45, 46, 47] (by decide +kernel) (by decide +kernel)
set_option maxRecDepth 20000 in
theorem gX4_addBin_X4_fail : GoodIn wsX4_addBin (wsV RX4 74 RX4 yX4_fail wsX4_fail) := goodIn_app (goodIn_of _ (by decide +kernel)) ggX4_addBin_X4_fail
set_option maxRecDepth 20000 in
theorem ggX4_addBin_X4_isIn : GoodIn wsX4_addBin wsX4_isIn := goodIn_r _ [19] (by decide +kernel) (by decide +kernel)
set_option maxRecDepth 20000 in
theorem gX4_addBin_X4_isIn : GoodIn wsX4_addBin (va_wsS RX4 67 yX4_isIn wsX4_isIn) := goodIn_app (goodIn_of _ (by decide +kernel)) ggX4_addBin_X4_isIn
theorem dX4_addBin_0 : decode cX4_addBin 0 = .ok (.aload_n 0, 1) := by decide +kernel
theorem dX4_addBin_1 : decode cX4_addBin 1 = .ok (.iconst 0, 1) := by decide +kernel
theorem dX4_addBin_2 : decode cX4_addBin 2 = .ok (.putfield 64, 3) := by decide +kernel
theorem dX4_addBin_5 : decode cX4_addBin 5 = .ok (.aload_n 0, 1) := by decide +kernel
theorem dX4_addBin_6 : decode cX4_addBin 6 = .ok (.iload_n 1, 1) := by decide +kernel
theorem dX4_addBin_7 : decode cX4_addBin 7 = .ok (.invokevirtual 78, 3) := by decide +kernel
theorem dX4_addBin_10 : decode cX4_addBin 10 = .ok (.ifCond .eq 14, 3) := by decide +kernel
theorem dX4_addBin_13 : decode cX4_addBin 13 = .ok (.iload_n 1, 1) := by decide +kernel
theorem dX4_addBin_14 : decode cX4_addBin 14 = .ok (.ifCond .eq 10, 3) := by decide +kernel
theorem dX4_addBin_17 : decode cX4_addBin 17 = .ok (.iload_n 2, 1) := by decide +kernel
theorem dX4_addBin_18 : decode cX4_addBin 18 = .ok (.invokestatic 86, 3) := by decide +kernel
theorem dX4_addBin_21 : decode cX4_addBin 21 = .ok (.ifCond .ne 9, 3) := by decide +kernel
theorem dX4_addBin_24 : decode cX4_addBin 24 = .ok (.aload_n 0, 1) := by decide +kernel
theorem dX4_addBin_25 : decode cX4_addBin 25 = .ok (.iconst 1, 1) := by decide +kernel
theorem dX4_addBin_26 : decode cX4_addBin 26 = .ok (.invokevirtual 74, 3) := by decide +kernel
theorem dX4_addBin_29 : decode cX4_addBin 29 = .ok (.ireturn, 1) := by decide +kernel
theorem dX4_addBin_30 : decode cX4_addBin 30 = .ok (.iload_n 3, 1) := by decide +kernel
theorem dX4_addBin_31 : decode cX4_addBin 31 = .ok (.bipush 10, 2) := by decide +kernel
theorem dX4_addBin_33 : decode cX4_addBin 33 = .ok (.sipush 1000, 3) := by decide +kernel
theorem dX4_addBin_36 : decode cX4_addBin 36 = .ok (.invokestatic 67, 3) := by decide +kernel
theorem dX4_addBin_39 : decode cX4_addBin 39 = .ok (.ifCond .eq 15, 3) := by decide +kernel
theorem dX4_addBin_42 : decode cX4_addBin 42 = .ok (.iload 4, 2) := by decide +kernel
theorem dX4_addBin_44 : decode cX4_addBin 44 = .ok (.iconst 0, 1) := by decide +kernel
theorem dX4_addBin_45 : decode cX4_addBin 45 = .ok (.sipush 200, 3) := by decide +kernel
theorem dX4_addBin_48 : decode cX4_addBin 48 = .ok (.invokestatic 67, 3) := by decide +kernel
theorem dX4_addBin_51 : decode cX4_addBin 51 = .ok (.ifCond .ne 9, 3) := by decide +kernel
theorem dX4_addBin_54 : decode cX4_addBin 54 = .ok (.aload_n 0, 1) := by decide +kernel
theorem dX4_addBin_55 : decode cX4_addBin 55 = .ok (.iconst 2, 1) := by decide +kernel
theorem dX4_addBin_56 : decode cX4_addBin 56 = .ok (.invokevirtual 74, 3) := by decide +kernel
theorem dX4_addBin_59 : decode cX4_addBin 59 = .ok (.ireturn, 1) := by decide +kernel
theorem dX4_addBin_60 : decode cX4_addBin 60 = .ok (.aload_n 0, 1) := by decide +kernel
theorem dX4_addBin_61 : decode cX4_addBin 61 = .ok (.getfield 71, 3) := by decide +kernel
theorem dX4_addBin_64 : decode cX4_addBin 64 = .ok (.bipush 16, 2) := by decide +kernel
theorem dX4_addBin_66 : decode cX4_addBin 66 = .ok (.if_icmp .ne 9, 3) := by decide +kernel
theorem dX4_addBin_69 : decode cX4_addBin 69 = .ok (.aload_n 0, 1) := by decide +kernel
theorem dX4_addBin_70 : decode cX4_addBin 70 = .ok (.iconst 3, 1) := by decide +kernel
theorem dX4_addBin_71 : decode cX4_addBin 71 = .ok (.invokevirtual 74, 3) := by decide +kernel
theorem dX4_addBin_74 : decode cX4_addBin 74 = .ok (.ireturn, 1) := by decide +kernel
theorem dX4_addBin_75 : decode cX4_addBin 75 = .ok (.aload_n 0, 1) := by decide +kernel
theorem dX4_addBin_76 : decode cX4_addBin 76 = .ok (.getfield 24, 3) := by decide +kernel
theorem dX4_addBin_79 : decode cX4_addBin 79 = .ok (.aload_n 0, 1) := by decide +kernel
theorem dX4_addBin_80 : decode cX4_addBin 80 = .ok (.getfield 71, 3) := by decide +kernel
theorem dX4_addBin_83 : decode cX4_addBin 83 = .ok (.iload_n 1, 1) := by decide +kernel
theorem dX4_addBin_84 : decode cX4_addBin 84 = .ok (.iastore, 1) := by decide +kernel
theorem dX4_addBin_85 : decode cX4_addBin 85 = .ok (.aload_n 0, 1) := by decide +kernel
theorem dX4_addBin_86 : decode cX4_addBin 86 = .ok (.getfield 27, 3) := by decide +kernel
theorem dX4_addBin_89 : decode cX4_addBin 89 = .ok (.aload_n 0, 1) := by decide +kernel
theorem dX4_addBin_90 : decode cX4_addBin 90 = .ok (.getfield 71, 3) := by decide +kernel
theorem dX4_addBin_93 : decode cX4_addBin 93 = .ok (.iload_n 2, 1) := by decide +kernel
theorem dX4_addBin_94 : decode cX4_addBin 94 = .ok (.iastore, 1) := by decide +kernel
theorem dX4_addBin_95 : decode cX4_addBin 95 = .ok (.aload_n 0, 1) := by decide +kernel
theorem dX4_addBin_96 : decode cX4_addBin 96 = .ok (.getfield 30, 3) := by decide +kernel
theorem dX4_addBin_99 : decode cX4_addBin 99 = .ok (.aload_n 0, 1) := by decide +kernel
theorem dX4_addBin_100 : decode cX4_addBin 100 = .ok (.getfield 71, 3) := by decide +kernel
theorem dX4_addBin_103 : decode cX4_addBin 103 = .ok (.iload_n 3, 1) := by decide +kernel
theorem dX4_addBin_104 : decode cX4_addBin 104 = .ok (.iastore, 1) := by decide +kernel
theorem dX4_addBin_105 : decode cX4_addBin 105 = .ok (.aload_n 0, 1) := by decide +kernel
theorem dX4_addBin_106 : decode cX4_addBin 106 = .ok (.getfield 33, 3) := by decide +kernel
theorem dX4_addBin_109 : decode cX4_addBin 109 = .ok (.aload_n 0, 1) := by decide +kernel
theorem dX4_addBin_110 : decode cX4_addBin 110 = .ok (.getfield 71, 3) := by decide +kernel
theorem dX4_addBin_113 : decode cX4_addBin 113 = .ok (.iload 4, 2) := by decide +kernel
theorem dX4_addBin_115 : decode cX4_addBin 115 = .ok (.iastore, 1) := by decide +kernel
theorem dX4_addBin_116 : decode cX4_addBin 116 = .ok (.aload_n 0, 1) := by decide +kernel
theorem dX4_addBin_117 : decode cX4_addBin 117 = .ok (.getfield 36, 3) := by decide +kernel
theorem dX4_addBin_120 : decode cX4_addBin 120 = .ok (.aload_n 0, 1) := by decide +kernel
theorem dX4_addBin_121 : decode cX4_addBin 121 = .ok (.getfield 71, 3) := by decide +kernel
theorem dX4_addBin_124 : decode cX4_addBin 124 = .ok (.iconst 0, 1) := by decide +kernel
theorem dX4_addBin_125 : decode cX4_addBin 125 = .ok (.iastore, 1) := by decide +kernel
theorem dX4_addBin_126 : decode cX4_addBin 126 = .ok (.aload_n 0, 1) := by decide +kernel
theorem dX4_addBin_127 : decode cX4_addBin 127 = .ok (.getfield 39, 3) := by decide +kernel
theorem dX4_addBin_130 : decode cX4_addBin 130 = .ok (.aload_n 0, 1) := by decide +kernel
theorem dX4_addBin_131 : decode cX4_addBin 131 = .ok (.getfield 71, 3) := by decide +kernel
theorem dX4_addBin_134 : decode cX4_addBin 134 = .ok (.iload_n 3, 1) := by decide +kernel
theorem dX4_addBin_135 : decode cX4_addBin 135 = .ok (.iconst 2, 1) := by decide +kernel
theorem dX4_addBin_136 : decode cX4_addBin 136 = .ok (.idiv, 1) := by decide +kernel
theorem dX4_addBin_137 : decode cX4_addBin 137 = .ok (.iastore, 1) := by decide +kernel
theorem dX4_addBin_138 : decode cX4_addBin 138 = .ok (.aload_n 0, 1) := by decide +kernel
theorem dX4_addBin_139 : decode cX4_addBin 139 = .ok (.getfield 42, 3) := by decide +kernel
theorem dX4_addBin_142 : decode cX4_addBin 142 = .ok (.aload_n 0, 1) := by decide +kernel
theorem dX4_addBin_143 : decode cX4_addBin 143 = .ok (.getfield 71, 3) := by decide +kernel
theorem dX4_addBin_146 : decode cX4_addBin 146 = .ok (.aload_n 0, 1) := by decide +kernel
theorem dX4_addBin_147 : decode cX4_addBin 147 = .ok (.getfield 93, 3) := by decide +kernel
theorem dX4_addBin_150 : decode cX4_addBin 150 = .ok (.iastore, 1) := by decide +kernel
theorem dX4_addBin_151 : decode cX4_addBin 151 = .ok (.aload_n 0, 1) := by decide +kernel
theorem dX4_addBin_152 : decode cX4_addBin 152 = .ok (.dup, 1) := by decide +kernel
theorem dX4_addBin_153 : decode cX4_addBin 153 = .ok (.getfield 71, 3) := by decide +kernel
theorem dX4_addBin_156 : decode cX4_addBin 156 = .ok (.iconst 1, 1) := by decide +kernel
theorem dX4_addBin_157 : decode cX4_addBin 157 = .ok (.iadd, 1) := by decide +kernel
theorem dX4_addBin_158 : decode cX4_addBin 158 = .ok (.putfield 71, 3) := by decide +kernel
theorem dX4_addBin_161 : decode cX4_addBin 161 = .ok (.aload_n 0, 1) := by decide +kernel
theorem dX4_addBin_162 : decode cX4_addBin 162 = .ok (.getfield 71, 3) := by decide +kernel
theorem dX4_addBin_165 : decode cX4_addBin 165 = .ok (.iconst 1, 1) := by decide +kernel
theorem dX4_addBin_166 : decode cX4_addBin 166 = .ok (.isub, 1) := by decide +kernel
theorem dX4_addBin_167 : decode cX4_addBin 167 = .ok (.ireturn, 1) := by decide +kernel
set_option maxRecDepth 20000 in
theorem ggX4_setGrowth_X4_isBin : GoodIn wsX4_setGrowth wsX4_isBin := goodIn_r _ [7, 8, 9, 10, 6, 11, 16, 17, 18, 19, 20, 21, 22, 23, 24, 25, 26, 27, 28, 29, 30, 31, 32, 33, 34, 35, 36] (by decide +kernel) (by decide +kernel)
set_option maxRecDepth 20000 in
theorem gX4_setGrowth_X4_isBin : GoodIn wsX4_setGrowth (wsV RX4 105 RX4 yX4_isBin wsX4_isBin) := goodIn_app (goodIn_of _ (by decide +kernel)) ggX4_setGrowth_X4_isBin
set_option maxRecDepth 20000 in
theorem ggX4_setGrowth_X4_fail : GoodIn wsX4_setGrowth wsX4_fail := goodIn_r _ [15, 1, 16, 17, 18, 19, 20, 21, 22, 23, 24, 25, 26, 27, 28, 29, 30, 31, 32, 33, 34, 35, 36] (by decide +kernel) (by decide +kernel)
set_option maxRecDepth 20000 in
theorem gX4_setGrowth_X4_fail : GoodIn wsX4_setGrowth (wsV RX4 74 RX4 yX4_fail wsX4_fail) := goodIn_app (goodIn_of _ (by decide +kernel)) ggX4_setGrowth_X4_fail
set_option maxRecDepth 20000 in
theorem ggX4_setGrowth_X4_isIn : GoodIn wsX4_setGrowth wsX4_isIn := goodIn_r _ [11] (by decide +kernel) (by decide +kernel)
set_option maxRecDepth 20000 in
theorem gX4_setGrowth_X4_isIn : GoodIn wsX4_setGrowth (va_wsS RX4 67 yX4_isIn wsX4_isIn) := goodIn_app (goodIn_of _ (by decide +kernel)) ggX4_setGrowth_X4_isIn
theorem dX4_setGrowth_0 : decode cX4_setGrowth 0 = .ok (.aload_n 0, 1) := by decide +kernel
theorem dX4_setGrowth_1 : decode cX4_setGrowth 1 = .ok (.iconst 0, 1) := by decide +kernel
theorem dX4_setGrowth_2 : decode cX4_setGrowth 2 = .ok (.putfield 64, 3) := by decide +kernel
theorem dX4_setGrowth_5 : decode cX4_setGrowth 5 = .ok (.aload_n 0, 1) := by decide +kernel
theorem dX4_setGrowth_6 : decode cX4_setGrowth 6 = .ok (.iload_n 1, 1) := by decide +kernel
theorem dX4_setGrowth_7 : decode cX4_setGrowth 7 = .ok (.invokevirtual 105, 3) := by decide +kernel
theorem dX4_setGrowth_10 : decode cX4_setGrowth 10 = .ok (.ifCond .ne 9, 3) := by decide +kernel
theorem dX4_setGrowth_13 : decode cX4_setGrowth 13 = .ok (.aload_n 0, 1) := by decide +kernel
theorem dX4_setGrowth_14 : decode cX4_setGrowth 14 = .ok (.iconst 1, 1) := by decide +kernel
theorem dX4_setGrowth_15 : decode cX4_setGrowth 15 = .ok (.invokevirtual 74, 3) := by decide +kernel
theorem dX4_setGrowth_18 : decode cX4_setGrowth 18 = .ok (.ireturn, 1) := by decide +kernel
theorem dX4_setGrowth_19 : decode cX4_setGrowth 19 = .ok (.iload_n 2, 1) := by decide +kernel
theorem dX4_setGrowth_20 : decode cX4_setGrowth 20 = .ok (.iconst 0, 1) := by decide +kernel
theorem dX4_setGrowth_21 : decode cX4_setGrowth 21 = .ok (.sipush 200, 3) := by decide +kernel
theorem dX4_setGrowth_24 : decode cX4_setGrowth 24 = .ok (.invokestatic 67, 3) := by decide +kernel
theorem dX4_setGrowth_27 : decode cX4_setGrowth 27 = .ok (.ifCond .ne 9, 3) := by decide +kernel
theorem dX4_setGrowth_30 : decode cX4_setGrowth 30 = .ok (.aload_n 0, 1) := by decide +kernel
theorem dX4_setGrowth_31 : decode cX4_setGrowth 31 = .ok (.iconst 2, 1) := by decide +kernel
theorem dX4_setGrowth_32 : decode cX4_setGrowth 32 = .ok (.invokevirtual 74, 3) := by decide +kernel
theorem dX4_setGrowth_35 : decode cX4_setGrowth 35 = .ok (.ireturn, 1) := by decide +kernel
theorem dX4_setGrowth_36 : decode cX4_setGrowth 36 = .ok (.aload_n 0, 1) := by decide +kernel
theorem dX4_setGrowth_37 : decode cX4_setGrowth 37 = .ok (.getfield 33, 3) := by decide +kernel
theorem dX4_setGrowth_40 : decode cX4_setGrowth 40 = .ok (.iload_n 1, 1) := by decide +kernel
theorem dX4_setGrowth_41 : decode cX4_setGrowth 41 = .ok (.iaload, 1) := by decide +kernel
theorem dX4_setGrowth_42 : decode cX4_setGrowth 42 = .ok (.istore_n 3, 1) := by decide +kernel
theorem dX4_setGrowth_43 : decode cX4_setGrowth 43 = .ok (.aload_n 0, 1) := by decide +kernel
theorem dX4_setGrowth_44 : decode cX4_setGrowth 44 = .ok (.getfield 33, 3) := by decide +kernel
theorem dX4_setGrowth_47 : decode cX4_setGrowth 47 = .ok (.iload_n 1, 1) := by decide +kernel
theorem dX4_setGrowth_48 : decode cX4_setGrowth 48 = .ok (.iload_n 2, 1) := by decide +kernel
theorem dX4_setGrowth_49 : decode cX4_setGrowth 49 = .ok (.iastore, 1) := by decide +kernel
theorem dX4_setGrowth_50 : decode cX4_setGrowth 50 = .ok (.iload_n 3, 1) := by decide +kernel
theorem dX4_setGrowth_51 : decode cX4_setGrowth 51 = .ok (.ireturn, 1) := by decide +kernel
set_option maxRecDepth 20000 in
theorem ggX4_soil_X4_isBin : GoodIn wsX4_soil wsX4_isBin := goodIn_r _ [7, 8, 9, 10, 6, 11, 12, 13, 14, 15, 16, 17, 18, 19, 20, 21, 22, 23, 24, 25, 26, 27, 28, 29, 30, 31, 32] (by decide +kernel) (by decide +kernel)
set_option maxRecDepth 20000 in
theorem gX4_soil_X4_isBin : GoodIn wsX4_soil (wsV RX4 105 RX4 yX4_isBin wsX4_isBin) := goodIn_app (goodIn_of _ (by decide +kernel)) ggX4_soil_X4_isBin
theorem dX4_soil_0 : decode cX4_soil 0 = .ok (.aload_n 0, 1) := by decide +kernel
theorem dX4_soil_1 : decode cX4_soil 1 = .ok (.aload_n 0, 1) := by decide +kernel
theorem dX4_soil_2 : decode cX4_soil 2 = .ok (.iload_n 1, 1) := by decide +kernel
theorem dX4_soil_3 : decode cX4_soil 3 = .ok (.invokevirtual 105, 3) := by decide +kernel
theorem dX4_soil_6 : decode cX4_soil 6 = .ok (.ifCond .eq 7, 3) := by decide +kernel
theorem dX4_soil_9 : decode cX4_soil 9 = .ok (.iconst 0, 1) := by decide +kernel
theorem dX4_soil_10 : decode cX4_soil 10 = .ok (.goto 4, 3) := by decide +kernel
theorem dX4_soil_13 : decode cX4_soil 13 = .ok (.iconst 1, 1) := by decide +kernel
theorem dX4_soil_14 : decode cX4_soil 14 = .ok (.putfield 64, 3) := by decide +kernel
theorem dX4_soil_17 : decode cX4_soil 17 = .ok (.aload_n 0, 1) := by decide +kernel
theorem dX4_soil_18 : decode cX4_soil 18 = .ok (.getfield 64, 3) := by decide +kernel
theorem dX4_soil_21 : decode cX4_soil 21 = .ok (.ifCond .eq 5, 3) := by decide +kernel
theorem dX4_soil_24 : decode cX4_soil 24 = .ok (.iconst 0, 1) := by decide +kernel
theorem dX4_soil_25 : decode cX4_soil 25 = .ok (.ireturn, 1) := by decide +kernel
theorem dX4_soil_26 : decode cX4_soil 26 = .ok (.aload_n 0, 1) := by decide +kernel
theorem dX4_soil_27 : decode cX4_soil 27 = .ok (.getfield 51, 3) := by decide +kernel
theorem dX4_soil_30 : decode cX4_soil 30 = .ok (.iload_n 1, 1) := by decide +kernel
theorem dX4_soil_31 : decode cX4_soil 31 = .ok (.baload, 1) := by decide +kernel
theorem dX4_soil_32 : decode cX4_soil 32 = .ok (.istore_n 2, 1) := by decide +kernel
theorem dX4_soil_33 : decode cX4_soil 33 = .ok (.aload_n 0, 1) := by decide +kernel
theorem dX4_soil_34 : decode cX4_soil 34 = .ok (.getfield 51, 3) := by decide +kernel
theorem dX4_soil_37 : decode cX4_soil 37 = .ok (.iload_n 1, 1) := by decide +kernel
theorem dX4_soil_38 : decode cX4_soil 38 = .ok (.iconst 1, 1) := by decide +kernel
theorem dX4_soil_39 : decode cX4_soil 39 = .ok (.bastore, 1) := by decide +kernel
theorem dX4_soil_40 : decode cX4_soil 40 = .ok (.iload_n 2, 1) := by decide +kernel
theorem dX4_soil_41 : decode cX4_soil 41 = .ok (.ifCond .ne 7, 3) := by decide +kernel
theorem dX4_soil_44 : decode cX4_soil 44 = .ok (.iconst 1, 1) := by decide +kernel
theorem dX4_soil_45 : decode cX4_soil 45 = .ok (.goto 4, 3) := by decide +kernel
theorem dX4_soil_48 : decode cX4_soil 48 = .ok (.iconst 0, 1) := by decide +kernel
theorem dX4_soil_49 : decode cX4_soil 49 = .ok (.ireturn, 1) := by decide +kernel
theorem dX4_binCount_0 : decode cX4_binCount 0 = .ok (.aload_n 0, 1) := by decide +kernel
theorem dX4_binCount_1 : decode cX4_binCount 1 = .ok (.iconst 0, 1) := by decide +kernel
theorem dX4_binCount_2 : decode cX4_binCount 2 = .ok (.putfield 64, 3) := by decide +kernel
theorem dX4_binCount_5 : decode cX4_binCount 5 = .ok (.aload_n 0, 1) := by decide +kernel
theorem dX4_binCount_6 : decode cX4_binCount 6 = .ok (.getfield 71, 3) := by decide +kernel
theorem dX4_binCount_9 : decode cX4_binCount 9 = .ok (.ireturn, 1) := by decide +kernel
theorem dX4_told_0 : decode cX4_told 0 = .ok (.iload_n 2, 1) := by decide +kernel
theorem dX4_told_1 : decode cX4_told 1 = .ok (.tableswitch 92 0 6 #[43, 50, 57, 64, 71, 78, 85], 43) := by decide +kernel
theorem dX4_told_44 : decode cX4_told 44 = .ok (.aload_n 0, 1) := by decide +kernel
theorem dX4_told_45 : decode cX4_told 45 = .ok (.getfield 24, 3) := by decide +kernel
theorem dX4_told_48 : decode cX4_told 48 = .ok (.iload_n 1, 1) := by decide +kernel
theorem dX4_told_49 : decode cX4_told 49 = .ok (.iaload, 1) := by decide +kernel
theorem dX4_told_50 : decode cX4_told 50 = .ok (.ireturn, 1) := by decide +kernel
theorem dX4_told_51 : decode cX4_told 51 = .ok (.aload_n 0, 1) := by decide +kernel
theorem dX4_told_52 : decode cX4_told 52 = .ok (.getfield 27, 3) := by decide +kernel
theorem dX4_told_55 : decode cX4_told 55 = .ok (.iload_n 1, 1) := by decide +kernel
theorem dX4_told_56 : decode cX4_told 56 = .ok (.iaload, 1) := by decide +kernel
theorem dX4_told_57 : decode cX4_told 57 = .ok (.ireturn, 1) := by decide +kernel
theorem dX4_told_58 : decode cX4_told 58 = .ok (.aload_n 0, 1) := by decide +kernel
theorem dX4_told_59 : decode cX4_told 59 = .ok (.getfield 36, 3) := by decide +kernel
theorem dX4_told_62 : decode cX4_told 62 = .ok (.iload_n 1, 1) := by decide +kernel
theorem dX4_told_63 : decode cX4_told 63 = .ok (.iaload, 1) := by decide +kernel
theorem dX4_told_64 : decode cX4_told 64 = .ok (.ireturn, 1) := by decide +kernel
theorem dX4_told_65 : decode cX4_told 65 = .ok (.aload_n 0, 1) := by decide +kernel
theorem dX4_told_66 : decode cX4_told 66 = .ok (.getfield 39, 3) := by decide +kernel
theorem dX4_told_69 : decode cX4_told 69 = .ok (.iload_n 1, 1) := by decide +kernel
theorem dX4_told_70 : decode cX4_told 70 = .ok (.iaload, 1) := by decide +kernel
theorem dX4_told_71 : decode cX4_told 71 = .ok (.ireturn, 1) := by decide +kernel
theorem dX4_told_72 : decode cX4_told 72 = .ok (.aload_n 0, 1) := by decide +kernel
theorem dX4_told_73 : decode cX4_told 73 = .ok (.getfield 42, 3) := by decide +kernel
theorem dX4_told_76 : decode cX4_told 76 = .ok (.iload_n 1, 1) := by decide +kernel
theorem dX4_told_77 : decode cX4_told 77 = .ok (.iaload, 1) := by decide +kernel
theorem dX4_told_78 : decode cX4_told 78 = .ok (.ireturn, 1) := by decide +kernel
theorem dX4_told_79 : decode cX4_told 79 = .ok (.aload_n 0, 1) := by decide +kernel
theorem dX4_told_80 : decode cX4_told 80 = .ok (.getfield 45, 3) := by decide +kernel
theorem dX4_told_83 : decode cX4_told 83 = .ok (.iload_n 1, 1) := by decide +kernel
theorem dX4_told_84 : decode cX4_told 84 = .ok (.iaload, 1) := by decide +kernel
theorem dX4_told_85 : decode cX4_told 85 = .ok (.ireturn, 1) := by decide +kernel
theorem dX4_told_86 : decode cX4_told 86 = .ok (.aload_n 0, 1) := by decide +kernel
theorem dX4_told_87 : decode cX4_told 87 = .ok (.getfield 48, 3) := by decide +kernel
theorem dX4_told_90 : decode cX4_told 90 = .ok (.iload_n 1, 1) := by decide +kernel
theorem dX4_told_91 : decode cX4_told 91 = .ok (.iaload, 1) := by decide +kernel
theorem dX4_told_92 : decode cX4_told 92 = .ok (.ireturn, 1) := by decide +kernel
theorem dX4_told_93 : decode cX4_told 93 = .ok (.aload_n 0, 1) := by decide +kernel
theorem dX4_told_94 : decode cX4_told 94 = .ok (.getfield 51, 3) := by decide +kernel
theorem dX4_told_97 : decode cX4_told 97 = .ok (.iload_n 1, 1) := by decide +kernel
theorem dX4_told_98 : decode cX4_told 98 = .ok (.baload, 1) := by decide +kernel
theorem dX4_told_99 : decode cX4_told 99 = .ok (.ifCond .eq 7, 3) := by decide +kernel
theorem dX4_told_102 : decode cX4_told 102 = .ok (.iconst 1, 1) := by decide +kernel
theorem dX4_told_103 : decode cX4_told 103 = .ok (.goto 4, 3) := by decide +kernel
theorem dX4_told_106 : decode cX4_told 106 = .ok (.iconst 0, 1) := by decide +kernel
theorem dX4_told_107 : decode cX4_told 107 = .ok (.ireturn, 1) := by decide +kernel
set_option maxRecDepth 20000 in
theorem ggX4_bin_X4_isBin : GoodIn wsX4_bin wsX4_isBin := goodIn_r _ [6, 7, 8, 9, 5, 10, 27, 28, 29, 30, 31, 32, 33, 34, 35, 36, 37, 38, 39, 40, 41, 42, 43, 44, 45, 46, 47] (by decide +kernel) (by decide +kernel)
set_option maxRecDepth 20000 in
theorem gX4_bin_X4_isBin : GoodIn wsX4_bin (wsV RX4 105 RX4 yX4_isBin wsX4_isBin) := goodIn_app (goodIn_of _ (by decide +kernel)) ggX4_bin_X4_isBin
set_option maxRecDepth 20000 in
theorem ggX4_bin_X4_isIn : GoodIn wsX4_bin wsX4_isIn := goodIn_r _ [10] (by decide +kernel) (by decide +kernel)
set_option maxRecDepth 20000 in
theorem gX4_bin_X4_isIn : GoodIn wsX4_bin (va_wsS RX4 67 yX4_isIn wsX4_isIn) := goodIn_app (goodIn_of _ (by decide +kernel)) ggX4_bin_X4_isIn
set_option maxRecDepth 20000 in
theorem ggX4_bin_X4_told : GoodIn wsX4_bin wsX4_told := goodIn_r _ [14, 15, 16, 17, 18, 19, 20, 21, 22, 27, 28, 29, 30, 31, 32, 33, 34, 35, 36, 37, 38, 39, 40, 41, 42, 43, 44, 45, 46, 47] (by decide +kernel) (by decide +kernel)
set_option maxRecDepth 20000 in
theorem gX4_bin_X4_told : GoodIn wsX4_bin (wsV RX4 108 RX4 yX4_told wsX4_told) := goodIn_app (goodIn_of _ (by decide +kernel)) ggX4_bin_X4_told
set_option maxRecDepth 20000 in
theorem ggX4_bin_X4_fail : GoodIn wsX4_bin wsX4_fail := goodIn_r _ [26, 1, 27, 28, 29, 30, 31, 32, 33, 34, 35, 36, 37, 38, 39, 40, 41, 42, 43, 44, 45, 46, 47] (by decide +kernel) (by decide +kernel)
set_option maxRecDepth 20000 in
theorem gX4_bin_X4_fail : GoodIn wsX4_bin (wsV RX4 74 RX4 yX4_fail wsX4_fail) := goodIn_app (goodIn_of _ (by decide +kernel)) ggX4_bin_X4_fail
theorem dX4_bin_0 : decode cX4_bin 0 = .ok (.aload_n 0, 1) := by decide +kernel
theorem dX4_bin_1 : decode cX4_bin 1 = .ok (.iconst 0, 1) := by decide +kernel
theorem dX4_bin_2 : decode cX4_bin 2 = .ok (.putfield 64, 3) := by decide +kernel
theorem dX4_bin_5 : decode cX4_bin 5 = .ok (.aload_n 0, 1) := by decide +kernel
theorem dX4_bin_6 : decode cX4_bin 6 = .ok (.iload_n 1, 1) := by decide +kernel
theorem dX4_bin_7 : decode cX4_bin 7 = .ok (.invokevirtual 105, 3) := by decide +kernel
theorem dX4_bin_10 : decode cX4_bin 10 = .ok (.ifCond .eq 22, 3) := by decide +kernel
theorem dX4_bin_13 : decode cX4_bin 13 = .ok (.iload_n 2, 1) := by decide +kernel
theorem dX4_bin_14 : decode cX4_bin 14 = .ok (.iconst 0, 1) := by decide +kernel
theorem dX4_bin_15 : decode cX4_bin 15 = .ok (.bipush 7, 2) := by decide +kernel
theorem dX4_bin_17 : decode cX4_bin 17 = .ok (.invokestatic 67, 3) := by decide +kernel
theorem dX4_bin_20 : decode cX4_bin 20 = .ok (.ifCond .eq 12, 3) := by decide +kernel
theorem dX4_bin_23 : decode cX4_bin 23 = .ok (.aload_n 0, 1) := by decide +kernel
theorem dX4_bin_24 : decode cX4_bin 24 = .ok (.iload_n 1, 1) := by decide +kernel
theorem dX4_bin_25 : decode cX4_bin 25 = .ok (.iload_n 2, 1) := by decide +kernel
theorem dX4_bin_26 : decode cX4_bin 26 = .ok (.invokevirtual 108, 3) := by decide +kernel
theorem dX4_bin_29 : decode cX4_bin 29 = .ok (.goto 8, 3) := by decide +kernel
theorem dX4_bin_32 : decode cX4_bin 32 = .ok (.aload_n 0, 1) := by decide +kernel
theorem dX4_bin_33 : decode cX4_bin 33 = .ok (.iconst 1, 1) := by decide +kernel
theorem dX4_bin_34 : decode cX4_bin 34 = .ok (.invokevirtual 74, 3) := by decide +kernel
theorem dX4_bin_37 : decode cX4_bin 37 = .ok (.ireturn, 1) := by decide +kernel
theorem dX4_expectedOn_0 : decode cX4_expectedOn 0 = .ok (.aload_n 0, 1) := by decide +kernel
theorem dX4_expectedOn_1 : decode cX4_expectedOn 1 = .ok (.getfield 30, 3) := by decide +kernel
theorem dX4_expectedOn_4 : decode cX4_expectedOn 4 = .ok (.iload_n 1, 1) := by decide +kernel
theorem dX4_expectedOn_5 : decode cX4_expectedOn 5 = .ok (.iaload, 1) := by decide +kernel
theorem dX4_expectedOn_6 : decode cX4_expectedOn 6 = .ok (.aload_n 0, 1) := by decide +kernel
theorem dX4_expectedOn_7 : decode cX4_expectedOn 7 = .ok (.getfield 39, 3) := by decide +kernel
theorem dX4_expectedOn_10 : decode cX4_expectedOn 10 = .ok (.iload_n 1, 1) := by decide +kernel
theorem dX4_expectedOn_11 : decode cX4_expectedOn 11 = .ok (.iaload, 1) := by decide +kernel
theorem dX4_expectedOn_12 : decode cX4_expectedOn 12 = .ok (.iload_n 2, 1) := by decide +kernel
theorem dX4_expectedOn_13 : decode cX4_expectedOn 13 = .ok (.aload_n 0, 1) := by decide +kernel
theorem dX4_expectedOn_14 : decode cX4_expectedOn 14 = .ok (.getfield 42, 3) := by decide +kernel
theorem dX4_expectedOn_17 : decode cX4_expectedOn 17 = .ok (.iload_n 1, 1) := by decide +kernel
theorem dX4_expectedOn_18 : decode cX4_expectedOn 18 = .ok (.iaload, 1) := by decide +kernel
theorem dX4_expectedOn_19 : decode cX4_expectedOn 19 = .ok (.isub, 1) := by decide +kernel
theorem dX4_expectedOn_20 : decode cX4_expectedOn 20 = .ok (.imul, 1) := by decide +kernel
theorem dX4_expectedOn_21 : decode cX4_expectedOn 21 = .ok (.bipush 10, 2) := by decide +kernel
