theorem dX0_init_0 : decode cX0_init 0 = .ok (.aload_n 0, 1) := by decide +kernel
theorem dX0_init_1 : decode cX0_init 1 = .ok (.invokespecial 1, 3) := by decide +kernel
theorem dX0_init_4 : decode cX0_init 4 = .ok (.aload_n 0, 1) := by decide +kernel
theorem dX0_init_5 : decode cX0_init 5 = .ok (.iload_n 1, 1) := by decide +kernel
theorem dX0_init_6 : decode cX0_init 6 = .ok (.putfield 7, 3) := by decide +kernel
theorem dX0_init_9 : decode cX0_init 9 = .ok (.aload_n 0, 1) := by decide +kernel
theorem dX0_init_10 : decode cX0_init 10 = .ok (.iload_n 2, 1) := by decide +kernel
theorem dX0_init_11 : decode cX0_init 11 = .ok (.putfield 13, 3) := by decide +kernel
theorem dX0_init_14 : decode cX0_init 14 = .ok (.aload_n 0, 1) := by decide +kernel
theorem dX0_init_15 : decode cX0_init 15 = .ok (.iload_n 3, 1) := by decide +kernel
theorem dX0_init_16 : decode cX0_init 16 = .ok (.putfield 16, 3) := by decide +kernel
theorem dX0_init_19 : decode cX0_init 19 = .ok (.aload_n 0, 1) := by decide +kernel
theorem dX0_init_20 : decode cX0_init 20 = .ok (.iload 4, 2) := by decide +kernel
theorem dX0_init_22 : decode cX0_init 22 = .ok (.putfield 19, 3) := by decide +kernel
theorem dX0_init_25 : decode cX0_init 25 = .ok (.aload_n 0, 1) := by decide +kernel
theorem dX0_init_26 : decode cX0_init 26 = .ok (.iconst 0, 1) := by decide +kernel
theorem dX0_init_27 : decode cX0_init 27 = .ok (.putfield 22, 3) := by decide +kernel
theorem dX0_init_30 : decode cX0_init 30 = .ok (.aload_n 0, 1) := by decide +kernel
theorem dX0_init_31 : decode cX0_init 31 = .ok (.iload_n 3, 1) := by decide +kernel
theorem dX0_init_32 : decode cX0_init 32 = .ok (.iconst 2, 1) := by decide +kernel
theorem dX0_init_33 : decode cX0_init 33 = .ok (.idiv, 1) := by decide +kernel
theorem dX0_init_34 : decode cX0_init 34 = .ok (.putfield 25, 3) := by decide +kernel
theorem dX0_init_37 : decode cX0_init 37 = .ok (.aload_n 0, 1) := by decide +kernel
theorem dX0_init_38 : decode cX0_init 38 = .ok (.iload 5, 2) := by decide +kernel
theorem dX0_init_40 : decode cX0_init 40 = .ok (.putfield 28, 3) := by decide +kernel
theorem dX0_init_43 : decode cX0_init 43 = .ok (.aload_n 0, 1) := by decide +kernel
theorem dX0_init_44 : decode cX0_init 44 = .ok (.iconst 0, 1) := by decide +kernel
theorem dX0_init_45 : decode cX0_init 45 = .ok (.putfield 31, 3) := by decide +kernel
theorem dX0_init_48 : decode cX0_init 48 = .ok (.aload_n 0, 1) := by decide +kernel
theorem dX0_init_49 : decode cX0_init 49 = .ok (.iconst 0, 1) := by decide +kernel
theorem dX0_init_50 : decode cX0_init 50 = .ok (.putfield 34, 3) := by decide +kernel
theorem dX0_init_53 : decode cX0_init 53 = .ok (.aload_n 0, 1) := by decide +kernel
theorem dX0_init_54 : decode cX0_init 54 = .ok (.iconst 0, 1) := by decide +kernel
theorem dX0_init_55 : decode cX0_init 55 = .ok (.putfield 37, 3) := by decide +kernel
theorem dX0_init_58 : decode cX0_init 58 = .ok (.return_, 1) := by decide +kernel
theorem dX0_fact_0 : decode cX0_fact 0 = .ok (.iload_n 1, 1) := by decide +kernel
theorem dX0_fact_1 : decode cX0_fact 1 = .ok (.tableswitch 78 0 6 #[43, 48, 53, 58, 63, 68, 73], 43) := by decide +kernel
theorem dX0_fact_44 : decode cX0_fact 44 = .ok (.aload_n 0, 1) := by decide +kernel
theorem dX0_fact_45 : decode cX0_fact 45 = .ok (.getfield 7, 3) := by decide +kernel
theorem dX0_fact_48 : decode cX0_fact 48 = .ok (.ireturn, 1) := by decide +kernel
theorem dX0_fact_49 : decode cX0_fact 49 = .ok (.aload_n 0, 1) := by decide +kernel
theorem dX0_fact_50 : decode cX0_fact 50 = .ok (.getfield 13, 3) := by decide +kernel
theorem dX0_fact_53 : decode cX0_fact 53 = .ok (.ireturn, 1) := by decide +kernel
theorem dX0_fact_54 : decode cX0_fact 54 = .ok (.aload_n 0, 1) := by decide +kernel
theorem dX0_fact_55 : decode cX0_fact 55 = .ok (.getfield 22, 3) := by decide +kernel
theorem dX0_fact_58 : decode cX0_fact 58 = .ok (.ireturn, 1) := by decide +kernel
theorem dX0_fact_59 : decode cX0_fact 59 = .ok (.aload_n 0, 1) := by decide +kernel
theorem dX0_fact_60 : decode cX0_fact 60 = .ok (.getfield 25, 3) := by decide +kernel
theorem dX0_fact_63 : decode cX0_fact 63 = .ok (.ireturn, 1) := by decide +kernel
theorem dX0_fact_64 : decode cX0_fact 64 = .ok (.aload_n 0, 1) := by decide +kernel
theorem dX0_fact_65 : decode cX0_fact 65 = .ok (.getfield 28, 3) := by decide +kernel
theorem dX0_fact_68 : decode cX0_fact 68 = .ok (.ireturn, 1) := by decide +kernel
theorem dX0_fact_69 : decode cX0_fact 69 = .ok (.aload_n 0, 1) := by decide +kernel
theorem dX0_fact_70 : decode cX0_fact 70 = .ok (.getfield 31, 3) := by decide +kernel
theorem dX0_fact_73 : decode cX0_fact 73 = .ok (.ireturn, 1) := by decide +kernel
theorem dX0_fact_74 : decode cX0_fact 74 = .ok (.aload_n 0, 1) := by decide +kernel
theorem dX0_fact_75 : decode cX0_fact 75 = .ok (.getfield 34, 3) := by decide +kernel
theorem dX0_fact_78 : decode cX0_fact 78 = .ok (.ireturn, 1) := by decide +kernel
theorem dX0_fact_79 : decode cX0_fact 79 = .ok (.aload_n 0, 1) := by decide +kernel
theorem dX0_fact_80 : decode cX0_fact 80 = .ok (.getfield 37, 3) := by decide +kernel
theorem dX0_fact_83 : decode cX0_fact 83 = .ok (.ifCond .eq 7, 3) := by decide +kernel
theorem dX0_fact_86 : decode cX0_fact 86 = .ok (.iconst 1, 1) := by decide +kernel
theorem dX0_fact_87 : decode cX0_fact 87 = .ok (.goto 4, 3) := by decide +kernel
theorem dX0_fact_90 : decode cX0_fact 90 = .ok (.iconst 0, 1) := by decide +kernel
theorem dX0_fact_91 : decode cX0_fact 91 = .ok (.ireturn, 1) := by decide +kernel
theorem dX0_forecast_0 : decode cX0_forecast 0 = .ok (.aload_n 0, 1) := by decide +kernel
theorem dX0_forecast_1 : decode cX0_forecast 1 = .ok (.getfield 16, 3) := by decide +kernel
theorem dX0_forecast_4 : decode cX0_forecast 4 = .ok (.aload_n 0, 1) := by decide +kernel
theorem dX0_forecast_5 : decode cX0_forecast 5 = .ok (.getfield 25, 3) := by decide +kernel
theorem dX0_forecast_8 : decode cX0_forecast 8 = .ok (.iload_n 1, 1) := by decide +kernel
theorem dX0_forecast_9 : decode cX0_forecast 9 = .ok (.aload_n 0, 1) := by decide +kernel
theorem dX0_forecast_10 : decode cX0_forecast 10 = .ok (.getfield 28, 3) := by decide +kernel
theorem dX0_forecast_13 : decode cX0_forecast 13 = .ok (.isub, 1) := by decide +kernel
theorem dX0_forecast_14 : decode cX0_forecast 14 = .ok (.imul, 1) := by decide +kernel
theorem dX0_forecast_15 : decode cX0_forecast 15 = .ok (.bipush 10, 2) := by decide +kernel
theorem dX0_forecast_17 : decode cX0_forecast 17 = .ok (.idiv, 1) := by decide +kernel
theorem dX0_forecast_18 : decode cX0_forecast 18 = .ok (.invokestatic 41, 3) := by decide +kernel
theorem dX0_forecast_21 : decode cX0_forecast 21 = .ok (.ireturn, 1) := by decide +kernel
set_option maxRecDepth 20000 in
theorem ggX0_isFullOn_X0_forecast : GoodIn wsX0_isFullOn wsX0_forecast := goodIn_r _ [6, 1, 7, 8, 9, 10, 11, 12, 13, 14, 15, 16, 17, 18, 19, 20, 21, 22] (by decide +kernel) (by decide +kernel)
set_option maxRecDepth 20000 in
theorem gX0_isFullOn_X0_forecast : GoodIn wsX0_isFullOn (wsV RX0 47 RX0 yX0_forecast wsX0_forecast) := goodIn_app (goodIn_of _ (by decide +kernel)) ggX0_isFullOn_X0_forecast
theorem dX0_isFullOn_0 : decode cX0_isFullOn 0 = .ok (.aload_n 0, 1) := by decide +kernel
theorem dX0_isFullOn_1 : decode cX0_isFullOn 1 = .ok (.iload_n 1, 1) := by decide +kernel
theorem dX0_isFullOn_2 : decode cX0_isFullOn 2 = .ok (.invokevirtual 47, 3) := by decide +kernel
theorem dX0_isFullOn_5 : decode cX0_isFullOn 5 = .ok (.aload_n 0, 1) := by decide +kernel
theorem dX0_isFullOn_6 : decode cX0_isFullOn 6 = .ok (.getfield 16, 3) := by decide +kernel
theorem dX0_isFullOn_9 : decode cX0_isFullOn 9 = .ok (.if_icmp .ne 7, 3) := by decide +kernel
theorem dX0_isFullOn_12 : decode cX0_isFullOn 12 = .ok (.iconst 1, 1) := by decide +kernel
theorem dX0_isFullOn_13 : decode cX0_isFullOn 13 = .ok (.goto 4, 3) := by decide +kernel
theorem dX0_isFullOn_16 : decode cX0_isFullOn 16 = .ok (.iconst 0, 1) := by decide +kernel
theorem dX0_isFullOn_17 : decode cX0_isFullOn 17 = .ok (.ireturn, 1) := by decide +kernel
set_option maxRecDepth 20000 in
theorem ggX0_isDue_X0_forecast : GoodIn wsX0_isDue wsX0_forecast := goodIn_r _ [6, 1, 7, 8, 9, 10, 11, 12, 17, 18, 19, 20, 21, 22, 23, 24, 25, 26] (by decide +kernel) (by decide +kernel)
set_option maxRecDepth 20000 in
theorem gX0_isDue_X0_forecast : GoodIn wsX0_isDue (wsV RX0 47 RX0 yX0_forecast wsX0_forecast) := goodIn_app (goodIn_of _ (by decide +kernel)) ggX0_isDue_X0_forecast
set_option maxRecDepth 20000 in
theorem ggX0_isDue_X0_isFullOn : GoodIn wsX0_isDue wsX0_isFullOn := goodIn_r _ [16, 1, 2, 3, 4, 5, 6, 7, 8, 9, 10, 11, 12, 17, 18, 19, 20, 21, 22, 23, 24, 25, 26] (by decide +kernel) (by decide +kernel)
set_option maxRecDepth 20000 in
theorem gX0_isDue_X0_isFullOn : GoodIn wsX0_isDue (wsV RX0 51 RX0 yX0_isFullOn wsX0_isFullOn) := goodIn_app (goodIn_of _ (by decide +kernel)) ggX0_isDue_X0_isFullOn
theorem dX0_isDue_0 : decode cX0_isDue 0 = .ok (.iconst 4, 1) := by decide +kernel
theorem dX0_isDue_1 : decode cX0_isDue 1 = .ok (.aload_n 0, 1) := by decide +kernel
theorem dX0_isDue_2 : decode cX0_isDue 2 = .ok (.iload_n 1, 1) := by decide +kernel
theorem dX0_isDue_3 : decode cX0_isDue 3 = .ok (.invokevirtual 47, 3) := by decide +kernel
theorem dX0_isDue_6 : decode cX0_isDue 6 = .ok (.imul, 1) := by decide +kernel
theorem dX0_isDue_7 : decode cX0_isDue 7 = .ok (.iconst 3, 1) := by decide +kernel
theorem dX0_isDue_8 : decode cX0_isDue 8 = .ok (.aload_n 0, 1) := by decide +kernel
theorem dX0_isDue_9 : decode cX0_isDue 9 = .ok (.getfield 16, 3) := by decide +kernel
theorem dX0_isDue_12 : decode cX0_isDue 12 = .ok (.imul, 1) := by decide +kernel
theorem dX0_isDue_13 : decode cX0_isDue 13 = .ok (.if_icmp .ge 11, 3) := by decide +kernel
theorem dX0_isDue_16 : decode cX0_isDue 16 = .ok (.aload_n 0, 1) := by decide +kernel
theorem dX0_isDue_17 : decode cX0_isDue 17 = .ok (.iload_n 2, 1) := by decide +kernel
theorem dX0_isDue_18 : decode cX0_isDue 18 = .ok (.invokevirtual 51, 3) := by decide +kernel
theorem dX0_isDue_21 : decode cX0_isDue 21 = .ok (.ifCond .eq 7, 3) := by decide +kernel
theorem dX0_isDue_24 : decode cX0_isDue 24 = .ok (.iconst 1, 1) := by decide +kernel
theorem dX0_isDue_25 : decode cX0_isDue 25 = .ok (.goto 4, 3) := by decide +kernel
theorem dX0_isDue_28 : decode cX0_isDue 28 = .ok (.iconst 0, 1) := by decide +kernel
theorem dX0_isDue_29 : decode cX0_isDue 29 = .ok (.ireturn, 1) := by decide +kernel
theorem dX0_fill_0 : decode cX0_fill 0 = .ok (.iconst 0, 1) := by decide +kernel
theorem dX0_fill_1 : decode cX0_fill 1 = .ok (.aload_n 0, 1) := by decide +kernel
theorem dX0_fill_2 : decode cX0_fill 2 = .ok (.getfield 22, 3) := by decide +kernel
theorem dX0_fill_5 : decode cX0_fill 5 = .ok (.aload_n 0, 1) := by decide +kernel
theorem dX0_fill_6 : decode cX0_fill 6 = .ok (.getfield 19, 3) := by decide +kernel
theorem dX0_fill_9 : decode cX0_fill 9 = .ok (.iadd, 1) := by decide +kernel
theorem dX0_fill_10 : decode cX0_fill 10 = .ok (.aload_n 0, 1) := by decide +kernel
theorem dX0_fill_11 : decode cX0_fill 11 = .ok (.getfield 16, 3) := by decide +kernel
theorem dX0_fill_14 : decode cX0_fill 14 = .ok (.isub, 1) := by decide +kernel
theorem dX0_fill_15 : decode cX0_fill 15 = .ok (.invokestatic 55, 3) := by decide +kernel
theorem dX0_fill_18 : decode cX0_fill 18 = .ok (.istore_n 1, 1) := by decide +kernel
theorem dX0_fill_19 : decode cX0_fill 19 = .ok (.aload_n 0, 1) := by decide +kernel
theorem dX0_fill_20 : decode cX0_fill 20 = .ok (.aload_n 0, 1) := by decide +kernel
theorem dX0_fill_21 : decode cX0_fill 21 = .ok (.getfield 22, 3) := by decide +kernel
theorem dX0_fill_24 : decode cX0_fill 24 = .ok (.aload_n 0, 1) := by decide +kernel
theorem dX0_fill_25 : decode cX0_fill 25 = .ok (.getfield 19, 3) := by decide +kernel
theorem dX0_fill_28 : decode cX0_fill 28 = .ok (.iadd, 1) := by decide +kernel
theorem dX0_fill_29 : decode cX0_fill 29 = .ok (.iload_n 1, 1) := by decide +kernel
theorem dX0_fill_30 : decode cX0_fill 30 = .ok (.isub, 1) := by decide +kernel
theorem dX0_fill_31 : decode cX0_fill 31 = .ok (.putfield 22, 3) := by decide +kernel
theorem dX0_fill_34 : decode cX0_fill 34 = .ok (.aload_n 0, 1) := by decide +kernel
theorem dX0_fill_35 : decode cX0_fill 35 = .ok (.dup, 1) := by decide +kernel
theorem dX0_fill_36 : decode cX0_fill 36 = .ok (.getfield 31, 3) := by decide +kernel
theorem dX0_fill_39 : decode cX0_fill 39 = .ok (.iload_n 1, 1) := by decide +kernel
theorem dX0_fill_40 : decode cX0_fill 40 = .ok (.ifCond .le 7, 3) := by decide +kernel
theorem dX0_fill_43 : decode cX0_fill 43 = .ok (.iconst 1, 1) := by decide +kernel
theorem dX0_fill_44 : decode cX0_fill 44 = .ok (.goto 4, 3) := by decide +kernel
theorem dX0_fill_47 : decode cX0_fill 47 = .ok (.iconst 0, 1) := by decide +kernel
theorem dX0_fill_48 : decode cX0_fill 48 = .ok (.iadd, 1) := by decide +kernel
theorem dX0_fill_49 : decode cX0_fill 49 = .ok (.putfield 31, 3) := by decide +kernel
theorem dX0_fill_52 : decode cX0_fill 52 = .ok (.iload_n 1, 1) := by decide +kernel
theorem dX0_fill_53 : decode cX0_fill 53 = .ok (.ireturn, 1) := by decide +kernel
theorem dX0_endVisit_0 : decode cX0_endVisit 0 = .ok (.aload_n 0, 1) := by decide +kernel
theorem dX0_endVisit_1 : decode cX0_endVisit 1 = .ok (.getfield 37, 3) := by decide +kernel
theorem dX0_endVisit_4 : decode cX0_endVisit 4 = .ok (.ifCond .eq 19, 3) := by decide +kernel
theorem dX0_endVisit_7 : decode cX0_endVisit 7 = .ok (.aload_n 0, 1) := by decide +kernel
theorem dX0_endVisit_8 : decode cX0_endVisit 8 = .ok (.iconst 0, 1) := by decide +kernel
theorem dX0_endVisit_9 : decode cX0_endVisit 9 = .ok (.putfield 37, 3) := by decide +kernel
theorem dX0_endVisit_12 : decode cX0_endVisit 12 = .ok (.aload_n 0, 1) := by decide +kernel
theorem dX0_endVisit_13 : decode cX0_endVisit 13 = .ok (.dup, 1) := by decide +kernel
theorem dX0_endVisit_14 : decode cX0_endVisit 14 = .ok (.getfield 34, 3) := by decide +kernel
theorem dX0_endVisit_17 : decode cX0_endVisit 17 = .ok (.iconst 1, 1) := by decide +kernel
theorem dX0_endVisit_18 : decode cX0_endVisit 18 = .ok (.iadd, 1) := by decide +kernel
theorem dX0_endVisit_19 : decode cX0_endVisit 19 = .ok (.putfield 34, 3) := by decide +kernel
theorem dX0_endVisit_22 : decode cX0_endVisit 22 = .ok (.return_, 1) := by decide +kernel
theorem dX0_endVisit_23 : decode cX0_endVisit 23 = .ok (.iload_n 2, 1) := by decide +kernel
theorem dX0_endVisit_24 : decode cX0_endVisit 24 = .ok (.aload_n 0, 1) := by decide +kernel
theorem dX0_endVisit_25 : decode cX0_endVisit 25 = .ok (.getfield 28, 3) := by decide +kernel
theorem dX0_endVisit_28 : decode cX0_endVisit 28 = .ok (.isub, 1) := by decide +kernel
theorem dX0_endVisit_29 : decode cX0_endVisit 29 = .ok (.istore_n 3, 1) := by decide +kernel
theorem dX0_endVisit_30 : decode cX0_endVisit 30 = .ok (.iload_n 3, 1) := by decide +kernel
theorem dX0_endVisit_31 : decode cX0_endVisit 31 = .ok (.ifCond .le 29, 3) := by decide +kernel
theorem dX0_endVisit_34 : decode cX0_endVisit 34 = .ok (.bipush 10, 2) := by decide +kernel
theorem dX0_endVisit_36 : decode cX0_endVisit 36 = .ok (.aload_n 0, 1) := by decide +kernel
theorem dX0_endVisit_37 : decode cX0_endVisit 37 = .ok (.getfield 22, 3) := by decide +kernel
theorem dX0_endVisit_40 : decode cX0_endVisit 40 = .ok (.imul, 1) := by decide +kernel
theorem dX0_endVisit_41 : decode cX0_endVisit 41 = .ok (.iload_n 3, 1) := by decide +kernel
theorem dX0_endVisit_42 : decode cX0_endVisit 42 = .ok (.idiv, 1) := by decide +kernel
theorem dX0_endVisit_43 : decode cX0_endVisit 43 = .ok (.istore 4, 2) := by decide +kernel
theorem dX0_endVisit_45 : decode cX0_endVisit 45 = .ok (.aload_n 0, 1) := by decide +kernel
theorem dX0_endVisit_46 : decode cX0_endVisit 46 = .ok (.aload_n 0, 1) := by decide +kernel
theorem dX0_endVisit_47 : decode cX0_endVisit 47 = .ok (.getfield 25, 3) := by decide +kernel
theorem dX0_endVisit_50 : decode cX0_endVisit 50 = .ok (.iconst 3, 1) := by decide +kernel
theorem dX0_endVisit_51 : decode cX0_endVisit 51 = .ok (.imul, 1) := by decide +kernel
theorem dX0_endVisit_52 : decode cX0_endVisit 52 = .ok (.iload 4, 2) := by decide +kernel
theorem dX0_endVisit_54 : decode cX0_endVisit 54 = .ok (.iadd, 1) := by decide +kernel
theorem dX0_endVisit_55 : decode cX0_endVisit 55 = .ok (.iconst 4, 1) := by decide +kernel
theorem dX0_endVisit_56 : decode cX0_endVisit 56 = .ok (.idiv, 1) := by decide +kernel
theorem dX0_endVisit_57 : decode cX0_endVisit 57 = .ok (.putfield 25, 3) := by decide +kernel
theorem dX0_endVisit_60 : decode cX0_endVisit 60 = .ok (.aload_n 0, 1) := by decide +kernel
theorem dX0_endVisit_61 : decode cX0_endVisit 61 = .ok (.iload_n 2, 1) := by decide +kernel
theorem dX0_endVisit_62 : decode cX0_endVisit 62 = .ok (.putfield 28, 3) := by decide +kernel
theorem dX0_endVisit_65 : decode cX0_endVisit 65 = .ok (.aload_n 0, 1) := by decide +kernel
theorem dX0_endVisit_66 : decode cX0_endVisit 66 = .ok (.dup, 1) := by decide +kernel
theorem dX0_endVisit_67 : decode cX0_endVisit 67 = .ok (.getfield 22, 3) := by decide +kernel
theorem dX0_endVisit_70 : decode cX0_endVisit 70 = .ok (.iload_n 1, 1) := by decide +kernel
theorem dX0_endVisit_71 : decode cX0_endVisit 71 = .ok (.isub, 1) := by decide +kernel
theorem dX0_endVisit_72 : decode cX0_endVisit 72 = .ok (.putfield 22, 3) := by decide +kernel
theorem dX0_endVisit_75 : decode cX0_endVisit 75 = .ok (.return_, 1) := by decide +kernel
theorem dX1_init_0 : decode cX1_init 0 = .ok (.aload_n 0, 1) := by decide +kernel
theorem dX1_init_1 : decode cX1_init 1 = .ok (.invokespecial 3, 3) := by decide +kernel
theorem dX1_init_4 : decode cX1_init 4 = .ok (.aload_n 0, 1) := by decide +kernel
theorem dX1_init_5 : decode cX1_init 5 = .ok (.bipush 100, 2) := by decide +kernel
theorem dX1_init_7 : decode cX1_init 7 = .ok (.newarray .int, 2) := by decide +kernel
theorem dX1_init_9 : decode cX1_init 9 = .ok (.putfield 9, 3) := by decide +kernel
theorem dX1_init_12 : decode cX1_init 12 = .ok (.iconst 0, 1) := by decide +kernel
theorem dX1_init_13 : decode cX1_init 13 = .ok (.istore_n 1, 1) := by decide +kernel
theorem dX1_init_14 : decode cX1_init 14 = .ok (.iload_n 1, 1) := by decide +kernel
theorem dX1_init_15 : decode cX1_init 15 = .ok (.bipush 10, 2) := by decide +kernel
theorem dX1_init_17 : decode cX1_init 17 = .ok (.if_icmp .ge 45, 3) := by decide +kernel
theorem dX1_init_20 : decode cX1_init 20 = .ok (.iconst 0, 1) := by decide +kernel
theorem dX1_init_21 : decode cX1_init 21 = .ok (.istore_n 2, 1) := by decide +kernel
theorem dX1_init_22 : decode cX1_init 22 = .ok (.iload_n 2, 1) := by decide +kernel
theorem dX1_init_23 : decode cX1_init 23 = .ok (.bipush 10, 2) := by decide +kernel
theorem dX1_init_25 : decode cX1_init 25 = .ok (.if_icmp .ge 31, 3) := by decide +kernel
theorem dX1_init_28 : decode cX1_init 28 = .ok (.aload_n 0, 1) := by decide +kernel
theorem dX1_init_29 : decode cX1_init 29 = .ok (.getfield 9, 3) := by decide +kernel
theorem dX1_init_32 : decode cX1_init 32 = .ok (.iload_n 1, 1) := by decide +kernel
theorem dX1_init_33 : decode cX1_init 33 = .ok (.bipush 10, 2) := by decide +kernel
theorem dX1_init_35 : decode cX1_init 35 = .ok (.imul, 1) := by decide +kernel
theorem dX1_init_36 : decode cX1_init 36 = .ok (.iload_n 2, 1) := by decide +kernel
theorem dX1_init_37 : decode cX1_init 37 = .ok (.iadd, 1) := by decide +kernel
theorem dX1_init_38 : decode cX1_init 38 = .ok (.iload_n 1, 1) := by decide +kernel
theorem dX1_init_39 : decode cX1_init 39 = .ok (.iload_n 2, 1) := by decide +kernel
theorem dX1_init_40 : decode cX1_init 40 = .ok (.if_icmp .ne 7, 3) := by decide +kernel
theorem dX1_init_43 : decode cX1_init 43 = .ok (.iconst 0, 1) := by decide +kernel
theorem dX1_init_44 : decode cX1_init 44 = .ok (.goto 5, 3) := by decide +kernel
theorem dX1_init_47 : decode cX1_init 47 = .ok (.bipush 30, 2) := by decide +kernel
theorem dX1_init_49 : decode cX1_init 49 = .ok (.iastore, 1) := by decide +kernel
theorem dX1_init_50 : decode cX1_init 50 = .ok (.iinc 2 1, 3) := by decide +kernel
theorem dX1_init_53 : decode cX1_init 53 = .ok (.goto (-31), 3) := by decide +kernel
theorem dX1_init_56 : decode cX1_init 56 = .ok (.iinc 1 1, 3) := by decide +kernel
theorem dX1_init_59 : decode cX1_init 59 = .ok (.goto (-45), 3) := by decide +kernel
theorem dX1_init_62 : decode cX1_init 62 = .ok (.aload_n 0, 1) := by decide +kernel
theorem dX1_init_63 : decode cX1_init 63 = .ok (.bipush 10, 2) := by decide +kernel
theorem dX1_init_65 : decode cX1_init 65 = .ok (.newarray .int, 2) := by decide +kernel
theorem dX1_init_67 : decode cX1_init 67 = .ok (.putfield 15, 3) := by decide +kernel
theorem dX1_init_70 : decode cX1_init 70 = .ok (.aload_n 0, 1) := by decide +kernel
theorem dX1_init_71 : decode cX1_init 71 = .ok (.getfield 15, 3) := by decide +kernel
theorem dX1_init_74 : decode cX1_init 74 = .ok (.iconst 0, 1) := by decide +kernel
theorem dX1_init_75 : decode cX1_init 75 = .ok (.bipush 7, 2) := by decide +kernel
theorem dX1_init_77 : decode cX1_init 77 = .ok (.iastore, 1) := by decide +kernel
theorem dX1_init_78 : decode cX1_init 78 = .ok (.aload_n 0, 1) := by decide +kernel
theorem dX1_init_79 : decode cX1_init 79 = .ok (.iconst 1, 1) := by decide +kernel
theorem dX1_init_80 : decode cX1_init 80 = .ok (.putfield 18, 3) := by decide +kernel
theorem dX1_init_83 : decode cX1_init 83 = .ok (.return_, 1) := by decide +kernel
theorem dX1_add_0 : decode cX1_add 0 = .ok (.aload_n 0, 1) := by decide +kernel
theorem dX1_add_1 : decode cX1_add 1 = .ok (.getfield 18, 3) := by decide +kernel
theorem dX1_add_4 : decode cX1_add 4 = .ok (.istore_n 1, 1) := by decide +kernel
theorem dX1_add_5 : decode cX1_add 5 = .ok (.aload_n 0, 1) := by decide +kernel
theorem dX1_add_6 : decode cX1_add 6 = .ok (.dup, 1) := by decide +kernel
theorem dX1_add_7 : decode cX1_add 7 = .ok (.getfield 18, 3) := by decide +kernel
theorem dX1_add_10 : decode cX1_add 10 = .ok (.iconst 1, 1) := by decide +kernel
theorem dX1_add_11 : decode cX1_add 11 = .ok (.iadd, 1) := by decide +kernel
theorem dX1_add_12 : decode cX1_add 12 = .ok (.putfield 18, 3) := by decide +kernel
theorem dX1_add_15 : decode cX1_add 15 = .ok (.iload_n 1, 1) := by decide +kernel
theorem dX1_add_16 : decode cX1_add 16 = .ok (.ireturn, 1) := by decide +kernel
theorem dX1_between_0 : decode cX1_between 0 = .ok (.aload_n 0, 1) := by decide +kernel
theorem dX1_between_1 : decode cX1_between 1 = .ok (.getfield 9, 3) := by decide +kernel
theorem dX1_between_4 : decode cX1_between 4 = .ok (.iload_n 1, 1) := by decide +kernel
theorem dX1_between_5 : decode cX1_between 5 = .ok (.bipush 10, 2) := by decide +kernel
theorem dX1_between_7 : decode cX1_between 7 = .ok (.imul, 1) := by decide +kernel
theorem dX1_between_8 : decode cX1_between 8 = .ok (.iload_n 2, 1) := by decide +kernel
theorem dX1_between_9 : decode cX1_between 9 = .ok (.iadd, 1) := by decide +kernel
theorem dX1_between_10 : decode cX1_between 10 = .ok (.iaload, 1) := by decide +kernel
theorem dX1_between_11 : decode cX1_between 11 = .ok (.ireturn, 1) := by decide +kernel
theorem dX1_join_0 : decode cX1_join 0 = .ok (.aload_n 0, 1) := by decide +kernel
theorem dX1_join_1 : decode cX1_join 1 = .ok (.getfield 9, 3) := by decide +kernel
theorem dX1_join_4 : decode cX1_join 4 = .ok (.iload_n 1, 1) := by decide +kernel
theorem dX1_join_5 : decode cX1_join 5 = .ok (.bipush 10, 2) := by decide +kernel
theorem dX1_join_7 : decode cX1_join 7 = .ok (.imul, 1) := by decide +kernel
theorem dX1_join_8 : decode cX1_join 8 = .ok (.iload_n 2, 1) := by decide +kernel
theorem dX1_join_9 : decode cX1_join 9 = .ok (.iadd, 1) := by decide +kernel
theorem dX1_join_10 : decode cX1_join 10 = .ok (.iload_n 3, 1) := by decide +kernel
theorem dX1_join_11 : decode cX1_join 11 = .ok (.iastore, 1) := by decide +kernel
theorem dX1_join_12 : decode cX1_join 12 = .ok (.aload_n 0, 1) := by decide +kernel
theorem dX1_join_13 : decode cX1_join 13 = .ok (.getfield 9, 3) := by decide +kernel
theorem dX1_join_16 : decode cX1_join 16 = .ok (.iload_n 2, 1) := by decide +kernel
theorem dX1_join_17 : decode cX1_join 17 = .ok (.bipush 10, 2) := by decide +kernel
theorem dX1_join_19 : decode cX1_join 19 = .ok (.imul, 1) := by decide +kernel
theorem dX1_join_20 : decode cX1_join 20 = .ok (.iload_n 1, 1) := by decide +kernel
theorem dX1_join_21 : decode cX1_join 21 = .ok (.iadd, 1) := by decide +kernel
theorem dX1_join_22 : decode cX1_join 22 = .ok (.iload_n 3, 1) := by decide +kernel
theorem dX1_join_23 : decode cX1_join 23 = .ok (.iastore, 1) := by decide +kernel
theorem dX1_join_24 : decode cX1_join 24 = .ok (.return_, 1) := by decide +kernel
theorem dX1_hasTip_0 : decode cX1_hasTip 0 = .ok (.aload_n 0, 1) := by decide +kernel
theorem dX1_hasTip_1 : decode cX1_hasTip 1 = .ok (.getfield 15, 3) := by decide +kernel
theorem dX1_hasTip_4 : decode cX1_hasTip 4 = .ok (.iload_n 1, 1) := by decide +kernel
theorem dX1_hasTip_5 : decode cX1_hasTip 5 = .ok (.iaload, 1) := by decide +kernel
theorem dX1_hasTip_6 : decode cX1_hasTip 6 = .ok (.iload_n 2, 1) := by decide +kernel
theorem dX1_hasTip_7 : decode cX1_hasTip 7 = .ok (.ishr, 1) := by decide +kernel
theorem dX1_hasTip_8 : decode cX1_hasTip 8 = .ok (.iconst 1, 1) := by decide +kernel
theorem dX1_hasTip_9 : decode cX1_hasTip 9 = .ok (.iand, 1) := by decide +kernel
theorem dX1_hasTip_10 : decode cX1_hasTip 10 = .ok (.iconst 1, 1) := by decide +kernel
theorem dX1_hasTip_11 : decode cX1_hasTip 11 = .ok (.if_icmp .ne 7, 3) := by decide +kernel
theorem dX1_hasTip_14 : decode cX1_hasTip 14 = .ok (.iconst 1, 1) := by decide +kernel
theorem dX1_hasTip_15 : decode cX1_hasTip 15 = .ok (.goto 4, 3) := by decide +kernel
theorem dX1_hasTip_18 : decode cX1_hasTip 18 = .ok (.iconst 0, 1) := by decide +kernel
theorem dX1_hasTip_19 : decode cX1_hasTip 19 = .ok (.ireturn, 1) := by decide +kernel
theorem dX1_putTip_0 : decode cX1_putTip 0 = .ok (.iconst 1, 1) := by decide +kernel
theorem dX1_putTip_1 : decode cX1_putTip 1 = .ok (.iload_n 2, 1) := by decide +kernel
theorem dX1_putTip_2 : decode cX1_putTip 2 = .ok (.ishl, 1) := by decide +kernel
theorem dX1_putTip_3 : decode cX1_putTip 3 = .ok (.istore 4, 2) := by decide +kernel
theorem dX1_putTip_5 : decode cX1_putTip 5 = .ok (.aload_n 0, 1) := by decide +kernel
theorem dX1_putTip_6 : decode cX1_putTip 6 = .ok (.getfield 15, 3) := by decide +kernel
theorem dX1_putTip_9 : decode cX1_putTip 9 = .ok (.iload_n 1, 1) := by decide +kernel
theorem dX1_putTip_10 : decode cX1_putTip 10 = .ok (.iload_n 3, 1) := by decide +kernel
theorem dX1_putTip_11 : decode cX1_putTip 11 = .ok (.ifCond .eq 15, 3) := by decide +kernel
theorem dX1_putTip_14 : decode cX1_putTip 14 = .ok (.aload_n 0, 1) := by decide +kernel
theorem dX1_putTip_15 : decode cX1_putTip 15 = .ok (.getfield 15, 3) := by decide +kernel
theorem dX1_putTip_18 : decode cX1_putTip 18 = .ok (.iload_n 1, 1) := by decide +kernel
theorem dX1_putTip_19 : decode cX1_putTip 19 = .ok (.iaload, 1) := by decide +kernel
theorem dX1_putTip_20 : decode cX1_putTip 20 = .ok (.iload 4, 2) := by decide +kernel
theorem dX1_putTip_22 : decode cX1_putTip 22 = .ok (.ior, 1) := by decide +kernel
theorem dX1_putTip_23 : decode cX1_putTip 23 = .ok (.goto 14, 3) := by decide +kernel
theorem dX1_putTip_26 : decode cX1_putTip 26 = .ok (.aload_n 0, 1) := by decide +kernel
theorem dX1_putTip_27 : decode cX1_putTip 27 = .ok (.getfield 15, 3) := by decide +kernel
theorem dX1_putTip_30 : decode cX1_putTip 30 = .ok (.iload_n 1, 1) := by decide +kernel
theorem dX1_putTip_31 : decode cX1_putTip 31 = .ok (.iaload, 1) := by decide +kernel
theorem dX1_putTip_32 : decode cX1_putTip 32 = .ok (.iload 4, 2) := by decide +kernel
theorem dX1_putTip_34 : decode cX1_putTip 34 = .ok (.iconst (-1), 1) := by decide +kernel
theorem dX1_putTip_35 : decode cX1_putTip 35 = .ok (.ixor, 1) := by decide +kernel
theorem dX1_putTip_36 : decode cX1_putTip 36 = .ok (.iand, 1) := by decide +kernel
theorem dX1_putTip_37 : decode cX1_putTip 37 = .ok (.iastore, 1) := by decide +kernel
theorem dX1_putTip_38 : decode cX1_putTip 38 = .ok (.return_, 1) := by decide +kernel
set_option maxRecDepth 20000 in
theorem ggX1_countTips_X1_hasTip : GoodIn wsX1_countTips wsX1_hasTip := goodIn_r _ [6, 7, 8, 9, 10] (by decide +kernel) (by decide +kernel)
set_option maxRecDepth 20000 in
theorem gX1_countTips_X1_hasTip : GoodIn wsX1_countTips (wsV RX1 22 RX1 yX1_hasTip wsX1_hasTip) := goodIn_app (goodIn_of _ (by decide +kernel)) ggX1_countTips_X1_hasTip
theorem dX1_countTips_0 : decode cX1_countTips 0 = .ok (.iconst 0, 1) := by decide +kernel
theorem dX1_countTips_1 : decode cX1_countTips 1 = .ok (.istore_n 2, 1) := by decide +kernel
theorem dX1_countTips_2 : decode cX1_countTips 2 = .ok (.iconst 0, 1) := by decide +kernel
theorem dX1_countTips_3 : decode cX1_countTips 3 = .ok (.istore_n 3, 1) := by decide +kernel
theorem dX1_countTips_4 : decode cX1_countTips 4 = .ok (.iload_n 3, 1) := by decide +kernel
theorem dX1_countTips_5 : decode cX1_countTips 5 = .ok (.aload_n 0, 1) := by decide +kernel
theorem dX1_countTips_6 : decode cX1_countTips 6 = .ok (.getfield 18, 3) := by decide +kernel
theorem dX1_countTips_9 : decode cX1_countTips 9 = .ok (.if_icmp .ge 26, 3) := by decide +kernel
theorem dX1_countTips_12 : decode cX1_countTips 12 = .ok (.iload_n 2, 1) := by decide +kernel
theorem dX1_countTips_13 : decode cX1_countTips 13 = .ok (.aload_n 0, 1) := by decide +kernel
theorem dX1_countTips_14 : decode cX1_countTips 14 = .ok (.iload_n 3, 1) := by decide +kernel
theorem dX1_countTips_15 : decode cX1_countTips 15 = .ok (.iload_n 1, 1) := by decide +kernel
theorem dX1_countTips_16 : decode cX1_countTips 16 = .ok (.invokevirtual 22, 3) := by decide +kernel
theorem dX1_countTips_19 : decode cX1_countTips 19 = .ok (.ifCond .eq 7, 3) := by decide +kernel
theorem dX1_countTips_22 : decode cX1_countTips 22 = .ok (.iconst 1, 1) := by decide +kernel
theorem dX1_countTips_23 : decode cX1_countTips 23 = .ok (.goto 4, 3) := by decide +kernel
theorem dX1_countTips_26 : decode cX1_countTips 26 = .ok (.iconst 0, 1) := by decide +kernel
theorem dX1_countTips_27 : decode cX1_countTips 27 = .ok (.iadd, 1) := by decide +kernel
theorem dX1_countTips_28 : decode cX1_countTips 28 = .ok (.istore_n 2, 1) := by decide +kernel
theorem dX1_countTips_29 : decode cX1_countTips 29 = .ok (.iinc 3 1, 3) := by decide +kernel
theorem dX1_countTips_32 : decode cX1_countTips 32 = .ok (.goto (-28), 3) := by decide +kernel
theorem dX1_countTips_35 : decode cX1_countTips 35 = .ok (.iload_n 2, 1) := by decide +kernel
theorem dX1_countTips_36 : decode cX1_countTips 36 = .ok (.ireturn, 1) := by decide +kernel
set_option maxRecDepth 20000 in
theorem ggX1_overTip_X1_hasTip : GoodIn wsX1_overTip wsX1_hasTip := goodIn_r _ [10, 11, 17, 18, 19] (by decide +kernel) (by decide +kernel)
set_option maxRecDepth 20000 in
theorem gX1_overTip_X1_hasTip : GoodIn wsX1_overTip (wsV RX1 22 RX1 yX1_hasTip wsX1_hasTip) := goodIn_app (goodIn_of _ (by decide +kernel)) ggX1_overTip_X1_hasTip
set_option maxRecDepth 20000 in
theorem ggX1_overTip_X1_between : GoodIn wsX1_overTip wsX1_between := goodIn_r _ [15, 16, 17, 18, 19] (by decide +kernel) (by decide +kernel)
set_option maxRecDepth 20000 in
theorem gX1_overTip_X1_between : GoodIn wsX1_overTip (wsV RX1 26 RX1 yX1_between wsX1_between) := goodIn_app (goodIn_of _ (by decide +kernel)) ggX1_overTip_X1_between
theorem dX1_overTip_0 : decode cX1_overTip 0 = .ok (.sipush 240, 3) := by decide +kernel
theorem dX1_overTip_3 : decode cX1_overTip 3 = .ok (.istore 4, 2) := by decide +kernel
theorem dX1_overTip_5 : decode cX1_overTip 5 = .ok (.iconst 0, 1) := by decide +kernel
theorem dX1_overTip_6 : decode cX1_overTip 6 = .ok (.istore 5, 2) := by decide +kernel
theorem dX1_overTip_8 : decode cX1_overTip 8 = .ok (.iload 5, 2) := by decide +kernel
theorem dX1_overTip_10 : decode cX1_overTip 10 = .ok (.aload_n 0, 1) := by decide +kernel
theorem dX1_overTip_11 : decode cX1_overTip 11 = .ok (.getfield 18, 3) := by decide +kernel
theorem dX1_overTip_14 : decode cX1_overTip 14 = .ok (.if_icmp .ge 41, 3) := by decide +kernel
theorem dX1_overTip_17 : decode cX1_overTip 17 = .ok (.aload_n 0, 1) := by decide +kernel
theorem dX1_overTip_18 : decode cX1_overTip 18 = .ok (.iload 5, 2) := by decide +kernel
theorem dX1_overTip_20 : decode cX1_overTip 20 = .ok (.iload_n 1, 1) := by decide +kernel
theorem dX1_overTip_21 : decode cX1_overTip 21 = .ok (.invokevirtual 22, 3) := by decide +kernel
theorem dX1_overTip_24 : decode cX1_overTip 24 = .ok (.ifCond .eq 25, 3) := by decide +kernel
theorem dX1_overTip_27 : decode cX1_overTip 27 = .ok (.iload 4, 2) := by decide +kernel
theorem dX1_overTip_29 : decode cX1_overTip 29 = .ok (.aload_n 0, 1) := by decide +kernel
theorem dX1_overTip_30 : decode cX1_overTip 30 = .ok (.iload_n 2, 1) := by decide +kernel
theorem dX1_overTip_31 : decode cX1_overTip 31 = .ok (.iload 5, 2) := by decide +kernel
theorem dX1_overTip_33 : decode cX1_overTip 33 = .ok (.invokevirtual 26, 3) := by decide +kernel
theorem dX1_overTip_36 : decode cX1_overTip 36 = .ok (.aload_n 0, 1) := by decide +kernel
theorem dX1_overTip_37 : decode cX1_overTip 37 = .ok (.iload 5, 2) := by decide +kernel
theorem dX1_overTip_39 : decode cX1_overTip 39 = .ok (.iload_n 3, 1) := by decide +kernel
theorem dX1_overTip_40 : decode cX1_overTip 40 = .ok (.invokevirtual 26, 3) := by decide +kernel
theorem dX1_overTip_43 : decode cX1_overTip 43 = .ok (.iadd, 1) := by decide +kernel
theorem dX1_overTip_44 : decode cX1_overTip 44 = .ok (.invokestatic 30, 3) := by decide +kernel
theorem dX1_overTip_47 : decode cX1_overTip 47 = .ok (.istore 4, 2) := by decide +kernel
theorem dX1_overTip_49 : decode cX1_overTip 49 = .ok (.iinc 5 1, 3) := by decide +kernel
theorem dX1_overTip_52 : decode cX1_overTip 52 = .ok (.goto (-44), 3) := by decide +kernel
theorem dX1_overTip_55 : decode cX1_overTip 55 = .ok (.iload 4, 2) := by decide +kernel
theorem dX1_overTip_57 : decode cX1_overTip 57 = .ok (.ireturn, 1) := by decide +kernel
theorem dX2_init_0 : decode cX2_init 0 = .ok (.aload_n 0, 1) := by decide +kernel
theorem dX2_init_1 : decode cX2_init 1 = .ok (.invokespecial 3, 3) := by decide +kernel
theorem dX2_init_4 : decode cX2_init 4 = .ok (.aload_n 0, 1) := by decide +kernel
theorem dX2_init_5 : decode cX2_init 5 = .ok (.aload_n 1, 1) := by decide +kernel
theorem dX2_init_6 : decode cX2_init 6 = .ok (.putfield 9, 3) := by decide +kernel
theorem dX2_init_9 : decode cX2_init 9 = .ok (.aload_n 0, 1) := by decide +kernel
theorem dX2_init_10 : decode cX2_init 10 = .ok (.iload_n 2, 1) := by decide +kernel
theorem dX2_init_11 : decode cX2_init 11 = .ok (.putfield 15, 3) := by decide +kernel
theorem dX2_init_14 : decode cX2_init 14 = .ok (.aload_n 0, 1) := by decide +kernel
theorem dX2_init_15 : decode cX2_init 15 = .ok (.iload_n 3, 1) := by decide +kernel
theorem dX2_init_16 : decode cX2_init 16 = .ok (.putfield 19, 3) := by decide +kernel
theorem dX2_init_19 : decode cX2_init 19 = .ok (.aload_n 0, 1) := by decide +kernel
theorem dX2_init_20 : decode cX2_init 20 = .ok (.iconst 0, 1) := by decide +kernel
theorem dX2_init_21 : decode cX2_init 21 = .ok (.putfield 22, 3) := by decide +kernel
theorem dX2_init_24 : decode cX2_init 24 = .ok (.aload_n 0, 1) := by decide +kernel
theorem dX2_init_25 : decode cX2_init 25 = .ok (.iconst 0, 1) := by decide +kernel
theorem dX2_init_26 : decode cX2_init 26 = .ok (.putfield 25, 3) := by decide +kernel
theorem dX2_init_29 : decode cX2_init 29 = .ok (.aload_n 0, 1) := by decide +kernel
theorem dX2_init_30 : decode cX2_init 30 = .ok (.iconst 0, 1) := by decide +kernel
theorem dX2_init_31 : decode cX2_init 31 = .ok (.putfield 28, 3) := by decide +kernel
theorem dX2_init_34 : decode cX2_init 34 = .ok (.aload_n 0, 1) := by decide +kernel
theorem dX2_init_35 : decode cX2_init 35 = .ok (.iconst 0, 1) := by decide +kernel
theorem dX2_init_36 : decode cX2_init 36 = .ok (.putfield 31, 3) := by decide +kernel
theorem dX2_init_39 : decode cX2_init 39 = .ok (.aload_n 0, 1) := by decide +kernel
theorem dX2_init_40 : decode cX2_init 40 = .ok (.iconst 0, 1) := by decide +kernel
theorem dX2_init_41 : decode cX2_init 41 = .ok (.putfield 34, 3) := by decide +kernel
theorem dX2_init_44 : decode cX2_init 44 = .ok (.return_, 1) := by decide +kernel
set_option maxRecDepth 20000 in
theorem ggX2_visit_X2_driveTo : GoodIn wsX2_visit wsX2_driveTo := goodIn_r _ [13, 1, 14, 4, 15, 16, 17, 18, 19, 20, 50, 51, 52, 53, 54, 55, 56, 57, 58, 59, 60] (by decide +kernel) (by decide +kernel)
set_option maxRecDepth 20000 in
theorem gX2_visit_X2_driveTo : GoodIn wsX2_visit (wsV RX2 42 RX2 yX2_driveTo wsX2_driveTo) := goodIn_app (goodIn_of _ (by decide +kernel)) ggX2_visit_X2_driveTo
set_option maxRecDepth 20000 in
theorem ggX2_visit_X2_unloadOnTheWayTo : GoodIn wsX2_visit wsX2_unloadOnTheWayTo := goodIn_r _ [24, 1, 14, 25, 4, 26, 27, 2, 28, 29, 30, 18, 31, 32, 33, 6, 7, 8, 34, 35, 36, 37, 38, 39, 16, 17, 19, 20, 50, 51, 52, 53, 54, 55, 56, 57, 58, 59, 60] (by decide +kernel) (by decide +kernel)
set_option maxRecDepth 20000 in
theorem gX2_visit_X2_unloadOnTheWayTo : GoodIn wsX2_visit (wsV RX2 53 RX2 yX2_unloadOnTheWayTo wsX2_unloadOnTheWayTo) := goodIn_app (goodIn_of _ (by decide +kernel)) ggX2_visit_X2_unloadOnTheWayTo
theorem dX2_visit_0 : decode cX2_visit 0 = .ok (.aload_n 0, 1) := by decide +kernel
theorem dX2_visit_1 : decode cX2_visit 1 = .ok (.aload_n 1, 1) := by decide +kernel
theorem dX2_visit_2 : decode cX2_visit 2 = .ok (.getfield 37, 3) := by decide +kernel
theorem dX2_visit_5 : decode cX2_visit 5 = .ok (.invokevirtual 42, 3) := by decide +kernel
theorem dX2_visit_8 : decode cX2_visit 8 = .ok (.aload_n 1, 1) := by decide +kernel
theorem dX2_visit_9 : decode cX2_visit 9 = .ok (.getfield 46, 3) := by decide +kernel
theorem dX2_visit_12 : decode cX2_visit 12 = .ok (.ifCond .eq 15, 3) := by decide +kernel
theorem dX2_visit_15 : decode cX2_visit 15 = .ok (.aload_n 0, 1) := by decide +kernel
theorem dX2_visit_16 : decode cX2_visit 16 = .ok (.dup, 1) := by decide +kernel
theorem dX2_visit_17 : decode cX2_visit 17 = .ok (.getfield 28, 3) := by decide +kernel
theorem dX2_visit_20 : decode cX2_visit 20 = .ok (.iconst 2, 1) := by decide +kernel
theorem dX2_visit_21 : decode cX2_visit 21 = .ok (.iadd, 1) := by decide +kernel
theorem dX2_visit_22 : decode cX2_visit 22 = .ok (.putfield 28, 3) := by decide +kernel
theorem dX2_visit_25 : decode cX2_visit 25 = .ok (.iconst 0, 1) := by decide +kernel
theorem dX2_visit_26 : decode cX2_visit 26 = .ok (.ireturn, 1) := by decide +kernel
theorem dX2_visit_27 : decode cX2_visit 27 = .ok (.aload_n 0, 1) := by decide +kernel
theorem dX2_visit_28 : decode cX2_visit 28 = .ok (.getfield 25, 3) := by decide +kernel
theorem dX2_visit_31 : decode cX2_visit 31 = .ok (.ifCond .le 27, 3) := by decide +kernel
theorem dX2_visit_34 : decode cX2_visit 34 = .ok (.aload_n 0, 1) := by decide +kernel
theorem dX2_visit_35 : decode cX2_visit 35 = .ok (.getfield 19, 3) := by decide +kernel
theorem dX2_visit_38 : decode cX2_visit 38 = .ok (.aload_n 0, 1) := by decide +kernel
theorem dX2_visit_39 : decode cX2_visit 39 = .ok (.getfield 25, 3) := by decide +kernel
theorem dX2_visit_42 : decode cX2_visit 42 = .ok (.isub, 1) := by decide +kernel
theorem dX2_visit_43 : decode cX2_visit 43 = .ok (.aload_n 1, 1) := by decide +kernel
theorem dX2_visit_44 : decode cX2_visit 44 = .ok (.getfield 50, 3) := by decide +kernel
theorem dX2_visit_47 : decode cX2_visit 47 = .ok (.if_icmp .ge 11, 3) := by decide +kernel
theorem dX2_visit_50 : decode cX2_visit 50 = .ok (.aload_n 0, 1) := by decide +kernel
theorem dX2_visit_51 : decode cX2_visit 51 = .ok (.aload_n 0, 1) := by decide +kernel
theorem dX2_visit_52 : decode cX2_visit 52 = .ok (.getfield 22, 3) := by decide +kernel
theorem dX2_visit_55 : decode cX2_visit 55 = .ok (.invokevirtual 53, 3) := by decide +kernel
theorem dX2_visit_58 : decode cX2_visit 58 = .ok (.aload_n 0, 1) := by decide +kernel
theorem dX2_visit_59 : decode cX2_visit 59 = .ok (.dup, 1) := by decide +kernel
theorem dX2_visit_60 : decode cX2_visit 60 = .ok (.getfield 28, 3) := by decide +kernel
theorem dX2_visit_63 : decode cX2_visit 63 = .ok (.iconst 5, 1) := by decide +kernel
theorem dX2_visit_64 : decode cX2_visit 64 = .ok (.iadd, 1) := by decide +kernel
theorem dX2_visit_65 : decode cX2_visit 65 = .ok (.putfield 28, 3) := by decide +kernel
theorem dX2_visit_68 : decode cX2_visit 68 = .ok (.aload_n 1, 1) := by decide +kernel
theorem dX2_visit_69 : decode cX2_visit 69 = .ok (.getfield 50, 3) := by decide +kernel
theorem dX2_visit_72 : decode cX2_visit 72 = .ok (.aload_n 0, 1) := by decide +kernel
theorem dX2_visit_73 : decode cX2_visit 73 = .ok (.getfield 19, 3) := by decide +kernel
theorem dX2_visit_76 : decode cX2_visit 76 = .ok (.aload_n 0, 1) := by decide +kernel
theorem dX2_visit_77 : decode cX2_visit 77 = .ok (.getfield 25, 3) := by decide +kernel
theorem dX2_visit_80 : decode cX2_visit 80 = .ok (.isub, 1) := by decide +kernel
theorem dX2_visit_81 : decode cX2_visit 81 = .ok (.invokestatic 56, 3) := by decide +kernel
theorem dX2_visit_84 : decode cX2_visit 84 = .ok (.istore_n 2, 1) := by decide +kernel
theorem dX2_visit_85 : decode cX2_visit 85 = .ok (.aload_n 0, 1) := by decide +kernel
theorem dX2_visit_86 : decode cX2_visit 86 = .ok (.dup, 1) := by decide +kernel
theorem dX2_visit_87 : decode cX2_visit 87 = .ok (.getfield 25, 3) := by decide +kernel
theorem dX2_visit_90 : decode cX2_visit 90 = .ok (.iload_n 2, 1) := by decide +kernel
theorem dX2_visit_91 : decode cX2_visit 91 = .ok (.iadd, 1) := by decide +kernel
theorem dX2_visit_92 : decode cX2_visit 92 = .ok (.putfield 25, 3) := by decide +kernel
theorem dX2_visit_95 : decode cX2_visit 95 = .ok (.iload_n 2, 1) := by decide +kernel
theorem dX2_visit_96 : decode cX2_visit 96 = .ok (.ireturn, 1) := by decide +kernel
set_option maxRecDepth 20000 in
theorem ggX2_end_X2_unloadOnTheWayTo : GoodIn wsX2_end wsX2_unloadOnTheWayTo := goodIn_r _ [6, 7, 8, 9, 10, 11, 12, 1, 13, 14, 15, 16, 17, 18, 19, 20, 21, 22, 23, 24, 25, 26, 27, 28, 29, 30, 31, 32, 38, 39, 40, 41, 42, 43, 44, 45, 46, 47, 48] (by decide +kernel) (by decide +kernel)
set_option maxRecDepth 20000 in
theorem gX2_end_X2_unloadOnTheWayTo : GoodIn wsX2_end (wsV RX2 53 RX2 yX2_unloadOnTheWayTo wsX2_unloadOnTheWayTo) := goodIn_app (goodIn_of _ (by decide +kernel)) ggX2_end_X2_unloadOnTheWayTo
set_option maxRecDepth 20000 in
theorem ggX2_end_X2_driveTo : GoodIn wsX2_end wsX2_driveTo := goodIn_r _ [36, 7, 8, 10, 37, 29, 30, 16, 31, 32, 38, 39, 40, 41, 42, 43, 44, 45, 46, 47, 48] (by decide +kernel) (by decide +kernel)
set_option maxRecDepth 20000 in
theorem gX2_end_X2_driveTo : GoodIn wsX2_end (wsV RX2 42 RX2 yX2_driveTo wsX2_driveTo) := goodIn_app (goodIn_of _ (by decide +kernel)) ggX2_end_X2_driveTo
theorem dX2_end_0 : decode cX2_end 0 = .ok (.aload_n 0, 1) := by decide +kernel
theorem dX2_end_1 : decode cX2_end 1 = .ok (.getfield 25, 3) := by decide +kernel
theorem dX2_end_4 : decode cX2_end 4 = .ok (.ifCond .le 8, 3) := by decide +kernel
theorem dX2_end_7 : decode cX2_end 7 = .ok (.aload_n 0, 1) := by decide +kernel
theorem dX2_end_8 : decode cX2_end 8 = .ok (.iconst 0, 1) := by decide +kernel
theorem dX2_end_9 : decode cX2_end 9 = .ok (.invokevirtual 53, 3) := by decide +kernel
theorem dX2_end_12 : decode cX2_end 12 = .ok (.aload_n 0, 1) := by decide +kernel
theorem dX2_end_13 : decode cX2_end 13 = .ok (.iconst 0, 1) := by decide +kernel
theorem dX2_end_14 : decode cX2_end 14 = .ok (.invokevirtual 42, 3) := by decide +kernel
theorem dX2_end_17 : decode cX2_end 17 = .ok (.return_, 1) := by decide +kernel
set_option maxRecDepth 20000 in
theorem ggX2_driveTo_X1_between : GoodIn wsX2_driveTo wsX1_between := goodIn_r _ [8, 9, 18, 19, 20] (by decide +kernel) (by decide +kernel)
set_option maxRecDepth 20000 in
theorem gX2_driveTo_X1_between : GoodIn wsX2_driveTo (wsV RX2 62 RX1 yX1_between wsX1_between) := goodIn_app (goodIn_of _ (by decide +kernel)) ggX2_driveTo_X1_between
theorem dX2_driveTo_0 : decode cX2_driveTo 0 = .ok (.aload_n 0, 1) := by decide +kernel
theorem dX2_driveTo_1 : decode cX2_driveTo 1 = .ok (.dup, 1) := by decide +kernel
theorem dX2_driveTo_2 : decode cX2_driveTo 2 = .ok (.getfield 28, 3) := by decide +kernel
theorem dX2_driveTo_5 : decode cX2_driveTo 5 = .ok (.aload_n 0, 1) := by decide +kernel
theorem dX2_driveTo_6 : decode cX2_driveTo 6 = .ok (.getfield 9, 3) := by decide +kernel
theorem dX2_driveTo_9 : decode cX2_driveTo 9 = .ok (.aload_n 0, 1) := by decide +kernel
theorem dX2_driveTo_10 : decode cX2_driveTo 10 = .ok (.getfield 22, 3) := by decide +kernel
theorem dX2_driveTo_13 : decode cX2_driveTo 13 = .ok (.iload_n 1, 1) := by decide +kernel
theorem dX2_driveTo_14 : decode cX2_driveTo 14 = .ok (.invokevirtual 62, 3) := by decide +kernel
theorem dX2_driveTo_17 : decode cX2_driveTo 17 = .ok (.iadd, 1) := by decide +kernel
theorem dX2_driveTo_18 : decode cX2_driveTo 18 = .ok (.putfield 28, 3) := by decide +kernel
theorem dX2_driveTo_21 : decode cX2_driveTo 21 = .ok (.aload_n 0, 1) := by decide +kernel
theorem dX2_driveTo_22 : decode cX2_driveTo 22 = .ok (.iload_n 1, 1) := by decide +kernel
theorem dX2_driveTo_23 : decode cX2_driveTo 23 = .ok (.putfield 22, 3) := by decide +kernel
theorem dX2_driveTo_26 : decode cX2_driveTo 26 = .ok (.return_, 1) := by decide +kernel
set_option maxRecDepth 20000 in
theorem ggX2_unloadOnTheWayTo_X1_overTip : GoodIn wsX2_unloadOnTheWayTo wsX1_overTip := goodIn_r _ [12, 13, 14, 15, 16, 17, 18, 19, 20, 11, 21, 22, 23, 24, 25, 26, 27, 36, 37, 38] (by decide +kernel) (by decide +kernel)
set_option maxRecDepth 20000 in
theorem gX2_unloadOnTheWayTo_X1_overTip : GoodIn wsX2_unloadOnTheWayTo (wsV RX2 67 RX1 yX1_overTip wsX1_overTip) := goodIn_app (goodIn_of _ (by decide +kernel)) ggX2_unloadOnTheWayTo_X1_overTip
theorem dX2_unloadOnTheWayTo_0 : decode cX2_unloadOnTheWayTo 0 = .ok (.aload_n 0, 1) := by decide +kernel
theorem dX2_unloadOnTheWayTo_1 : decode cX2_unloadOnTheWayTo 1 = .ok (.dup, 1) := by decide +kernel
theorem dX2_unloadOnTheWayTo_2 : decode cX2_unloadOnTheWayTo 2 = .ok (.getfield 28, 3) := by decide +kernel
theorem dX2_unloadOnTheWayTo_5 : decode cX2_unloadOnTheWayTo 5 = .ok (.aload_n 0, 1) := by decide +kernel
theorem dX2_unloadOnTheWayTo_6 : decode cX2_unloadOnTheWayTo 6 = .ok (.getfield 9, 3) := by decide +kernel
theorem dX2_unloadOnTheWayTo_9 : decode cX2_unloadOnTheWayTo 9 = .ok (.aload_n 0, 1) := by decide +kernel
theorem dX2_unloadOnTheWayTo_10 : decode cX2_unloadOnTheWayTo 10 = .ok (.getfield 15, 3) := by decide +kernel
theorem dX2_unloadOnTheWayTo_13 : decode cX2_unloadOnTheWayTo 13 = .ok (.aload_n 0, 1) := by decide +kernel
theorem dX2_unloadOnTheWayTo_14 : decode cX2_unloadOnTheWayTo 14 = .ok (.getfield 22, 3) := by decide +kernel
theorem dX2_unloadOnTheWayTo_17 : decode cX2_unloadOnTheWayTo 17 = .ok (.iload_n 1, 1) := by decide +kernel
theorem dX2_unloadOnTheWayTo_18 : decode cX2_unloadOnTheWayTo 18 = .ok (.invokevirtual 67, 3) := by decide +kernel
theorem dX2_unloadOnTheWayTo_21 : decode cX2_unloadOnTheWayTo 21 = .ok (.bipush 10, 2) := by decide +kernel
theorem dX2_unloadOnTheWayTo_23 : decode cX2_unloadOnTheWayTo 23 = .ok (.iadd, 1) := by decide +kernel
theorem dX2_unloadOnTheWayTo_24 : decode cX2_unloadOnTheWayTo 24 = .ok (.iadd, 1) := by decide +kernel
theorem dX2_unloadOnTheWayTo_25 : decode cX2_unloadOnTheWayTo 25 = .ok (.putfield 28, 3) := by decide +kernel
theorem dX2_unloadOnTheWayTo_28 : decode cX2_unloadOnTheWayTo 28 = .ok (.aload_n 0, 1) := by decide +kernel
theorem dX2_unloadOnTheWayTo_29 : decode cX2_unloadOnTheWayTo 29 = .ok (.dup, 1) := by decide +kernel
theorem dX2_unloadOnTheWayTo_30 : decode cX2_unloadOnTheWayTo 30 = .ok (.getfield 31, 3) := by decide +kernel
theorem dX2_unloadOnTheWayTo_33 : decode cX2_unloadOnTheWayTo 33 = .ok (.iconst 1, 1) := by decide +kernel
theorem dX2_unloadOnTheWayTo_34 : decode cX2_unloadOnTheWayTo 34 = .ok (.iadd, 1) := by decide +kernel
theorem dX2_unloadOnTheWayTo_35 : decode cX2_unloadOnTheWayTo 35 = .ok (.putfield 31, 3) := by decide +kernel
theorem dX2_unloadOnTheWayTo_38 : decode cX2_unloadOnTheWayTo 38 = .ok (.aload_n 0, 1) := by decide +kernel
theorem dX2_unloadOnTheWayTo_39 : decode cX2_unloadOnTheWayTo 39 = .ok (.dup, 1) := by decide +kernel
theorem dX2_unloadOnTheWayTo_40 : decode cX2_unloadOnTheWayTo 40 = .ok (.getfield 34, 3) := by decide +kernel
theorem dX2_unloadOnTheWayTo_43 : decode cX2_unloadOnTheWayTo 43 = .ok (.aload_n 0, 1) := by decide +kernel
theorem dX2_unloadOnTheWayTo_44 : decode cX2_unloadOnTheWayTo 44 = .ok (.getfield 25, 3) := by decide +kernel
theorem dX2_unloadOnTheWayTo_47 : decode cX2_unloadOnTheWayTo 47 = .ok (.iadd, 1) := by decide +kernel
theorem dX2_unloadOnTheWayTo_48 : decode cX2_unloadOnTheWayTo 48 = .ok (.putfield 34, 3) := by decide +kernel
theorem dX2_unloadOnTheWayTo_51 : decode cX2_unloadOnTheWayTo 51 = .ok (.aload_n 0, 1) := by decide +kernel
theorem dX2_unloadOnTheWayTo_52 : decode cX2_unloadOnTheWayTo 52 = .ok (.iconst 0, 1) := by decide +kernel
theorem dX2_unloadOnTheWayTo_53 : decode cX2_unloadOnTheWayTo 53 = .ok (.putfield 25, 3) := by decide +kernel
theorem dX2_unloadOnTheWayTo_56 : decode cX2_unloadOnTheWayTo 56 = .ok (.aload_n 0, 1) := by decide +kernel
theorem dX2_unloadOnTheWayTo_57 : decode cX2_unloadOnTheWayTo 57 = .ok (.iload_n 1, 1) := by decide +kernel
theorem dX2_unloadOnTheWayTo_58 : decode cX2_unloadOnTheWayTo 58 = .ok (.putfield 22, 3) := by decide +kernel
theorem dX2_unloadOnTheWayTo_61 : decode cX2_unloadOnTheWayTo 61 = .ok (.return_, 1) := by decide +kernel
set_option maxRecDepth 20000 in
theorem ggX3_init_X1_init : GoodIn wsX3_init wsX1_init := goodIn_r _ [23, 24, 2, 3, 17, 25, 26, 27, 43, 44, 45] (by decide +kernel) (by decide +kernel)
set_option maxRecDepth 20000 in
theorem gX3_init_X1_init : GoodIn wsX3_init (wsX1_init) := ggX3_init_X1_init
set_option maxRecDepth 20000 in
theorem ggX3_init_Jx4a65c_init_da8c8 : GoodIn wsX3_init wsJx4a65c_init_da8c8 := goodIn_r _ [30, 31, 32, 33, 34, 35, 36, 37, 38, 39, 40, 41, 42, 2, 3, 54, 55, 56] (by decide +kernel) (by decide +kernel)
set_option maxRecDepth 20000 in
theorem gX3_init_Jx4a65c_init_da8c8 : GoodIn wsX3_init (wsJx4a65c_init_da8c8) := ggX3_init_Jx4a65c_init_da8c8
theorem dX3_init_0 : decode cX3_init 0 = .ok (.aload_n 0, 1) := by decide +kernel
theorem dX3_init_1 : decode cX3_init 1 = .ok (.invokespecial 3, 3) := by decide +kernel
theorem dX3_init_4 : decode cX3_init 4 = .ok (.aload_n 0, 1) := by decide +kernel
theorem dX3_init_5 : decode cX3_init 5 = .ok (.new 9, 3) := by decide +kernel
theorem dX3_init_8 : decode cX3_init 8 = .ok (.dup, 1) := by decide +kernel
theorem dX3_init_9 : decode cX3_init 9 = .ok (.invokespecial 11, 3) := by decide +kernel
theorem dX3_init_12 : decode cX3_init 12 = .ok (.putfield 12, 3) := by decide +kernel
theorem dX3_init_15 : decode cX3_init 15 = .ok (.aload_n 0, 1) := by decide +kernel
theorem dX3_init_16 : decode cX3_init 16 = .ok (.new 16, 3) := by decide +kernel
theorem dX3_init_19 : decode cX3_init 19 = .ok (.dup, 1) := by decide +kernel
theorem dX3_init_20 : decode cX3_init 20 = .ok (.invokespecial 18, 3) := by decide +kernel
theorem dX3_init_23 : decode cX3_init 23 = .ok (.putfield 19, 3) := by decide +kernel
theorem dX3_init_26 : decode cX3_init 26 = .ok (.aload_n 0, 1) := by decide +kernel
theorem dX3_init_27 : decode cX3_init 27 = .ok (.sipush 400, 3) := by decide +kernel
theorem dX3_init_30 : decode cX3_init 30 = .ok (.newarray .boolean, 2) := by decide +kernel
theorem dX3_init_32 : decode cX3_init 32 = .ok (.putfield 23, 3) := by decide +kernel
theorem dX3_init_35 : decode cX3_init 35 = .ok (.aload_n 0, 1) := by decide +kernel
theorem dX3_init_36 : decode cX3_init 36 = .ok (.bipush 12, 2) := by decide +kernel
theorem dX3_init_38 : decode cX3_init 38 = .ok (.newarray .long, 2) := by decide +kernel
theorem dX3_init_40 : decode cX3_init 40 = .ok (.putfield 27, 3) := by decide +kernel
theorem dX3_init_43 : decode cX3_init 43 = .ok (.aload_n 0, 1) := by decide +kernel
theorem dX3_init_44 : decode cX3_init 44 = .ok (.iconst 3, 1) := by decide +kernel
theorem dX3_init_45 : decode cX3_init 45 = .ok (.newarray .long, 2) := by decide +kernel
theorem dX3_init_47 : decode cX3_init 47 = .ok (.putfield 31, 3) := by decide +kernel
theorem dX3_init_50 : decode cX3_init 50 = .ok (.aload_n 0, 1) := by decide +kernel
theorem dX3_init_51 : decode cX3_init 51 = .ok (.bipush 16, 2) := by decide +kernel
theorem dX3_init_53 : decode cX3_init 53 = .ok (.newarray .int, 2) := by decide +kernel
theorem dX3_init_55 : decode cX3_init 55 = .ok (.putfield 34, 3) := by decide +kernel
theorem dX3_init_58 : decode cX3_init 58 = .ok (.aload_n 0, 1) := by decide +kernel
theorem dX3_init_59 : decode cX3_init 59 = .ok (.iconst 0, 1) := by decide +kernel
theorem dX3_init_60 : decode cX3_init 60 = .ok (.putfield 38, 3) := by decide +kernel
theorem dX3_init_63 : decode cX3_init 63 = .ok (.aload_n 0, 1) := by decide +kernel
theorem dX3_init_64 : decode cX3_init 64 = .ok (.iconst 0, 1) := by decide +kernel
theorem dX3_init_65 : decode cX3_init 65 = .ok (.putfield 42, 3) := by decide +kernel
theorem dX3_init_68 : decode cX3_init 68 = .ok (.return_, 1) := by decide +kernel
set_option maxRecDepth 20000 in
theorem ggX3_addPlace_X1_add : GoodIn wsX3_addPlace wsX1_add := goodIn_r _ [8, 9, 18, 19, 20] (by decide +kernel) (by decide +kernel)
set_option maxRecDepth 20000 in
theorem gX3_addPlace_X1_add : GoodIn wsX3_addPlace (wsV RX3 55 RX1 yX1_add wsX1_add) := goodIn_app (goodIn_of _ (by decide +kernel)) ggX3_addPlace_X1_add
theorem dX3_addPlace_0 : decode cX3_addPlace 0 = .ok (.aload_n 0, 1) := by decide +kernel
theorem dX3_addPlace_1 : decode cX3_addPlace 1 = .ok (.getfield 12, 3) := by decide +kernel
theorem dX3_addPlace_4 : decode cX3_addPlace 4 = .ok (.getfield 45, 3) := by decide +kernel
theorem dX3_addPlace_7 : decode cX3_addPlace 7 = .ok (.bipush 10, 2) := by decide +kernel
theorem dX3_addPlace_9 : decode cX3_addPlace 9 = .ok (.if_icmp .lt 13, 3) := by decide +kernel
theorem dX3_addPlace_12 : decode cX3_addPlace 12 = .ok (.new 48, 3) := by decide +kernel
theorem dX3_addPlace_15 : decode cX3_addPlace 15 = .ok (.dup, 1) := by decide +kernel
theorem dX3_addPlace_16 : decode cX3_addPlace 16 = .ok (.ldc 50, 2) := by decide +kernel
theorem dX3_addPlace_18 : decode cX3_addPlace 18 = .ok (.invokespecial 52, 3) := by decide +kernel
theorem dX3_addPlace_21 : decode cX3_addPlace 21 = .ok (.athrow, 1) := by decide +kernel
theorem dX3_addPlace_22 : decode cX3_addPlace 22 = .ok (.aload_n 0, 1) := by decide +kernel
theorem dX3_addPlace_23 : decode cX3_addPlace 23 = .ok (.getfield 12, 3) := by decide +kernel
theorem dX3_addPlace_26 : decode cX3_addPlace 26 = .ok (.invokevirtual 55, 3) := by decide +kernel
theorem dX3_addPlace_29 : decode cX3_addPlace 29 = .ok (.ireturn, 1) := by decide +kernel
set_option maxRecDepth 20000 in
theorem ggX3_setMinutes_X3_checkPlace : GoodIn wsX3_setMinutes wsX3_checkPlace := goodIn_ca (goodIn_r _ [8, 9, 10, 3, 25, 26, 27, 28, 29, 30, 31, 32, 33, 34, 35] (by decide +kernel) (by decide +kernel)) (goodIn_sub (fun _ h => List.mem_cons_of_mem _ (List.mem_append_right _ h)) (by decide +kernel))
set_option maxRecDepth 20000 in
theorem gX3_setMinutes_X3_checkPlace : GoodIn wsX3_setMinutes (wsV RX3 59 RX3 yX3_checkPlace wsX3_checkPlace) := goodIn_app (goodIn_of _ (by decide +kernel)) ggX3_setMinutes_X3_checkPlace
set_option maxRecDepth 20000 in
theorem ggX3_setMinutes_X3_checkRange : GoodIn wsX3_setMinutes wsX3_checkRange := goodIn_ca (goodIn_r _ [14, 1, 2] (by decide +kernel) (by decide +kernel)) (goodIn_sub (fun _ h => List.mem_cons_of_mem _ (List.mem_append_left _ (List.mem_append_right _ h))) (by decide +kernel))
set_option maxRecDepth 20000 in
theorem gX3_setMinutes_X3_checkRange : GoodIn wsX3_setMinutes (wsV RX3 68 RX3 yX3_checkRange wsX3_checkRange) := goodIn_app (goodIn_of _ (by decide +kernel)) ggX3_setMinutes_X3_checkRange
set_option maxRecDepth 20000 in
theorem ggX3_setMinutes_X1_between : GoodIn wsX3_setMinutes wsX1_between := goodIn_r _ [19, 20, 33, 34, 35] (by decide +kernel) (by decide +kernel)
set_option maxRecDepth 20000 in
theorem gX3_setMinutes_X1_between : GoodIn wsX3_setMinutes (wsV RX3 72 RX1 yX1_between wsX1_between) := goodIn_app (goodIn_of _ (by decide +kernel)) ggX3_setMinutes_X1_between
set_option maxRecDepth 20000 in
theorem ggX3_setMinutes_X1_join : GoodIn wsX3_setMinutes wsX1_join := goodIn_r _ [24, 20, 33, 34, 35] (by decide +kernel) (by decide +kernel)
set_option maxRecDepth 20000 in
theorem gX3_setMinutes_X1_join : GoodIn wsX3_setMinutes (wsV RX3 76 RX1 yX1_join wsX1_join) := goodIn_app (goodIn_of _ (by decide +kernel)) ggX3_setMinutes_X1_join
theorem dX3_setMinutes_0 : decode cX3_setMinutes 0 = .ok (.aload_n 0, 1) := by decide +kernel
theorem dX3_setMinutes_1 : decode cX3_setMinutes 1 = .ok (.iload_n 1, 1) := by decide +kernel
theorem dX3_setMinutes_2 : decode cX3_setMinutes 2 = .ok (.invokevirtual 59, 3) := by decide +kernel
theorem dX3_setMinutes_5 : decode cX3_setMinutes 5 = .ok (.aload_n 0, 1) := by decide +kernel
theorem dX3_setMinutes_6 : decode cX3_setMinutes 6 = .ok (.iload_n 2, 1) := by decide +kernel
theorem dX3_setMinutes_7 : decode cX3_setMinutes 7 = .ok (.invokevirtual 59, 3) := by decide +kernel
theorem dX3_setMinutes_10 : decode cX3_setMinutes 10 = .ok (.iload_n 1, 1) := by decide +kernel
theorem dX3_setMinutes_11 : decode cX3_setMinutes 11 = .ok (.iload_n 2, 1) := by decide +kernel
theorem dX3_setMinutes_12 : decode cX3_setMinutes 12 = .ok (.if_icmp .ne 13, 3) := by decide +kernel
theorem dX3_setMinutes_15 : decode cX3_setMinutes 15 = .ok (.new 63, 3) := by decide +kernel
theorem dX3_setMinutes_18 : decode cX3_setMinutes 18 = .ok (.dup, 1) := by decide +kernel
theorem dX3_setMinutes_19 : decode cX3_setMinutes 19 = .ok (.ldc 65, 2) := by decide +kernel
theorem dX3_setMinutes_21 : decode cX3_setMinutes 21 = .ok (.invokespecial 67, 3) := by decide +kernel
theorem dX3_setMinutes_24 : decode cX3_setMinutes 24 = .ok (.athrow, 1) := by decide +kernel
theorem dX3_setMinutes_25 : decode cX3_setMinutes 25 = .ok (.aload_n 0, 1) := by decide +kernel
theorem dX3_setMinutes_26 : decode cX3_setMinutes 26 = .ok (.iload_n 3, 1) := by decide +kernel
theorem dX3_setMinutes_27 : decode cX3_setMinutes 27 = .ok (.iconst 1, 1) := by decide +kernel
theorem dX3_setMinutes_28 : decode cX3_setMinutes 28 = .ok (.bipush 120, 2) := by decide +kernel
theorem dX3_setMinutes_30 : decode cX3_setMinutes 30 = .ok (.invokevirtual 68, 3) := by decide +kernel
theorem dX3_setMinutes_33 : decode cX3_setMinutes 33 = .ok (.aload_n 0, 1) := by decide +kernel
theorem dX3_setMinutes_34 : decode cX3_setMinutes 34 = .ok (.getfield 12, 3) := by decide +kernel
theorem dX3_setMinutes_37 : decode cX3_setMinutes 37 = .ok (.iload_n 1, 1) := by decide +kernel
theorem dX3_setMinutes_38 : decode cX3_setMinutes 38 = .ok (.iload_n 2, 1) := by decide +kernel
theorem dX3_setMinutes_39 : decode cX3_setMinutes 39 = .ok (.invokevirtual 72, 3) := by decide +kernel
theorem dX3_setMinutes_42 : decode cX3_setMinutes 42 = .ok (.istore 4, 2) := by decide +kernel
theorem dX3_setMinutes_44 : decode cX3_setMinutes 44 = .ok (.aload_n 0, 1) := by decide +kernel
theorem dX3_setMinutes_45 : decode cX3_setMinutes 45 = .ok (.getfield 12, 3) := by decide +kernel
theorem dX3_setMinutes_48 : decode cX3_setMinutes 48 = .ok (.iload_n 1, 1) := by decide +kernel
theorem dX3_setMinutes_49 : decode cX3_setMinutes 49 = .ok (.iload_n 2, 1) := by decide +kernel
theorem dX3_setMinutes_50 : decode cX3_setMinutes 50 = .ok (.iload_n 3, 1) := by decide +kernel
theorem dX3_setMinutes_51 : decode cX3_setMinutes 51 = .ok (.invokevirtual 76, 3) := by decide +kernel
theorem dX3_setMinutes_54 : decode cX3_setMinutes 54 = .ok (.iload 4, 2) := by decide +kernel
theorem dX3_setMinutes_56 : decode cX3_setMinutes 56 = .ok (.ireturn, 1) := by decide +kernel
set_option maxRecDepth 20000 in
theorem ggX3_setTip_X3_checkPlace : GoodIn wsX3_setTip wsX3_checkPlace := goodIn_ca (goodIn_r _ [8, 9, 10, 3, 31, 32, 33, 34, 35, 36, 37, 38, 39, 40, 41] (by decide +kernel) (by decide +kernel)) (goodIn_sub (fun _ h => List.mem_cons_of_mem _ (List.mem_append_right _ h)) (by decide +kernel))
set_option maxRecDepth 20000 in
theorem gX3_setTip_X3_checkPlace : GoodIn wsX3_setTip (wsV RX3 59 RX3 yX3_checkPlace wsX3_checkPlace) := goodIn_app (goodIn_of _ (by decide +kernel)) ggX3_setTip_X3_checkPlace
set_option maxRecDepth 20000 in
theorem ggX3_setTip_X3_checkKind : GoodIn wsX3_setTip wsX3_checkKind := goodIn_ca (goodIn_r _ [14, 9, 10] (by decide +kernel) (by decide +kernel)) (goodIn_sub (fun _ h => List.mem_cons_of_mem _ (List.mem_append_right _ h)) (by decide +kernel))
set_option maxRecDepth 20000 in
theorem gX3_setTip_X3_checkKind : GoodIn wsX3_setTip (wsV RX3 79 RX3 yX3_checkKind wsX3_checkKind) := goodIn_app (goodIn_of _ (by decide +kernel)) ggX3_setTip_X3_checkKind
set_option maxRecDepth 20000 in
theorem ggX3_setTip_X1_hasTip : GoodIn wsX3_setTip wsX1_hasTip := goodIn_r _ [19, 20, 39, 40, 41] (by decide +kernel) (by decide +kernel)
set_option maxRecDepth 20000 in
theorem gX3_setTip_X1_hasTip : GoodIn wsX3_setTip (wsV RX3 82 RX1 yX1_hasTip wsX1_hasTip) := goodIn_app (goodIn_of _ (by decide +kernel)) ggX3_setTip_X1_hasTip
set_option maxRecDepth 20000 in
theorem ggX3_setTip_X1_countTips : GoodIn wsX3_setTip wsX1_countTips := goodIn_r _ [24, 25, 26, 16, 17, 18, 19, 20, 39, 40, 41] (by decide +kernel) (by decide +kernel)
set_option maxRecDepth 20000 in
theorem gX3_setTip_X1_countTips : GoodIn wsX3_setTip (wsV RX3 86 RX1 yX1_countTips wsX1_countTips) := goodIn_app (goodIn_of _ (by decide +kernel)) ggX3_setTip_X1_countTips
set_option maxRecDepth 20000 in
theorem ggX3_setTip_X1_putTip : GoodIn wsX3_setTip wsX1_putTip := goodIn_r _ [30, 20, 39, 40, 41] (by decide +kernel) (by decide +kernel)
set_option maxRecDepth 20000 in
theorem gX3_setTip_X1_putTip : GoodIn wsX3_setTip (wsV RX3 92 RX1 yX1_putTip wsX1_putTip) := goodIn_app (goodIn_of _ (by decide +kernel)) ggX3_setTip_X1_putTip
theorem dX3_setTip_0 : decode cX3_setTip 0 = .ok (.aload_n 0, 1) := by decide +kernel
theorem dX3_setTip_1 : decode cX3_setTip 1 = .ok (.iload_n 1, 1) := by decide +kernel
theorem dX3_setTip_2 : decode cX3_setTip 2 = .ok (.invokevirtual 59, 3) := by decide +kernel
theorem dX3_setTip_5 : decode cX3_setTip 5 = .ok (.aload_n 0, 1) := by decide +kernel
theorem dX3_setTip_6 : decode cX3_setTip 6 = .ok (.iload_n 2, 1) := by decide +kernel
theorem dX3_setTip_7 : decode cX3_setTip 7 = .ok (.invokevirtual 79, 3) := by decide +kernel
theorem dX3_setTip_10 : decode cX3_setTip 10 = .ok (.aload_n 0, 1) := by decide +kernel
theorem dX3_setTip_11 : decode cX3_setTip 11 = .ok (.getfield 12, 3) := by decide +kernel
theorem dX3_setTip_14 : decode cX3_setTip 14 = .ok (.iload_n 1, 1) := by decide +kernel
theorem dX3_setTip_15 : decode cX3_setTip 15 = .ok (.iload_n 2, 1) := by decide +kernel
theorem dX3_setTip_16 : decode cX3_setTip 16 = .ok (.invokevirtual 82, 3) := by decide +kernel
theorem dX3_setTip_19 : decode cX3_setTip 19 = .ok (.istore 4, 2) := by decide +kernel
theorem dX3_setTip_21 : decode cX3_setTip 21 = .ok (.iload 4, 2) := by decide +kernel
theorem dX3_setTip_23 : decode cX3_setTip 23 = .ok (.ifCond .eq 29, 3) := by decide +kernel
theorem dX3_setTip_26 : decode cX3_setTip 26 = .ok (.iload_n 3, 1) := by decide +kernel
theorem dX3_setTip_27 : decode cX3_setTip 27 = .ok (.ifCond .ne 25, 3) := by decide +kernel
theorem dX3_setTip_30 : decode cX3_setTip 30 = .ok (.aload_n 0, 1) := by decide +kernel
theorem dX3_setTip_31 : decode cX3_setTip 31 = .ok (.getfield 12, 3) := by decide +kernel
theorem dX3_setTip_34 : decode cX3_setTip 34 = .ok (.iload_n 2, 1) := by decide +kernel
theorem dX3_setTip_35 : decode cX3_setTip 35 = .ok (.invokevirtual 86, 3) := by decide +kernel
theorem dX3_setTip_38 : decode cX3_setTip 38 = .ok (.iconst 1, 1) := by decide +kernel
theorem dX3_setTip_39 : decode cX3_setTip 39 = .ok (.if_icmp .ne 13, 3) := by decide +kernel
theorem dX3_setTip_42 : decode cX3_setTip 42 = .ok (.new 63, 3) := by decide +kernel
theorem dX3_setTip_45 : decode cX3_setTip 45 = .ok (.dup, 1) := by decide +kernel
theorem dX3_setTip_46 : decode cX3_setTip 46 = .ok (.ldc 90, 2) := by decide +kernel
theorem dX3_setTip_48 : decode cX3_setTip 48 = .ok (.invokespecial 67, 3) := by decide +kernel
theorem dX3_setTip_51 : decode cX3_setTip 51 = .ok (.athrow, 1) := by decide +kernel
theorem dX3_setTip_52 : decode cX3_setTip 52 = .ok (.aload_n 0, 1) := by decide +kernel
theorem dX3_setTip_53 : decode cX3_setTip 53 = .ok (.getfield 12, 3) := by decide +kernel
theorem dX3_setTip_56 : decode cX3_setTip 56 = .ok (.iload_n 1, 1) := by decide +kernel
theorem dX3_setTip_57 : decode cX3_setTip 57 = .ok (.iload_n 2, 1) := by decide +kernel
theorem dX3_setTip_58 : decode cX3_setTip 58 = .ok (.iload_n 3, 1) := by decide +kernel
theorem dX3_setTip_59 : decode cX3_setTip 59 = .ok (.invokevirtual 92, 3) := by decide +kernel
theorem dX3_setTip_62 : decode cX3_setTip 62 = .ok (.iload 4, 2) := by decide +kernel
theorem dX3_setTip_64 : decode cX3_setTip 64 = .ok (.ireturn, 1) := by decide +kernel
set_option maxRecDepth 20000 in
theorem ggX3_pass_X3_checkRange : GoodIn wsX3_pass wsX3_checkRange := goodIn_ca (goodIn_r _ [8, 9, 10] (by decide +kernel) (by decide +kernel)) (goodIn_sub (fun _ h => List.mem_cons_of_mem _ (List.mem_append_right _ h)) (by decide +kernel))
set_option maxRecDepth 20000 in
theorem gX3_pass_X3_checkRange : GoodIn wsX3_pass (wsV RX3 68 RX3 yX3_checkRange wsX3_checkRange) := goodIn_app (goodIn_of _ (by decide +kernel)) ggX3_pass_X3_checkRange
set_option maxRecDepth 20000 in
theorem ggX3_pass_X3_passOneDay : GoodIn wsX3_pass wsX3_passOneDay := goodIn_r _ [14, 3, 15, 16, 17, 18, 19, 20, 21, 22, 23, 24, 25, 26, 27, 28, 29, 30, 31, 32, 33, 34, 35, 36, 37, 38, 39, 40, 41, 42, 43, 44, 45, 46, 47, 48, 49, 50, 51, 52, 53, 54, 55, 56, 57, 58, 59, 60, 61, 62, 63, 64, 65, 66, 67, 68, 69, 70, 71, 72, 73, 74] (by decide +kernel) (by decide +kernel)
set_option maxRecDepth 20000 in
theorem gX3_pass_X3_passOneDay : GoodIn wsX3_pass (wsV RX3 103 RX3 yX3_passOneDay wsX3_passOneDay) := goodIn_app (goodIn_of _ (by decide +kernel)) ggX3_pass_X3_passOneDay
theorem dX3_pass_0 : decode cX3_pass 0 = .ok (.aload_n 0, 1) := by decide +kernel
theorem dX3_pass_1 : decode cX3_pass 1 = .ok (.iload_n 1, 1) := by decide +kernel
theorem dX3_pass_2 : decode cX3_pass 2 = .ok (.iconst 1, 1) := by decide +kernel
theorem dX3_pass_3 : decode cX3_pass 3 = .ok (.bipush 60, 2) := by decide +kernel
theorem dX3_pass_5 : decode cX3_pass 5 = .ok (.invokevirtual 68, 3) := by decide +kernel
theorem dX3_pass_8 : decode cX3_pass 8 = .ok (.aload_n 0, 1) := by decide +kernel
theorem dX3_pass_9 : decode cX3_pass 9 = .ok (.getfield 42, 3) := by decide +kernel
theorem dX3_pass_12 : decode cX3_pass 12 = .ok (.iload_n 1, 1) := by decide +kernel
theorem dX3_pass_13 : decode cX3_pass 13 = .ok (.iadd, 1) := by decide +kernel
theorem dX3_pass_14 : decode cX3_pass 14 = .ok (.sipush 400, 3) := by decide +kernel
theorem dX3_pass_17 : decode cX3_pass 17 = .ok (.if_icmp .lt 13, 3) := by decide +kernel
theorem dX3_pass_20 : decode cX3_pass 20 = .ok (.new 48, 3) := by decide +kernel
theorem dX3_pass_23 : decode cX3_pass 23 = .ok (.dup, 1) := by decide +kernel
theorem dX3_pass_24 : decode cX3_pass 24 = .ok (.ldc 101, 2) := by decide +kernel
theorem dX3_pass_26 : decode cX3_pass 26 = .ok (.invokespecial 52, 3) := by decide +kernel
theorem dX3_pass_29 : decode cX3_pass 29 = .ok (.athrow, 1) := by decide +kernel
theorem dX3_pass_30 : decode cX3_pass 30 = .ok (.iconst 0, 1) := by decide +kernel
theorem dX3_pass_31 : decode cX3_pass 31 = .ok (.istore_n 2, 1) := by decide +kernel
theorem dX3_pass_32 : decode cX3_pass 32 = .ok (.iconst 0, 1) := by decide +kernel
theorem dX3_pass_33 : decode cX3_pass 33 = .ok (.istore_n 3, 1) := by decide +kernel
theorem dX3_pass_34 : decode cX3_pass 34 = .ok (.iload_n 3, 1) := by decide +kernel
theorem dX3_pass_35 : decode cX3_pass 35 = .ok (.iload_n 1, 1) := by decide +kernel
theorem dX3_pass_36 : decode cX3_pass 36 = .ok (.if_icmp .ge 16, 3) := by decide +kernel
theorem dX3_pass_39 : decode cX3_pass 39 = .ok (.iload_n 2, 1) := by decide +kernel
theorem dX3_pass_40 : decode cX3_pass 40 = .ok (.aload_n 0, 1) := by decide +kernel
theorem dX3_pass_41 : decode cX3_pass 41 = .ok (.invokevirtual 103, 3) := by decide +kernel
theorem dX3_pass_44 : decode cX3_pass 44 = .ok (.iadd, 1) := by decide +kernel
theorem dX3_pass_45 : decode cX3_pass 45 = .ok (.istore_n 2, 1) := by decide +kernel
theorem dX3_pass_46 : decode cX3_pass 46 = .ok (.iinc 3 1, 3) := by decide +kernel
theorem dX3_pass_49 : decode cX3_pass 49 = .ok (.goto (-15), 3) := by decide +kernel
theorem dX3_pass_52 : decode cX3_pass 52 = .ok (.iload_n 2, 1) := by decide +kernel
theorem dX3_pass_53 : decode cX3_pass 53 = .ok (.ireturn, 1) := by decide +kernel
theorem dX3_today_0 : decode cX3_today 0 = .ok (.aload_n 0, 1) := by decide +kernel
theorem dX3_today_1 : decode cX3_today 1 = .ok (.getfield 42, 3) := by decide +kernel
theorem dX3_today_4 : decode cX3_today 4 = .ok (.ireturn, 1) := by decide +kernel
theorem dX3_nextWorkday_0 : decode cX3_nextWorkday 0 = .ok (.aload_n 0, 1) := by decide +kernel
theorem dX3_nextWorkday_1 : decode cX3_nextWorkday 1 = .ok (.getfield 42, 3) := by decide +kernel
theorem dX3_nextWorkday_4 : decode cX3_nextWorkday 4 = .ok (.iconst 1, 1) := by decide +kernel
theorem dX3_nextWorkday_5 : decode cX3_nextWorkday 5 = .ok (.iadd, 1) := by decide +kernel
theorem dX3_nextWorkday_6 : decode cX3_nextWorkday 6 = .ok (.istore_n 1, 1) := by decide +kernel
theorem dX3_nextWorkday_7 : decode cX3_nextWorkday 7 = .ok (.iload_n 1, 1) := by decide +kernel
theorem dX3_nextWorkday_8 : decode cX3_nextWorkday 8 = .ok (.sipush 400, 3) := by decide +kernel
theorem dX3_nextWorkday_11 : decode cX3_nextWorkday 11 = .ok (.if_icmp .ge 20, 3) := by decide +kernel
theorem dX3_nextWorkday_14 : decode cX3_nextWorkday 14 = .ok (.aload_n 0, 1) := by decide +kernel
theorem dX3_nextWorkday_15 : decode cX3_nextWorkday 15 = .ok (.getfield 23, 3) := by decide +kernel
theorem dX3_nextWorkday_18 : decode cX3_nextWorkday 18 = .ok (.iload_n 1, 1) := by decide +kernel
theorem dX3_nextWorkday_19 : decode cX3_nextWorkday 19 = .ok (.baload, 1) := by decide +kernel
theorem dX3_nextWorkday_20 : decode cX3_nextWorkday 20 = .ok (.ifCond .ne 5, 3) := by decide +kernel
theorem dX3_nextWorkday_23 : decode cX3_nextWorkday 23 = .ok (.iload_n 1, 1) := by decide +kernel
theorem dX3_nextWorkday_24 : decode cX3_nextWorkday 24 = .ok (.ireturn, 1) := by decide +kernel
theorem dX3_nextWorkday_25 : decode cX3_nextWorkday 25 = .ok (.iinc 1 1, 3) := by decide +kernel
theorem dX3_nextWorkday_28 : decode cX3_nextWorkday 28 = .ok (.goto (-21), 3) := by decide +kernel
theorem dX3_nextWorkday_31 : decode cX3_nextWorkday 31 = .ok (.sipush 400, 3) := by decide +kernel
theorem dX3_nextWorkday_34 : decode cX3_nextWorkday 34 = .ok (.ireturn, 1) := by decide +kernel
set_option maxRecDepth 20000 in
theorem ggX3_addBin_X3_checkPlace : GoodIn wsX3_addBin wsX3_checkPlace := goodIn_ca (goodIn_r _ [14, 1, 2, 15, 102, 103, 104, 105, 106, 107, 108, 109, 120, 121, 122] (by decide +kernel) (by decide +kernel)) (goodIn_sub (fun _ h => List.mem_cons_of_mem _ (List.mem_append_left _ (List.mem_append_left _ (List.mem_append_right _ h)))) (by decide +kernel))
set_option maxRecDepth 20000 in
theorem gX3_addBin_X3_checkPlace : GoodIn wsX3_addBin (wsV RX3 59 RX3 yX3_checkPlace wsX3_checkPlace) := goodIn_app (goodIn_of _ (by decide +kernel)) ggX3_addBin_X3_checkPlace
set_option maxRecDepth 20000 in
theorem ggX3_addBin_X3_checkKind : GoodIn wsX3_addBin wsX3_checkKind := goodIn_ca (goodIn_r _ [19, 1, 2] (by decide +kernel) (by decide +kernel)) (goodIn_sub (fun _ h => List.mem_cons_of_mem _ (List.mem_append_left _ (List.mem_append_left _ (List.mem_append_right _ h)))) (by decide +kernel))
set_option maxRecDepth 20000 in
theorem gX3_addBin_X3_checkKind : GoodIn wsX3_addBin (wsV RX3 79 RX3 yX3_checkKind wsX3_checkKind) := goodIn_app (goodIn_of _ (by decide +kernel)) ggX3_addBin_X3_checkKind
set_option maxRecDepth 20000 in
theorem ggX3_addBin_X3_checkRange : GoodIn wsX3_addBin wsX3_checkRange := goodIn_ca (goodIn_r _ [23, 24, 25] (by decide +kernel) (by decide +kernel)) (goodIn_sub (fun _ h => List.mem_cons_of_mem _ (List.mem_append_right _ h)) (by decide +kernel))
set_option maxRecDepth 20000 in
theorem gX3_addBin_X3_checkRange : GoodIn wsX3_addBin (wsV RX3 68 RX3 yX3_checkRange wsX3_checkRange) := goodIn_app (goodIn_of _ (by decide +kernel)) ggX3_addBin_X3_checkRange
set_option maxRecDepth 20000 in
theorem ggX3_addBin_Jx4a65c_size_8abf5 : GoodIn wsX3_addBin wsJx4a65c_size_8abf5 := goodIn_r _ [30, 31, 123, 124, 125] (by decide +kernel) (by decide +kernel)
set_option maxRecDepth 20000 in
theorem gX3_addBin_Jx4a65c_size_8abf5 : GoodIn wsX3_addBin (wsV RX3 108 RJx4a65c yJx4a65c_size_8abf5 wsJx4a65c_size_8abf5) := goodIn_app (goodIn_of _ (by decide +kernel)) ggX3_addBin_Jx4a65c_size_8abf5
set_option maxRecDepth 20000 in
theorem ggX3_addBin_X0_init : GoodIn wsX3_addBin wsX0_init := goodIn_r _ [34, 35, 36, 37, 38, 39, 40, 41, 42, 43, 44, 45, 46, 47, 110, 111, 112, 113, 114, 115, 116, 117, 118, 119] (by decide +kernel) (by decide +kernel)
set_option maxRecDepth 20000 in
theorem gX3_addBin_X0_init : GoodIn wsX3_addBin (wsX0_init) := ggX3_addBin_X0_init
set_option maxRecDepth 20000 in
theorem ggX3_addBin_Jx4a65c_add_9ea2d : GoodIn wsX3_addBin wsJx4a65c_add_9ea2d := goodIn_r _ [51, 52, 53, 54, 31, 55, 56, 57, 29, 58, 59, 60, 61, 62, 63, 64, 65, 66, 67, 68, 69, 70, 71, 72, 73, 74, 75, 76, 77, 78, 79, 80, 81, 82, 83, 84, 85, 86, 87, 88, 89, 90, 91, 92, 93, 94, 95, 96, 97, 98, 99, 100, 101, 123, 124, 125] (by decide +kernel) (by decide +kernel)
set_option maxRecDepth 20000 in
theorem gX3_addBin_Jx4a65c_add_9ea2d : GoodIn wsX3_addBin (wsV RX3 118 RJx4a65c yJx4a65c_add_9ea2d wsJx4a65c_add_9ea2d) := goodIn_app (goodIn_of _ (by decide +kernel)) ggX3_addBin_Jx4a65c_add_9ea2d
theorem dX3_addBin_0 : decode cX3_addBin 0 = .ok (.aload_n 0, 1) := by decide +kernel
theorem dX3_addBin_1 : decode cX3_addBin 1 = .ok (.iload_n 1, 1) := by decide +kernel
theorem dX3_addBin_2 : decode cX3_addBin 2 = .ok (.invokevirtual 59, 3) := by decide +kernel
theorem dX3_addBin_5 : decode cX3_addBin 5 = .ok (.iload_n 1, 1) := by decide +kernel
theorem dX3_addBin_6 : decode cX3_addBin 6 = .ok (.ifCond .ne 13, 3) := by decide +kernel
theorem dX3_addBin_9 : decode cX3_addBin 9 = .ok (.new 96, 3) := by decide +kernel
theorem dX3_addBin_12 : decode cX3_addBin 12 = .ok (.dup, 1) := by decide +kernel
theorem dX3_addBin_13 : decode cX3_addBin 13 = .ok (.ldc 106, 2) := by decide +kernel
theorem dX3_addBin_15 : decode cX3_addBin 15 = .ok (.invokespecial 100, 3) := by decide +kernel
theorem dX3_addBin_18 : decode cX3_addBin 18 = .ok (.athrow, 1) := by decide +kernel
theorem dX3_addBin_19 : decode cX3_addBin 19 = .ok (.aload_n 0, 1) := by decide +kernel
theorem dX3_addBin_20 : decode cX3_addBin 20 = .ok (.iload_n 2, 1) := by decide +kernel
theorem dX3_addBin_21 : decode cX3_addBin 21 = .ok (.invokevirtual 79, 3) := by decide +kernel
theorem dX3_addBin_24 : decode cX3_addBin 24 = .ok (.aload_n 0, 1) := by decide +kernel
theorem dX3_addBin_25 : decode cX3_addBin 25 = .ok (.iload_n 3, 1) := by decide +kernel
theorem dX3_addBin_26 : decode cX3_addBin 26 = .ok (.bipush 10, 2) := by decide +kernel
theorem dX3_addBin_28 : decode cX3_addBin 28 = .ok (.sipush 1000, 3) := by decide +kernel
theorem dX3_addBin_31 : decode cX3_addBin 31 = .ok (.invokevirtual 68, 3) := by decide +kernel
theorem dX3_addBin_34 : decode cX3_addBin 34 = .ok (.aload_n 0, 1) := by decide +kernel
theorem dX3_addBin_35 : decode cX3_addBin 35 = .ok (.iload 4, 2) := by decide +kernel
theorem dX3_addBin_37 : decode cX3_addBin 37 = .ok (.iconst 0, 1) := by decide +kernel
theorem dX3_addBin_38 : decode cX3_addBin 38 = .ok (.sipush 200, 3) := by decide +kernel
theorem dX3_addBin_41 : decode cX3_addBin 41 = .ok (.invokevirtual 68, 3) := by decide +kernel
theorem dX3_addBin_44 : decode cX3_addBin 44 = .ok (.aload_n 0, 1) := by decide +kernel
theorem dX3_addBin_45 : decode cX3_addBin 45 = .ok (.getfield 19, 3) := by decide +kernel
theorem dX3_addBin_48 : decode cX3_addBin 48 = .ok (.invokevirtual 108, 3) := by decide +kernel
theorem dX3_addBin_51 : decode cX3_addBin 51 = .ok (.istore 5, 2) := by decide +kernel
theorem dX3_addBin_53 : decode cX3_addBin 53 = .ok (.iload 5, 2) := by decide +kernel
theorem dX3_addBin_55 : decode cX3_addBin 55 = .ok (.bipush 16, 2) := by decide +kernel
theorem dX3_addBin_57 : decode cX3_addBin 57 = .ok (.if_icmp .lt 13, 3) := by decide +kernel
theorem dX3_addBin_60 : decode cX3_addBin 60 = .ok (.new 48, 3) := by decide +kernel
theorem dX3_addBin_63 : decode cX3_addBin 63 = .ok (.dup, 1) := by decide +kernel
theorem dX3_addBin_64 : decode cX3_addBin 64 = .ok (.ldc 111, 2) := by decide +kernel
theorem dX3_addBin_66 : decode cX3_addBin 66 = .ok (.invokespecial 52, 3) := by decide +kernel
theorem dX3_addBin_69 : decode cX3_addBin 69 = .ok (.athrow, 1) := by decide +kernel
theorem dX3_addBin_70 : decode cX3_addBin 70 = .ok (.aload_n 0, 1) := by decide +kernel
theorem dX3_addBin_71 : decode cX3_addBin 71 = .ok (.getfield 19, 3) := by decide +kernel
theorem dX3_addBin_74 : decode cX3_addBin 74 = .ok (.new 113, 3) := by decide +kernel
theorem dX3_addBin_77 : decode cX3_addBin 77 = .ok (.dup, 1) := by decide +kernel
theorem dX3_addBin_78 : decode cX3_addBin 78 = .ok (.iload_n 1, 1) := by decide +kernel
theorem dX3_addBin_79 : decode cX3_addBin 79 = .ok (.iload_n 2, 1) := by decide +kernel
theorem dX3_addBin_80 : decode cX3_addBin 80 = .ok (.iload_n 3, 1) := by decide +kernel
theorem dX3_addBin_81 : decode cX3_addBin 81 = .ok (.iload 4, 2) := by decide +kernel
theorem dX3_addBin_83 : decode cX3_addBin 83 = .ok (.aload_n 0, 1) := by decide +kernel
theorem dX3_addBin_84 : decode cX3_addBin 84 = .ok (.getfield 42, 3) := by decide +kernel
theorem dX3_addBin_87 : decode cX3_addBin 87 = .ok (.invokespecial 115, 3) := by decide +kernel
theorem dX3_addBin_90 : decode cX3_addBin 90 = .ok (.invokevirtual 118, 3) := by decide +kernel
theorem dX3_addBin_93 : decode cX3_addBin 93 = .ok (.pop, 1) := by decide +kernel
theorem dX3_addBin_94 : decode cX3_addBin 94 = .ok (.iload 5, 2) := by decide +kernel
theorem dX3_addBin_96 : decode cX3_addBin 96 = .ok (.ireturn, 1) := by decide +kernel
set_option maxRecDepth 20000 in
theorem ggX3_soil_X3_checkBin : GoodIn wsX3_soil wsX3_checkBin := goodIn_ca (goodIn_r _ [7, 8, 9, 1, 10, 11, 12, 13, 14, 15, 33, 34, 35, 36, 37, 38, 39, 40, 51, 52, 53] (by decide +kernel) (by decide +kernel)) (goodIn_sub (fun _ h => List.mem_cons_of_mem _ (List.mem_append_right _ h)) (by decide +kernel))
set_option maxRecDepth 20000 in
theorem gX3_soil_X3_checkBin : GoodIn wsX3_soil (wsV RX3 121 RX3 yX3_checkBin wsX3_checkBin) := goodIn_app (goodIn_of _ (by decide +kernel)) ggX3_soil_X3_checkBin
set_option maxRecDepth 20000 in
theorem ggX3_soil_Jx4a65c_get_915e3 : GoodIn wsX3_soil wsJx4a65c_get_915e3 := goodIn_r _ [19, 15, 20, 21, 22, 23, 24, 25, 26, 27, 28, 29, 30, 13, 31, 32, 51, 52, 53] (by decide +kernel) (by decide +kernel)
set_option maxRecDepth 20000 in
theorem gX3_soil_Jx4a65c_get_915e3 : GoodIn wsX3_soil (wsV RX3 124 RJx4a65c yJx4a65c_get_915e3 wsJx4a65c_get_915e3) := goodIn_app (goodIn_of _ (by decide +kernel)) ggX3_soil_Jx4a65c_get_915e3
theorem dX3_soil_0 : decode cX3_soil 0 = .ok (.aload_n 0, 1) := by decide +kernel
theorem dX3_soil_1 : decode cX3_soil 1 = .ok (.iload_n 1, 1) := by decide +kernel
theorem dX3_soil_2 : decode cX3_soil 2 = .ok (.invokevirtual 121, 3) := by decide +kernel
theorem dX3_soil_5 : decode cX3_soil 5 = .ok (.aload_n 0, 1) := by decide +kernel
theorem dX3_soil_6 : decode cX3_soil 6 = .ok (.getfield 19, 3) := by decide +kernel
theorem dX3_soil_9 : decode cX3_soil 9 = .ok (.iload_n 1, 1) := by decide +kernel
theorem dX3_soil_10 : decode cX3_soil 10 = .ok (.invokevirtual 124, 3) := by decide +kernel
theorem dX3_soil_13 : decode cX3_soil 13 = .ok (.checkcast 113, 3) := by decide +kernel
theorem dX3_soil_16 : decode cX3_soil 16 = .ok (.astore_n 2, 1) := by decide +kernel
theorem dX3_soil_17 : decode cX3_soil 17 = .ok (.aload_n 2, 1) := by decide +kernel
theorem dX3_soil_18 : decode cX3_soil 18 = .ok (.getfield 131, 3) := by decide +kernel
theorem dX3_soil_21 : decode cX3_soil 21 = .ok (.ifCond .ne 7, 3) := by decide +kernel
theorem dX3_soil_24 : decode cX3_soil 24 = .ok (.iconst 1, 1) := by decide +kernel
theorem dX3_soil_25 : decode cX3_soil 25 = .ok (.goto 4, 3) := by decide +kernel
theorem dX3_soil_28 : decode cX3_soil 28 = .ok (.iconst 0, 1) := by decide +kernel
theorem dX3_soil_29 : decode cX3_soil 29 = .ok (.istore_n 3, 1) := by decide +kernel
theorem dX3_soil_30 : decode cX3_soil 30 = .ok (.aload_n 2, 1) := by decide +kernel
theorem dX3_soil_31 : decode cX3_soil 31 = .ok (.iconst 1, 1) := by decide +kernel
theorem dX3_soil_32 : decode cX3_soil 32 = .ok (.putfield 131, 3) := by decide +kernel
theorem dX3_soil_35 : decode cX3_soil 35 = .ok (.iload_n 3, 1) := by decide +kernel
theorem dX3_soil_36 : decode cX3_soil 36 = .ok (.ireturn, 1) := by decide +kernel
set_option maxRecDepth 20000 in
theorem ggX3_bin_X3_checkBin : GoodIn wsX3_bin wsX3_checkBin := goodIn_ca (goodIn_r _ [9, 1, 2, 3, 10, 11, 12, 13, 14, 15, 46, 47, 48, 49, 50, 51, 52, 53, 54, 55, 56] (by decide +kernel) (by decide +kernel)) (goodIn_sub (fun _ h => List.mem_cons_of_mem _ (List.mem_append_right _ h)) (by decide +kernel))
set_option maxRecDepth 20000 in
theorem gX3_bin_X3_checkBin : GoodIn wsX3_bin (wsV RX3 121 RX3 yX3_checkBin wsX3_checkBin) := goodIn_app (goodIn_of _ (by decide +kernel)) ggX3_bin_X3_checkBin
set_option maxRecDepth 20000 in
theorem ggX3_bin_Jx4a65c_get_915e3 : GoodIn wsX3_bin wsJx4a65c_get_915e3 := goodIn_r _ [19, 15, 20, 21, 22, 23, 24, 25, 26, 27, 28, 29, 30, 13, 31, 32, 54, 55, 56] (by decide +kernel) (by decide +kernel)
set_option maxRecDepth 20000 in
theorem gX3_bin_Jx4a65c_get_915e3 : GoodIn wsX3_bin (wsV RX3 124 RJx4a65c yJx4a65c_get_915e3 wsJx4a65c_get_915e3) := goodIn_app (goodIn_of _ (by decide +kernel)) ggX3_bin_Jx4a65c_get_915e3
set_option maxRecDepth 20000 in
theorem ggX3_bin_X0_fact : GoodIn wsX3_bin wsX0_fact := goodIn_r _ [37, 38, 39, 40, 41, 42, 43, 44, 45, 57, 58, 59, 60, 61, 62, 63, 64, 65, 66] (by decide +kernel) (by decide +kernel)
set_option maxRecDepth 20000 in
theorem gX3_bin_X0_fact : GoodIn wsX3_bin (wsV RX3 137 RX0 yX0_fact wsX0_fact) := goodIn_app (goodIn_of _ (by decide +kernel)) ggX3_bin_X0_fact
theorem dX3_bin_0 : decode cX3_bin 0 = .ok (.aload_n 0, 1) := by decide +kernel
theorem dX3_bin_1 : decode cX3_bin 1 = .ok (.iload_n 1, 1) := by decide +kernel
theorem dX3_bin_2 : decode cX3_bin 2 = .ok (.invokevirtual 121, 3) := by decide +kernel
theorem dX3_bin_5 : decode cX3_bin 5 = .ok (.iload_n 2, 1) := by decide +kernel
theorem dX3_bin_6 : decode cX3_bin 6 = .ok (.ifCond .lt 9, 3) := by decide +kernel
theorem dX3_bin_9 : decode cX3_bin 9 = .ok (.iload_n 2, 1) := by decide +kernel
theorem dX3_bin_10 : decode cX3_bin 10 = .ok (.bipush 8, 2) := by decide +kernel
theorem dX3_bin_12 : decode cX3_bin 12 = .ok (.if_icmp .lt 13, 3) := by decide +kernel
theorem dX3_bin_15 : decode cX3_bin 15 = .ok (.new 96, 3) := by decide +kernel
theorem dX3_bin_18 : decode cX3_bin 18 = .ok (.dup, 1) := by decide +kernel
theorem dX3_bin_19 : decode cX3_bin 19 = .ok (.ldc 135, 2) := by decide +kernel
theorem dX3_bin_21 : decode cX3_bin 21 = .ok (.invokespecial 100, 3) := by decide +kernel
theorem dX3_bin_24 : decode cX3_bin 24 = .ok (.athrow, 1) := by decide +kernel
theorem dX3_bin_25 : decode cX3_bin 25 = .ok (.aload_n 0, 1) := by decide +kernel
theorem dX3_bin_26 : decode cX3_bin 26 = .ok (.getfield 19, 3) := by decide +kernel
theorem dX3_bin_29 : decode cX3_bin 29 = .ok (.iload_n 1, 1) := by decide +kernel
theorem dX3_bin_30 : decode cX3_bin 30 = .ok (.invokevirtual 124, 3) := by decide +kernel
theorem dX3_bin_33 : decode cX3_bin 33 = .ok (.checkcast 113, 3) := by decide +kernel
theorem dX3_bin_36 : decode cX3_bin 36 = .ok (.iload_n 2, 1) := by decide +kernel
theorem dX3_bin_37 : decode cX3_bin 37 = .ok (.invokevirtual 137, 3) := by decide +kernel
theorem dX3_bin_40 : decode cX3_bin 40 = .ok (.ireturn, 1) := by decide +kernel
set_option maxRecDepth 20000 in
theorem ggX3_expected_X3_checkBin : GoodIn wsX3_expected wsX3_checkBin := goodIn_ca (goodIn_r _ [8, 9, 10, 2, 11, 12, 13, 14, 15, 16, 52, 53, 54, 55, 56, 57, 58, 59, 60, 61, 62] (by decide +kernel) (by decide +kernel)) (goodIn_sub (fun _ h => List.mem_cons_of_mem _ (List.mem_append_left _ (List.mem_append_right _ h))) (by decide +kernel))
set_option maxRecDepth 20000 in
theorem gX3_expected_X3_checkBin : GoodIn wsX3_expected (wsV RX3 121 RX3 yX3_checkBin wsX3_checkBin) := goodIn_app (goodIn_of _ (by decide +kernel)) ggX3_expected_X3_checkBin
set_option maxRecDepth 20000 in
theorem ggX3_expected_X3_checkRange : GoodIn wsX3_expected wsX3_checkRange := goodIn_ca (goodIn_r _ [20, 21, 22] (by decide +kernel) (by decide +kernel)) (goodIn_sub (fun _ h => List.mem_cons_of_mem _ (List.mem_append_right _ h)) (by decide +kernel))
set_option maxRecDepth 20000 in
theorem gX3_expected_X3_checkRange : GoodIn wsX3_expected (wsV RX3 68 RX3 yX3_checkRange wsX3_checkRange) := goodIn_app (goodIn_of _ (by decide +kernel)) ggX3_expected_X3_checkRange
set_option maxRecDepth 20000 in
theorem ggX3_expected_Jx4a65c_get_915e3 : GoodIn wsX3_expected wsJx4a65c_get_915e3 := goodIn_r _ [26, 16, 27, 28, 29, 30, 31, 32, 33, 34, 35, 36, 37, 14, 38, 39, 60, 61, 62] (by decide +kernel) (by decide +kernel)
set_option maxRecDepth 20000 in
theorem gX3_expected_Jx4a65c_get_915e3 : GoodIn wsX3_expected (wsV RX3 124 RJx4a65c yJx4a65c_get_915e3 wsJx4a65c_get_915e3) := goodIn_app (goodIn_of _ (by decide +kernel)) ggX3_expected_Jx4a65c_get_915e3
set_option maxRecDepth 20000 in
theorem ggX3_expected_X0_forecast : GoodIn wsX3_expected wsX0_forecast := goodIn_r _ [44, 45, 46, 47, 48, 49, 50, 51, 63, 64, 65, 66, 67, 68, 69, 70, 71, 72] (by decide +kernel) (by decide +kernel)
set_option maxRecDepth 20000 in
theorem gX3_expected_X0_forecast : GoodIn wsX3_expected (wsV RX3 140 RX0 yX0_forecast wsX0_forecast) := goodIn_app (goodIn_of _ (by decide +kernel)) ggX3_expected_X0_forecast
theorem dX3_expected_0 : decode cX3_expected 0 = .ok (.aload_n 0, 1) := by decide +kernel
theorem dX3_expected_1 : decode cX3_expected 1 = .ok (.iload_n 1, 1) := by decide +kernel
theorem dX3_expected_2 : decode cX3_expected 2 = .ok (.invokevirtual 121, 3) := by decide +kernel
theorem dX3_expected_5 : decode cX3_expected 5 = .ok (.aload_n 0, 1) := by decide +kernel
theorem dX3_expected_6 : decode cX3_expected 6 = .ok (.iload_n 2, 1) := by decide +kernel
theorem dX3_expected_7 : decode cX3_expected 7 = .ok (.aload_n 0, 1) := by decide +kernel
theorem dX3_expected_8 : decode cX3_expected 8 = .ok (.getfield 42, 3) := by decide +kernel
theorem dX3_expected_11 : decode cX3_expected 11 = .ok (.sipush 999, 3) := by decide +kernel
theorem dX3_expected_14 : decode cX3_expected 14 = .ok (.invokevirtual 68, 3) := by decide +kernel
theorem dX3_expected_17 : decode cX3_expected 17 = .ok (.aload_n 0, 1) := by decide +kernel
theorem dX3_expected_18 : decode cX3_expected 18 = .ok (.getfield 19, 3) := by decide +kernel
theorem dX3_expected_21 : decode cX3_expected 21 = .ok (.iload_n 1, 1) := by decide +kernel
theorem dX3_expected_22 : decode cX3_expected 22 = .ok (.invokevirtual 124, 3) := by decide +kernel
theorem dX3_expected_25 : decode cX3_expected 25 = .ok (.checkcast 113, 3) := by decide +kernel
theorem dX3_expected_28 : decode cX3_expected 28 = .ok (.iload_n 2, 1) := by decide +kernel
theorem dX3_expected_29 : decode cX3_expected 29 = .ok (.invokevirtual 140, 3) := by decide +kernel
theorem dX3_expected_32 : decode cX3_expected 32 = .ok (.ireturn, 1) := by decide +kernel
set_option maxRecDepth 20000 in
theorem ggX3_planSize_X3_checkKind : GoodIn wsX3_planSize wsX3_checkKind := goodIn_ca (goodIn_r _ [6, 7, 8] (by decide +kernel) (by decide +kernel)) (goodIn_sub (fun _ h => List.mem_cons_of_mem _ (List.mem_append_right _ h)) (by decide +kernel))
set_option maxRecDepth 20000 in
theorem gX3_planSize_X3_checkKind : GoodIn wsX3_planSize (wsV RX3 79 RX3 yX3_checkKind wsX3_checkKind) := goodIn_app (goodIn_of _ (by decide +kernel)) ggX3_planSize_X3_checkKind
set_option maxRecDepth 20000 in
theorem ggX3_planSize_X3_planRoute : GoodIn wsX3_planSize wsX3_planRoute := goodIn_r _ [12, 1, 13, 14, 15, 16, 17, 18, 19, 5, 20, 21, 22, 23, 24, 25, 26, 27, 28, 29, 30, 31, 32, 33, 34, 35, 36, 37, 38, 39, 40, 41, 42, 43, 44, 45, 46, 47, 48, 49, 50, 51, 52, 53, 54, 55, 56, 57, 58, 59, 60, 61, 62, 63, 64, 65, 66, 67, 68, 69, 70, 71, 72, 73, 74, 75, 76, 77, 78, 79, 80, 81, 82, 83, 84, 85, 86, 87, 88, 89, 90, 91, 92, 93, 94, 95, 96, 97, 98, 99] (by decide +kernel) (by decide +kernel)
set_option maxRecDepth 20000 in
theorem gX3_planSize_X3_planRoute : GoodIn wsX3_planSize (wsV RX3 147 RX3 yX3_planRoute wsX3_planRoute) := goodIn_app (goodIn_of _ (by decide +kernel)) ggX3_planSize_X3_planRoute
theorem dX3_planSize_0 : decode cX3_planSize 0 = .ok (.aload_n 0, 1) := by decide +kernel
theorem dX3_planSize_1 : decode cX3_planSize 1 = .ok (.iload_n 1, 1) := by decide +kernel
theorem dX3_planSize_2 : decode cX3_planSize 2 = .ok (.invokevirtual 79, 3) := by decide +kernel
theorem dX3_planSize_5 : decode cX3_planSize 5 = .ok (.aload_n 0, 1) := by decide +kernel
theorem dX3_planSize_6 : decode cX3_planSize 6 = .ok (.iload_n 1, 1) := by decide +kernel
theorem dX3_planSize_7 : decode cX3_planSize 7 = .ok (.invokevirtual 147, 3) := by decide +kernel
theorem dX3_planSize_10 : decode cX3_planSize 10 = .ok (.aload_n 0, 1) := by decide +kernel
theorem dX3_planSize_11 : decode cX3_planSize 11 = .ok (.getfield 38, 3) := by decide +kernel
theorem dX3_planSize_14 : decode cX3_planSize 14 = .ok (.ireturn, 1) := by decide +kernel
set_option maxRecDepth 20000 in
theorem ggX3_planned_X3_checkKind : GoodIn wsX3_planned wsX3_checkKind := goodIn_ca (goodIn_r _ [9, 1, 2] (by decide +kernel) (by decide +kernel)) (goodIn_sub (fun _ h => List.mem_cons_of_mem _ (List.mem_append_right _ h)) (by decide +kernel))
set_option maxRecDepth 20000 in
theorem gX3_planned_X3_checkKind : GoodIn wsX3_planned (wsV RX3 79 RX3 yX3_checkKind wsX3_checkKind) := goodIn_app (goodIn_of _ (by decide +kernel)) ggX3_planned_X3_checkKind
set_option maxRecDepth 20000 in
theorem ggX3_planned_X3_planRoute : GoodIn wsX3_planned wsX3_planRoute := goodIn_r _ [13, 3, 14, 15, 16, 4, 17, 18, 19, 8, 20, 21, 22, 23, 24, 25, 26, 27, 28, 29, 30, 31, 32, 33, 34, 35, 36, 37, 38, 39, 40, 41, 42, 43, 44, 45, 46, 47, 48, 49, 50, 51, 52, 53, 54, 55, 56, 57, 58, 59, 60, 61, 62, 63, 64, 65, 66, 67, 68, 69, 70, 71, 72, 73, 74, 75, 76, 77, 78, 79, 80, 81, 82, 83, 84, 85, 86, 87, 88, 89, 90, 91, 92, 93, 94, 95, 96, 97, 98, 99] (by decide +kernel) (by decide +kernel)
set_option maxRecDepth 20000 in
theorem gX3_planned_X3_planRoute : GoodIn wsX3_planned (wsV RX3 147 RX3 yX3_planRoute wsX3_planRoute) := goodIn_app (goodIn_of _ (by decide +kernel)) ggX3_planned_X3_planRoute
theorem dX3_planned_0 : decode cX3_planned 0 = .ok (.aload_n 0, 1) := by decide +kernel
theorem dX3_planned_1 : decode cX3_planned 1 = .ok (.iload_n 1, 1) := by decide +kernel
theorem dX3_planned_2 : decode cX3_planned 2 = .ok (.invokevirtual 79, 3) := by decide +kernel
theorem dX3_planned_5 : decode cX3_planned 5 = .ok (.aload_n 0, 1) := by decide +kernel
theorem dX3_planned_6 : decode cX3_planned 6 = .ok (.iload_n 1, 1) := by decide +kernel
theorem dX3_planned_7 : decode cX3_planned 7 = .ok (.invokevirtual 147, 3) := by decide +kernel
theorem dX3_planned_10 : decode cX3_planned 10 = .ok (.iload_n 2, 1) := by decide +kernel
theorem dX3_planned_11 : decode cX3_planned 11 = .ok (.ifCond .lt 11, 3) := by decide +kernel
theorem dX3_planned_14 : decode cX3_planned 14 = .ok (.iload_n 2, 1) := by decide +kernel
theorem dX3_planned_15 : decode cX3_planned 15 = .ok (.aload_n 0, 1) := by decide +kernel
theorem dX3_planned_16 : decode cX3_planned 16 = .ok (.getfield 38, 3) := by decide +kernel
theorem dX3_planned_19 : decode cX3_planned 19 = .ok (.if_icmp .lt 13, 3) := by decide +kernel
theorem dX3_planned_22 : decode cX3_planned 22 = .ok (.new 96, 3) := by decide +kernel
theorem dX3_planned_25 : decode cX3_planned 25 = .ok (.dup, 1) := by decide +kernel
theorem dX3_planned_26 : decode cX3_planned 26 = .ok (.ldc 150, 2) := by decide +kernel
theorem dX3_planned_28 : decode cX3_planned 28 = .ok (.invokespecial 100, 3) := by decide +kernel
theorem dX3_planned_31 : decode cX3_planned 31 = .ok (.athrow, 1) := by decide +kernel
theorem dX3_planned_32 : decode cX3_planned 32 = .ok (.aload_n 0, 1) := by decide +kernel
theorem dX3_planned_33 : decode cX3_planned 33 = .ok (.getfield 34, 3) := by decide +kernel
theorem dX3_planned_36 : decode cX3_planned 36 = .ok (.iload_n 2, 1) := by decide +kernel
theorem dX3_planned_37 : decode cX3_planned 37 = .ok (.iaload, 1) := by decide +kernel
theorem dX3_planned_38 : decode cX3_planned 38 = .ok (.ireturn, 1) := by decide +kernel
set_option maxRecDepth 20000 in
theorem ggX3_collect_X3_checkKind : GoodIn wsX3_collect wsX3_checkKind := goodIn_ca (goodIn_r _ [6, 7, 8] (by decide +kernel) (by decide +kernel)) (goodIn_sub (fun _ h => List.mem_cons_of_mem _ (List.mem_append_left _ (List.mem_append_left _ (List.mem_append_right _ h)))) (by decide +kernel))
set_option maxRecDepth 20000 in
theorem gX3_collect_X3_checkKind : GoodIn wsX3_collect (wsV RX3 79 RX3 yX3_checkKind wsX3_checkKind) := goodIn_app (goodIn_of _ (by decide +kernel)) ggX3_collect_X3_checkKind
set_option maxRecDepth 20000 in
theorem ggX3_collect_X3_checkRange : GoodIn wsX3_collect wsX3_checkRange := goodIn_ca (goodIn_r _ [12, 13, 14] (by decide +kernel) (by decide +kernel)) (goodIn_sub (fun _ h => List.mem_cons_of_mem _ (List.mem_append_left _ (List.mem_append_right _ h))) (by decide +kernel))
set_option maxRecDepth 20000 in
theorem gX3_collect_X3_checkRange : GoodIn wsX3_collect (wsV RX3 68 RX3 yX3_checkRange wsX3_checkRange) := goodIn_app (goodIn_of _ (by decide +kernel)) ggX3_collect_X3_checkRange
set_option maxRecDepth 20000 in
theorem ggX3_collect_X3_checkWorkday : GoodIn wsX3_collect wsX3_checkWorkday := goodIn_ca (goodIn_r _ [18, 19, 20, 21, 22, 147, 148, 149, 150, 151, 152, 153, 154] (by decide +kernel) (by decide +kernel)) (goodIn_sub (fun _ h => List.mem_cons_of_mem _ (List.mem_append_right _ h)) (by decide +kernel))
set_option maxRecDepth 20000 in
theorem gX3_collect_X3_checkWorkday : GoodIn wsX3_collect (wsV RX3 152 RX3 yX3_checkWorkday wsX3_checkWorkday) := goodIn_app (goodIn_of _ (by decide +kernel)) ggX3_collect_X3_checkWorkday
set_option maxRecDepth 20000 in
theorem ggX3_collect_X3_planRoute : GoodIn wsX3_collect wsX3_planRoute := goodIn_r _ [26, 1, 27, 28, 22, 29, 30, 31, 32, 5, 33, 21, 34, 35, 36, 37, 38, 39, 40, 41, 42, 43, 44, 45, 46, 47, 48, 49, 50, 51, 52, 53, 54, 55, 56, 57, 58, 59, 60, 61, 62, 63, 64, 65, 66, 67, 68, 69, 70, 71, 72, 73, 74, 75, 76, 77, 78, 79, 80, 81, 82, 83, 84, 85, 86, 87, 147, 148, 149, 150, 151, 152, 153, 154, 155, 156, 157, 158, 159, 160, 161, 162, 163, 164, 165, 166, 167, 168, 169, 170] (by decide +kernel) (by decide +kernel)
set_option maxRecDepth 20000 in
theorem gX3_collect_X3_planRoute : GoodIn wsX3_collect (wsV RX3 147 RX3 yX3_planRoute wsX3_planRoute) := goodIn_app (goodIn_of _ (by decide +kernel)) ggX3_collect_X3_planRoute
set_option maxRecDepth 20000 in
theorem ggX3_collect_X3_makeTour : GoodIn wsX3_collect wsX3_makeTour := goodIn_r _ [91, 92, 93, 94, 81, 1, 27, 29, 28, 22, 95, 96, 97, 98, 99, 100, 101, 102, 103, 104, 105, 106, 107, 108, 109, 40, 41, 42, 37, 43, 39, 44, 45, 46, 47, 48, 49, 50, 51, 52, 53, 54, 55, 56, 110, 111, 112, 113, 114, 70, 71, 72, 115, 116, 117, 118, 119, 83, 84, 85, 86, 87, 120, 121, 122, 123, 124, 125, 126, 127, 128, 129, 130, 131, 132, 133, 134, 135, 136, 137, 138, 60, 139, 140, 141, 68, 142, 67, 143, 144, 145, 146, 171, 172, 173, 174, 175, 176, 177, 178, 147, 148, 149, 150, 151, 152, 153, 154, 165, 166, 167, 155, 156, 157, 158, 159, 160, 161, 162, 163, 164, 168, 169, 170] (by decide +kernel) (by decide +kernel)
set_option maxRecDepth 20000 in
theorem gX3_collect_X3_makeTour : GoodIn wsX3_collect (wsV RX3 155 RX3 yX3_makeTour wsX3_makeTour) := goodIn_app (goodIn_of _ (by decide +kernel)) ggX3_collect_X3_makeTour
theorem dX3_collect_0 : decode cX3_collect 0 = .ok (.aload_n 0, 1) := by decide +kernel
theorem dX3_collect_1 : decode cX3_collect 1 = .ok (.iload_n 1, 1) := by decide +kernel
theorem dX3_collect_2 : decode cX3_collect 2 = .ok (.invokevirtual 79, 3) := by decide +kernel
theorem dX3_collect_5 : decode cX3_collect 5 = .ok (.aload_n 0, 1) := by decide +kernel
theorem dX3_collect_6 : decode cX3_collect 6 = .ok (.iload_n 2, 1) := by decide +kernel
theorem dX3_collect_7 : decode cX3_collect 7 = .ok (.bipush 50, 2) := by decide +kernel
theorem dX3_collect_9 : decode cX3_collect 9 = .ok (.sipush 5000, 3) := by decide +kernel
theorem dX3_collect_12 : decode cX3_collect 12 = .ok (.invokevirtual 68, 3) := by decide +kernel
theorem dX3_collect_15 : decode cX3_collect 15 = .ok (.aload_n 0, 1) := by decide +kernel
theorem dX3_collect_16 : decode cX3_collect 16 = .ok (.invokevirtual 152, 3) := by decide +kernel
theorem dX3_collect_19 : decode cX3_collect 19 = .ok (.aload_n 0, 1) := by decide +kernel
theorem dX3_collect_20 : decode cX3_collect 20 = .ok (.iload_n 1, 1) := by decide +kernel
theorem dX3_collect_21 : decode cX3_collect 21 = .ok (.invokevirtual 147, 3) := by decide +kernel
theorem dX3_collect_24 : decode cX3_collect 24 = .ok (.aload_n 0, 1) := by decide +kernel
theorem dX3_collect_25 : decode cX3_collect 25 = .ok (.getfield 38, 3) := by decide +kernel
theorem dX3_collect_28 : decode cX3_collect 28 = .ok (.ifCond .ne 7, 3) := by decide +kernel
theorem dX3_collect_31 : decode cX3_collect 31 = .ok (.iconst 0, 1) := by decide +kernel
theorem dX3_collect_32 : decode cX3_collect 32 = .ok (.goto 9, 3) := by decide +kernel
theorem dX3_collect_35 : decode cX3_collect 35 = .ok (.aload_n 0, 1) := by decide +kernel
theorem dX3_collect_36 : decode cX3_collect 36 = .ok (.iload_n 1, 1) := by decide +kernel
theorem dX3_collect_37 : decode cX3_collect 37 = .ok (.iload_n 2, 1) := by decide +kernel
theorem dX3_collect_38 : decode cX3_collect 38 = .ok (.invokevirtual 155, 3) := by decide +kernel
theorem dX3_collect_41 : decode cX3_collect 41 = .ok (.ireturn, 1) := by decide +kernel
set_option maxRecDepth 20000 in
theorem ggX3_total_X3_checkKind : GoodIn wsX3_total wsX3_checkKind := goodIn_ca (goodIn_r _ [8, 1, 2] (by decide +kernel) (by decide +kernel)) (goodIn_sub (fun _ h => List.mem_cons_of_mem _ (List.mem_append_right _ h)) (by decide +kernel))
set_option maxRecDepth 20000 in
theorem gX3_total_X3_checkKind : GoodIn wsX3_total (wsV RX3 79 RX3 yX3_checkKind wsX3_checkKind) := goodIn_app (goodIn_of _ (by decide +kernel)) ggX3_total_X3_checkKind
theorem dX3_total_0 : decode cX3_total 0 = .ok (.aload_n 0, 1) := by decide +kernel
theorem dX3_total_1 : decode cX3_total 1 = .ok (.iload_n 1, 1) := by decide +kernel
theorem dX3_total_2 : decode cX3_total 2 = .ok (.invokevirtual 79, 3) := by decide +kernel
theorem dX3_total_5 : decode cX3_total 5 = .ok (.iload_n 2, 1) := by decide +kernel
theorem dX3_total_6 : decode cX3_total 6 = .ok (.ifCond .lt 8, 3) := by decide +kernel
theorem dX3_total_9 : decode cX3_total 9 = .ok (.iload_n 2, 1) := by decide +kernel
theorem dX3_total_10 : decode cX3_total 10 = .ok (.iconst 4, 1) := by decide +kernel
theorem dX3_total_11 : decode cX3_total 11 = .ok (.if_icmp .lt 13, 3) := by decide +kernel
theorem dX3_total_14 : decode cX3_total 14 = .ok (.new 96, 3) := by decide +kernel
theorem dX3_total_17 : decode cX3_total 17 = .ok (.dup, 1) := by decide +kernel
theorem dX3_total_18 : decode cX3_total 18 = .ok (.ldc 176, 2) := by decide +kernel
theorem dX3_total_20 : decode cX3_total 20 = .ok (.invokespecial 100, 3) := by decide +kernel
theorem dX3_total_23 : decode cX3_total 23 = .ok (.athrow, 1) := by decide +kernel
theorem dX3_total_24 : decode cX3_total 24 = .ok (.aload_n 0, 1) := by decide +kernel
theorem dX3_total_25 : decode cX3_total 25 = .ok (.getfield 27, 3) := by decide +kernel
theorem dX3_total_28 : decode cX3_total 28 = .ok (.iload_n 1, 1) := by decide +kernel
theorem dX3_total_29 : decode cX3_total 29 = .ok (.iconst 4, 1) := by decide +kernel
theorem dX3_total_30 : decode cX3_total 30 = .ok (.imul, 1) := by decide +kernel
theorem dX3_total_31 : decode cX3_total 31 = .ok (.iload_n 2, 1) := by decide +kernel
theorem dX3_total_32 : decode cX3_total 32 = .ok (.iadd, 1) := by decide +kernel
theorem dX3_total_33 : decode cX3_total 33 = .ok (.laload, 1) := by decide +kernel
theorem dX3_total_34 : decode cX3_total 34 = .ok (.lreturn, 1) := by decide +kernel
theorem dX3_checkPlace_0 : decode cX3_checkPlace 0 = .ok (.iload_n 1, 1) := by decide +kernel
theorem dX3_checkPlace_1 : decode cX3_checkPlace 1 = .ok (.ifCond .lt 14, 3) := by decide +kernel
theorem dX3_checkPlace_4 : decode cX3_checkPlace 4 = .ok (.iload_n 1, 1) := by decide +kernel
theorem dX3_checkPlace_5 : decode cX3_checkPlace 5 = .ok (.aload_n 0, 1) := by decide +kernel
theorem dX3_checkPlace_6 : decode cX3_checkPlace 6 = .ok (.getfield 12, 3) := by decide +kernel
theorem dX3_checkPlace_9 : decode cX3_checkPlace 9 = .ok (.getfield 45, 3) := by decide +kernel
theorem dX3_checkPlace_12 : decode cX3_checkPlace 12 = .ok (.if_icmp .lt 13, 3) := by decide +kernel
theorem dX3_checkPlace_15 : decode cX3_checkPlace 15 = .ok (.new 96, 3) := by decide +kernel
theorem dX3_checkPlace_18 : decode cX3_checkPlace 18 = .ok (.dup, 1) := by decide +kernel
theorem dX3_checkPlace_19 : decode cX3_checkPlace 19 = .ok (.ldc 204, 2) := by decide +kernel
theorem dX3_checkPlace_21 : decode cX3_checkPlace 21 = .ok (.invokespecial 100, 3) := by decide +kernel
theorem dX3_checkPlace_24 : decode cX3_checkPlace 24 = .ok (.athrow, 1) := by decide +kernel
theorem dX3_checkPlace_25 : decode cX3_checkPlace 25 = .ok (.return_, 1) := by decide +kernel
theorem dX3_checkKind_0 : decode cX3_checkKind 0 = .ok (.iload_n 1, 1) := by decide +kernel
theorem dX3_checkKind_1 : decode cX3_checkKind 1 = .ok (.ifCond .lt 8, 3) := by decide +kernel
theorem dX3_checkKind_4 : decode cX3_checkKind 4 = .ok (.iload_n 1, 1) := by decide +kernel
theorem dX3_checkKind_5 : decode cX3_checkKind 5 = .ok (.iconst 3, 1) := by decide +kernel
theorem dX3_checkKind_6 : decode cX3_checkKind 6 = .ok (.if_icmp .lt 13, 3) := by decide +kernel
theorem dX3_checkKind_9 : decode cX3_checkKind 9 = .ok (.new 96, 3) := by decide +kernel
theorem dX3_checkKind_12 : decode cX3_checkKind 12 = .ok (.dup, 1) := by decide +kernel
theorem dX3_checkKind_13 : decode cX3_checkKind 13 = .ok (.ldc 206, 2) := by decide +kernel
theorem dX3_checkKind_15 : decode cX3_checkKind 15 = .ok (.invokespecial 100, 3) := by decide +kernel
theorem dX3_checkKind_18 : decode cX3_checkKind 18 = .ok (.athrow, 1) := by decide +kernel
theorem dX3_checkKind_19 : decode cX3_checkKind 19 = .ok (.return_, 1) := by decide +kernel
set_option maxRecDepth 20000 in
theorem ggX3_checkBin_Jx4a65c_size_8abf5 : GoodIn wsX3_checkBin wsJx4a65c_size_8abf5 := goodIn_r _ [8, 9, 18, 19, 20] (by decide +kernel) (by decide +kernel)
set_option maxRecDepth 20000 in
theorem gX3_checkBin_Jx4a65c_size_8abf5 : GoodIn wsX3_checkBin (wsV RX3 108 RJx4a65c yJx4a65c_size_8abf5 wsJx4a65c_size_8abf5) := goodIn_app (goodIn_of _ (by decide +kernel)) ggX3_checkBin_Jx4a65c_size_8abf5
theorem dX3_checkBin_0 : decode cX3_checkBin 0 = .ok (.iload_n 1, 1) := by decide +kernel
theorem dX3_checkBin_1 : decode cX3_checkBin 1 = .ok (.ifCond .lt 14, 3) := by decide +kernel
theorem dX3_checkBin_4 : decode cX3_checkBin 4 = .ok (.iload_n 1, 1) := by decide +kernel
theorem dX3_checkBin_5 : decode cX3_checkBin 5 = .ok (.aload_n 0, 1) := by decide +kernel
theorem dX3_checkBin_6 : decode cX3_checkBin 6 = .ok (.getfield 19, 3) := by decide +kernel
theorem dX3_checkBin_9 : decode cX3_checkBin 9 = .ok (.invokevirtual 108, 3) := by decide +kernel
theorem dX3_checkBin_12 : decode cX3_checkBin 12 = .ok (.if_icmp .lt 13, 3) := by decide +kernel
theorem dX3_checkBin_15 : decode cX3_checkBin 15 = .ok (.new 96, 3) := by decide +kernel
theorem dX3_checkBin_18 : decode cX3_checkBin 18 = .ok (.dup, 1) := by decide +kernel
theorem dX3_checkBin_19 : decode cX3_checkBin 19 = .ok (.ldc 208, 2) := by decide +kernel
theorem dX3_checkBin_21 : decode cX3_checkBin 21 = .ok (.invokespecial 100, 3) := by decide +kernel
theorem dX3_checkBin_24 : decode cX3_checkBin 24 = .ok (.athrow, 1) := by decide +kernel
theorem dX3_checkBin_25 : decode cX3_checkBin 25 = .ok (.return_, 1) := by decide +kernel
theorem dX3_checkRange_0 : decode cX3_checkRange 0 = .ok (.iload_n 1, 1) := by decide +kernel
theorem dX3_checkRange_1 : decode cX3_checkRange 1 = .ok (.iload_n 2, 1) := by decide +kernel
theorem dX3_checkRange_2 : decode cX3_checkRange 2 = .ok (.if_icmp .lt 8, 3) := by decide +kernel
theorem dX3_checkRange_5 : decode cX3_checkRange 5 = .ok (.iload_n 1, 1) := by decide +kernel
theorem dX3_checkRange_6 : decode cX3_checkRange 6 = .ok (.iload_n 3, 1) := by decide +kernel
theorem dX3_checkRange_7 : decode cX3_checkRange 7 = .ok (.if_icmp .le 13, 3) := by decide +kernel
theorem dX3_checkRange_10 : decode cX3_checkRange 10 = .ok (.new 63, 3) := by decide +kernel
theorem dX3_checkRange_13 : decode cX3_checkRange 13 = .ok (.dup, 1) := by decide +kernel
theorem dX3_checkRange_14 : decode cX3_checkRange 14 = .ok (.ldc 210, 2) := by decide +kernel
theorem dX3_checkRange_16 : decode cX3_checkRange 16 = .ok (.invokespecial 67, 3) := by decide +kernel
theorem dX3_checkRange_19 : decode cX3_checkRange 19 = .ok (.athrow, 1) := by decide +kernel
theorem dX3_checkRange_20 : decode cX3_checkRange 20 = .ok (.return_, 1) := by decide +kernel
theorem dX3_checkWorkday_0 : decode cX3_checkWorkday 0 = .ok (.aload_n 0, 1) := by decide +kernel
theorem dX3_checkWorkday_1 : decode cX3_checkWorkday 1 = .ok (.getfield 23, 3) := by decide +kernel
theorem dX3_checkWorkday_4 : decode cX3_checkWorkday 4 = .ok (.aload_n 0, 1) := by decide +kernel
theorem dX3_checkWorkday_5 : decode cX3_checkWorkday 5 = .ok (.getfield 42, 3) := by decide +kernel
theorem dX3_checkWorkday_8 : decode cX3_checkWorkday 8 = .ok (.baload, 1) := by decide +kernel
theorem dX3_checkWorkday_9 : decode cX3_checkWorkday 9 = .ok (.ifCond .eq 13, 3) := by decide +kernel
theorem dX3_checkWorkday_12 : decode cX3_checkWorkday 12 = .ok (.new 48, 3) := by decide +kernel
theorem dX3_checkWorkday_15 : decode cX3_checkWorkday 15 = .ok (.dup, 1) := by decide +kernel
theorem dX3_checkWorkday_16 : decode cX3_checkWorkday 16 = .ok (.ldc 212, 2) := by decide +kernel
theorem dX3_checkWorkday_18 : decode cX3_checkWorkday 18 = .ok (.invokespecial 52, 3) := by decide +kernel
theorem dX3_checkWorkday_21 : decode cX3_checkWorkday 21 = .ok (.athrow, 1) := by decide +kernel
theorem dX3_checkWorkday_22 : decode cX3_checkWorkday 22 = .ok (.return_, 1) := by decide +kernel
set_option maxRecDepth 20000 in
theorem ggX3_passOneDay_Jx4a65c_size_8abf5 : GoodIn wsX3_passOneDay wsJx4a65c_size_8abf5 := goodIn_r _ [9, 10, 59, 60, 61] (by decide +kernel) (by decide +kernel)
set_option maxRecDepth 20000 in
theorem gX3_passOneDay_Jx4a65c_size_8abf5 : GoodIn wsX3_passOneDay (wsV RX3 108 RJx4a65c yJx4a65c_size_8abf5 wsJx4a65c_size_8abf5) := goodIn_app (goodIn_of _ (by decide +kernel)) ggX3_passOneDay_Jx4a65c_size_8abf5
set_option maxRecDepth 20000 in
theorem ggX3_passOneDay_Jx4a65c_get_915e3 : GoodIn wsX3_passOneDay wsJx4a65c_get_915e3 := goodIn_r _ [14, 10, 15, 16, 17, 18, 19, 20, 21, 22, 23, 24, 25, 8, 26, 27, 59, 60, 61] (by decide +kernel) (by decide +kernel)
set_option maxRecDepth 20000 in
theorem gX3_passOneDay_Jx4a65c_get_915e3 : GoodIn wsX3_passOneDay (wsV RX3 124 RJx4a65c yJx4a65c_get_915e3 wsJx4a65c_get_915e3) := goodIn_app (goodIn_of _ (by decide +kernel)) ggX3_passOneDay_Jx4a65c_get_915e3
set_option maxRecDepth 20000 in
theorem ggX3_passOneDay_X0_fill : GoodIn wsX3_passOneDay wsX0_fill := goodIn_r _ [32, 33, 34, 35, 36, 37, 38, 39, 40, 49, 50, 51, 52, 53, 54, 55, 56, 57, 58] (by decide +kernel) (by decide +kernel)
set_option maxRecDepth 20000 in
theorem gX3_passOneDay_X0_fill : GoodIn wsX3_passOneDay (wsV RX3 214 RX0 yX0_fill wsX0_fill) := goodIn_app (goodIn_of _ (by decide +kernel)) ggX3_passOneDay_X0_fill
theorem dX3_passOneDay_0 : decode cX3_passOneDay 0 = .ok (.aload_n 0, 1) := by decide +kernel
theorem dX3_passOneDay_1 : decode cX3_passOneDay 1 = .ok (.dup, 1) := by decide +kernel
theorem dX3_passOneDay_2 : decode cX3_passOneDay 2 = .ok (.getfield 42, 3) := by decide +kernel
theorem dX3_passOneDay_5 : decode cX3_passOneDay 5 = .ok (.iconst 1, 1) := by decide +kernel
theorem dX3_passOneDay_6 : decode cX3_passOneDay 6 = .ok (.iadd, 1) := by decide +kernel
theorem dX3_passOneDay_7 : decode cX3_passOneDay 7 = .ok (.putfield 42, 3) := by decide +kernel
theorem dX3_passOneDay_10 : decode cX3_passOneDay 10 = .ok (.iconst 0, 1) := by decide +kernel
theorem dX3_passOneDay_11 : decode cX3_passOneDay 11 = .ok (.istore_n 1, 1) := by decide +kernel
theorem dX3_passOneDay_12 : decode cX3_passOneDay 12 = .ok (.iconst 0, 1) := by decide +kernel
theorem dX3_passOneDay_13 : decode cX3_passOneDay 13 = .ok (.istore_n 2, 1) := by decide +kernel
theorem dX3_passOneDay_14 : decode cX3_passOneDay 14 = .ok (.iload_n 2, 1) := by decide +kernel
theorem dX3_passOneDay_15 : decode cX3_passOneDay 15 = .ok (.aload_n 0, 1) := by decide +kernel
theorem dX3_passOneDay_16 : decode cX3_passOneDay 16 = .ok (.getfield 19, 3) := by decide +kernel
theorem dX3_passOneDay_19 : decode cX3_passOneDay 19 = .ok (.invokevirtual 108, 3) := by decide +kernel
theorem dX3_passOneDay_22 : decode cX3_passOneDay 22 = .ok (.if_icmp .ge 55, 3) := by decide +kernel
theorem dX3_passOneDay_25 : decode cX3_passOneDay 25 = .ok (.aload_n 0, 1) := by decide +kernel
theorem dX3_passOneDay_26 : decode cX3_passOneDay 26 = .ok (.getfield 19, 3) := by decide +kernel
theorem dX3_passOneDay_29 : decode cX3_passOneDay 29 = .ok (.iload_n 2, 1) := by decide +kernel
theorem dX3_passOneDay_30 : decode cX3_passOneDay 30 = .ok (.invokevirtual 124, 3) := by decide +kernel
theorem dX3_passOneDay_33 : decode cX3_passOneDay 33 = .ok (.checkcast 113, 3) := by decide +kernel
theorem dX3_passOneDay_36 : decode cX3_passOneDay 36 = .ok (.astore_n 3, 1) := by decide +kernel
theorem dX3_passOneDay_37 : decode cX3_passOneDay 37 = .ok (.aload_n 3, 1) := by decide +kernel
theorem dX3_passOneDay_38 : decode cX3_passOneDay 38 = .ok (.invokevirtual 214, 3) := by decide +kernel
theorem dX3_passOneDay_41 : decode cX3_passOneDay 41 = .ok (.istore 4, 2) := by decide +kernel
theorem dX3_passOneDay_43 : decode cX3_passOneDay 43 = .ok (.aload_n 0, 1) := by decide +kernel
theorem dX3_passOneDay_44 : decode cX3_passOneDay 44 = .ok (.getfield 31, 3) := by decide +kernel
theorem dX3_passOneDay_47 : decode cX3_passOneDay 47 = .ok (.aload_n 3, 1) := by decide +kernel
theorem dX3_passOneDay_48 : decode cX3_passOneDay 48 = .ok (.getfield 158, 3) := by decide +kernel
theorem dX3_passOneDay_51 : decode cX3_passOneDay 51 = .ok (.dup2, 1) := by decide +kernel
theorem dX3_passOneDay_52 : decode cX3_passOneDay 52 = .ok (.laload, 1) := by decide +kernel
theorem dX3_passOneDay_53 : decode cX3_passOneDay 53 = .ok (.iload 4, 2) := by decide +kernel
theorem dX3_passOneDay_55 : decode cX3_passOneDay 55 = .ok (.i2l, 1) := by decide +kernel
theorem dX3_passOneDay_56 : decode cX3_passOneDay 56 = .ok (.ladd, 1) := by decide +kernel
theorem dX3_passOneDay_57 : decode cX3_passOneDay 57 = .ok (.lastore, 1) := by decide +kernel
theorem dX3_passOneDay_58 : decode cX3_passOneDay 58 = .ok (.iload_n 1, 1) := by decide +kernel
theorem dX3_passOneDay_59 : decode cX3_passOneDay 59 = .ok (.iload 4, 2) := by decide +kernel
theorem dX3_passOneDay_61 : decode cX3_passOneDay 61 = .ok (.ifCond .le 7, 3) := by decide +kernel
theorem dX3_passOneDay_64 : decode cX3_passOneDay 64 = .ok (.iconst 1, 1) := by decide +kernel
theorem dX3_passOneDay_65 : decode cX3_passOneDay 65 = .ok (.goto 4, 3) := by decide +kernel
theorem dX3_passOneDay_68 : decode cX3_passOneDay 68 = .ok (.iconst 0, 1) := by decide +kernel
theorem dX3_passOneDay_69 : decode cX3_passOneDay 69 = .ok (.iadd, 1) := by decide +kernel
theorem dX3_passOneDay_70 : decode cX3_passOneDay 70 = .ok (.istore_n 1, 1) := by decide +kernel
theorem dX3_passOneDay_71 : decode cX3_passOneDay 71 = .ok (.iinc 2 1, 3) := by decide +kernel
theorem dX3_passOneDay_74 : decode cX3_passOneDay 74 = .ok (.goto (-60), 3) := by decide +kernel
theorem dX3_passOneDay_77 : decode cX3_passOneDay 77 = .ok (.iload_n 1, 1) := by decide +kernel
theorem dX3_passOneDay_78 : decode cX3_passOneDay 78 = .ok (.ireturn, 1) := by decide +kernel
set_option maxRecDepth 20000 in
theorem ggX3_planRoute_X3_nextWorkday : GoodIn wsX3_planRoute wsX3_nextWorkday := goodIn_r _ [10, 4, 11, 66, 67, 68, 69, 70, 71, 72, 73] (by decide +kernel) (by decide +kernel)
set_option maxRecDepth 20000 in
theorem gX3_planRoute_X3_nextWorkday : GoodIn wsX3_planRoute (wsV RX3 217 RX3 yX3_nextWorkday wsX3_nextWorkday) := goodIn_app (goodIn_of _ (by decide +kernel)) ggX3_planRoute_X3_nextWorkday
set_option maxRecDepth 20000 in
theorem ggX3_planRoute_Jx4a65c_size_8abf5 : GoodIn wsX3_planRoute wsJx4a65c_size_8abf5 := goodIn_r _ [16, 17, 84, 85, 86] (by decide +kernel) (by decide +kernel)
set_option maxRecDepth 20000 in
theorem gX3_planRoute_Jx4a65c_size_8abf5 : GoodIn wsX3_planRoute (wsV RX3 108 RJx4a65c yJx4a65c_size_8abf5 wsJx4a65c_size_8abf5) := goodIn_app (goodIn_of _ (by decide +kernel)) ggX3_planRoute_Jx4a65c_size_8abf5
set_option maxRecDepth 20000 in
theorem ggX3_planRoute_Jx4a65c_get_915e3 : GoodIn wsX3_planRoute wsJx4a65c_get_915e3 := goodIn_r _ [21, 17, 22, 23, 24, 25, 26, 27, 28, 29, 30, 31, 32, 15, 33, 34, 84, 85, 86] (by decide +kernel) (by decide +kernel)
set_option maxRecDepth 20000 in
theorem gX3_planRoute_Jx4a65c_get_915e3 : GoodIn wsX3_planRoute (wsV RX3 124 RJx4a65c yJx4a65c_get_915e3 wsJx4a65c_get_915e3) := goodIn_app (goodIn_of _ (by decide +kernel)) ggX3_planRoute_Jx4a65c_get_915e3
set_option maxRecDepth 20000 in
theorem ggX3_planRoute_X0_isDue : GoodIn wsX3_planRoute wsX0_isDue := goodIn_r _ [39, 40, 41, 42, 43, 38, 44, 45, 46, 47, 48, 49, 50, 51, 52, 53, 54, 74, 75, 76, 77, 78, 79, 80, 81, 82, 83] (by decide +kernel) (by decide +kernel)
set_option maxRecDepth 20000 in
theorem gX3_planRoute_X0_isDue : GoodIn wsX3_planRoute (wsV RX3 220 RX0 yX0_isDue wsX0_isDue) := goodIn_app (goodIn_of _ (by decide +kernel)) ggX3_planRoute_X0_isDue
set_option maxRecDepth 20000 in
theorem ggX3_planRoute_X3_nearestStop : GoodIn wsX3_planRoute wsX3_nearestStop := goodIn_r _ [58, 59, 2, 5, 3, 1, 18, 19, 20, 15, 21, 17, 22, 23, 24, 25, 26, 27, 28, 29, 30, 31, 32, 33, 34, 60, 61, 62, 63, 64, 65, 66, 67, 68, 69, 70, 71, 72, 73, 74, 75, 76, 77, 78, 79, 80, 81, 82, 83, 84, 85, 86, 87, 88, 89] (by decide +kernel) (by decide +kernel)
set_option maxRecDepth 20000 in
theorem gX3_planRoute_X3_nearestStop : GoodIn wsX3_planRoute (wsV RX3 223 RX3 yX3_nearestStop wsX3_nearestStop) := goodIn_app (goodIn_of _ (by decide +kernel)) ggX3_planRoute_X3_nearestStop
theorem dX3_planRoute_0 : decode cX3_planRoute 0 = .ok (.aload_n 0, 1) := by decide +kernel
theorem dX3_planRoute_1 : decode cX3_planRoute 1 = .ok (.invokevirtual 217, 3) := by decide +kernel
theorem dX3_planRoute_4 : decode cX3_planRoute 4 = .ok (.istore_n 2, 1) := by decide +kernel
theorem dX3_planRoute_5 : decode cX3_planRoute 5 = .ok (.aload_n 0, 1) := by decide +kernel
theorem dX3_planRoute_6 : decode cX3_planRoute 6 = .ok (.iconst 0, 1) := by decide +kernel
theorem dX3_planRoute_7 : decode cX3_planRoute 7 = .ok (.putfield 38, 3) := by decide +kernel
theorem dX3_planRoute_10 : decode cX3_planRoute 10 = .ok (.iconst 0, 1) := by decide +kernel
theorem dX3_planRoute_11 : decode cX3_planRoute 11 = .ok (.istore_n 3, 1) := by decide +kernel
theorem dX3_planRoute_12 : decode cX3_planRoute 12 = .ok (.iload_n 3, 1) := by decide +kernel
theorem dX3_planRoute_13 : decode cX3_planRoute 13 = .ok (.aload_n 0, 1) := by decide +kernel
theorem dX3_planRoute_14 : decode cX3_planRoute 14 = .ok (.getfield 19, 3) := by decide +kernel
theorem dX3_planRoute_17 : decode cX3_planRoute 17 = .ok (.invokevirtual 108, 3) := by decide +kernel
theorem dX3_planRoute_20 : decode cX3_planRoute 20 = .ok (.if_icmp .ge 64, 3) := by decide +kernel
theorem dX3_planRoute_23 : decode cX3_planRoute 23 = .ok (.aload_n 0, 1) := by decide +kernel
theorem dX3_planRoute_24 : decode cX3_planRoute 24 = .ok (.getfield 19, 3) := by decide +kernel
theorem dX3_planRoute_27 : decode cX3_planRoute 27 = .ok (.iload_n 3, 1) := by decide +kernel
theorem dX3_planRoute_28 : decode cX3_planRoute 28 = .ok (.invokevirtual 124, 3) := by decide +kernel
theorem dX3_planRoute_31 : decode cX3_planRoute 31 = .ok (.checkcast 113, 3) := by decide +kernel
theorem dX3_planRoute_34 : decode cX3_planRoute 34 = .ok (.astore 4, 2) := by decide +kernel
theorem dX3_planRoute_36 : decode cX3_planRoute 36 = .ok (.aload 4, 2) := by decide +kernel
theorem dX3_planRoute_38 : decode cX3_planRoute 38 = .ok (.getfield 158, 3) := by decide +kernel
theorem dX3_planRoute_41 : decode cX3_planRoute 41 = .ok (.iload_n 1, 1) := by decide +kernel
theorem dX3_planRoute_42 : decode cX3_planRoute 42 = .ok (.if_icmp .ne 36, 3) := by decide +kernel
theorem dX3_planRoute_45 : decode cX3_planRoute 45 = .ok (.aload 4, 2) := by decide +kernel
theorem dX3_planRoute_47 : decode cX3_planRoute 47 = .ok (.aload_n 0, 1) := by decide +kernel
theorem dX3_planRoute_48 : decode cX3_planRoute 48 = .ok (.getfield 42, 3) := by decide +kernel
theorem dX3_planRoute_51 : decode cX3_planRoute 51 = .ok (.iload_n 2, 1) := by decide +kernel
theorem dX3_planRoute_52 : decode cX3_planRoute 52 = .ok (.invokevirtual 220, 3) := by decide +kernel
theorem dX3_planRoute_55 : decode cX3_planRoute 55 = .ok (.ifCond .eq 23, 3) := by decide +kernel
theorem dX3_planRoute_58 : decode cX3_planRoute 58 = .ok (.aload_n 0, 1) := by decide +kernel
theorem dX3_planRoute_59 : decode cX3_planRoute 59 = .ok (.getfield 34, 3) := by decide +kernel
theorem dX3_planRoute_62 : decode cX3_planRoute 62 = .ok (.aload_n 0, 1) := by decide +kernel
theorem dX3_planRoute_63 : decode cX3_planRoute 63 = .ok (.getfield 38, 3) := by decide +kernel
theorem dX3_planRoute_66 : decode cX3_planRoute 66 = .ok (.iload_n 3, 1) := by decide +kernel
theorem dX3_planRoute_67 : decode cX3_planRoute 67 = .ok (.iastore, 1) := by decide +kernel
theorem dX3_planRoute_68 : decode cX3_planRoute 68 = .ok (.aload_n 0, 1) := by decide +kernel
theorem dX3_planRoute_69 : decode cX3_planRoute 69 = .ok (.dup, 1) := by decide +kernel
theorem dX3_planRoute_70 : decode cX3_planRoute 70 = .ok (.getfield 38, 3) := by decide +kernel
theorem dX3_planRoute_73 : decode cX3_planRoute 73 = .ok (.iconst 1, 1) := by decide +kernel
theorem dX3_planRoute_74 : decode cX3_planRoute 74 = .ok (.iadd, 1) := by decide +kernel
theorem dX3_planRoute_75 : decode cX3_planRoute 75 = .ok (.putfield 38, 3) := by decide +kernel
theorem dX3_planRoute_78 : decode cX3_planRoute 78 = .ok (.iinc 3 1, 3) := by decide +kernel
theorem dX3_planRoute_81 : decode cX3_planRoute 81 = .ok (.goto (-69), 3) := by decide +kernel
theorem dX3_planRoute_84 : decode cX3_planRoute 84 = .ok (.iconst 0, 1) := by decide +kernel
theorem dX3_planRoute_85 : decode cX3_planRoute 85 = .ok (.istore_n 3, 1) := by decide +kernel
theorem dX3_planRoute_86 : decode cX3_planRoute 86 = .ok (.iconst 0, 1) := by decide +kernel
theorem dX3_planRoute_87 : decode cX3_planRoute 87 = .ok (.istore 4, 2) := by decide +kernel
theorem dX3_planRoute_89 : decode cX3_planRoute 89 = .ok (.iload 4, 2) := by decide +kernel
theorem dX3_planRoute_91 : decode cX3_planRoute 91 = .ok (.aload_n 0, 1) := by decide +kernel
theorem dX3_planRoute_92 : decode cX3_planRoute 92 = .ok (.getfield 38, 3) := by decide +kernel
theorem dX3_planRoute_95 : decode cX3_planRoute 95 = .ok (.if_icmp .ge 66, 3) := by decide +kernel
theorem dX3_planRoute_98 : decode cX3_planRoute 98 = .ok (.aload_n 0, 1) := by decide +kernel
theorem dX3_planRoute_99 : decode cX3_planRoute 99 = .ok (.iload 4, 2) := by decide +kernel
theorem dX3_planRoute_101 : decode cX3_planRoute 101 = .ok (.iload_n 3, 1) := by decide +kernel
theorem dX3_planRoute_102 : decode cX3_planRoute 102 = .ok (.invokevirtual 223, 3) := by decide +kernel
theorem dX3_planRoute_105 : decode cX3_planRoute 105 = .ok (.istore 5, 2) := by decide +kernel
theorem dX3_planRoute_107 : decode cX3_planRoute 107 = .ok (.aload_n 0, 1) := by decide +kernel
theorem dX3_planRoute_108 : decode cX3_planRoute 108 = .ok (.getfield 34, 3) := by decide +kernel
theorem dX3_planRoute_111 : decode cX3_planRoute 111 = .ok (.iload 5, 2) := by decide +kernel
theorem dX3_planRoute_113 : decode cX3_planRoute 113 = .ok (.iaload, 1) := by decide +kernel
theorem dX3_planRoute_114 : decode cX3_planRoute 114 = .ok (.istore 6, 2) := by decide +kernel
theorem dX3_planRoute_116 : decode cX3_planRoute 116 = .ok (.aload_n 0, 1) := by decide +kernel
theorem dX3_planRoute_117 : decode cX3_planRoute 117 = .ok (.getfield 34, 3) := by decide +kernel
theorem dX3_planRoute_120 : decode cX3_planRoute 120 = .ok (.iload 5, 2) := by decide +kernel
theorem dX3_planRoute_122 : decode cX3_planRoute 122 = .ok (.aload_n 0, 1) := by decide +kernel
theorem dX3_planRoute_123 : decode cX3_planRoute 123 = .ok (.getfield 34, 3) := by decide +kernel
theorem dX3_planRoute_126 : decode cX3_planRoute 126 = .ok (.iload 4, 2) := by decide +kernel
theorem dX3_planRoute_128 : decode cX3_planRoute 128 = .ok (.iaload, 1) := by decide +kernel
theorem dX3_planRoute_129 : decode cX3_planRoute 129 = .ok (.iastore, 1) := by decide +kernel
theorem dX3_planRoute_130 : decode cX3_planRoute 130 = .ok (.aload_n 0, 1) := by decide +kernel
theorem dX3_planRoute_131 : decode cX3_planRoute 131 = .ok (.getfield 34, 3) := by decide +kernel
theorem dX3_planRoute_134 : decode cX3_planRoute 134 = .ok (.iload 4, 2) := by decide +kernel
theorem dX3_planRoute_136 : decode cX3_planRoute 136 = .ok (.iload 6, 2) := by decide +kernel
theorem dX3_planRoute_138 : decode cX3_planRoute 138 = .ok (.iastore, 1) := by decide +kernel
theorem dX3_planRoute_139 : decode cX3_planRoute 139 = .ok (.aload_n 0, 1) := by decide +kernel
theorem dX3_planRoute_140 : decode cX3_planRoute 140 = .ok (.getfield 19, 3) := by decide +kernel
theorem dX3_planRoute_143 : decode cX3_planRoute 143 = .ok (.iload 6, 2) := by decide +kernel
theorem dX3_planRoute_145 : decode cX3_planRoute 145 = .ok (.invokevirtual 124, 3) := by decide +kernel
theorem dX3_planRoute_148 : decode cX3_planRoute 148 = .ok (.checkcast 113, 3) := by decide +kernel
theorem dX3_planRoute_151 : decode cX3_planRoute 151 = .ok (.getfield 226, 3) := by decide +kernel
theorem dX3_planRoute_154 : decode cX3_planRoute 154 = .ok (.istore_n 3, 1) := by decide +kernel
theorem dX3_planRoute_155 : decode cX3_planRoute 155 = .ok (.iinc 4 1, 3) := by decide +kernel
theorem dX3_planRoute_158 : decode cX3_planRoute 158 = .ok (.goto (-69), 3) := by decide +kernel
theorem dX3_planRoute_161 : decode cX3_planRoute 161 = .ok (.return_, 1) := by decide +kernel
set_option maxRecDepth 20000 in
theorem ggX3_nearestStop_Jx4a65c_get_915e3 : GoodIn wsX3_nearestStop wsJx4a65c_get_915e3 := goodIn_r _ [10, 11, 12, 13, 14, 15, 16, 17, 18, 19, 20, 21, 22, 9, 23, 24, 49, 50, 51] (by decide +kernel) (by decide +kernel)
set_option maxRecDepth 20000 in
theorem gX3_nearestStop_Jx4a65c_get_915e3 : GoodIn wsX3_nearestStop (wsV RX3 124 RJx4a65c yJx4a65c_get_915e3 wsJx4a65c_get_915e3) := goodIn_app (goodIn_of _ (by decide +kernel)) ggX3_nearestStop_Jx4a65c_get_915e3
set_option maxRecDepth 20000 in
theorem ggX3_nearestStop_X1_between : GoodIn wsX3_nearestStop wsX1_between := goodIn_r _ [29, 30, 52, 53, 54] (by decide +kernel) (by decide +kernel)
set_option maxRecDepth 20000 in
theorem gX3_nearestStop_X1_between : GoodIn wsX3_nearestStop (wsV RX3 72 RX1 yX1_between wsX1_between) := goodIn_app (goodIn_of _ (by decide +kernel)) ggX3_nearestStop_X1_between
theorem dX3_nearestStop_0 : decode cX3_nearestStop 0 = .ok (.iload_n 1, 1) := by decide +kernel
theorem dX3_nearestStop_1 : decode cX3_nearestStop 1 = .ok (.istore_n 3, 1) := by decide +kernel
theorem dX3_nearestStop_2 : decode cX3_nearestStop 2 = .ok (.aload_n 0, 1) := by decide +kernel
theorem dX3_nearestStop_3 : decode cX3_nearestStop 3 = .ok (.getfield 12, 3) := by decide +kernel
theorem dX3_nearestStop_6 : decode cX3_nearestStop 6 = .ok (.iload_n 2, 1) := by decide +kernel
theorem dX3_nearestStop_7 : decode cX3_nearestStop 7 = .ok (.aload_n 0, 1) := by decide +kernel
theorem dX3_nearestStop_8 : decode cX3_nearestStop 8 = .ok (.getfield 19, 3) := by decide +kernel
theorem dX3_nearestStop_11 : decode cX3_nearestStop 11 = .ok (.aload_n 0, 1) := by decide +kernel
theorem dX3_nearestStop_12 : decode cX3_nearestStop 12 = .ok (.getfield 34, 3) := by decide +kernel
theorem dX3_nearestStop_15 : decode cX3_nearestStop 15 = .ok (.iload_n 1, 1) := by decide +kernel
theorem dX3_nearestStop_16 : decode cX3_nearestStop 16 = .ok (.iaload, 1) := by decide +kernel
theorem dX3_nearestStop_17 : decode cX3_nearestStop 17 = .ok (.invokevirtual 124, 3) := by decide +kernel
theorem dX3_nearestStop_20 : decode cX3_nearestStop 20 = .ok (.checkcast 113, 3) := by decide +kernel
theorem dX3_nearestStop_23 : decode cX3_nearestStop 23 = .ok (.getfield 226, 3) := by decide +kernel
theorem dX3_nearestStop_26 : decode cX3_nearestStop 26 = .ok (.invokevirtual 72, 3) := by decide +kernel
theorem dX3_nearestStop_29 : decode cX3_nearestStop 29 = .ok (.istore 4, 2) := by decide +kernel
theorem dX3_nearestStop_31 : decode cX3_nearestStop 31 = .ok (.iload_n 1, 1) := by decide +kernel
theorem dX3_nearestStop_32 : decode cX3_nearestStop 32 = .ok (.iconst 1, 1) := by decide +kernel
theorem dX3_nearestStop_33 : decode cX3_nearestStop 33 = .ok (.iadd, 1) := by decide +kernel
theorem dX3_nearestStop_34 : decode cX3_nearestStop 34 = .ok (.istore 5, 2) := by decide +kernel
theorem dX3_nearestStop_36 : decode cX3_nearestStop 36 = .ok (.iload 5, 2) := by decide +kernel
theorem dX3_nearestStop_38 : decode cX3_nearestStop 38 = .ok (.aload_n 0, 1) := by decide +kernel
theorem dX3_nearestStop_39 : decode cX3_nearestStop 39 = .ok (.getfield 38, 3) := by decide +kernel
theorem dX3_nearestStop_42 : decode cX3_nearestStop 42 = .ok (.if_icmp .ge 76, 3) := by decide +kernel
theorem dX3_nearestStop_45 : decode cX3_nearestStop 45 = .ok (.aload_n 0, 1) := by decide +kernel
theorem dX3_nearestStop_46 : decode cX3_nearestStop 46 = .ok (.getfield 12, 3) := by decide +kernel
theorem dX3_nearestStop_49 : decode cX3_nearestStop 49 = .ok (.iload_n 2, 1) := by decide +kernel
theorem dX3_nearestStop_50 : decode cX3_nearestStop 50 = .ok (.aload_n 0, 1) := by decide +kernel
theorem dX3_nearestStop_51 : decode cX3_nearestStop 51 = .ok (.getfield 19, 3) := by decide +kernel
theorem dX3_nearestStop_54 : decode cX3_nearestStop 54 = .ok (.aload_n 0, 1) := by decide +kernel
theorem dX3_nearestStop_55 : decode cX3_nearestStop 55 = .ok (.getfield 34, 3) := by decide +kernel
theorem dX3_nearestStop_58 : decode cX3_nearestStop 58 = .ok (.iload 5, 2) := by decide +kernel
theorem dX3_nearestStop_60 : decode cX3_nearestStop 60 = .ok (.iaload, 1) := by decide +kernel
theorem dX3_nearestStop_61 : decode cX3_nearestStop 61 = .ok (.invokevirtual 124, 3) := by decide +kernel
theorem dX3_nearestStop_64 : decode cX3_nearestStop 64 = .ok (.checkcast 113, 3) := by decide +kernel
theorem dX3_nearestStop_67 : decode cX3_nearestStop 67 = .ok (.getfield 226, 3) := by decide +kernel
theorem dX3_nearestStop_70 : decode cX3_nearestStop 70 = .ok (.invokevirtual 72, 3) := by decide +kernel
theorem dX3_nearestStop_73 : decode cX3_nearestStop 73 = .ok (.istore 6, 2) := by decide +kernel
theorem dX3_nearestStop_75 : decode cX3_nearestStop 75 = .ok (.iload 6, 2) := by decide +kernel
theorem dX3_nearestStop_77 : decode cX3_nearestStop 77 = .ok (.iload 4, 2) := by decide +kernel
theorem dX3_nearestStop_79 : decode cX3_nearestStop 79 = .ok (.if_icmp .lt 26, 3) := by decide +kernel
theorem dX3_nearestStop_82 : decode cX3_nearestStop 82 = .ok (.iload 6, 2) := by decide +kernel
theorem dX3_nearestStop_84 : decode cX3_nearestStop 84 = .ok (.iload 4, 2) := by decide +kernel
theorem dX3_nearestStop_86 : decode cX3_nearestStop 86 = .ok (.if_icmp .ne 26, 3) := by decide +kernel
theorem dX3_nearestStop_89 : decode cX3_nearestStop 89 = .ok (.aload_n 0, 1) := by decide +kernel
theorem dX3_nearestStop_90 : decode cX3_nearestStop 90 = .ok (.getfield 34, 3) := by decide +kernel
theorem dX3_nearestStop_93 : decode cX3_nearestStop 93 = .ok (.iload 5, 2) := by decide +kernel
theorem dX3_nearestStop_95 : decode cX3_nearestStop 95 = .ok (.iaload, 1) := by decide +kernel
theorem dX3_nearestStop_96 : decode cX3_nearestStop 96 = .ok (.aload_n 0, 1) := by decide +kernel
theorem dX3_nearestStop_97 : decode cX3_nearestStop 97 = .ok (.getfield 34, 3) := by decide +kernel
theorem dX3_nearestStop_100 : decode cX3_nearestStop 100 = .ok (.iload_n 3, 1) := by decide +kernel
theorem dX3_nearestStop_101 : decode cX3_nearestStop 101 = .ok (.iaload, 1) := by decide +kernel
theorem dX3_nearestStop_102 : decode cX3_nearestStop 102 = .ok (.if_icmp .ge 10, 3) := by decide +kernel
theorem dX3_nearestStop_105 : decode cX3_nearestStop 105 = .ok (.iload 5, 2) := by decide +kernel
theorem dX3_nearestStop_107 : decode cX3_nearestStop 107 = .ok (.istore_n 3, 1) := by decide +kernel
theorem dX3_nearestStop_108 : decode cX3_nearestStop 108 = .ok (.iload 6, 2) := by decide +kernel
theorem dX3_nearestStop_110 : decode cX3_nearestStop 110 = .ok (.istore 4, 2) := by decide +kernel
theorem dX3_nearestStop_112 : decode cX3_nearestStop 112 = .ok (.iinc 5 1, 3) := by decide +kernel
theorem dX3_nearestStop_115 : decode cX3_nearestStop 115 = .ok (.goto (-79), 3) := by decide +kernel
theorem dX3_nearestStop_118 : decode cX3_nearestStop 118 = .ok (.iload_n 3, 1) := by decide +kernel
theorem dX3_nearestStop_119 : decode cX3_nearestStop 119 = .ok (.ireturn, 1) := by decide +kernel
set_option maxRecDepth 20000 in
theorem ggX3_makeTour_X2_init : GoodIn wsX3_makeTour wsX2_init := goodIn_r _ [13, 14, 15, 16, 17, 18, 19, 20, 21, 22, 23, 24, 92, 93, 94, 95, 96, 97, 98, 99] (by decide +kernel) (by decide +kernel)
set_option maxRecDepth 20000 in
theorem gX3_makeTour_X2_init : GoodIn wsX3_makeTour (wsX2_init) := ggX3_makeTour_X2_init
set_option maxRecDepth 20000 in
theorem ggX3_makeTour_Jx4a65c_get_915e3 : GoodIn wsX3_makeTour wsJx4a65c_get_915e3 := goodIn_r _ [29, 30, 31, 32, 33, 34, 35, 36, 37, 38, 39, 40, 41, 28, 42, 43, 108, 109, 110] (by decide +kernel) (by decide +kernel)
set_option maxRecDepth 20000 in
theorem gX3_makeTour_Jx4a65c_get_915e3 : GoodIn wsX3_makeTour (wsV RX3 124 RJx4a65c yJx4a65c_get_915e3 wsJx4a65c_get_915e3) := goodIn_app (goodIn_of _ (by decide +kernel)) ggX3_makeTour_Jx4a65c_get_915e3
set_option maxRecDepth 20000 in
theorem ggX3_makeTour_X2_visit : GoodIn wsX3_makeTour wsX2_visit := goodIn_r _ [47, 22, 21, 19, 20, 48, 49, 50, 51, 52, 53, 54, 3, 55, 17, 56, 57, 58, 59, 60, 61, 62, 63, 64, 65, 18, 23, 24, 66, 67, 68, 69, 70, 71, 72, 73, 74, 75, 76, 77, 111, 112, 113, 114, 115, 116, 117, 118, 119, 120, 92, 93, 94, 95, 96, 97, 98, 99, 121, 122, 123] (by decide +kernel) (by decide +kernel)
set_option maxRecDepth 20000 in
theorem gX3_makeTour_X2_visit : GoodIn wsX3_makeTour (wsV RX3 166 RX2 yX2_visit wsX2_visit) := goodIn_app (goodIn_of _ (by decide +kernel)) ggX3_makeTour_X2_visit
set_option maxRecDepth 20000 in
theorem ggX3_makeTour_X0_endVisit : GoodIn wsX3_makeTour wsX0_endVisit := goodIn_r _ [82, 83, 84, 85, 86, 87, 111, 112, 113, 114, 115, 116, 117, 118, 119, 120] (by decide +kernel) (by decide +kernel)
set_option maxRecDepth 20000 in
theorem gX3_makeTour_X0_endVisit : GoodIn wsX3_makeTour (wsV RX3 229 RX0 yX0_endVisit wsX0_endVisit) := goodIn_app (goodIn_of _ (by decide +kernel)) ggX3_makeTour_X0_endVisit
set_option maxRecDepth 20000 in
theorem ggX3_makeTour_X2_end : GoodIn wsX3_makeTour wsX2_end := goodIn_r _ [91, 21, 62, 63, 64, 3, 65, 22, 17, 18, 20, 23, 24, 66, 67, 68, 59, 69, 70, 71, 49, 50, 51, 72, 73, 74, 75, 76, 77, 57, 58, 60, 61, 52, 53, 54, 55, 56, 92, 93, 94, 95, 96, 97, 98, 99, 121, 122, 123] (by decide +kernel) (by decide +kernel)
set_option maxRecDepth 20000 in
theorem gX3_makeTour_X2_end : GoodIn wsX3_makeTour (wsV RX3 170 RX2 yX2_end wsX2_end) := goodIn_app (goodIn_of _ (by decide +kernel)) ggX3_makeTour_X2_end
theorem dX3_makeTour_0 : decode cX3_makeTour 0 = .ok (.new 161, 3) := by decide +kernel
theorem dX3_makeTour_3 : decode cX3_makeTour 3 = .ok (.dup, 1) := by decide +kernel
theorem dX3_makeTour_4 : decode cX3_makeTour 4 = .ok (.aload_n 0, 1) := by decide +kernel
theorem dX3_makeTour_5 : decode cX3_makeTour 5 = .ok (.getfield 12, 3) := by decide +kernel
theorem dX3_makeTour_8 : decode cX3_makeTour 8 = .ok (.iload_n 1, 1) := by decide +kernel
theorem dX3_makeTour_9 : decode cX3_makeTour 9 = .ok (.iload_n 2, 1) := by decide +kernel
theorem dX3_makeTour_10 : decode cX3_makeTour 10 = .ok (.invokespecial 163, 3) := by decide +kernel
theorem dX3_makeTour_13 : decode cX3_makeTour 13 = .ok (.astore_n 3, 1) := by decide +kernel
theorem dX3_makeTour_14 : decode cX3_makeTour 14 = .ok (.iconst 0, 1) := by decide +kernel
theorem dX3_makeTour_15 : decode cX3_makeTour 15 = .ok (.istore 4, 2) := by decide +kernel
theorem dX3_makeTour_17 : decode cX3_makeTour 17 = .ok (.iload 4, 2) := by decide +kernel
theorem dX3_makeTour_19 : decode cX3_makeTour 19 = .ok (.aload_n 0, 1) := by decide +kernel
theorem dX3_makeTour_20 : decode cX3_makeTour 20 = .ok (.getfield 38, 3) := by decide +kernel
theorem dX3_makeTour_23 : decode cX3_makeTour 23 = .ok (.if_icmp .ge 47, 3) := by decide +kernel
theorem dX3_makeTour_26 : decode cX3_makeTour 26 = .ok (.aload_n 0, 1) := by decide +kernel
theorem dX3_makeTour_27 : decode cX3_makeTour 27 = .ok (.getfield 19, 3) := by decide +kernel
theorem dX3_makeTour_30 : decode cX3_makeTour 30 = .ok (.aload_n 0, 1) := by decide +kernel
theorem dX3_makeTour_31 : decode cX3_makeTour 31 = .ok (.getfield 34, 3) := by decide +kernel
theorem dX3_makeTour_34 : decode cX3_makeTour 34 = .ok (.iload 4, 2) := by decide +kernel
theorem dX3_makeTour_36 : decode cX3_makeTour 36 = .ok (.iaload, 1) := by decide +kernel
theorem dX3_makeTour_37 : decode cX3_makeTour 37 = .ok (.invokevirtual 124, 3) := by decide +kernel
