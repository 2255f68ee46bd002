set_option maxRecDepth 20000 in
theorem gX10_tipAt_X10_requireIndex : GoodIn wsX10_tipAt (va_wsS RX10 391 yX10_requireIndex wsX10_requireIndex) := goodIn_app (goodIn_of _ (by decide +kernel)) ggX10_tipAt_X10_requireIndex
set_option maxRecDepth 20000 in
theorem ggX10_tipAt_Jx4a65c_get_915e3 : GoodIn wsX10_tipAt wsJx4a65c_get_915e3 := goodIn_r _ [18, 8, 19, 20, 21, 22, 23, 24, 25, 26, 27, 28, 29, 6, 30, 31, 43, 44, 45] (by decide +kernel) (by decide +kernel)
set_option maxRecDepth 20000 in
theorem gX10_tipAt_Jx4a65c_get_915e3 : GoodIn wsX10_tipAt (wsV RX10 249 RJx4a65c yJx4a65c_get_915e3 wsJx4a65c_get_915e3) := goodIn_app (goodIn_of _ (by decide +kernel)) ggX10_tipAt_Jx4a65c_get_915e3
theorem dX10_tipAt_0 : decode cX10_tipAt 0 = .ok (.iload_n 1, 1) := by decide +kernel
theorem dX10_tipAt_1 : decode cX10_tipAt 1 = .ok (.aload_n 0, 1) := by decide +kernel
theorem dX10_tipAt_2 : decode cX10_tipAt 2 = .ok (.getfield 25, 3) := by decide +kernel
theorem dX10_tipAt_5 : decode cX10_tipAt 5 = .ok (.invokevirtual 59, 3) := by decide +kernel
theorem dX10_tipAt_8 : decode cX10_tipAt 8 = .ok (.invokestatic 391, 3) := by decide +kernel
theorem dX10_tipAt_11 : decode cX10_tipAt 11 = .ok (.aload_n 0, 1) := by decide +kernel
theorem dX10_tipAt_12 : decode cX10_tipAt 12 = .ok (.getfield 25, 3) := by decide +kernel
theorem dX10_tipAt_15 : decode cX10_tipAt 15 = .ok (.iload_n 1, 1) := by decide +kernel
theorem dX10_tipAt_16 : decode cX10_tipAt 16 = .ok (.invokevirtual 249, 3) := by decide +kernel
theorem dX10_tipAt_19 : decode cX10_tipAt 19 = .ok (.checkcast 199, 3) := by decide +kernel
theorem dX10_tipAt_22 : decode cX10_tipAt 22 = .ok (.areturn, 1) := by decide +kernel
set_option maxRecDepth 20000 in
theorem ggX10_roundDay_X7_hasRoundIn : GoodIn wsX10_roundDay wsX7_hasRoundIn := goodIn_r _ [6, 7, 34, 35] (by decide +kernel) (by decide +kernel)
set_option maxRecDepth 20000 in
theorem gX10_roundDay_X7_hasRoundIn : GoodIn wsX10_roundDay (wsV RX10 394 RX7 yX7_hasRoundIn wsX7_hasRoundIn) := goodIn_app (goodIn_of _ (by decide +kernel)) ggX10_roundDay_X7_hasRoundIn
set_option maxRecDepth 20000 in
theorem ggX10_roundDay_X7_weekdayOf : GoodIn wsX10_roundDay wsX7_weekdayOf := goodIn_r _ [11, 12, 34, 35] (by decide +kernel) (by decide +kernel)
set_option maxRecDepth 20000 in
theorem gX10_roundDay_X7_weekdayOf : GoodIn wsX10_roundDay (wsV RX10 398 RX7 yX7_weekdayOf wsX7_weekdayOf) := goodIn_app (goodIn_of _ (by decide +kernel)) ggX10_roundDay_X7_weekdayOf
set_option maxRecDepth 20000 in
theorem ggX10_roundDay_X1_workday : GoodIn wsX10_roundDay wsX1_workday := goodIn_r _ [17, 18, 19, 20, 16, 21, 22, 36] (by decide +kernel) (by decide +kernel)
set_option maxRecDepth 20000 in
theorem gX10_roundDay_X1_workday : GoodIn wsX10_roundDay (wsV RX10 401 RX1 yX1_workday wsX1_workday) := goodIn_app (goodIn_of _ (by decide +kernel)) ggX10_roundDay_X1_workday
theorem dX10_roundDay_0 : decode cX10_roundDay 0 = .ok (.aload_n 1, 1) := by decide +kernel
theorem dX10_roundDay_1 : decode cX10_roundDay 1 = .ok (.iload_n 2, 1) := by decide +kernel
theorem dX10_roundDay_2 : decode cX10_roundDay 2 = .ok (.iload_n 3, 1) := by decide +kernel
theorem dX10_roundDay_3 : decode cX10_roundDay 3 = .ok (.invokevirtual 394, 3) := by decide +kernel
theorem dX10_roundDay_6 : decode cX10_roundDay 6 = .ok (.ifCond .ne 5, 3) := by decide +kernel
theorem dX10_roundDay_9 : decode cX10_roundDay 9 = .ok (.iconst (-1), 1) := by decide +kernel
theorem dX10_roundDay_10 : decode cX10_roundDay 10 = .ok (.ireturn, 1) := by decide +kernel
theorem dX10_roundDay_11 : decode cX10_roundDay 11 = .ok (.aload_n 0, 1) := by decide +kernel
theorem dX10_roundDay_12 : decode cX10_roundDay 12 = .ok (.getfield 31, 3) := by decide +kernel
theorem dX10_roundDay_15 : decode cX10_roundDay 15 = .ok (.iload_n 3, 1) := by decide +kernel
theorem dX10_roundDay_16 : decode cX10_roundDay 16 = .ok (.aload_n 1, 1) := by decide +kernel
theorem dX10_roundDay_17 : decode cX10_roundDay 17 = .ok (.iload_n 2, 1) := by decide +kernel
theorem dX10_roundDay_18 : decode cX10_roundDay 18 = .ok (.invokevirtual 398, 3) := by decide +kernel
theorem dX10_roundDay_21 : decode cX10_roundDay 21 = .ok (.invokevirtual 401, 3) := by decide +kernel
theorem dX10_roundDay_24 : decode cX10_roundDay 24 = .ok (.ireturn, 1) := by decide +kernel
set_option maxRecDepth 20000 in
theorem ggX10_countBearing_Jx4a65c_size_8abf5 : GoodIn wsX10_countBearing wsJx4a65c_size_8abf5 := goodIn_r _ [7, 8, 44, 45, 46] (by decide +kernel) (by decide +kernel)
set_option maxRecDepth 20000 in
theorem gX10_countBearing_Jx4a65c_size_8abf5 : GoodIn wsX10_countBearing (wsV RX10 59 RJx4a65c yJx4a65c_size_8abf5 wsJx4a65c_size_8abf5) := goodIn_app (goodIn_of _ (by decide +kernel)) ggX10_countBearing_Jx4a65c_size_8abf5
set_option maxRecDepth 20000 in
theorem ggX10_countBearing_Jx4a65c_get_915e3 : GoodIn wsX10_countBearing wsJx4a65c_get_915e3 := goodIn_r _ [12, 8, 13, 14, 15, 16, 17, 18, 19, 20, 21, 22, 23, 6, 24, 25, 44, 45, 46] (by decide +kernel) (by decide +kernel)
set_option maxRecDepth 20000 in
theorem gX10_countBearing_Jx4a65c_get_915e3 : GoodIn wsX10_countBearing (wsV RX10 249 RJx4a65c yJx4a65c_get_915e3 wsJx4a65c_get_915e3) := goodIn_app (goodIn_of _ (by decide +kernel)) ggX10_countBearing_Jx4a65c_get_915e3
set_option maxRecDepth 20000 in
theorem ggX10_countBearing_X0_bears : GoodIn wsX10_countBearing wsX0_bears := goodIn_r _ [30, 31, 32, 47, 48, 49, 50, 51, 52, 53] (by decide +kernel) (by decide +kernel)
set_option maxRecDepth 20000 in
theorem gX10_countBearing_X0_bears : GoodIn wsX10_countBearing (wsV RX10 280 RX0 yX0_bears wsX0_bears) := goodIn_app (goodIn_of _ (by decide +kernel)) ggX10_countBearing_X0_bears
theorem dX10_countBearing_0 : decode cX10_countBearing 0 = .ok (.iconst 0, 1) := by decide +kernel
theorem dX10_countBearing_1 : decode cX10_countBearing 1 = .ok (.istore_n 2, 1) := by decide +kernel
theorem dX10_countBearing_2 : decode cX10_countBearing 2 = .ok (.iconst 0, 1) := by decide +kernel
theorem dX10_countBearing_3 : decode cX10_countBearing 3 = .ok (.istore_n 3, 1) := by decide +kernel
theorem dX10_countBearing_4 : decode cX10_countBearing 4 = .ok (.iload_n 3, 1) := by decide +kernel
theorem dX10_countBearing_5 : decode cX10_countBearing 5 = .ok (.aload_n 0, 1) := by decide +kernel
theorem dX10_countBearing_6 : decode cX10_countBearing 6 = .ok (.getfield 19, 3) := by decide +kernel
theorem dX10_countBearing_9 : decode cX10_countBearing 9 = .ok (.invokevirtual 59, 3) := by decide +kernel
theorem dX10_countBearing_12 : decode cX10_countBearing 12 = .ok (.if_icmp .ge 30, 3) := by decide +kernel
theorem dX10_countBearing_15 : decode cX10_countBearing 15 = .ok (.aload_n 0, 1) := by decide +kernel
theorem dX10_countBearing_16 : decode cX10_countBearing 16 = .ok (.getfield 19, 3) := by decide +kernel
theorem dX10_countBearing_19 : decode cX10_countBearing 19 = .ok (.iload_n 3, 1) := by decide +kernel
theorem dX10_countBearing_20 : decode cX10_countBearing 20 = .ok (.invokevirtual 249, 3) := by decide +kernel
theorem dX10_countBearing_23 : decode cX10_countBearing 23 = .ok (.checkcast 121, 3) := by decide +kernel
theorem dX10_countBearing_26 : decode cX10_countBearing 26 = .ok (.iload_n 1, 1) := by decide +kernel
theorem dX10_countBearing_27 : decode cX10_countBearing 27 = .ok (.invokevirtual 280, 3) := by decide +kernel
theorem dX10_countBearing_30 : decode cX10_countBearing 30 = .ok (.ifCond .eq 6, 3) := by decide +kernel
theorem dX10_countBearing_33 : decode cX10_countBearing 33 = .ok (.iinc 2 1, 3) := by decide +kernel
theorem dX10_countBearing_36 : decode cX10_countBearing 36 = .ok (.iinc 3 1, 3) := by decide +kernel
theorem dX10_countBearing_39 : decode cX10_countBearing 39 = .ok (.goto (-35), 3) := by decide +kernel
theorem dX10_countBearing_42 : decode cX10_countBearing 42 = .ok (.iload_n 2, 1) := by decide +kernel
theorem dX10_countBearing_43 : decode cX10_countBearing 43 = .ok (.ireturn, 1) := by decide +kernel
set_option maxRecDepth 20000 in
theorem ggX10_identify_Jx4a65c_size_8abf5 : GoodIn wsX10_identify wsJx4a65c_size_8abf5 := goodIn_r _ [10, 11, 60, 61, 62] (by decide +kernel) (by decide +kernel)
set_option maxRecDepth 20000 in
theorem gX10_identify_Jx4a65c_size_8abf5 : GoodIn wsX10_identify (wsV RX10 59 RJx4a65c yJx4a65c_size_8abf5 wsJx4a65c_size_8abf5) := goodIn_app (goodIn_of _ (by decide +kernel)) ggX10_identify_Jx4a65c_size_8abf5
set_option maxRecDepth 20000 in
theorem ggX10_identify_Jx4a65c_get_915e3 : GoodIn wsX10_identify wsJx4a65c_get_915e3 := goodIn_r _ [15, 11, 16, 17, 18, 19, 20, 21, 22, 23, 24, 25, 26, 9, 27, 28, 60, 61, 62] (by decide +kernel) (by decide +kernel)
set_option maxRecDepth 20000 in
theorem gX10_identify_Jx4a65c_get_915e3 : GoodIn wsX10_identify (wsV RX10 249 RJx4a65c yJx4a65c_get_915e3 wsJx4a65c_get_915e3) := goodIn_app (goodIn_of _ (by decide +kernel)) ggX10_identify_Jx4a65c_get_915e3
set_option maxRecDepth 20000 in
theorem ggX10_identify_X0_bears : GoodIn wsX10_identify wsX0_bears := goodIn_r _ [33, 34, 35, 63, 64, 65, 66, 67, 68, 69] (by decide +kernel) (by decide +kernel)
set_option maxRecDepth 20000 in
theorem gX10_identify_X0_bears : GoodIn wsX10_identify (wsV RX10 280 RX0 yX0_bears wsX0_bears) := goodIn_app (goodIn_of _ (by decide +kernel)) ggX10_identify_X0_bears
theorem dX10_identify_0 : decode cX10_identify 0 = .ok (.iconst 0, 1) := by decide +kernel
theorem dX10_identify_1 : decode cX10_identify 1 = .ok (.istore_n 2, 1) := by decide +kernel
theorem dX10_identify_2 : decode cX10_identify 2 = .ok (.iconst 0, 1) := by decide +kernel
theorem dX10_identify_3 : decode cX10_identify 3 = .ok (.istore_n 3, 1) := by decide +kernel
theorem dX10_identify_4 : decode cX10_identify 4 = .ok (.iload_n 3, 1) := by decide +kernel
theorem dX10_identify_5 : decode cX10_identify 5 = .ok (.aload_n 0, 1) := by decide +kernel
theorem dX10_identify_6 : decode cX10_identify 6 = .ok (.getfield 19, 3) := by decide +kernel
theorem dX10_identify_9 : decode cX10_identify 9 = .ok (.invokevirtual 59, 3) := by decide +kernel
theorem dX10_identify_12 : decode cX10_identify 12 = .ok (.if_icmp .ge 48, 3) := by decide +kernel
theorem dX10_identify_15 : decode cX10_identify 15 = .ok (.aload_n 0, 1) := by decide +kernel
theorem dX10_identify_16 : decode cX10_identify 16 = .ok (.getfield 19, 3) := by decide +kernel
theorem dX10_identify_19 : decode cX10_identify 19 = .ok (.iload_n 3, 1) := by decide +kernel
theorem dX10_identify_20 : decode cX10_identify 20 = .ok (.invokevirtual 249, 3) := by decide +kernel
theorem dX10_identify_23 : decode cX10_identify 23 = .ok (.checkcast 121, 3) := by decide +kernel
theorem dX10_identify_26 : decode cX10_identify 26 = .ok (.aload_n 1, 1) := by decide +kernel
theorem dX10_identify_27 : decode cX10_identify 27 = .ok (.getfield 279, 3) := by decide +kernel
theorem dX10_identify_30 : decode cX10_identify 30 = .ok (.invokevirtual 280, 3) := by decide +kernel
theorem dX10_identify_33 : decode cX10_identify 33 = .ok (.ifCond .eq 21, 3) := by decide +kernel
theorem dX10_identify_36 : decode cX10_identify 36 = .ok (.aload_n 1, 1) := by decide +kernel
theorem dX10_identify_37 : decode cX10_identify 37 = .ok (.aload_n 0, 1) := by decide +kernel
theorem dX10_identify_38 : decode cX10_identify 38 = .ok (.getfield 19, 3) := by decide +kernel
theorem dX10_identify_41 : decode cX10_identify 41 = .ok (.iload_n 3, 1) := by decide +kernel
theorem dX10_identify_42 : decode cX10_identify 42 = .ok (.invokevirtual 249, 3) := by decide +kernel
theorem dX10_identify_45 : decode cX10_identify 45 = .ok (.checkcast 121, 3) := by decide +kernel
theorem dX10_identify_48 : decode cX10_identify 48 = .ok (.putfield 211, 3) := by decide +kernel
theorem dX10_identify_51 : decode cX10_identify 51 = .ok (.iinc 2 1, 3) := by decide +kernel
theorem dX10_identify_54 : decode cX10_identify 54 = .ok (.iinc 3 1, 3) := by decide +kernel
theorem dX10_identify_57 : decode cX10_identify 57 = .ok (.goto (-53), 3) := by decide +kernel
theorem dX10_identify_60 : decode cX10_identify 60 = .ok (.iload_n 2, 1) := by decide +kernel
theorem dX10_identify_61 : decode cX10_identify 61 = .ok (.iconst 1, 1) := by decide +kernel
theorem dX10_identify_62 : decode cX10_identify 62 = .ok (.if_icmp .eq 21, 3) := by decide +kernel
theorem dX10_identify_65 : decode cX10_identify 65 = .ok (.aload_n 1, 1) := by decide +kernel
theorem dX10_identify_66 : decode cX10_identify 66 = .ok (.aconst_null, 1) := by decide +kernel
theorem dX10_identify_67 : decode cX10_identify 67 = .ok (.putfield 211, 3) := by decide +kernel
theorem dX10_identify_70 : decode cX10_identify 70 = .ok (.aload_n 1, 1) := by decide +kernel
theorem dX10_identify_71 : decode cX10_identify 71 = .ok (.iload_n 2, 1) := by decide +kernel
theorem dX10_identify_72 : decode cX10_identify 72 = .ok (.ifCond .ne 7, 3) := by decide +kernel
theorem dX10_identify_75 : decode cX10_identify 75 = .ok (.iconst 1, 1) := by decide +kernel
theorem dX10_identify_76 : decode cX10_identify 76 = .ok (.goto 4, 3) := by decide +kernel
theorem dX10_identify_79 : decode cX10_identify 79 = .ok (.iconst 2, 1) := by decide +kernel
theorem dX10_identify_80 : decode cX10_identify 80 = .ok (.putfield 276, 3) := by decide +kernel
theorem dX10_identify_83 : decode cX10_identify 83 = .ok (.return_, 1) := by decide +kernel
set_option maxRecDepth 20000 in
theorem ggX10_countBinsAt_Jx4a65c_size_8abf5 : GoodIn wsX10_countBinsAt wsJx4a65c_size_8abf5 := goodIn_r _ [8, 9, 49, 50, 51] (by decide +kernel) (by decide +kernel)
set_option maxRecDepth 20000 in
theorem gX10_countBinsAt_Jx4a65c_size_8abf5 : GoodIn wsX10_countBinsAt (wsV RX10 59 RJx4a65c yJx4a65c_size_8abf5 wsJx4a65c_size_8abf5) := goodIn_app (goodIn_of _ (by decide +kernel)) ggX10_countBinsAt_Jx4a65c_size_8abf5
set_option maxRecDepth 20000 in
theorem ggX10_countBinsAt_Jx4a65c_get_915e3 : GoodIn wsX10_countBinsAt wsJx4a65c_get_915e3 := goodIn_r _ [13, 9, 14, 15, 16, 17, 18, 19, 20, 21, 22, 23, 24, 7, 25, 26, 49, 50, 51] (by decide +kernel) (by decide +kernel)
set_option maxRecDepth 20000 in
theorem gX10_countBinsAt_Jx4a65c_get_915e3 : GoodIn wsX10_countBinsAt (wsV RX10 249 RJx4a65c yJx4a65c_get_915e3 wsJx4a65c_get_915e3) := goodIn_app (goodIn_of _ (by decide +kernel)) ggX10_countBinsAt_Jx4a65c_get_915e3
set_option maxRecDepth 20000 in
theorem ggX10_countBinsAt_X0_ownerOn : GoodIn wsX10_countBinsAt wsX0_ownerOn := goodIn_r _ [31, 32, 33, 34, 35, 36, 5, 6, 7, 8, 9, 37, 11, 12, 13, 14, 15, 16, 17, 18, 19, 20, 21, 22, 23, 24, 25, 26, 52, 53, 54, 55, 56, 57, 58, 59, 60, 49, 50, 51] (by decide +kernel) (by decide +kernel)
set_option maxRecDepth 20000 in
theorem gX10_countBinsAt_X0_ownerOn : GoodIn wsX10_countBinsAt (wsV RX10 333 RX0 yX0_ownerOn wsX0_ownerOn) := goodIn_app (goodIn_of _ (by decide +kernel)) ggX10_countBinsAt_X0_ownerOn
theorem dX10_countBinsAt_0 : decode cX10_countBinsAt 0 = .ok (.iconst 0, 1) := by decide +kernel
theorem dX10_countBinsAt_1 : decode cX10_countBinsAt 1 = .ok (.istore_n 2, 1) := by decide +kernel
theorem dX10_countBinsAt_2 : decode cX10_countBinsAt 2 = .ok (.iconst 0, 1) := by decide +kernel
theorem dX10_countBinsAt_3 : decode cX10_countBinsAt 3 = .ok (.istore_n 3, 1) := by decide +kernel
theorem dX10_countBinsAt_4 : decode cX10_countBinsAt 4 = .ok (.iload_n 3, 1) := by decide +kernel
theorem dX10_countBinsAt_5 : decode cX10_countBinsAt 5 = .ok (.aload_n 0, 1) := by decide +kernel
theorem dX10_countBinsAt_6 : decode cX10_countBinsAt 6 = .ok (.getfield 19, 3) := by decide +kernel
theorem dX10_countBinsAt_9 : decode cX10_countBinsAt 9 = .ok (.invokevirtual 59, 3) := by decide +kernel
theorem dX10_countBinsAt_12 : decode cX10_countBinsAt 12 = .ok (.if_icmp .ge 34, 3) := by decide +kernel
theorem dX10_countBinsAt_15 : decode cX10_countBinsAt 15 = .ok (.aload_n 0, 1) := by decide +kernel
theorem dX10_countBinsAt_16 : decode cX10_countBinsAt 16 = .ok (.getfield 19, 3) := by decide +kernel
theorem dX10_countBinsAt_19 : decode cX10_countBinsAt 19 = .ok (.iload_n 3, 1) := by decide +kernel
theorem dX10_countBinsAt_20 : decode cX10_countBinsAt 20 = .ok (.invokevirtual 249, 3) := by decide +kernel
theorem dX10_countBinsAt_23 : decode cX10_countBinsAt 23 = .ok (.checkcast 121, 3) := by decide +kernel
theorem dX10_countBinsAt_26 : decode cX10_countBinsAt 26 = .ok (.aload_n 0, 1) := by decide +kernel
theorem dX10_countBinsAt_27 : decode cX10_countBinsAt 27 = .ok (.getfield 49, 3) := by decide +kernel
theorem dX10_countBinsAt_30 : decode cX10_countBinsAt 30 = .ok (.invokevirtual 333, 3) := by decide +kernel
theorem dX10_countBinsAt_33 : decode cX10_countBinsAt 33 = .ok (.aload_n 1, 1) := by decide +kernel
theorem dX10_countBinsAt_34 : decode cX10_countBinsAt 34 = .ok (.if_acmp .ne 6, 3) := by decide +kernel
theorem dX10_countBinsAt_37 : decode cX10_countBinsAt 37 = .ok (.iinc 2 1, 3) := by decide +kernel
theorem dX10_countBinsAt_40 : decode cX10_countBinsAt 40 = .ok (.iinc 3 1, 3) := by decide +kernel
theorem dX10_countBinsAt_43 : decode cX10_countBinsAt 43 = .ok (.goto (-39), 3) := by decide +kernel
theorem dX10_countBinsAt_46 : decode cX10_countBinsAt 46 = .ok (.iload_n 2, 1) := by decide +kernel
theorem dX10_countBinsAt_47 : decode cX10_countBinsAt 47 = .ok (.ireturn, 1) := by decide +kernel
theorem dX10_numberOf_0 : decode cX10_numberOf 0 = .ok (.aload_n 0, 1) := by decide +kernel
theorem dX10_numberOf_1 : decode cX10_numberOf 1 = .ok (.ifnonnull 7, 3) := by decide +kernel
theorem dX10_numberOf_4 : decode cX10_numberOf 4 = .ok (.iconst (-1), 1) := by decide +kernel
theorem dX10_numberOf_5 : decode cX10_numberOf 5 = .ok (.goto 7, 3) := by decide +kernel
theorem dX10_numberOf_8 : decode cX10_numberOf 8 = .ok (.aload_n 0, 1) := by decide +kernel
theorem dX10_numberOf_9 : decode cX10_numberOf 9 = .ok (.getfield 114, 3) := by decide +kernel
theorem dX10_numberOf_12 : decode cX10_numberOf 12 = .ok (.ireturn, 1) := by decide +kernel
set_option maxRecDepth 20000 in
theorem ggX10_firstTipToday_Jx4a65c_size_8abf5 : GoodIn wsX10_firstTipToday wsJx4a65c_size_8abf5 := goodIn_r _ [9, 10, 52, 53, 54] (by decide +kernel) (by decide +kernel)
set_option maxRecDepth 20000 in
theorem gX10_firstTipToday_Jx4a65c_size_8abf5 : GoodIn wsX10_firstTipToday (wsV RX10 59 RJx4a65c yJx4a65c_size_8abf5 wsJx4a65c_size_8abf5) := goodIn_app (goodIn_of _ (by decide +kernel)) ggX10_firstTipToday_Jx4a65c_size_8abf5
set_option maxRecDepth 20000 in
theorem ggX10_firstTipToday_Jx4a65c_get_915e3 : GoodIn wsX10_firstTipToday wsJx4a65c_get_915e3 := goodIn_r _ [14, 10, 15, 16, 17, 18, 19, 20, 21, 22, 23, 24, 25, 8, 26, 27, 52, 53, 54] (by decide +kernel) (by decide +kernel)
set_option maxRecDepth 20000 in
theorem gX10_firstTipToday_Jx4a65c_get_915e3 : GoodIn wsX10_firstTipToday (wsV RX10 249 RJx4a65c yJx4a65c_get_915e3 wsJx4a65c_get_915e3) := goodIn_app (goodIn_of _ (by decide +kernel)) ggX10_firstTipToday_Jx4a65c_get_915e3
theorem dX10_firstTipToday_0 : decode cX10_firstTipToday 0 = .ok (.aload_n 0, 1) := by decide +kernel
theorem dX10_firstTipToday_1 : decode cX10_firstTipToday 1 = .ok (.getfield 25, 3) := by decide +kernel
theorem dX10_firstTipToday_4 : decode cX10_firstTipToday 4 = .ok (.invokevirtual 59, 3) := by decide +kernel
theorem dX10_firstTipToday_7 : decode cX10_firstTipToday 7 = .ok (.istore_n 1, 1) := by decide +kernel
theorem dX10_firstTipToday_8 : decode cX10_firstTipToday 8 = .ok (.iload_n 1, 1) := by decide +kernel
theorem dX10_firstTipToday_9 : decode cX10_firstTipToday 9 = .ok (.ifCond .le 32, 3) := by decide +kernel
theorem dX10_firstTipToday_12 : decode cX10_firstTipToday 12 = .ok (.aload_n 0, 1) := by decide +kernel
theorem dX10_firstTipToday_13 : decode cX10_firstTipToday 13 = .ok (.getfield 25, 3) := by decide +kernel
theorem dX10_firstTipToday_16 : decode cX10_firstTipToday 16 = .ok (.iload_n 1, 1) := by decide +kernel
theorem dX10_firstTipToday_17 : decode cX10_firstTipToday 17 = .ok (.iconst 1, 1) := by decide +kernel
theorem dX10_firstTipToday_18 : decode cX10_firstTipToday 18 = .ok (.isub, 1) := by decide +kernel
theorem dX10_firstTipToday_19 : decode cX10_firstTipToday 19 = .ok (.invokevirtual 249, 3) := by decide +kernel
theorem dX10_firstTipToday_22 : decode cX10_firstTipToday 22 = .ok (.checkcast 199, 3) := by decide +kernel
theorem dX10_firstTipToday_25 : decode cX10_firstTipToday 25 = .ok (.getfield 229, 3) := by decide +kernel
theorem dX10_firstTipToday_28 : decode cX10_firstTipToday 28 = .ok (.aload_n 0, 1) := by decide +kernel
theorem dX10_firstTipToday_29 : decode cX10_firstTipToday 29 = .ok (.getfield 49, 3) := by decide +kernel
theorem dX10_firstTipToday_32 : decode cX10_firstTipToday 32 = .ok (.if_icmp .ne 9, 3) := by decide +kernel
theorem dX10_firstTipToday_35 : decode cX10_firstTipToday 35 = .ok (.iinc 1 (-1), 3) := by decide +kernel
theorem dX10_firstTipToday_38 : decode cX10_firstTipToday 38 = .ok (.goto (-30), 3) := by decide +kernel
theorem dX10_firstTipToday_41 : decode cX10_firstTipToday 41 = .ok (.iload_n 1, 1) := by decide +kernel
theorem dX10_firstTipToday_42 : decode cX10_firstTipToday 42 = .ok (.ireturn, 1) := by decide +kernel
set_option maxRecDepth 20000 in
theorem ggX10_halvesToday_X10_firstTipToday : GoodIn wsX10_halvesToday wsX10_firstTipToday := goodIn_r _ [9, 1, 2, 10, 11, 12, 13, 14, 15, 16, 17, 18, 19, 20, 21, 22, 23, 24, 25, 26, 27, 28, 29, 30, 31, 32, 33, 34, 35, 36, 37, 38, 39, 40, 41, 42, 43, 44, 45, 46, 47, 48, 49, 50, 51, 52, 53, 54, 55, 56, 57, 58, 59, 60, 61] (by decide +kernel) (by decide +kernel)
set_option maxRecDepth 20000 in
theorem gX10_halvesToday_X10_firstTipToday : GoodIn wsX10_halvesToday (wsV RX10 246 RX10 yX10_firstTipToday wsX10_firstTipToday) := goodIn_app (goodIn_of _ (by decide +kernel)) ggX10_halvesToday_X10_firstTipToday
set_option maxRecDepth 20000 in
theorem ggX10_halvesToday_Jx4a65c_size_8abf5 : GoodIn wsX10_halvesToday wsJx4a65c_size_8abf5 := goodIn_r _ [16, 17, 59, 60, 61] (by decide +kernel) (by decide +kernel)
set_option maxRecDepth 20000 in
theorem gX10_halvesToday_Jx4a65c_size_8abf5 : GoodIn wsX10_halvesToday (wsV RX10 59 RJx4a65c yJx4a65c_size_8abf5 wsJx4a65c_size_8abf5) := goodIn_app (goodIn_of _ (by decide +kernel)) ggX10_halvesToday_Jx4a65c_size_8abf5
set_option maxRecDepth 20000 in
theorem ggX10_halvesToday_Jx4a65c_get_915e3 : GoodIn wsX10_halvesToday wsJx4a65c_get_915e3 := goodIn_r _ [21, 17, 22, 23, 24, 25, 26, 27, 28, 29, 30, 31, 32, 15, 33, 34, 59, 60, 61] (by decide +kernel) (by decide +kernel)
set_option maxRecDepth 20000 in
theorem gX10_halvesToday_Jx4a65c_get_915e3 : GoodIn wsX10_halvesToday (wsV RX10 249 RJx4a65c yJx4a65c_get_915e3 wsJx4a65c_get_915e3) := goodIn_app (goodIn_of _ (by decide +kernel)) ggX10_halvesToday_Jx4a65c_get_915e3
theorem dX10_halvesToday_0 : decode cX10_halvesToday 0 = .ok (.iconst 0, 1) := by decide +kernel
theorem dX10_halvesToday_1 : decode cX10_halvesToday 1 = .ok (.istore_n 2, 1) := by decide +kernel
theorem dX10_halvesToday_2 : decode cX10_halvesToday 2 = .ok (.aload_n 0, 1) := by decide +kernel
theorem dX10_halvesToday_3 : decode cX10_halvesToday 3 = .ok (.invokevirtual 246, 3) := by decide +kernel
theorem dX10_halvesToday_6 : decode cX10_halvesToday 6 = .ok (.istore_n 3, 1) := by decide +kernel
theorem dX10_halvesToday_7 : decode cX10_halvesToday 7 = .ok (.iload_n 3, 1) := by decide +kernel
theorem dX10_halvesToday_8 : decode cX10_halvesToday 8 = .ok (.aload_n 0, 1) := by decide +kernel
theorem dX10_halvesToday_9 : decode cX10_halvesToday 9 = .ok (.getfield 25, 3) := by decide +kernel
theorem dX10_halvesToday_12 : decode cX10_halvesToday 12 = .ok (.invokevirtual 59, 3) := by decide +kernel
theorem dX10_halvesToday_15 : decode cX10_halvesToday 15 = .ok (.if_icmp .ge 44, 3) := by decide +kernel
theorem dX10_halvesToday_18 : decode cX10_halvesToday 18 = .ok (.aload_n 0, 1) := by decide +kernel
theorem dX10_halvesToday_19 : decode cX10_halvesToday 19 = .ok (.getfield 25, 3) := by decide +kernel
theorem dX10_halvesToday_22 : decode cX10_halvesToday 22 = .ok (.iload_n 3, 1) := by decide +kernel
theorem dX10_halvesToday_23 : decode cX10_halvesToday 23 = .ok (.invokevirtual 249, 3) := by decide +kernel
theorem dX10_halvesToday_26 : decode cX10_halvesToday 26 = .ok (.checkcast 199, 3) := by decide +kernel
theorem dX10_halvesToday_29 : decode cX10_halvesToday 29 = .ok (.getfield 253, 3) := by decide +kernel
theorem dX10_halvesToday_32 : decode cX10_halvesToday 32 = .ok (.aload_n 1, 1) := by decide +kernel
theorem dX10_halvesToday_33 : decode cX10_halvesToday 33 = .ok (.if_acmp .ne 20, 3) := by decide +kernel
theorem dX10_halvesToday_36 : decode cX10_halvesToday 36 = .ok (.iload_n 2, 1) := by decide +kernel
theorem dX10_halvesToday_37 : decode cX10_halvesToday 37 = .ok (.aload_n 0, 1) := by decide +kernel
theorem dX10_halvesToday_38 : decode cX10_halvesToday 38 = .ok (.getfield 25, 3) := by decide +kernel
theorem dX10_halvesToday_41 : decode cX10_halvesToday 41 = .ok (.iload_n 3, 1) := by decide +kernel
theorem dX10_halvesToday_42 : decode cX10_halvesToday 42 = .ok (.invokevirtual 249, 3) := by decide +kernel
theorem dX10_halvesToday_45 : decode cX10_halvesToday 45 = .ok (.checkcast 199, 3) := by decide +kernel
theorem dX10_halvesToday_48 : decode cX10_halvesToday 48 = .ok (.getfield 219, 3) := by decide +kernel
theorem dX10_halvesToday_51 : decode cX10_halvesToday 51 = .ok (.iadd, 1) := by decide +kernel
theorem dX10_halvesToday_52 : decode cX10_halvesToday 52 = .ok (.istore_n 2, 1) := by decide +kernel
theorem dX10_halvesToday_53 : decode cX10_halvesToday 53 = .ok (.iinc 3 1, 3) := by decide +kernel
theorem dX10_halvesToday_56 : decode cX10_halvesToday 56 = .ok (.goto (-49), 3) := by decide +kernel
theorem dX10_halvesToday_59 : decode cX10_halvesToday 59 = .ok (.iload_n 2, 1) := by decide +kernel
theorem dX10_halvesToday_60 : decode cX10_halvesToday 60 = .ok (.ireturn, 1) := by decide +kernel
set_option maxRecDepth 20000 in
theorem ggX10_middleOf_X4_clear : GoodIn wsX10_middleOf wsX4_clear := goodIn_r _ [11, 12, 74, 75] (by decide +kernel) (by decide +kernel)
set_option maxRecDepth 20000 in
theorem gX10_middleOf_X4_clear : GoodIn wsX10_middleOf (wsV RX10 404 RX4 yX4_clear wsX4_clear) := goodIn_app (goodIn_of _ (by decide +kernel)) ggX10_middleOf_X4_clear
set_option maxRecDepth 20000 in
theorem ggX10_middleOf_Jx4a65c_size_8abf5 : GoodIn wsX10_middleOf wsJx4a65c_size_8abf5 := goodIn_r _ [17, 18, 76, 77, 78] (by decide +kernel) (by decide +kernel)
set_option maxRecDepth 20000 in
theorem gX10_middleOf_Jx4a65c_size_8abf5 : GoodIn wsX10_middleOf (wsV RX10 59 RJx4a65c yJx4a65c_size_8abf5 wsJx4a65c_size_8abf5) := goodIn_app (goodIn_of _ (by decide +kernel)) ggX10_middleOf_Jx4a65c_size_8abf5
set_option maxRecDepth 20000 in
theorem ggX10_middleOf_X4_isFull : GoodIn wsX10_middleOf wsX4_isFull := goodIn_r _ [22, 12, 23, 74, 75] (by decide +kernel) (by decide +kernel)
set_option maxRecDepth 20000 in
theorem gX10_middleOf_X4_isFull : GoodIn wsX10_middleOf (wsV RX10 407 RX4 yX4_isFull wsX4_isFull) := goodIn_app (goodIn_of _ (by decide +kernel)) ggX10_middleOf_X4_isFull
set_option maxRecDepth 20000 in
theorem ggX10_middleOf_Jx4a65c_get_915e3 : GoodIn wsX10_middleOf wsJx4a65c_get_915e3 := goodIn_r _ [27, 18, 28, 29, 30, 31, 32, 33, 34, 35, 36, 37, 38, 16, 39, 40, 76, 77, 78] (by decide +kernel) (by decide +kernel)
set_option maxRecDepth 20000 in
theorem gX10_middleOf_Jx4a65c_get_915e3 : GoodIn wsX10_middleOf (wsV RX10 249 RJx4a65c yJx4a65c_get_915e3 wsJx4a65c_get_915e3) := goodIn_app (goodIn_of _ (by decide +kernel)) ggX10_middleOf_Jx4a65c_get_915e3
set_option maxRecDepth 20000 in
theorem ggX10_middleOf_X4_insert : GoodIn wsX10_middleOf wsX4_insert := goodIn_r _ [44, 12, 23, 45, 20, 21, 10, 22, 74, 75] (by decide +kernel) (by decide +kernel)
set_option maxRecDepth 20000 in
theorem gX10_middleOf_X4_insert : GoodIn wsX10_middleOf (wsV RX10 411 RX4 yX4_insert wsX4_insert) := goodIn_app (goodIn_of _ (by decide +kernel)) ggX10_middleOf_X4_insert
set_option maxRecDepth 20000 in
theorem ggX10_middleOf_X4_lowerMiddle : GoodIn wsX10_middleOf wsX4_lowerMiddle := goodIn_r _ [49, 12, 23, 74, 75] (by decide +kernel) (by decide +kernel)
set_option maxRecDepth 20000 in
theorem gX10_middleOf_X4_lowerMiddle : GoodIn wsX10_middleOf (wsV RX10 415 RX4 yX4_lowerMiddle wsX4_lowerMiddle) := goodIn_app (goodIn_of _ (by decide +kernel)) ggX10_middleOf_X4_lowerMiddle
theorem dX10_middleOf_0 : decode cX10_middleOf 0 = .ok (.aload_n 0, 1) := by decide +kernel
theorem dX10_middleOf_1 : decode cX10_middleOf 1 = .ok (.getfield 45, 3) := by decide +kernel
theorem dX10_middleOf_4 : decode cX10_middleOf 4 = .ok (.invokevirtual 404, 3) := by decide +kernel
theorem dX10_middleOf_7 : decode cX10_middleOf 7 = .ok (.aload_n 1, 1) := by decide +kernel
theorem dX10_middleOf_8 : decode cX10_middleOf 8 = .ok (.ifnonnull 5, 3) := by decide +kernel
theorem dX10_middleOf_11 : decode cX10_middleOf 11 = .ok (.iconst 0, 1) := by decide +kernel
theorem dX10_middleOf_12 : decode cX10_middleOf 12 = .ok (.ireturn, 1) := by decide +kernel
theorem dX10_middleOf_13 : decode cX10_middleOf 13 = .ok (.aload_n 0, 1) := by decide +kernel
theorem dX10_middleOf_14 : decode cX10_middleOf 14 = .ok (.getfield 25, 3) := by decide +kernel
theorem dX10_middleOf_17 : decode cX10_middleOf 17 = .ok (.invokevirtual 59, 3) := by decide +kernel
theorem dX10_middleOf_20 : decode cX10_middleOf 20 = .ok (.iconst 1, 1) := by decide +kernel
theorem dX10_middleOf_21 : decode cX10_middleOf 21 = .ok (.isub, 1) := by decide +kernel
theorem dX10_middleOf_22 : decode cX10_middleOf 22 = .ok (.istore_n 2, 1) := by decide +kernel
theorem dX10_middleOf_23 : decode cX10_middleOf 23 = .ok (.iload_n 2, 1) := by decide +kernel
theorem dX10_middleOf_24 : decode cX10_middleOf 24 = .ok (.ifCond .lt 57, 3) := by decide +kernel
theorem dX10_middleOf_27 : decode cX10_middleOf 27 = .ok (.aload_n 0, 1) := by decide +kernel
theorem dX10_middleOf_28 : decode cX10_middleOf 28 = .ok (.getfield 45, 3) := by decide +kernel
theorem dX10_middleOf_31 : decode cX10_middleOf 31 = .ok (.invokevirtual 407, 3) := by decide +kernel
theorem dX10_middleOf_34 : decode cX10_middleOf 34 = .ok (.ifCond .ne 47, 3) := by decide +kernel
theorem dX10_middleOf_37 : decode cX10_middleOf 37 = .ok (.aload_n 0, 1) := by decide +kernel
theorem dX10_middleOf_38 : decode cX10_middleOf 38 = .ok (.getfield 25, 3) := by decide +kernel
theorem dX10_middleOf_41 : decode cX10_middleOf 41 = .ok (.iload_n 2, 1) := by decide +kernel
theorem dX10_middleOf_42 : decode cX10_middleOf 42 = .ok (.invokevirtual 249, 3) := by decide +kernel
theorem dX10_middleOf_45 : decode cX10_middleOf 45 = .ok (.checkcast 199, 3) := by decide +kernel
theorem dX10_middleOf_48 : decode cX10_middleOf 48 = .ok (.astore_n 3, 1) := by decide +kernel
theorem dX10_middleOf_49 : decode cX10_middleOf 49 = .ok (.aload_n 3, 1) := by decide +kernel
theorem dX10_middleOf_50 : decode cX10_middleOf 50 = .ok (.getfield 211, 3) := by decide +kernel
theorem dX10_middleOf_53 : decode cX10_middleOf 53 = .ok (.aload_n 1, 1) := by decide +kernel
theorem dX10_middleOf_54 : decode cX10_middleOf 54 = .ok (.if_acmp .ne 21, 3) := by decide +kernel
theorem dX10_middleOf_57 : decode cX10_middleOf 57 = .ok (.aload_n 3, 1) := by decide +kernel
theorem dX10_middleOf_58 : decode cX10_middleOf 58 = .ok (.getfield 208, 3) := by decide +kernel
theorem dX10_middleOf_61 : decode cX10_middleOf 61 = .ok (.ifCond .ne 14, 3) := by decide +kernel
theorem dX10_middleOf_64 : decode cX10_middleOf 64 = .ok (.aload_n 0, 1) := by decide +kernel
theorem dX10_middleOf_65 : decode cX10_middleOf 65 = .ok (.getfield 45, 3) := by decide +kernel
theorem dX10_middleOf_68 : decode cX10_middleOf 68 = .ok (.aload_n 3, 1) := by decide +kernel
theorem dX10_middleOf_69 : decode cX10_middleOf 69 = .ok (.getfield 219, 3) := by decide +kernel
theorem dX10_middleOf_72 : decode cX10_middleOf 72 = .ok (.invokevirtual 411, 3) := by decide +kernel
theorem dX10_middleOf_75 : decode cX10_middleOf 75 = .ok (.iinc 2 (-1), 3) := by decide +kernel
theorem dX10_middleOf_78 : decode cX10_middleOf 78 = .ok (.goto (-55), 3) := by decide +kernel
theorem dX10_middleOf_81 : decode cX10_middleOf 81 = .ok (.aload_n 0, 1) := by decide +kernel
theorem dX10_middleOf_82 : decode cX10_middleOf 82 = .ok (.getfield 45, 3) := by decide +kernel
theorem dX10_middleOf_85 : decode cX10_middleOf 85 = .ok (.invokevirtual 415, 3) := by decide +kernel
theorem dX10_middleOf_88 : decode cX10_middleOf 88 = .ok (.ireturn, 1) := by decide +kernel
set_option maxRecDepth 20000 in
theorem ggX10_middlesAt_Jx4a65c_size_8abf5 : GoodIn wsX10_middlesAt wsJx4a65c_size_8abf5 := goodIn_r _ [8, 9, 85, 86, 87] (by decide +kernel) (by decide +kernel)
set_option maxRecDepth 20000 in
theorem gX10_middlesAt_Jx4a65c_size_8abf5 : GoodIn wsX10_middlesAt (wsV RX10 59 RJx4a65c yJx4a65c_size_8abf5 wsJx4a65c_size_8abf5) := goodIn_app (goodIn_of _ (by decide +kernel)) ggX10_middlesAt_Jx4a65c_size_8abf5
set_option maxRecDepth 20000 in
theorem ggX10_middlesAt_Jx4a65c_get_915e3 : GoodIn wsX10_middlesAt wsJx4a65c_get_915e3 := goodIn_r _ [13, 9, 14, 15, 16, 17, 18, 19, 20, 21, 22, 23, 24, 7, 25, 26, 85, 86, 87] (by decide +kernel) (by decide +kernel)
set_option maxRecDepth 20000 in
theorem gX10_middlesAt_Jx4a65c_get_915e3 : GoodIn wsX10_middlesAt (wsV RX10 249 RJx4a65c yJx4a65c_get_915e3 wsJx4a65c_get_915e3) := goodIn_app (goodIn_of _ (by decide +kernel)) ggX10_middlesAt_Jx4a65c_get_915e3
set_option maxRecDepth 20000 in
theorem ggX10_middlesAt_X0_groupOfKind : GoodIn wsX10_middlesAt wsX0_groupOfKind := goodIn_r _ [31, 32, 88, 89, 90, 91, 92, 93, 94] (by decide +kernel) (by decide +kernel)
set_option maxRecDepth 20000 in
theorem gX10_middlesAt_X0_groupOfKind : GoodIn wsX10_middlesAt (wsV RX10 336 RX0 yX0_groupOfKind wsX0_groupOfKind) := goodIn_app (goodIn_of _ (by decide +kernel)) ggX10_middlesAt_X0_groupOfKind
set_option maxRecDepth 20000 in
theorem ggX10_middlesAt_X0_ownerOn : GoodIn wsX10_middlesAt wsX0_ownerOn := goodIn_r _ [36, 37, 38, 39, 40, 41, 5, 6, 7, 8, 9, 42, 11, 12, 13, 14, 15, 16, 17, 18, 19, 20, 21, 22, 23, 24, 25, 26, 88, 89, 90, 91, 92, 93, 94, 95, 96, 85, 86, 87] (by decide +kernel) (by decide +kernel)
set_option maxRecDepth 20000 in
theorem gX10_middlesAt_X0_ownerOn : GoodIn wsX10_middlesAt (wsV RX10 333 RX0 yX0_ownerOn wsX0_ownerOn) := goodIn_app (goodIn_of _ (by decide +kernel)) ggX10_middlesAt_X0_ownerOn
set_option maxRecDepth 20000 in
theorem ggX10_middlesAt_X10_middleOf : GoodIn wsX10_middlesAt wsX10_middleOf := goodIn_r _ [47, 48, 49, 50, 51, 52, 53, 54, 55, 56, 57, 58, 59, 4, 5, 6, 7, 8, 9, 60, 61, 62, 63, 64, 10, 11, 12, 13, 14, 15, 16, 17, 18, 19, 20, 21, 22, 23, 24, 25, 26, 65, 66, 67, 68, 69, 70, 71, 72, 73, 74, 75, 76, 77, 78, 79, 80, 81, 82, 83, 84, 97, 98, 99, 100, 101, 102, 103, 104, 105, 106, 107, 108, 109, 110, 111, 85, 86, 87] (by decide +kernel) (by decide +kernel)
set_option maxRecDepth 20000 in
theorem gX10_middlesAt_X10_middleOf : GoodIn wsX10_middlesAt (wsV RX10 215 RX10 yX10_middleOf wsX10_middleOf) := goodIn_app (goodIn_of _ (by decide +kernel)) ggX10_middlesAt_X10_middleOf
theorem dX10_middlesAt_0 : decode cX10_middlesAt 0 = .ok (.lconst 0, 1) := by decide +kernel
theorem dX10_middlesAt_1 : decode cX10_middlesAt 1 = .ok (.lstore_n 3, 1) := by decide +kernel
theorem dX10_middlesAt_2 : decode cX10_middlesAt 2 = .ok (.iconst 0, 1) := by decide +kernel
theorem dX10_middlesAt_3 : decode cX10_middlesAt 3 = .ok (.istore 5, 2) := by decide +kernel
theorem dX10_middlesAt_5 : decode cX10_middlesAt 5 = .ok (.iload 5, 2) := by decide +kernel
theorem dX10_middlesAt_7 : decode cX10_middlesAt 7 = .ok (.aload_n 0, 1) := by decide +kernel
theorem dX10_middlesAt_8 : decode cX10_middlesAt 8 = .ok (.getfield 19, 3) := by decide +kernel
theorem dX10_middlesAt_11 : decode cX10_middlesAt 11 = .ok (.invokevirtual 59, 3) := by decide +kernel
theorem dX10_middlesAt_14 : decode cX10_middlesAt 14 = .ok (.if_icmp .ge 55, 3) := by decide +kernel
theorem dX10_middlesAt_17 : decode cX10_middlesAt 17 = .ok (.aload_n 0, 1) := by decide +kernel
theorem dX10_middlesAt_18 : decode cX10_middlesAt 18 = .ok (.getfield 19, 3) := by decide +kernel
theorem dX10_middlesAt_21 : decode cX10_middlesAt 21 = .ok (.iload 5, 2) := by decide +kernel
theorem dX10_middlesAt_23 : decode cX10_middlesAt 23 = .ok (.invokevirtual 249, 3) := by decide +kernel
theorem dX10_middlesAt_26 : decode cX10_middlesAt 26 = .ok (.checkcast 121, 3) := by decide +kernel
theorem dX10_middlesAt_29 : decode cX10_middlesAt 29 = .ok (.astore 6, 2) := by decide +kernel
theorem dX10_middlesAt_31 : decode cX10_middlesAt 31 = .ok (.aload 6, 2) := by decide +kernel
theorem dX10_middlesAt_33 : decode cX10_middlesAt 33 = .ok (.invokevirtual 336, 3) := by decide +kernel
theorem dX10_middlesAt_36 : decode cX10_middlesAt 36 = .ok (.iload_n 2, 1) := by decide +kernel
theorem dX10_middlesAt_37 : decode cX10_middlesAt 37 = .ok (.if_icmp .ne 26, 3) := by decide +kernel
theorem dX10_middlesAt_40 : decode cX10_middlesAt 40 = .ok (.aload 6, 2) := by decide +kernel
theorem dX10_middlesAt_42 : decode cX10_middlesAt 42 = .ok (.aload_n 0, 1) := by decide +kernel
theorem dX10_middlesAt_43 : decode cX10_middlesAt 43 = .ok (.getfield 49, 3) := by decide +kernel
theorem dX10_middlesAt_46 : decode cX10_middlesAt 46 = .ok (.invokevirtual 333, 3) := by decide +kernel
theorem dX10_middlesAt_49 : decode cX10_middlesAt 49 = .ok (.aload_n 1, 1) := by decide +kernel
theorem dX10_middlesAt_50 : decode cX10_middlesAt 50 = .ok (.if_acmp .ne 13, 3) := by decide +kernel
theorem dX10_middlesAt_53 : decode cX10_middlesAt 53 = .ok (.lload_n 3, 1) := by decide +kernel
theorem dX10_middlesAt_54 : decode cX10_middlesAt 54 = .ok (.aload_n 0, 1) := by decide +kernel
theorem dX10_middlesAt_55 : decode cX10_middlesAt 55 = .ok (.aload 6, 2) := by decide +kernel
theorem dX10_middlesAt_57 : decode cX10_middlesAt 57 = .ok (.invokevirtual 215, 3) := by decide +kernel
theorem dX10_middlesAt_60 : decode cX10_middlesAt 60 = .ok (.i2l, 1) := by decide +kernel
theorem dX10_middlesAt_61 : decode cX10_middlesAt 61 = .ok (.ladd, 1) := by decide +kernel
theorem dX10_middlesAt_62 : decode cX10_middlesAt 62 = .ok (.lstore_n 3, 1) := by decide +kernel
theorem dX10_middlesAt_63 : decode cX10_middlesAt 63 = .ok (.iinc 5 1, 3) := by decide +kernel
theorem dX10_middlesAt_66 : decode cX10_middlesAt 66 = .ok (.goto (-61), 3) := by decide +kernel
theorem dX10_middlesAt_69 : decode cX10_middlesAt 69 = .ok (.lload_n 3, 1) := by decide +kernel
theorem dX10_middlesAt_70 : decode cX10_middlesAt 70 = .ok (.lreturn, 1) := by decide +kernel
set_option maxRecDepth 20000 in
theorem ggX10_agrees_X10_halvesToday : GoodIn wsX10_agrees wsX10_halvesToday := goodIn_r _ [12, 13, 14, 15, 16, 17, 18, 19, 11, 20, 21, 22, 23, 24, 25, 26, 27, 28, 29, 30, 31, 32, 33, 34, 35, 36, 37, 38, 39, 40, 41, 42, 43, 44, 45, 52, 53, 54, 55, 56, 57, 58, 59, 60, 61, 62, 63, 64, 65, 66, 67, 68, 69, 70, 71, 72, 73, 74, 75, 76, 77, 78] (by decide +kernel) (by decide +kernel)
set_option maxRecDepth 20000 in
theorem gX10_agrees_X10_halvesToday : GoodIn wsX10_agrees (wsV RX10 318 RX10 yX10_halvesToday wsX10_halvesToday) := goodIn_app (goodIn_of _ (by decide +kernel)) ggX10_agrees_X10_halvesToday
theorem dX10_agrees_0 : decode cX10_agrees 0 = .ok (.aload_n 1, 1) := by decide +kernel
theorem dX10_agrees_1 : decode cX10_agrees 1 = .ok (.getfield 240, 3) := by decide +kernel
theorem dX10_agrees_4 : decode cX10_agrees 4 = .ok (.iconst (-1), 1) := by decide +kernel
theorem dX10_agrees_5 : decode cX10_agrees 5 = .ok (.if_icmp .ne 5, 3) := by decide +kernel
theorem dX10_agrees_8 : decode cX10_agrees 8 = .ok (.iconst 1, 1) := by decide +kernel
theorem dX10_agrees_9 : decode cX10_agrees 9 = .ok (.ireturn, 1) := by decide +kernel
theorem dX10_agrees_10 : decode cX10_agrees 10 = .ok (.aload_n 0, 1) := by decide +kernel
theorem dX10_agrees_11 : decode cX10_agrees 11 = .ok (.aload_n 1, 1) := by decide +kernel
theorem dX10_agrees_12 : decode cX10_agrees 12 = .ok (.invokevirtual 318, 3) := by decide +kernel
theorem dX10_agrees_15 : decode cX10_agrees 15 = .ok (.i2l, 1) := by decide +kernel
theorem dX10_agrees_16 : decode cX10_agrees 16 = .ok (.aload_n 1, 1) := by decide +kernel
theorem dX10_agrees_17 : decode cX10_agrees 17 = .ok (.getfield 240, 3) := by decide +kernel
theorem dX10_agrees_20 : decode cX10_agrees 20 = .ok (.i2l, 1) := by decide +kernel
theorem dX10_agrees_21 : decode cX10_agrees 21 = .ok (.lsub, 1) := by decide +kernel
theorem dX10_agrees_22 : decode cX10_agrees 22 = .ok (.invokestatic 418, 3) := by decide +kernel
theorem dX10_agrees_25 : decode cX10_agrees 25 = .ok (.lstore_n 2, 1) := by decide +kernel
theorem dX10_agrees_26 : decode cX10_agrees 26 = .ok (.ldc2_w 161, 3) := by decide +kernel
theorem dX10_agrees_29 : decode cX10_agrees 29 = .ok (.lload_n 2, 1) := by decide +kernel
theorem dX10_agrees_30 : decode cX10_agrees 30 = .ok (.lmul, 1) := by decide +kernel
theorem dX10_agrees_31 : decode cX10_agrees 31 = .ok (.aload_n 0, 1) := by decide +kernel
theorem dX10_agrees_32 : decode cX10_agrees 32 = .ok (.getfield 56, 3) := by decide +kernel
theorem dX10_agrees_35 : decode cX10_agrees 35 = .ok (.i2l, 1) := by decide +kernel
theorem dX10_agrees_36 : decode cX10_agrees 36 = .ok (.aload_n 1, 1) := by decide +kernel
theorem dX10_agrees_37 : decode cX10_agrees 37 = .ok (.getfield 240, 3) := by decide +kernel
theorem dX10_agrees_40 : decode cX10_agrees 40 = .ok (.i2l, 1) := by decide +kernel
theorem dX10_agrees_41 : decode cX10_agrees 41 = .ok (.lmul, 1) := by decide +kernel
theorem dX10_agrees_42 : decode cX10_agrees 42 = .ok (.lcmp, 1) := by decide +kernel
theorem dX10_agrees_43 : decode cX10_agrees 43 = .ok (.ifCond .gt 7, 3) := by decide +kernel
theorem dX10_agrees_46 : decode cX10_agrees 46 = .ok (.iconst 1, 1) := by decide +kernel
theorem dX10_agrees_47 : decode cX10_agrees 47 = .ok (.goto 4, 3) := by decide +kernel
theorem dX10_agrees_50 : decode cX10_agrees 50 = .ok (.iconst 0, 1) := by decide +kernel
theorem dX10_agrees_51 : decode cX10_agrees 51 = .ok (.ireturn, 1) := by decide +kernel
set_option maxRecDepth 20000 in
theorem ggX10_readGates_Jx4a65c_size_8abf5 : GoodIn wsX10_readGates wsJx4a65c_size_8abf5 := goodIn_r _ [10, 11, 71, 72, 73] (by decide +kernel) (by decide +kernel)
set_option maxRecDepth 20000 in
theorem gX10_readGates_Jx4a65c_size_8abf5 : GoodIn wsX10_readGates (wsV RX10 59 RJx4a65c yJx4a65c_size_8abf5 wsJx4a65c_size_8abf5) := goodIn_app (goodIn_of _ (by decide +kernel)) ggX10_readGates_Jx4a65c_size_8abf5
set_option maxRecDepth 20000 in
theorem ggX10_readGates_Jx4a65c_get_915e3 : GoodIn wsX10_readGates wsJx4a65c_get_915e3 := goodIn_r _ [15, 11, 16, 17, 18, 19, 20, 21, 22, 23, 24, 25, 26, 9, 27, 28, 71, 72, 73] (by decide +kernel) (by decide +kernel)
set_option maxRecDepth 20000 in
theorem gX10_readGates_Jx4a65c_get_915e3 : GoodIn wsX10_readGates (wsV RX10 249 RJx4a65c yJx4a65c_get_915e3 wsJx4a65c_get_915e3) := goodIn_app (goodIn_of _ (by decide +kernel)) ggX10_readGates_Jx4a65c_get_915e3
set_option maxRecDepth 20000 in
theorem ggX10_readGates_X10_agrees : GoodIn wsX10_readGates wsX10_agrees := goodIn_r _ [33, 4, 34, 35, 36, 37, 38, 39, 40, 41, 42, 32, 43, 44, 45, 46, 47, 48, 49, 50, 51, 52, 53, 6, 7, 8, 9, 10, 11, 12, 13, 14, 15, 16, 17, 18, 19, 20, 21, 22, 23, 24, 25, 26, 27, 28, 65, 66, 67, 68, 69, 70, 54, 55, 56, 57, 58, 59, 60, 61, 62, 63, 64, 74, 75, 76, 77, 78, 79, 80, 81, 82, 83, 84, 85, 86, 71, 72, 73] (by decide +kernel) (by decide +kernel)
set_option maxRecDepth 20000 in
theorem gX10_readGates_X10_agrees : GoodIn wsX10_readGates (wsV RX10 339 RX10 yX10_agrees wsX10_agrees) := goodIn_app (goodIn_of _ (by decide +kernel)) ggX10_readGates_X10_agrees
theorem dX10_readGates_0 : decode cX10_readGates 0 = .ok (.iconst 0, 1) := by decide +kernel
theorem dX10_readGates_1 : decode cX10_readGates 1 = .ok (.istore_n 1, 1) := by decide +kernel
theorem dX10_readGates_2 : decode cX10_readGates 2 = .ok (.iload_n 1, 1) := by decide +kernel
theorem dX10_readGates_3 : decode cX10_readGates 3 = .ok (.aload_n 0, 1) := by decide +kernel
theorem dX10_readGates_4 : decode cX10_readGates 4 = .ok (.getfield 22, 3) := by decide +kernel
theorem dX10_readGates_7 : decode cX10_readGates 7 = .ok (.invokevirtual 59, 3) := by decide +kernel
theorem dX10_readGates_10 : decode cX10_readGates 10 = .ok (.if_icmp .ge 46, 3) := by decide +kernel
theorem dX10_readGates_13 : decode cX10_readGates 13 = .ok (.aload_n 0, 1) := by decide +kernel
theorem dX10_readGates_14 : decode cX10_readGates 14 = .ok (.getfield 22, 3) := by decide +kernel
theorem dX10_readGates_17 : decode cX10_readGates 17 = .ok (.iload_n 1, 1) := by decide +kernel
theorem dX10_readGates_18 : decode cX10_readGates 18 = .ok (.invokevirtual 249, 3) := by decide +kernel
theorem dX10_readGates_21 : decode cX10_readGates 21 = .ok (.checkcast 176, 3) := by decide +kernel
theorem dX10_readGates_24 : decode cX10_readGates 24 = .ok (.astore_n 2, 1) := by decide +kernel
theorem dX10_readGates_25 : decode cX10_readGates 25 = .ok (.aload_n 2, 1) := by decide +kernel
theorem dX10_readGates_26 : decode cX10_readGates 26 = .ok (.aload_n 0, 1) := by decide +kernel
theorem dX10_readGates_27 : decode cX10_readGates 27 = .ok (.aload_n 2, 1) := by decide +kernel
theorem dX10_readGates_28 : decode cX10_readGates 28 = .ok (.invokevirtual 339, 3) := by decide +kernel
theorem dX10_readGates_31 : decode cX10_readGates 31 = .ok (.ifCond .ne 7, 3) := by decide +kernel
theorem dX10_readGates_34 : decode cX10_readGates 34 = .ok (.iconst 1, 1) := by decide +kernel
theorem dX10_readGates_35 : decode cX10_readGates 35 = .ok (.goto 4, 3) := by decide +kernel
theorem dX10_readGates_38 : decode cX10_readGates 38 = .ok (.iconst 0, 1) := by decide +kernel
theorem dX10_readGates_39 : decode cX10_readGates 39 = .ok (.putfield 422, 3) := by decide +kernel
theorem dX10_readGates_42 : decode cX10_readGates 42 = .ok (.aload_n 2, 1) := by decide +kernel
theorem dX10_readGates_43 : decode cX10_readGates 43 = .ok (.aload_n 2, 1) := by decide +kernel
theorem dX10_readGates_44 : decode cX10_readGates 44 = .ok (.getfield 240, 3) := by decide +kernel
theorem dX10_readGates_47 : decode cX10_readGates 47 = .ok (.putfield 425, 3) := by decide +kernel
theorem dX10_readGates_50 : decode cX10_readGates 50 = .ok (.iinc 1 1, 3) := by decide +kernel
theorem dX10_readGates_53 : decode cX10_readGates 53 = .ok (.goto (-51), 3) := by decide +kernel
theorem dX10_readGates_56 : decode cX10_readGates 56 = .ok (.return_, 1) := by decide +kernel
set_option maxRecDepth 20000 in
theorem ggX10_forgetGates_Jx4a65c_size_8abf5 : GoodIn wsX10_forgetGates wsJx4a65c_size_8abf5 := goodIn_r _ [8, 9, 44, 45, 46] (by decide +kernel) (by decide +kernel)
set_option maxRecDepth 20000 in
theorem gX10_forgetGates_Jx4a65c_size_8abf5 : GoodIn wsX10_forgetGates (wsV RX10 59 RJx4a65c yJx4a65c_size_8abf5 wsJx4a65c_size_8abf5) := goodIn_app (goodIn_of _ (by decide +kernel)) ggX10_forgetGates_Jx4a65c_size_8abf5
set_option maxRecDepth 20000 in
theorem ggX10_forgetGates_Jx4a65c_get_915e3 : GoodIn wsX10_forgetGates wsJx4a65c_get_915e3 := goodIn_r _ [13, 9, 14, 15, 16, 17, 18, 19, 20, 21, 22, 23, 24, 7, 25, 26, 44, 45, 46] (by decide +kernel) (by decide +kernel)
set_option maxRecDepth 20000 in
theorem gX10_forgetGates_Jx4a65c_get_915e3 : GoodIn wsX10_forgetGates (wsV RX10 249 RJx4a65c yJx4a65c_get_915e3 wsJx4a65c_get_915e3) := goodIn_app (goodIn_of _ (by decide +kernel)) ggX10_forgetGates_Jx4a65c_get_915e3
theorem dX10_forgetGates_0 : decode cX10_forgetGates 0 = .ok (.iconst 0, 1) := by decide +kernel
theorem dX10_forgetGates_1 : decode cX10_forgetGates 1 = .ok (.istore_n 1, 1) := by decide +kernel
theorem dX10_forgetGates_2 : decode cX10_forgetGates 2 = .ok (.iload_n 1, 1) := by decide +kernel
theorem dX10_forgetGates_3 : decode cX10_forgetGates 3 = .ok (.aload_n 0, 1) := by decide +kernel
theorem dX10_forgetGates_4 : decode cX10_forgetGates 4 = .ok (.getfield 22, 3) := by decide +kernel
theorem dX10_forgetGates_7 : decode cX10_forgetGates 7 = .ok (.invokevirtual 59, 3) := by decide +kernel
theorem dX10_forgetGates_10 : decode cX10_forgetGates 10 = .ok (.if_icmp .ge 24, 3) := by decide +kernel
theorem dX10_forgetGates_13 : decode cX10_forgetGates 13 = .ok (.aload_n 0, 1) := by decide +kernel
theorem dX10_forgetGates_14 : decode cX10_forgetGates 14 = .ok (.getfield 22, 3) := by decide +kernel
theorem dX10_forgetGates_17 : decode cX10_forgetGates 17 = .ok (.iload_n 1, 1) := by decide +kernel
theorem dX10_forgetGates_18 : decode cX10_forgetGates 18 = .ok (.invokevirtual 249, 3) := by decide +kernel
theorem dX10_forgetGates_21 : decode cX10_forgetGates 21 = .ok (.checkcast 176, 3) := by decide +kernel
theorem dX10_forgetGates_24 : decode cX10_forgetGates 24 = .ok (.iconst (-1), 1) := by decide +kernel
theorem dX10_forgetGates_25 : decode cX10_forgetGates 25 = .ok (.putfield 240, 3) := by decide +kernel
theorem dX10_forgetGates_28 : decode cX10_forgetGates 28 = .ok (.iinc 1 1, 3) := by decide +kernel
theorem dX10_forgetGates_31 : decode cX10_forgetGates 31 = .ok (.goto (-29), 3) := by decide +kernel
theorem dX10_forgetGates_34 : decode cX10_forgetGates 34 = .ok (.return_, 1) := by decide +kernel
set_option maxRecDepth 20000 in
theorem ggX10_payableLater_Jx4a65c_size_8abf5 : GoodIn wsX10_payableLater wsJx4a65c_size_8abf5 := goodIn_r _ [16, 17, 59, 60, 61] (by decide +kernel) (by decide +kernel)
set_option maxRecDepth 20000 in
theorem gX10_payableLater_Jx4a65c_size_8abf5 : GoodIn wsX10_payableLater (wsV RX10 59 RJx4a65c yJx4a65c_size_8abf5 wsJx4a65c_size_8abf5) := goodIn_app (goodIn_of _ (by decide +kernel)) ggX10_payableLater_Jx4a65c_size_8abf5
set_option maxRecDepth 20000 in
theorem ggX10_payableLater_Jx4a65c_get_915e3 : GoodIn wsX10_payableLater wsJx4a65c_get_915e3 := goodIn_r _ [21, 17, 22, 23, 24, 25, 26, 27, 28, 29, 30, 31, 32, 15, 33, 34, 59, 60, 61] (by decide +kernel) (by decide +kernel)
set_option maxRecDepth 20000 in
theorem gX10_payableLater_Jx4a65c_get_915e3 : GoodIn wsX10_payableLater (wsV RX10 249 RJx4a65c yJx4a65c_get_915e3 wsJx4a65c_get_915e3) := goodIn_app (goodIn_of _ (by decide +kernel)) ggX10_payableLater_Jx4a65c_get_915e3
theorem dX10_payableLater_0 : decode cX10_payableLater 0 = .ok (.aload_n 1, 1) := by decide +kernel
theorem dX10_payableLater_1 : decode cX10_payableLater 1 = .ok (.getfield 266, 3) := by decide +kernel
theorem dX10_payableLater_4 : decode cX10_payableLater 4 = .ok (.iconst (-1), 1) := by decide +kernel
theorem dX10_payableLater_5 : decode cX10_payableLater 5 = .ok (.if_icmp .ne 8, 3) := by decide +kernel
theorem dX10_payableLater_8 : decode cX10_payableLater 8 = .ok (.aload_n 1, 1) := by decide +kernel
theorem dX10_payableLater_9 : decode cX10_payableLater 9 = .ok (.getfield 219, 3) := by decide +kernel
theorem dX10_payableLater_12 : decode cX10_payableLater 12 = .ok (.ireturn, 1) := by decide +kernel
theorem dX10_payableLater_13 : decode cX10_payableLater 13 = .ok (.aload_n 1, 1) := by decide +kernel
theorem dX10_payableLater_14 : decode cX10_payableLater 14 = .ok (.getfield 266, 3) := by decide +kernel
theorem dX10_payableLater_17 : decode cX10_payableLater 17 = .ok (.istore_n 2, 1) := by decide +kernel
theorem dX10_payableLater_18 : decode cX10_payableLater 18 = .ok (.iconst 0, 1) := by decide +kernel
theorem dX10_payableLater_19 : decode cX10_payableLater 19 = .ok (.istore_n 3, 1) := by decide +kernel
theorem dX10_payableLater_20 : decode cX10_payableLater 20 = .ok (.iload_n 3, 1) := by decide +kernel
theorem dX10_payableLater_21 : decode cX10_payableLater 21 = .ok (.aload_n 0, 1) := by decide +kernel
theorem dX10_payableLater_22 : decode cX10_payableLater 22 = .ok (.getfield 25, 3) := by decide +kernel
theorem dX10_payableLater_25 : decode cX10_payableLater 25 = .ok (.invokevirtual 59, 3) := by decide +kernel
theorem dX10_payableLater_28 : decode cX10_payableLater 28 = .ok (.if_icmp .ge 60, 3) := by decide +kernel
theorem dX10_payableLater_31 : decode cX10_payableLater 31 = .ok (.aload_n 0, 1) := by decide +kernel
theorem dX10_payableLater_32 : decode cX10_payableLater 32 = .ok (.getfield 25, 3) := by decide +kernel
theorem dX10_payableLater_35 : decode cX10_payableLater 35 = .ok (.iload_n 3, 1) := by decide +kernel
theorem dX10_payableLater_36 : decode cX10_payableLater 36 = .ok (.invokevirtual 249, 3) := by decide +kernel
theorem dX10_payableLater_39 : decode cX10_payableLater 39 = .ok (.checkcast 199, 3) := by decide +kernel
theorem dX10_payableLater_42 : decode cX10_payableLater 42 = .ok (.astore 4, 2) := by decide +kernel
theorem dX10_payableLater_44 : decode cX10_payableLater 44 = .ok (.aload 4, 2) := by decide +kernel
theorem dX10_payableLater_46 : decode cX10_payableLater 46 = .ok (.aload_n 1, 1) := by decide +kernel
theorem dX10_payableLater_47 : decode cX10_payableLater 47 = .ok (.if_acmp .eq 35, 3) := by decide +kernel
theorem dX10_payableLater_50 : decode cX10_payableLater 50 = .ok (.aload 4, 2) := by decide +kernel
theorem dX10_payableLater_52 : decode cX10_payableLater 52 = .ok (.getfield 253, 3) := by decide +kernel
theorem dX10_payableLater_55 : decode cX10_payableLater 55 = .ok (.aload_n 1, 1) := by decide +kernel
theorem dX10_payableLater_56 : decode cX10_payableLater 56 = .ok (.getfield 253, 3) := by decide +kernel
theorem dX10_payableLater_59 : decode cX10_payableLater 59 = .ok (.if_acmp .ne 23, 3) := by decide +kernel
theorem dX10_payableLater_62 : decode cX10_payableLater 62 = .ok (.aload 4, 2) := by decide +kernel
theorem dX10_payableLater_64 : decode cX10_payableLater 64 = .ok (.getfield 229, 3) := by decide +kernel
theorem dX10_payableLater_67 : decode cX10_payableLater 67 = .ok (.aload_n 1, 1) := by decide +kernel
theorem dX10_payableLater_68 : decode cX10_payableLater 68 = .ok (.getfield 229, 3) := by decide +kernel
theorem dX10_payableLater_71 : decode cX10_payableLater 71 = .ok (.if_icmp .ne 11, 3) := by decide +kernel
theorem dX10_payableLater_74 : decode cX10_payableLater 74 = .ok (.iload_n 2, 1) := by decide +kernel
theorem dX10_payableLater_75 : decode cX10_payableLater 75 = .ok (.aload 4, 2) := by decide +kernel
theorem dX10_payableLater_77 : decode cX10_payableLater 77 = .ok (.getfield 260, 3) := by decide +kernel
theorem dX10_payableLater_80 : decode cX10_payableLater 80 = .ok (.isub, 1) := by decide +kernel
theorem dX10_payableLater_81 : decode cX10_payableLater 81 = .ok (.istore_n 2, 1) := by decide +kernel
theorem dX10_payableLater_82 : decode cX10_payableLater 82 = .ok (.iinc 3 1, 3) := by decide +kernel
theorem dX10_payableLater_85 : decode cX10_payableLater 85 = .ok (.goto (-65), 3) := by decide +kernel
theorem dX10_payableLater_88 : decode cX10_payableLater 88 = .ok (.aload_n 1, 1) := by decide +kernel
theorem dX10_payableLater_89 : decode cX10_payableLater 89 = .ok (.getfield 219, 3) := by decide +kernel
theorem dX10_payableLater_92 : decode cX10_payableLater 92 = .ok (.iload_n 2, 1) := by decide +kernel
theorem dX10_payableLater_93 : decode cX10_payableLater 93 = .ok (.invokestatic 428, 3) := by decide +kernel
theorem dX10_payableLater_96 : decode cX10_payableLater 96 = .ok (.ireturn, 1) := by decide +kernel
set_option maxRecDepth 20000 in
theorem ggX10_chargeTip_X10_tableKind : GoodIn wsX10_chargeTip wsX10_tableKind := goodIn_r _ [11, 1, 2, 12, 13, 14, 15, 16, 17, 18, 19, 20, 21, 22, 23, 24, 25, 26, 27, 28, 29, 30, 31, 32, 33, 34, 35, 36, 37, 38, 39, 40, 41, 42, 43, 44, 45, 46, 47, 10, 48, 49, 100, 101, 102, 103, 104, 105, 106, 107, 108, 109, 110, 111, 112, 113, 114, 115, 116, 117, 118, 119, 131, 132, 133, 134, 135, 136, 137, 138, 139, 140, 141, 142, 143, 144, 145] (by decide +kernel) (by decide +kernel)
set_option maxRecDepth 20000 in
theorem gX10_chargeTip_X10_tableKind : GoodIn wsX10_chargeTip (wsV RX10 431 RX10 yX10_tableKind wsX10_tableKind) := goodIn_app (goodIn_of _ (by decide +kernel)) ggX10_chargeTip_X10_tableKind
set_option maxRecDepth 20000 in
theorem ggX10_chargeTip_X8_liftOf : GoodIn wsX10_chargeTip wsX8_liftOf := goodIn_r _ [54, 55, 146, 147] (by decide +kernel) (by decide +kernel)
set_option maxRecDepth 20000 in
theorem gX10_chargeTip_X8_liftOf : GoodIn wsX10_chargeTip (wsV RX10 435 RX8 yX8_liftOf wsX8_liftOf) := goodIn_app (goodIn_of _ (by decide +kernel)) ggX10_chargeTip_X8_liftOf
set_option maxRecDepth 20000 in
theorem ggX10_chargeTip_X8_rateOf : GoodIn wsX10_chargeTip wsX8_rateOf := goodIn_r _ [59, 60, 146, 147] (by decide +kernel) (by decide +kernel)
set_option maxRecDepth 20000 in
theorem gX10_chargeTip_X8_rateOf : GoodIn wsX10_chargeTip (wsV RX10 441 RX8 yX8_rateOf wsX8_rateOf) := goodIn_app (goodIn_of _ (by decide +kernel)) ggX10_chargeTip_X8_rateOf
set_option maxRecDepth 20000 in
theorem ggX10_chargeTip_X10_addShares : GoodIn wsX10_chargeTip wsX10_addShares := goodIn_r _ [64, 65, 66, 67, 68, 69, 70, 71, 10, 72, 6, 73, 4, 5, 74, 12, 13, 75, 76, 77, 78, 79, 80, 24, 25, 26, 27, 28, 81, 30, 31, 32, 33, 34, 35, 36, 37, 38, 39, 40, 41, 42, 43, 44, 45, 82, 83, 84, 85, 86, 87, 88, 17, 89, 90, 91, 92, 93, 94, 95, 23, 29, 96, 97, 98, 99, 14, 15, 16, 18, 19, 20, 21, 22, 120, 121, 122, 123, 124, 125, 126, 127, 128, 129, 130, 136, 137, 138, 139, 140, 141, 142, 143, 144, 145, 100, 101, 102, 103, 104, 105, 106, 107, 108, 109, 110, 111, 112, 113, 114, 115, 116, 117, 118, 119, 133, 134, 135, 148, 149, 150, 131, 132] (by decide +kernel) (by decide +kernel)
set_option maxRecDepth 20000 in
theorem gX10_chargeTip_X10_addShares : GoodIn wsX10_chargeTip (wsV RX10 290 RX10 yX10_addShares wsX10_addShares) := goodIn_app (goodIn_of _ (by decide +kernel)) ggX10_chargeTip_X10_addShares
theorem dX10_chargeTip_0 : decode cX10_chargeTip 0 = .ok (.aload_n 1, 1) := by decide +kernel
theorem dX10_chargeTip_1 : decode cX10_chargeTip 1 = .ok (.getfield 235, 3) := by decide +kernel
theorem dX10_chargeTip_4 : decode cX10_chargeTip 4 = .ok (.ifCond .eq 13, 3) := by decide +kernel
theorem dX10_chargeTip_7 : decode cX10_chargeTip 7 = .ok (.aload_n 2, 1) := by decide +kernel
theorem dX10_chargeTip_8 : decode cX10_chargeTip 8 = .ok (.dup, 1) := by decide +kernel
theorem dX10_chargeTip_9 : decode cX10_chargeTip 9 = .ok (.getfield 357, 3) := by decide +kernel
theorem dX10_chargeTip_12 : decode cX10_chargeTip 12 = .ok (.iconst 1, 1) := by decide +kernel
theorem dX10_chargeTip_13 : decode cX10_chargeTip 13 = .ok (.iadd, 1) := by decide +kernel
theorem dX10_chargeTip_14 : decode cX10_chargeTip 14 = .ok (.putfield 357, 3) := by decide +kernel
theorem dX10_chargeTip_17 : decode cX10_chargeTip 17 = .ok (.aload_n 0, 1) := by decide +kernel
theorem dX10_chargeTip_18 : decode cX10_chargeTip 18 = .ok (.aload_n 1, 1) := by decide +kernel
theorem dX10_chargeTip_19 : decode cX10_chargeTip 19 = .ok (.aload_n 2, 1) := by decide +kernel
theorem dX10_chargeTip_20 : decode cX10_chargeTip 20 = .ok (.invokevirtual 431, 3) := by decide +kernel
theorem dX10_chargeTip_23 : decode cX10_chargeTip 23 = .ok (.istore_n 3, 1) := by decide +kernel
theorem dX10_chargeTip_24 : decode cX10_chargeTip 24 = .ok (.aload_n 1, 1) := by decide +kernel
theorem dX10_chargeTip_25 : decode cX10_chargeTip 25 = .ok (.aload_n 0, 1) := by decide +kernel
theorem dX10_chargeTip_26 : decode cX10_chargeTip 26 = .ok (.getfield 38, 3) := by decide +kernel
theorem dX10_chargeTip_29 : decode cX10_chargeTip 29 = .ok (.iload_n 3, 1) := by decide +kernel
theorem dX10_chargeTip_30 : decode cX10_chargeTip 30 = .ok (.invokevirtual 435, 3) := by decide +kernel
theorem dX10_chargeTip_33 : decode cX10_chargeTip 33 = .ok (.putfield 438, 3) := by decide +kernel
theorem dX10_chargeTip_36 : decode cX10_chargeTip 36 = .ok (.aload_n 1, 1) := by decide +kernel
theorem dX10_chargeTip_37 : decode cX10_chargeTip 37 = .ok (.aload_n 0, 1) := by decide +kernel
theorem dX10_chargeTip_38 : decode cX10_chargeTip 38 = .ok (.getfield 38, 3) := by decide +kernel
theorem dX10_chargeTip_41 : decode cX10_chargeTip 41 = .ok (.iload_n 3, 1) := by decide +kernel
theorem dX10_chargeTip_42 : decode cX10_chargeTip 42 = .ok (.invokevirtual 441, 3) := by decide +kernel
theorem dX10_chargeTip_45 : decode cX10_chargeTip 45 = .ok (.putfield 444, 3) := by decide +kernel
theorem dX10_chargeTip_48 : decode cX10_chargeTip 48 = .ok (.aload_n 1, 1) := by decide +kernel
theorem dX10_chargeTip_49 : decode cX10_chargeTip 49 = .ok (.iconst 1, 1) := by decide +kernel
theorem dX10_chargeTip_50 : decode cX10_chargeTip 50 = .ok (.putfield 300, 3) := by decide +kernel
theorem dX10_chargeTip_53 : decode cX10_chargeTip 53 = .ok (.aload_n 0, 1) := by decide +kernel
theorem dX10_chargeTip_54 : decode cX10_chargeTip 54 = .ok (.aload_n 1, 1) := by decide +kernel
theorem dX10_chargeTip_55 : decode cX10_chargeTip 55 = .ok (.iconst 1, 1) := by decide +kernel
theorem dX10_chargeTip_56 : decode cX10_chargeTip 56 = .ok (.invokevirtual 290, 3) := by decide +kernel
theorem dX10_chargeTip_59 : decode cX10_chargeTip 59 = .ok (.return_, 1) := by decide +kernel
set_option maxRecDepth 20000 in
theorem ggX10_tableKind_X0_ownerOn : GoodIn wsX10_tableKind wsX0_ownerOn := goodIn_r _ [9, 10, 11, 12, 13, 14, 15, 16, 17, 18, 19, 20, 21, 22, 23, 24, 25, 26, 27, 28, 29, 30, 31, 32, 33, 34, 35, 36, 55, 56, 57, 58, 59, 60, 61, 62, 63, 64, 65, 66] (by decide +kernel) (by decide +kernel)
set_option maxRecDepth 20000 in
theorem gX10_tableKind_X0_ownerOn : GoodIn wsX10_tableKind (wsV RX10 333 RX0 yX0_ownerOn wsX0_ownerOn) := goodIn_app (goodIn_of _ (by decide +kernel)) ggX10_tableKind_X0_ownerOn
set_option maxRecDepth 20000 in
theorem ggX10_tableKind_X10_takesBand : GoodIn wsX10_tableKind wsX10_takesBand := goodIn_r _ [40, 41, 67, 68, 69, 70, 71, 72, 73, 74, 75, 76] (by decide +kernel) (by decide +kernel)
set_option maxRecDepth 20000 in
theorem gX10_tableKind_X10_takesBand : GoodIn wsX10_tableKind (va_wsS RX10 447 yX10_takesBand wsX10_takesBand) := goodIn_app (goodIn_of _ (by decide +kernel)) ggX10_tableKind_X10_takesBand
theorem dX10_tableKind_0 : decode cX10_tableKind 0 = .ok (.aload_n 1, 1) := by decide +kernel
theorem dX10_tableKind_1 : decode cX10_tableKind 1 = .ok (.getfield 235, 3) := by decide +kernel
theorem dX10_tableKind_4 : decode cX10_tableKind 4 = .ok (.ifCond .eq 15, 3) := by decide +kernel
theorem dX10_tableKind_7 : decode cX10_tableKind 7 = .ok (.aload_n 2, 1) := by decide +kernel
theorem dX10_tableKind_8 : decode cX10_tableKind 8 = .ok (.getfield 357, 3) := by decide +kernel
theorem dX10_tableKind_11 : decode cX10_tableKind 11 = .ok (.iconst 3, 1) := by decide +kernel
theorem dX10_tableKind_12 : decode cX10_tableKind 12 = .ok (.if_icmp .lt 7, 3) := by decide +kernel
theorem dX10_tableKind_15 : decode cX10_tableKind 15 = .ok (.iconst 1, 1) := by decide +kernel
theorem dX10_tableKind_16 : decode cX10_tableKind 16 = .ok (.goto 4, 3) := by decide +kernel
theorem dX10_tableKind_19 : decode cX10_tableKind 19 = .ok (.iconst 0, 1) := by decide +kernel
theorem dX10_tableKind_20 : decode cX10_tableKind 20 = .ok (.istore_n 3, 1) := by decide +kernel
theorem dX10_tableKind_21 : decode cX10_tableKind 21 = .ok (.aload_n 2, 1) := by decide +kernel
theorem dX10_tableKind_22 : decode cX10_tableKind 22 = .ok (.getfield 158, 3) := by decide +kernel
theorem dX10_tableKind_25 : decode cX10_tableKind 25 = .ok (.tableswitch 71 1 4 #[31, 41, 71, 51], 31) := by decide +kernel
theorem dX10_tableKind_56 : decode cX10_tableKind 56 = .ok (.iload_n 3, 1) := by decide +kernel
theorem dX10_tableKind_57 : decode cX10_tableKind 57 = .ok (.ifCond .eq 7, 3) := by decide +kernel
theorem dX10_tableKind_60 : decode cX10_tableKind 60 = .ok (.iconst 0, 1) := by decide +kernel
theorem dX10_tableKind_61 : decode cX10_tableKind 61 = .ok (.goto 4, 3) := by decide +kernel
theorem dX10_tableKind_64 : decode cX10_tableKind 64 = .ok (.iconst 1, 1) := by decide +kernel
theorem dX10_tableKind_65 : decode cX10_tableKind 65 = .ok (.ireturn, 1) := by decide +kernel
theorem dX10_tableKind_66 : decode cX10_tableKind 66 = .ok (.iload_n 3, 1) := by decide +kernel
theorem dX10_tableKind_67 : decode cX10_tableKind 67 = .ok (.ifCond .eq 7, 3) := by decide +kernel
theorem dX10_tableKind_70 : decode cX10_tableKind 70 = .ok (.iconst 0, 1) := by decide +kernel
theorem dX10_tableKind_71 : decode cX10_tableKind 71 = .ok (.goto 4, 3) := by decide +kernel
theorem dX10_tableKind_74 : decode cX10_tableKind 74 = .ok (.iconst (-1), 1) := by decide +kernel
theorem dX10_tableKind_75 : decode cX10_tableKind 75 = .ok (.ireturn, 1) := by decide +kernel
theorem dX10_tableKind_76 : decode cX10_tableKind 76 = .ok (.aload_n 2, 1) := by decide +kernel
theorem dX10_tableKind_77 : decode cX10_tableKind 77 = .ok (.aload_n 1, 1) := by decide +kernel
theorem dX10_tableKind_78 : decode cX10_tableKind 78 = .ok (.getfield 229, 3) := by decide +kernel
theorem dX10_tableKind_81 : decode cX10_tableKind 81 = .ok (.invokevirtual 333, 3) := by decide +kernel
theorem dX10_tableKind_84 : decode cX10_tableKind 84 = .ok (.invokestatic 447, 3) := by decide +kernel
theorem dX10_tableKind_87 : decode cX10_tableKind 87 = .ok (.ifCond .eq 7, 3) := by decide +kernel
theorem dX10_tableKind_90 : decode cX10_tableKind 90 = .ok (.iconst (-1), 1) := by decide +kernel
theorem dX10_tableKind_91 : decode cX10_tableKind 91 = .ok (.goto 4, 3) := by decide +kernel
theorem dX10_tableKind_94 : decode cX10_tableKind 94 = .ok (.iconst 4, 1) := by decide +kernel
theorem dX10_tableKind_95 : decode cX10_tableKind 95 = .ok (.ireturn, 1) := by decide +kernel
theorem dX10_tableKind_96 : decode cX10_tableKind 96 = .ok (.aload_n 2, 1) := by decide +kernel
theorem dX10_tableKind_97 : decode cX10_tableKind 97 = .ok (.getfield 158, 3) := by decide +kernel
theorem dX10_tableKind_100 : decode cX10_tableKind 100 = .ok (.ireturn, 1) := by decide +kernel
theorem dX10_takesBand_0 : decode cX10_takesBand 0 = .ok (.aload_n 0, 1) := by decide +kernel
theorem dX10_takesBand_1 : decode cX10_takesBand 1 = .ok (.ifnull 10, 3) := by decide +kernel
theorem dX10_takesBand_4 : decode cX10_takesBand 4 = .ok (.aload_n 0, 1) := by decide +kernel
theorem dX10_takesBand_5 : decode cX10_takesBand 5 = .ok (.getfield 184, 3) := by decide +kernel
theorem dX10_takesBand_8 : decode cX10_takesBand 8 = .ok (.ifCond .ne 5, 3) := by decide +kernel
theorem dX10_takesBand_11 : decode cX10_takesBand 11 = .ok (.iconst 0, 1) := by decide +kernel
theorem dX10_takesBand_12 : decode cX10_takesBand 12 = .ok (.ireturn, 1) := by decide +kernel
theorem dX10_takesBand_13 : decode cX10_takesBand 13 = .ok (.aload_n 0, 1) := by decide +kernel
theorem dX10_takesBand_14 : decode cX10_takesBand 14 = .ok (.dup, 1) := by decide +kernel
theorem dX10_takesBand_15 : decode cX10_takesBand 15 = .ok (.getfield 184, 3) := by decide +kernel
theorem dX10_takesBand_18 : decode cX10_takesBand 18 = .ok (.iconst 1, 1) := by decide +kernel
theorem dX10_takesBand_19 : decode cX10_takesBand 19 = .ok (.isub, 1) := by decide +kernel
theorem dX10_takesBand_20 : decode cX10_takesBand 20 = .ok (.putfield 184, 3) := by decide +kernel
theorem dX10_takesBand_23 : decode cX10_takesBand 23 = .ok (.iconst 1, 1) := by decide +kernel
theorem dX10_takesBand_24 : decode cX10_takesBand 24 = .ok (.ireturn, 1) := by decide +kernel
set_option maxRecDepth 20000 in
theorem ggX10_addShares_X10_splitCharge : GoodIn wsX10_addShares wsX10_splitCharge := goodIn_r _ [9, 10, 11, 12, 13, 14, 15, 16, 4, 17, 18, 19, 8, 20, 1, 2, 21, 22, 23, 24, 25, 26, 27, 28, 29, 30, 31, 32, 33, 34, 35, 36, 37, 38, 39, 40, 41, 42, 43, 44, 45, 46, 47, 48, 49, 50, 51, 52, 53, 54, 55, 56, 57, 58, 59, 60, 61, 62, 63, 64, 65, 66, 67, 68, 69, 70, 71, 72, 73, 95, 96, 97, 98, 99, 100, 101, 102, 103, 104, 105, 106, 107, 108, 109, 110, 111, 112, 113, 114, 85, 86, 87, 88, 89, 90, 91, 92, 93, 94, 74, 75, 76, 77, 78, 79, 80, 81, 82, 83, 84, 115, 116, 117, 118, 119, 120, 121, 122] (by decide +kernel) (by decide +kernel)
set_option maxRecDepth 20000 in
theorem gX10_addShares_X10_splitCharge : GoodIn wsX10_addShares (wsV RX10 283 RX10 yX10_splitCharge wsX10_splitCharge) := goodIn_app (goodIn_of _ (by decide +kernel)) ggX10_addShares_X10_splitCharge
set_option maxRecDepth 20000 in
theorem ggX10_addShares_Jx4a65c_size_8abf5 : GoodIn wsX10_addShares wsJx4a65c_size_8abf5 := goodIn_r _ [26, 27, 115, 116, 117] (by decide +kernel) (by decide +kernel)
set_option maxRecDepth 20000 in
theorem gX10_addShares_Jx4a65c_size_8abf5 : GoodIn wsX10_addShares (wsV RX10 59 RJx4a65c yJx4a65c_size_8abf5 wsJx4a65c_size_8abf5) := goodIn_app (goodIn_of _ (by decide +kernel)) ggX10_addShares_Jx4a65c_size_8abf5
set_option maxRecDepth 20000 in
theorem ggX10_addShares_Jx4a65c_get_915e3 : GoodIn wsX10_addShares wsJx4a65c_get_915e3 := goodIn_r _ [31, 27, 32, 33, 34, 35, 36, 37, 38, 39, 40, 41, 42, 25, 43, 44, 115, 116, 117] (by decide +kernel) (by decide +kernel)
set_option maxRecDepth 20000 in
theorem gX10_addShares_Jx4a65c_get_915e3 : GoodIn wsX10_addShares (wsV RX10 249 RJx4a65c yJx4a65c_get_915e3 wsJx4a65c_get_915e3) := goodIn_app (goodIn_of _ (by decide +kernel)) ggX10_addShares_Jx4a65c_get_915e3
theorem dX10_addShares_0 : decode cX10_addShares 0 = .ok (.aload_n 0, 1) := by decide +kernel
theorem dX10_addShares_1 : decode cX10_addShares 1 = .ok (.aload_n 1, 1) := by decide +kernel
theorem dX10_addShares_2 : decode cX10_addShares 2 = .ok (.invokevirtual 283, 3) := by decide +kernel
theorem dX10_addShares_5 : decode cX10_addShares 5 = .ok (.pop2, 1) := by decide +kernel
theorem dX10_addShares_6 : decode cX10_addShares 6 = .ok (.iconst 0, 1) := by decide +kernel
theorem dX10_addShares_7 : decode cX10_addShares 7 = .ok (.istore_n 3, 1) := by decide +kernel
theorem dX10_addShares_8 : decode cX10_addShares 8 = .ok (.iload_n 3, 1) := by decide +kernel
theorem dX10_addShares_9 : decode cX10_addShares 9 = .ok (.aload_n 0, 1) := by decide +kernel
theorem dX10_addShares_10 : decode cX10_addShares 10 = .ok (.getfield 16, 3) := by decide +kernel
theorem dX10_addShares_13 : decode cX10_addShares 13 = .ok (.invokevirtual 59, 3) := by decide +kernel
theorem dX10_addShares_16 : decode cX10_addShares 16 = .ok (.if_icmp .ge 40, 3) := by decide +kernel
theorem dX10_addShares_19 : decode cX10_addShares 19 = .ok (.aload_n 0, 1) := by decide +kernel
theorem dX10_addShares_20 : decode cX10_addShares 20 = .ok (.getfield 16, 3) := by decide +kernel
theorem dX10_addShares_23 : decode cX10_addShares 23 = .ok (.iload_n 3, 1) := by decide +kernel
theorem dX10_addShares_24 : decode cX10_addShares 24 = .ok (.invokevirtual 249, 3) := by decide +kernel
theorem dX10_addShares_27 : decode cX10_addShares 27 = .ok (.checkcast 109, 3) := by decide +kernel
theorem dX10_addShares_30 : decode cX10_addShares 30 = .ok (.astore 4, 2) := by decide +kernel
theorem dX10_addShares_32 : decode cX10_addShares 32 = .ok (.aload 4, 2) := by decide +kernel
theorem dX10_addShares_34 : decode cX10_addShares 34 = .ok (.dup, 1) := by decide +kernel
theorem dX10_addShares_35 : decode cX10_addShares 35 = .ok (.getfield 451, 3) := by decide +kernel
theorem dX10_addShares_38 : decode cX10_addShares 38 = .ok (.iload_n 2, 1) := by decide +kernel
theorem dX10_addShares_39 : decode cX10_addShares 39 = .ok (.i2l, 1) := by decide +kernel
theorem dX10_addShares_40 : decode cX10_addShares 40 = .ok (.aload 4, 2) := by decide +kernel
theorem dX10_addShares_42 : decode cX10_addShares 42 = .ok (.getfield 303, 3) := by decide +kernel
theorem dX10_addShares_45 : decode cX10_addShares 45 = .ok (.lmul, 1) := by decide +kernel
theorem dX10_addShares_46 : decode cX10_addShares 46 = .ok (.ladd, 1) := by decide +kernel
theorem dX10_addShares_47 : decode cX10_addShares 47 = .ok (.putfield 451, 3) := by decide +kernel
theorem dX10_addShares_50 : decode cX10_addShares 50 = .ok (.iinc 3 1, 3) := by decide +kernel
theorem dX10_addShares_53 : decode cX10_addShares 53 = .ok (.goto (-45), 3) := by decide +kernel
theorem dX10_addShares_56 : decode cX10_addShares 56 = .ok (.return_, 1) := by decide +kernel
set_option maxRecDepth 20000 in
theorem ggX10_splitCharge_X10_clearSplit : GoodIn wsX10_splitCharge wsX10_clearSplit := goodIn_r _ [13, 14, 15, 8, 16, 17, 18, 19, 20, 21, 22, 23, 24, 25, 26, 27, 28, 29, 30, 31, 32, 33, 34, 35, 36, 37, 38, 39, 99, 100, 101, 102, 103, 104, 105, 106, 107, 108, 109, 89, 90, 91, 92, 93, 94, 95, 96, 97, 98, 110, 111, 112] (by decide +kernel) (by decide +kernel)
set_option maxRecDepth 20000 in
theorem gX10_splitCharge_X10_clearSplit : GoodIn wsX10_splitCharge (wsV RX10 454 RX10 yX10_clearSplit wsX10_clearSplit) := goodIn_app (goodIn_of _ (by decide +kernel)) ggX10_splitCharge_X10_clearSplit
set_option maxRecDepth 20000 in
theorem ggX10_splitCharge_X10_splitByWeights : GoodIn wsX10_splitCharge wsX10_splitByWeights := goodIn_r _ [43, 14, 15, 16, 8, 44, 45, 46, 47, 48, 49, 50, 51, 52, 53, 54, 55, 18, 19, 20, 21, 22, 56, 24, 25, 26, 27, 28, 29, 30, 31, 32, 33, 34, 35, 36, 37, 38, 39, 57, 58, 59, 12, 60, 17, 23, 99, 100, 101, 102, 103, 104, 105, 106, 107, 108, 109, 89, 90, 91, 92, 93, 94, 95, 96, 97, 98, 82, 83, 84, 85, 86, 87, 88, 113, 114, 115, 110, 111, 112] (by decide +kernel) (by decide +kernel)
set_option maxRecDepth 20000 in
theorem gX10_splitCharge_X10_splitByWeights : GoodIn wsX10_splitCharge (wsV RX10 457 RX10 yX10_splitByWeights wsX10_splitByWeights) := goodIn_app (goodIn_of _ (by decide +kernel)) ggX10_splitCharge_X10_splitByWeights
set_option maxRecDepth 20000 in
theorem ggX10_splitCharge_X0_ownerOn : GoodIn wsX10_splitCharge wsX0_ownerOn := goodIn_r _ [64, 65, 66, 67, 68, 55, 18, 19, 20, 21, 22, 56, 24, 25, 26, 27, 28, 29, 30, 31, 32, 33, 34, 35, 36, 37, 38, 39, 82, 83, 84, 85, 86, 87, 88, 116, 117, 110, 111, 112] (by decide +kernel) (by decide +kernel)
set_option maxRecDepth 20000 in
theorem gX10_splitCharge_X0_ownerOn : GoodIn wsX10_splitCharge (wsV RX10 333 RX0 yX0_ownerOn wsX0_ownerOn) := goodIn_app (goodIn_of _ (by decide +kernel)) ggX10_splitCharge_X0_ownerOn
theorem dX10_splitCharge_0 : decode cX10_splitCharge 0 = .ok (.aload_n 0, 1) := by decide +kernel
theorem dX10_splitCharge_1 : decode cX10_splitCharge 1 = .ok (.invokevirtual 454, 3) := by decide +kernel
theorem dX10_splitCharge_4 : decode cX10_splitCharge 4 = .ok (.aload_n 1, 1) := by decide +kernel
theorem dX10_splitCharge_5 : decode cX10_splitCharge 5 = .ok (.getfield 300, 3) := by decide +kernel
theorem dX10_splitCharge_8 : decode cX10_splitCharge 8 = .ok (.ifCond .eq 10, 3) := by decide +kernel
theorem dX10_splitCharge_11 : decode cX10_splitCharge 11 = .ok (.aload_n 1, 1) := by decide +kernel
theorem dX10_splitCharge_12 : decode cX10_splitCharge 12 = .ok (.getfield 211, 3) := by decide +kernel
theorem dX10_splitCharge_15 : decode cX10_splitCharge 15 = .ok (.ifnonnull 5, 3) := by decide +kernel
theorem dX10_splitCharge_18 : decode cX10_splitCharge 18 = .ok (.lconst 0, 1) := by decide +kernel
theorem dX10_splitCharge_19 : decode cX10_splitCharge 19 = .ok (.lreturn, 1) := by decide +kernel
theorem dX10_splitCharge_20 : decode cX10_splitCharge 20 = .ok (.aload_n 1, 1) := by decide +kernel
theorem dX10_splitCharge_21 : decode cX10_splitCharge 21 = .ok (.getfield 438, 3) := by decide +kernel
theorem dX10_splitCharge_24 : decode cX10_splitCharge 24 = .ok (.i2l, 1) := by decide +kernel
theorem dX10_splitCharge_25 : decode cX10_splitCharge 25 = .ok (.aload_n 1, 1) := by decide +kernel
theorem dX10_splitCharge_26 : decode cX10_splitCharge 26 = .ok (.getfield 444, 3) := by decide +kernel
theorem dX10_splitCharge_29 : decode cX10_splitCharge 29 = .ok (.i2l, 1) := by decide +kernel
theorem dX10_splitCharge_30 : decode cX10_splitCharge 30 = .ok (.aload_n 1, 1) := by decide +kernel
theorem dX10_splitCharge_31 : decode cX10_splitCharge 31 = .ok (.getfield 260, 3) := by decide +kernel
theorem dX10_splitCharge_34 : decode cX10_splitCharge 34 = .ok (.i2l, 1) := by decide +kernel
theorem dX10_splitCharge_35 : decode cX10_splitCharge 35 = .ok (.lmul, 1) := by decide +kernel
theorem dX10_splitCharge_36 : decode cX10_splitCharge 36 = .ok (.ladd, 1) := by decide +kernel
theorem dX10_splitCharge_37 : decode cX10_splitCharge 37 = .ok (.lstore_n 2, 1) := by decide +kernel
theorem dX10_splitCharge_38 : decode cX10_splitCharge 38 = .ok (.aload_n 1, 1) := by decide +kernel
theorem dX10_splitCharge_39 : decode cX10_splitCharge 39 = .ok (.getfield 211, 3) := by decide +kernel
theorem dX10_splitCharge_42 : decode cX10_splitCharge 42 = .ok (.getfield 158, 3) := by decide +kernel
theorem dX10_splitCharge_45 : decode cX10_splitCharge 45 = .ok (.iconst 3, 1) := by decide +kernel
theorem dX10_splitCharge_46 : decode cX10_splitCharge 46 = .ok (.if_icmp .ne 17, 3) := by decide +kernel
theorem dX10_splitCharge_49 : decode cX10_splitCharge 49 = .ok (.aload_n 0, 1) := by decide +kernel
theorem dX10_splitCharge_50 : decode cX10_splitCharge 50 = .ok (.aload_n 1, 1) := by decide +kernel
theorem dX10_splitCharge_51 : decode cX10_splitCharge 51 = .ok (.getfield 211, 3) := by decide +kernel
theorem dX10_splitCharge_54 : decode cX10_splitCharge 54 = .ok (.aload_n 1, 1) := by decide +kernel
theorem dX10_splitCharge_55 : decode cX10_splitCharge 55 = .ok (.getfield 229, 3) := by decide +kernel
theorem dX10_splitCharge_58 : decode cX10_splitCharge 58 = .ok (.lload_n 2, 1) := by decide +kernel
theorem dX10_splitCharge_59 : decode cX10_splitCharge 59 = .ok (.invokevirtual 457, 3) := by decide +kernel
theorem dX10_splitCharge_62 : decode cX10_splitCharge 62 = .ok (.lreturn, 1) := by decide +kernel
theorem dX10_splitCharge_63 : decode cX10_splitCharge 63 = .ok (.aload_n 1, 1) := by decide +kernel
theorem dX10_splitCharge_64 : decode cX10_splitCharge 64 = .ok (.getfield 211, 3) := by decide +kernel
theorem dX10_splitCharge_67 : decode cX10_splitCharge 67 = .ok (.aload_n 1, 1) := by decide +kernel
theorem dX10_splitCharge_68 : decode cX10_splitCharge 68 = .ok (.getfield 229, 3) := by decide +kernel
theorem dX10_splitCharge_71 : decode cX10_splitCharge 71 = .ok (.invokevirtual 333, 3) := by decide +kernel
theorem dX10_splitCharge_74 : decode cX10_splitCharge 74 = .ok (.astore 4, 2) := by decide +kernel
theorem dX10_splitCharge_76 : decode cX10_splitCharge 76 = .ok (.aload 4, 2) := by decide +kernel
theorem dX10_splitCharge_78 : decode cX10_splitCharge 78 = .ok (.ifnonnull 5, 3) := by decide +kernel
theorem dX10_splitCharge_81 : decode cX10_splitCharge 81 = .ok (.lconst 0, 1) := by decide +kernel
theorem dX10_splitCharge_82 : decode cX10_splitCharge 82 = .ok (.lreturn, 1) := by decide +kernel
theorem dX10_splitCharge_83 : decode cX10_splitCharge 83 = .ok (.aload 4, 2) := by decide +kernel
theorem dX10_splitCharge_85 : decode cX10_splitCharge 85 = .ok (.lload_n 2, 1) := by decide +kernel
theorem dX10_splitCharge_86 : decode cX10_splitCharge 86 = .ok (.putfield 303, 3) := by decide +kernel
theorem dX10_splitCharge_89 : decode cX10_splitCharge 89 = .ok (.lload_n 2, 1) := by decide +kernel
theorem dX10_splitCharge_90 : decode cX10_splitCharge 90 = .ok (.lreturn, 1) := by decide +kernel
set_option maxRecDepth 20000 in
theorem ggX10_clearSplit_Jx4a65c_size_8abf5 : GoodIn wsX10_clearSplit wsJx4a65c_size_8abf5 := goodIn_r _ [9, 10, 49, 50, 51] (by decide +kernel) (by decide +kernel)
set_option maxRecDepth 20000 in
theorem gX10_clearSplit_Jx4a65c_size_8abf5 : GoodIn wsX10_clearSplit (wsV RX10 59 RJx4a65c yJx4a65c_size_8abf5 wsJx4a65c_size_8abf5) := goodIn_app (goodIn_of _ (by decide +kernel)) ggX10_clearSplit_Jx4a65c_size_8abf5
set_option maxRecDepth 20000 in
theorem ggX10_clearSplit_Jx4a65c_get_915e3 : GoodIn wsX10_clearSplit wsJx4a65c_get_915e3 := goodIn_r _ [14, 10, 15, 16, 17, 18, 19, 20, 21, 22, 23, 24, 25, 8, 26, 27, 49, 50, 51] (by decide +kernel) (by decide +kernel)
set_option maxRecDepth 20000 in
theorem gX10_clearSplit_Jx4a65c_get_915e3 : GoodIn wsX10_clearSplit (wsV RX10 249 RJx4a65c yJx4a65c_get_915e3 wsJx4a65c_get_915e3) := goodIn_app (goodIn_of _ (by decide +kernel)) ggX10_clearSplit_Jx4a65c_get_915e3
theorem dX10_clearSplit_0 : decode cX10_clearSplit 0 = .ok (.iconst 0, 1) := by decide +kernel
theorem dX10_clearSplit_1 : decode cX10_clearSplit 1 = .ok (.istore_n 1, 1) := by decide +kernel
theorem dX10_clearSplit_2 : decode cX10_clearSplit 2 = .ok (.iload_n 1, 1) := by decide +kernel
theorem dX10_clearSplit_3 : decode cX10_clearSplit 3 = .ok (.aload_n 0, 1) := by decide +kernel
theorem dX10_clearSplit_4 : decode cX10_clearSplit 4 = .ok (.getfield 16, 3) := by decide +kernel
theorem dX10_clearSplit_7 : decode cX10_clearSplit 7 = .ok (.invokevirtual 59, 3) := by decide +kernel
theorem dX10_clearSplit_10 : decode cX10_clearSplit 10 = .ok (.if_icmp .ge 39, 3) := by decide +kernel
theorem dX10_clearSplit_13 : decode cX10_clearSplit 13 = .ok (.aload_n 0, 1) := by decide +kernel
theorem dX10_clearSplit_14 : decode cX10_clearSplit 14 = .ok (.getfield 16, 3) := by decide +kernel
theorem dX10_clearSplit_17 : decode cX10_clearSplit 17 = .ok (.iload_n 1, 1) := by decide +kernel
theorem dX10_clearSplit_18 : decode cX10_clearSplit 18 = .ok (.invokevirtual 249, 3) := by decide +kernel
theorem dX10_clearSplit_21 : decode cX10_clearSplit 21 = .ok (.checkcast 109, 3) := by decide +kernel
theorem dX10_clearSplit_24 : decode cX10_clearSplit 24 = .ok (.lconst 0, 1) := by decide +kernel
theorem dX10_clearSplit_25 : decode cX10_clearSplit 25 = .ok (.putfield 303, 3) := by decide +kernel
theorem dX10_clearSplit_28 : decode cX10_clearSplit 28 = .ok (.aload_n 0, 1) := by decide +kernel
theorem dX10_clearSplit_29 : decode cX10_clearSplit 29 = .ok (.getfield 16, 3) := by decide +kernel
theorem dX10_clearSplit_32 : decode cX10_clearSplit 32 = .ok (.iload_n 1, 1) := by decide +kernel
theorem dX10_clearSplit_33 : decode cX10_clearSplit 33 = .ok (.invokevirtual 249, 3) := by decide +kernel
theorem dX10_clearSplit_36 : decode cX10_clearSplit 36 = .ok (.checkcast 109, 3) := by decide +kernel
theorem dX10_clearSplit_39 : decode cX10_clearSplit 39 = .ok (.lconst 0, 1) := by decide +kernel
theorem dX10_clearSplit_40 : decode cX10_clearSplit 40 = .ok (.putfield 461, 3) := by decide +kernel
theorem dX10_clearSplit_43 : decode cX10_clearSplit 43 = .ok (.iinc 1 1, 3) := by decide +kernel
theorem dX10_clearSplit_46 : decode cX10_clearSplit 46 = .ok (.goto (-44), 3) := by decide +kernel
theorem dX10_clearSplit_49 : decode cX10_clearSplit 49 = .ok (.return_, 1) := by decide +kernel
set_option maxRecDepth 20000 in
theorem ggX10_splitByWeights_X0_spreadWeights : GoodIn wsX10_splitByWeights wsX0_spreadWeights := goodIn_r _ [9, 10, 11, 12, 13, 14, 15, 16, 17, 18, 19, 20, 21, 22, 23, 24, 25, 26, 27, 28, 29, 30, 31, 32, 33, 34, 35, 36, 37, 38, 67, 68, 69, 70, 71, 72, 73, 74, 75, 76, 57, 58, 59, 60, 61, 62, 63, 64, 65, 66, 77, 78, 79] (by decide +kernel) (by decide +kernel)
set_option maxRecDepth 20000 in
theorem gX10_splitByWeights_X0_spreadWeights : GoodIn wsX10_splitByWeights (wsV RX10 464 RX0 yX0_spreadWeights wsX0_spreadWeights) := goodIn_app (goodIn_of _ (by decide +kernel)) ggX10_splitByWeights_X0_spreadWeights
set_option maxRecDepth 20000 in
theorem ggX10_splitByWeights_X10_sumWeights : GoodIn wsX10_splitByWeights wsX10_sumWeights := goodIn_r _ [43, 1, 2, 3, 44, 17, 18, 19, 20, 21, 45, 23, 24, 25, 26, 27, 28, 29, 30, 31, 32, 33, 34, 35, 36, 37, 38, 46, 47, 48, 49, 50, 51, 52, 53, 54, 55, 56, 57, 58, 59, 60, 61, 62, 63, 64, 65, 66, 77, 78, 79] (by decide +kernel) (by decide +kernel)
set_option maxRecDepth 20000 in
theorem gX10_splitByWeights_X10_sumWeights : GoodIn wsX10_splitByWeights (wsV RX10 467 RX10 yX10_sumWeights wsX10_sumWeights) := goodIn_app (goodIn_of _ (by decide +kernel)) ggX10_splitByWeights_X10_sumWeights
set_option maxRecDepth 20000 in
theorem ggX10_splitByWeights_Jx4a65c_size_8abf5 : GoodIn wsX10_splitByWeights wsJx4a65c_size_8abf5 := goodIn_r _ [20, 21, 77, 78, 79] (by decide +kernel) (by decide +kernel)
set_option maxRecDepth 20000 in
theorem gX10_splitByWeights_Jx4a65c_size_8abf5 : GoodIn wsX10_splitByWeights (wsV RX10 59 RJx4a65c yJx4a65c_size_8abf5 wsJx4a65c_size_8abf5) := goodIn_app (goodIn_of _ (by decide +kernel)) ggX10_splitByWeights_Jx4a65c_size_8abf5
set_option maxRecDepth 20000 in
theorem ggX10_splitByWeights_Jx4a65c_get_915e3 : GoodIn wsX10_splitByWeights wsJx4a65c_get_915e3 := goodIn_r _ [25, 21, 26, 27, 28, 29, 30, 31, 32, 33, 34, 35, 36, 19, 37, 38, 77, 78, 79] (by decide +kernel) (by decide +kernel)
set_option maxRecDepth 20000 in
theorem gX10_splitByWeights_Jx4a65c_get_915e3 : GoodIn wsX10_splitByWeights (wsV RX10 249 RJx4a65c yJx4a65c_get_915e3 wsJx4a65c_get_915e3) := goodIn_app (goodIn_of _ (by decide +kernel)) ggX10_splitByWeights_Jx4a65c_get_915e3
theorem dX10_splitByWeights_0 : decode cX10_splitByWeights 0 = .ok (.aload_n 1, 1) := by decide +kernel
theorem dX10_splitByWeights_1 : decode cX10_splitByWeights 1 = .ok (.iload_n 2, 1) := by decide +kernel
theorem dX10_splitByWeights_2 : decode cX10_splitByWeights 2 = .ok (.invokevirtual 464, 3) := by decide +kernel
theorem dX10_splitByWeights_5 : decode cX10_splitByWeights 5 = .ok (.aload_n 0, 1) := by decide +kernel
theorem dX10_splitByWeights_6 : decode cX10_splitByWeights 6 = .ok (.invokevirtual 467, 3) := by decide +kernel
theorem dX10_splitByWeights_9 : decode cX10_splitByWeights 9 = .ok (.lstore 5, 2) := by decide +kernel
theorem dX10_splitByWeights_11 : decode cX10_splitByWeights 11 = .ok (.lload 5, 2) := by decide +kernel
theorem dX10_splitByWeights_13 : decode cX10_splitByWeights 13 = .ok (.lconst 0, 1) := by decide +kernel
theorem dX10_splitByWeights_14 : decode cX10_splitByWeights 14 = .ok (.lcmp, 1) := by decide +kernel
theorem dX10_splitByWeights_15 : decode cX10_splitByWeights 15 = .ok (.ifCond .gt 5, 3) := by decide +kernel
theorem dX10_splitByWeights_18 : decode cX10_splitByWeights 18 = .ok (.lconst 0, 1) := by decide +kernel
theorem dX10_splitByWeights_19 : decode cX10_splitByWeights 19 = .ok (.lreturn, 1) := by decide +kernel
theorem dX10_splitByWeights_20 : decode cX10_splitByWeights 20 = .ok (.lload_n 3, 1) := by decide +kernel
theorem dX10_splitByWeights_21 : decode cX10_splitByWeights 21 = .ok (.lstore 7, 2) := by decide +kernel
theorem dX10_splitByWeights_23 : decode cX10_splitByWeights 23 = .ok (.iconst 0, 1) := by decide +kernel
theorem dX10_splitByWeights_24 : decode cX10_splitByWeights 24 = .ok (.istore 9, 2) := by decide +kernel
theorem dX10_splitByWeights_26 : decode cX10_splitByWeights 26 = .ok (.iload 9, 2) := by decide +kernel
theorem dX10_splitByWeights_28 : decode cX10_splitByWeights 28 = .ok (.aload_n 0, 1) := by decide +kernel
theorem dX10_splitByWeights_29 : decode cX10_splitByWeights 29 = .ok (.getfield 16, 3) := by decide +kernel
theorem dX10_splitByWeights_32 : decode cX10_splitByWeights 32 = .ok (.invokevirtual 59, 3) := by decide +kernel
theorem dX10_splitByWeights_35 : decode cX10_splitByWeights 35 = .ok (.if_icmp .ge 48, 3) := by decide +kernel
theorem dX10_splitByWeights_38 : decode cX10_splitByWeights 38 = .ok (.aload_n 0, 1) := by decide +kernel
theorem dX10_splitByWeights_39 : decode cX10_splitByWeights 39 = .ok (.getfield 16, 3) := by decide +kernel
theorem dX10_splitByWeights_42 : decode cX10_splitByWeights 42 = .ok (.iload 9, 2) := by decide +kernel
theorem dX10_splitByWeights_44 : decode cX10_splitByWeights 44 = .ok (.invokevirtual 249, 3) := by decide +kernel
theorem dX10_splitByWeights_47 : decode cX10_splitByWeights 47 = .ok (.checkcast 109, 3) := by decide +kernel
theorem dX10_splitByWeights_50 : decode cX10_splitByWeights 50 = .ok (.astore 10, 2) := by decide +kernel
theorem dX10_splitByWeights_52 : decode cX10_splitByWeights 52 = .ok (.aload 10, 2) := by decide +kernel
theorem dX10_splitByWeights_54 : decode cX10_splitByWeights 54 = .ok (.lload_n 3, 1) := by decide +kernel
theorem dX10_splitByWeights_55 : decode cX10_splitByWeights 55 = .ok (.aload 10, 2) := by decide +kernel
theorem dX10_splitByWeights_57 : decode cX10_splitByWeights 57 = .ok (.getfield 461, 3) := by decide +kernel
theorem dX10_splitByWeights_60 : decode cX10_splitByWeights 60 = .ok (.lmul, 1) := by decide +kernel
theorem dX10_splitByWeights_61 : decode cX10_splitByWeights 61 = .ok (.lload 5, 2) := by decide +kernel
theorem dX10_splitByWeights_63 : decode cX10_splitByWeights 63 = .ok (.ldiv, 1) := by decide +kernel
theorem dX10_splitByWeights_64 : decode cX10_splitByWeights 64 = .ok (.putfield 303, 3) := by decide +kernel
theorem dX10_splitByWeights_67 : decode cX10_splitByWeights 67 = .ok (.lload 7, 2) := by decide +kernel
theorem dX10_splitByWeights_69 : decode cX10_splitByWeights 69 = .ok (.aload 10, 2) := by decide +kernel
theorem dX10_splitByWeights_71 : decode cX10_splitByWeights 71 = .ok (.getfield 303, 3) := by decide +kernel
theorem dX10_splitByWeights_74 : decode cX10_splitByWeights 74 = .ok (.lsub, 1) := by decide +kernel
theorem dX10_splitByWeights_75 : decode cX10_splitByWeights 75 = .ok (.lstore 7, 2) := by decide +kernel
theorem dX10_splitByWeights_77 : decode cX10_splitByWeights 77 = .ok (.iinc 9 1, 3) := by decide +kernel
theorem dX10_splitByWeights_80 : decode cX10_splitByWeights 80 = .ok (.goto (-54), 3) := by decide +kernel
theorem dX10_splitByWeights_83 : decode cX10_splitByWeights 83 = .ok (.iconst 0, 1) := by decide +kernel
theorem dX10_splitByWeights_84 : decode cX10_splitByWeights 84 = .ok (.istore 9, 2) := by decide +kernel
theorem dX10_splitByWeights_86 : decode cX10_splitByWeights 86 = .ok (.iload 9, 2) := by decide +kernel
theorem dX10_splitByWeights_88 : decode cX10_splitByWeights 88 = .ok (.aload_n 0, 1) := by decide +kernel
theorem dX10_splitByWeights_89 : decode cX10_splitByWeights 89 = .ok (.getfield 16, 3) := by decide +kernel
theorem dX10_splitByWeights_92 : decode cX10_splitByWeights 92 = .ok (.invokevirtual 59, 3) := by decide +kernel
theorem dX10_splitByWeights_95 : decode cX10_splitByWeights 95 = .ok (.if_icmp .ge 63, 3) := by decide +kernel
theorem dX10_splitByWeights_98 : decode cX10_splitByWeights 98 = .ok (.lload 7, 2) := by decide +kernel
theorem dX10_splitByWeights_100 : decode cX10_splitByWeights 100 = .ok (.lconst 0, 1) := by decide +kernel
theorem dX10_splitByWeights_101 : decode cX10_splitByWeights 101 = .ok (.lcmp, 1) := by decide +kernel
theorem dX10_splitByWeights_102 : decode cX10_splitByWeights 102 = .ok (.ifCond .le 56, 3) := by decide +kernel
theorem dX10_splitByWeights_105 : decode cX10_splitByWeights 105 = .ok (.aload_n 0, 1) := by decide +kernel
theorem dX10_splitByWeights_106 : decode cX10_splitByWeights 106 = .ok (.getfield 16, 3) := by decide +kernel
theorem dX10_splitByWeights_109 : decode cX10_splitByWeights 109 = .ok (.iload 9, 2) := by decide +kernel
theorem dX10_splitByWeights_111 : decode cX10_splitByWeights 111 = .ok (.invokevirtual 249, 3) := by decide +kernel
theorem dX10_splitByWeights_114 : decode cX10_splitByWeights 114 = .ok (.checkcast 109, 3) := by decide +kernel
theorem dX10_splitByWeights_117 : decode cX10_splitByWeights 117 = .ok (.getfield 461, 3) := by decide +kernel
theorem dX10_splitByWeights_120 : decode cX10_splitByWeights 120 = .ok (.lconst 0, 1) := by decide +kernel
theorem dX10_splitByWeights_121 : decode cX10_splitByWeights 121 = .ok (.lcmp, 1) := by decide +kernel
theorem dX10_splitByWeights_122 : decode cX10_splitByWeights 122 = .ok (.ifCond .le 30, 3) := by decide +kernel
theorem dX10_splitByWeights_125 : decode cX10_splitByWeights 125 = .ok (.aload_n 0, 1) := by decide +kernel
theorem dX10_splitByWeights_126 : decode cX10_splitByWeights 126 = .ok (.getfield 16, 3) := by decide +kernel
theorem dX10_splitByWeights_129 : decode cX10_splitByWeights 129 = .ok (.iload 9, 2) := by decide +kernel
theorem dX10_splitByWeights_131 : decode cX10_splitByWeights 131 = .ok (.invokevirtual 249, 3) := by decide +kernel
theorem dX10_splitByWeights_134 : decode cX10_splitByWeights 134 = .ok (.checkcast 109, 3) := by decide +kernel
theorem dX10_splitByWeights_137 : decode cX10_splitByWeights 137 = .ok (.dup, 1) := by decide +kernel
theorem dX10_splitByWeights_138 : decode cX10_splitByWeights 138 = .ok (.getfield 303, 3) := by decide +kernel
theorem dX10_splitByWeights_141 : decode cX10_splitByWeights 141 = .ok (.lconst 1, 1) := by decide +kernel
theorem dX10_splitByWeights_142 : decode cX10_splitByWeights 142 = .ok (.ladd, 1) := by decide +kernel
theorem dX10_splitByWeights_143 : decode cX10_splitByWeights 143 = .ok (.putfield 303, 3) := by decide +kernel
theorem dX10_splitByWeights_146 : decode cX10_splitByWeights 146 = .ok (.lload 7, 2) := by decide +kernel
theorem dX10_splitByWeights_148 : decode cX10_splitByWeights 148 = .ok (.lconst 1, 1) := by decide +kernel
theorem dX10_splitByWeights_149 : decode cX10_splitByWeights 149 = .ok (.lsub, 1) := by decide +kernel
theorem dX10_splitByWeights_150 : decode cX10_splitByWeights 150 = .ok (.lstore 7, 2) := by decide +kernel
theorem dX10_splitByWeights_152 : decode cX10_splitByWeights 152 = .ok (.iinc 9 1, 3) := by decide +kernel
theorem dX10_splitByWeights_155 : decode cX10_splitByWeights 155 = .ok (.goto (-69), 3) := by decide +kernel
theorem dX10_splitByWeights_158 : decode cX10_splitByWeights 158 = .ok (.lload_n 3, 1) := by decide +kernel
theorem dX10_splitByWeights_159 : decode cX10_splitByWeights 159 = .ok (.lreturn, 1) := by decide +kernel
set_option maxRecDepth 20000 in
theorem ggX10_sumWeights_Jx4a65c_size_8abf5 : GoodIn wsX10_sumWeights wsJx4a65c_size_8abf5 := goodIn_r _ [8, 9, 48, 49, 50] (by decide +kernel) (by decide +kernel)
set_option maxRecDepth 20000 in
theorem gX10_sumWeights_Jx4a65c_size_8abf5 : GoodIn wsX10_sumWeights (wsV RX10 59 RJx4a65c yJx4a65c_size_8abf5 wsJx4a65c_size_8abf5) := goodIn_app (goodIn_of _ (by decide +kernel)) ggX10_sumWeights_Jx4a65c_size_8abf5
set_option maxRecDepth 20000 in
theorem ggX10_sumWeights_Jx4a65c_get_915e3 : GoodIn wsX10_sumWeights wsJx4a65c_get_915e3 := goodIn_r _ [13, 9, 14, 15, 16, 17, 18, 19, 20, 21, 22, 23, 24, 7, 25, 26, 48, 49, 50] (by decide +kernel) (by decide +kernel)
set_option maxRecDepth 20000 in
theorem gX10_sumWeights_Jx4a65c_get_915e3 : GoodIn wsX10_sumWeights (wsV RX10 249 RJx4a65c yJx4a65c_get_915e3 wsJx4a65c_get_915e3) := goodIn_app (goodIn_of _ (by decide +kernel)) ggX10_sumWeights_Jx4a65c_get_915e3
theorem dX10_sumWeights_0 : decode cX10_sumWeights 0 = .ok (.lconst 0, 1) := by decide +kernel
theorem dX10_sumWeights_1 : decode cX10_sumWeights 1 = .ok (.lstore_n 1, 1) := by decide +kernel
theorem dX10_sumWeights_2 : decode cX10_sumWeights 2 = .ok (.iconst 0, 1) := by decide +kernel
theorem dX10_sumWeights_3 : decode cX10_sumWeights 3 = .ok (.istore_n 3, 1) := by decide +kernel
theorem dX10_sumWeights_4 : decode cX10_sumWeights 4 = .ok (.iload_n 3, 1) := by decide +kernel
theorem dX10_sumWeights_5 : decode cX10_sumWeights 5 = .ok (.aload_n 0, 1) := by decide +kernel
theorem dX10_sumWeights_6 : decode cX10_sumWeights 6 = .ok (.getfield 16, 3) := by decide +kernel
theorem dX10_sumWeights_9 : decode cX10_sumWeights 9 = .ok (.invokevirtual 59, 3) := by decide +kernel
theorem dX10_sumWeights_12 : decode cX10_sumWeights 12 = .ok (.if_icmp .ge 26, 3) := by decide +kernel
theorem dX10_sumWeights_15 : decode cX10_sumWeights 15 = .ok (.lload_n 1, 1) := by decide +kernel
theorem dX10_sumWeights_16 : decode cX10_sumWeights 16 = .ok (.aload_n 0, 1) := by decide +kernel
theorem dX10_sumWeights_17 : decode cX10_sumWeights 17 = .ok (.getfield 16, 3) := by decide +kernel
theorem dX10_sumWeights_20 : decode cX10_sumWeights 20 = .ok (.iload_n 3, 1) := by decide +kernel
theorem dX10_sumWeights_21 : decode cX10_sumWeights 21 = .ok (.invokevirtual 249, 3) := by decide +kernel
theorem dX10_sumWeights_24 : decode cX10_sumWeights 24 = .ok (.checkcast 109, 3) := by decide +kernel
theorem dX10_sumWeights_27 : decode cX10_sumWeights 27 = .ok (.getfield 461, 3) := by decide +kernel
theorem dX10_sumWeights_30 : decode cX10_sumWeights 30 = .ok (.ladd, 1) := by decide +kernel
theorem dX10_sumWeights_31 : decode cX10_sumWeights 31 = .ok (.lstore_n 1, 1) := by decide +kernel
theorem dX10_sumWeights_32 : decode cX10_sumWeights 32 = .ok (.iinc 3 1, 3) := by decide +kernel
theorem dX10_sumWeights_35 : decode cX10_sumWeights 35 = .ok (.goto (-31), 3) := by decide +kernel
theorem dX10_sumWeights_38 : decode cX10_sumWeights 38 = .ok (.lload_n 1, 1) := by decide +kernel
theorem dX10_sumWeights_39 : decode cX10_sumWeights 39 = .ok (.lreturn, 1) := by decide +kernel
set_option maxRecDepth 20000 in
theorem ggX10_sumFromTips_Jx4a65c_size_8abf5 : GoodIn wsX10_sumFromTips wsJx4a65c_size_8abf5 := goodIn_r _ [8, 9, 48, 49, 50] (by decide +kernel) (by decide +kernel)
set_option maxRecDepth 20000 in
theorem gX10_sumFromTips_Jx4a65c_size_8abf5 : GoodIn wsX10_sumFromTips (wsV RX10 59 RJx4a65c yJx4a65c_size_8abf5 wsJx4a65c_size_8abf5) := goodIn_app (goodIn_of _ (by decide +kernel)) ggX10_sumFromTips_Jx4a65c_size_8abf5
set_option maxRecDepth 20000 in
theorem ggX10_sumFromTips_Jx4a65c_get_915e3 : GoodIn wsX10_sumFromTips wsJx4a65c_get_915e3 := goodIn_r _ [13, 9, 14, 15, 16, 17, 18, 19, 20, 21, 22, 23, 24, 7, 25, 26, 48, 49, 50] (by decide +kernel) (by decide +kernel)
set_option maxRecDepth 20000 in
theorem gX10_sumFromTips_Jx4a65c_get_915e3 : GoodIn wsX10_sumFromTips (wsV RX10 249 RJx4a65c yJx4a65c_get_915e3 wsJx4a65c_get_915e3) := goodIn_app (goodIn_of _ (by decide +kernel)) ggX10_sumFromTips_Jx4a65c_get_915e3
theorem dX10_sumFromTips_0 : decode cX10_sumFromTips 0 = .ok (.lconst 0, 1) := by decide +kernel
theorem dX10_sumFromTips_1 : decode cX10_sumFromTips 1 = .ok (.lstore_n 1, 1) := by decide +kernel
theorem dX10_sumFromTips_2 : decode cX10_sumFromTips 2 = .ok (.iconst 0, 1) := by decide +kernel
theorem dX10_sumFromTips_3 : decode cX10_sumFromTips 3 = .ok (.istore_n 3, 1) := by decide +kernel
theorem dX10_sumFromTips_4 : decode cX10_sumFromTips 4 = .ok (.iload_n 3, 1) := by decide +kernel
theorem dX10_sumFromTips_5 : decode cX10_sumFromTips 5 = .ok (.aload_n 0, 1) := by decide +kernel
theorem dX10_sumFromTips_6 : decode cX10_sumFromTips 6 = .ok (.getfield 16, 3) := by decide +kernel
theorem dX10_sumFromTips_9 : decode cX10_sumFromTips 9 = .ok (.invokevirtual 59, 3) := by decide +kernel
theorem dX10_sumFromTips_12 : decode cX10_sumFromTips 12 = .ok (.if_icmp .ge 26, 3) := by decide +kernel
theorem dX10_sumFromTips_15 : decode cX10_sumFromTips 15 = .ok (.lload_n 1, 1) := by decide +kernel
theorem dX10_sumFromTips_16 : decode cX10_sumFromTips 16 = .ok (.aload_n 0, 1) := by decide +kernel
theorem dX10_sumFromTips_17 : decode cX10_sumFromTips 17 = .ok (.getfield 16, 3) := by decide +kernel
theorem dX10_sumFromTips_20 : decode cX10_sumFromTips 20 = .ok (.iload_n 3, 1) := by decide +kernel
theorem dX10_sumFromTips_21 : decode cX10_sumFromTips 21 = .ok (.invokevirtual 249, 3) := by decide +kernel
theorem dX10_sumFromTips_24 : decode cX10_sumFromTips 24 = .ok (.checkcast 109, 3) := by decide +kernel
theorem dX10_sumFromTips_27 : decode cX10_sumFromTips 27 = .ok (.getfield 451, 3) := by decide +kernel
theorem dX10_sumFromTips_30 : decode cX10_sumFromTips 30 = .ok (.ladd, 1) := by decide +kernel
theorem dX10_sumFromTips_31 : decode cX10_sumFromTips 31 = .ok (.lstore_n 1, 1) := by decide +kernel
theorem dX10_sumFromTips_32 : decode cX10_sumFromTips 32 = .ok (.iinc 3 1, 3) := by decide +kernel
theorem dX10_sumFromTips_35 : decode cX10_sumFromTips 35 = .ok (.goto (-31), 3) := by decide +kernel
theorem dX10_sumFromTips_38 : decode cX10_sumFromTips 38 = .ok (.lload_n 1, 1) := by decide +kernel
theorem dX10_sumFromTips_39 : decode cX10_sumFromTips 39 = .ok (.lreturn, 1) := by decide +kernel
set_option maxRecDepth 20000 in
theorem ggX10_sumFromBands_Jx4a65c_size_8abf5 : GoodIn wsX10_sumFromBands wsJx4a65c_size_8abf5 := goodIn_r _ [8, 9, 48, 49, 50] (by decide +kernel) (by decide +kernel)
set_option maxRecDepth 20000 in
theorem gX10_sumFromBands_Jx4a65c_size_8abf5 : GoodIn wsX10_sumFromBands (wsV RX10 59 RJx4a65c yJx4a65c_size_8abf5 wsJx4a65c_size_8abf5) := goodIn_app (goodIn_of _ (by decide +kernel)) ggX10_sumFromBands_Jx4a65c_size_8abf5
set_option maxRecDepth 20000 in
theorem ggX10_sumFromBands_Jx4a65c_get_915e3 : GoodIn wsX10_sumFromBands wsJx4a65c_get_915e3 := goodIn_r _ [13, 9, 14, 15, 16, 17, 18, 19, 20, 21, 22, 23, 24, 7, 25, 26, 48, 49, 50] (by decide +kernel) (by decide +kernel)
set_option maxRecDepth 20000 in
theorem gX10_sumFromBands_Jx4a65c_get_915e3 : GoodIn wsX10_sumFromBands (wsV RX10 249 RJx4a65c yJx4a65c_get_915e3 wsJx4a65c_get_915e3) := goodIn_app (goodIn_of _ (by decide +kernel)) ggX10_sumFromBands_Jx4a65c_get_915e3
theorem dX10_sumFromBands_0 : decode cX10_sumFromBands 0 = .ok (.lconst 0, 1) := by decide +kernel
theorem dX10_sumFromBands_1 : decode cX10_sumFromBands 1 = .ok (.lstore_n 1, 1) := by decide +kernel
theorem dX10_sumFromBands_2 : decode cX10_sumFromBands 2 = .ok (.iconst 0, 1) := by decide +kernel
theorem dX10_sumFromBands_3 : decode cX10_sumFromBands 3 = .ok (.istore_n 3, 1) := by decide +kernel
theorem dX10_sumFromBands_4 : decode cX10_sumFromBands 4 = .ok (.iload_n 3, 1) := by decide +kernel
theorem dX10_sumFromBands_5 : decode cX10_sumFromBands 5 = .ok (.aload_n 0, 1) := by decide +kernel
theorem dX10_sumFromBands_6 : decode cX10_sumFromBands 6 = .ok (.getfield 16, 3) := by decide +kernel
theorem dX10_sumFromBands_9 : decode cX10_sumFromBands 9 = .ok (.invokevirtual 59, 3) := by decide +kernel
theorem dX10_sumFromBands_12 : decode cX10_sumFromBands 12 = .ok (.if_icmp .ge 26, 3) := by decide +kernel
theorem dX10_sumFromBands_15 : decode cX10_sumFromBands 15 = .ok (.lload_n 1, 1) := by decide +kernel
theorem dX10_sumFromBands_16 : decode cX10_sumFromBands 16 = .ok (.aload_n 0, 1) := by decide +kernel
theorem dX10_sumFromBands_17 : decode cX10_sumFromBands 17 = .ok (.getfield 16, 3) := by decide +kernel
theorem dX10_sumFromBands_20 : decode cX10_sumFromBands 20 = .ok (.iload_n 3, 1) := by decide +kernel
theorem dX10_sumFromBands_21 : decode cX10_sumFromBands 21 = .ok (.invokevirtual 249, 3) := by decide +kernel
theorem dX10_sumFromBands_24 : decode cX10_sumFromBands 24 = .ok (.checkcast 109, 3) := by decide +kernel
theorem dX10_sumFromBands_27 : decode cX10_sumFromBands 27 = .ok (.getfield 187, 3) := by decide +kernel
theorem dX10_sumFromBands_30 : decode cX10_sumFromBands 30 = .ok (.ladd, 1) := by decide +kernel
theorem dX10_sumFromBands_31 : decode cX10_sumFromBands 31 = .ok (.lstore_n 1, 1) := by decide +kernel
theorem dX10_sumFromBands_32 : decode cX10_sumFromBands 32 = .ok (.iinc 3 1, 3) := by decide +kernel
theorem dX10_sumFromBands_35 : decode cX10_sumFromBands 35 = .ok (.goto (-31), 3) := by decide +kernel
theorem dX10_sumFromBands_38 : decode cX10_sumFromBands 38 = .ok (.lload_n 1, 1) := by decide +kernel
theorem dX10_sumFromBands_39 : decode cX10_sumFromBands 39 = .ok (.lreturn, 1) := by decide +kernel
set_option maxRecDepth 20000 in
theorem ggX10_sumPaid_Jx4a65c_size_8abf5 : GoodIn wsX10_sumPaid wsJx4a65c_size_8abf5 := goodIn_r _ [8, 9, 48, 49, 50] (by decide +kernel) (by decide +kernel)
set_option maxRecDepth 20000 in
theorem gX10_sumPaid_Jx4a65c_size_8abf5 : GoodIn wsX10_sumPaid (wsV RX10 59 RJx4a65c yJx4a65c_size_8abf5 wsJx4a65c_size_8abf5) := goodIn_app (goodIn_of _ (by decide +kernel)) ggX10_sumPaid_Jx4a65c_size_8abf5
set_option maxRecDepth 20000 in
theorem ggX10_sumPaid_Jx4a65c_get_915e3 : GoodIn wsX10_sumPaid wsJx4a65c_get_915e3 := goodIn_r _ [13, 9, 14, 15, 16, 17, 18, 19, 20, 21, 22, 23, 24, 7, 25, 26, 48, 49, 50] (by decide +kernel) (by decide +kernel)
set_option maxRecDepth 20000 in
theorem gX10_sumPaid_Jx4a65c_get_915e3 : GoodIn wsX10_sumPaid (wsV RX10 249 RJx4a65c yJx4a65c_get_915e3 wsJx4a65c_get_915e3) := goodIn_app (goodIn_of _ (by decide +kernel)) ggX10_sumPaid_Jx4a65c_get_915e3
theorem dX10_sumPaid_0 : decode cX10_sumPaid 0 = .ok (.lconst 0, 1) := by decide +kernel
theorem dX10_sumPaid_1 : decode cX10_sumPaid 1 = .ok (.lstore_n 1, 1) := by decide +kernel
theorem dX10_sumPaid_2 : decode cX10_sumPaid 2 = .ok (.iconst 0, 1) := by decide +kernel
theorem dX10_sumPaid_3 : decode cX10_sumPaid 3 = .ok (.istore_n 3, 1) := by decide +kernel
theorem dX10_sumPaid_4 : decode cX10_sumPaid 4 = .ok (.iload_n 3, 1) := by decide +kernel
theorem dX10_sumPaid_5 : decode cX10_sumPaid 5 = .ok (.aload_n 0, 1) := by decide +kernel
theorem dX10_sumPaid_6 : decode cX10_sumPaid 6 = .ok (.getfield 16, 3) := by decide +kernel
theorem dX10_sumPaid_9 : decode cX10_sumPaid 9 = .ok (.invokevirtual 59, 3) := by decide +kernel
theorem dX10_sumPaid_12 : decode cX10_sumPaid 12 = .ok (.if_icmp .ge 26, 3) := by decide +kernel
theorem dX10_sumPaid_15 : decode cX10_sumPaid 15 = .ok (.lload_n 1, 1) := by decide +kernel
theorem dX10_sumPaid_16 : decode cX10_sumPaid 16 = .ok (.aload_n 0, 1) := by decide +kernel
theorem dX10_sumPaid_17 : decode cX10_sumPaid 17 = .ok (.getfield 16, 3) := by decide +kernel
theorem dX10_sumPaid_20 : decode cX10_sumPaid 20 = .ok (.iload_n 3, 1) := by decide +kernel
theorem dX10_sumPaid_21 : decode cX10_sumPaid 21 = .ok (.invokevirtual 249, 3) := by decide +kernel
theorem dX10_sumPaid_24 : decode cX10_sumPaid 24 = .ok (.checkcast 109, 3) := by decide +kernel
theorem dX10_sumPaid_27 : decode cX10_sumPaid 27 = .ok (.getfield 315, 3) := by decide +kernel
theorem dX10_sumPaid_30 : decode cX10_sumPaid 30 = .ok (.ladd, 1) := by decide +kernel
theorem dX10_sumPaid_31 : decode cX10_sumPaid 31 = .ok (.lstore_n 1, 1) := by decide +kernel
theorem dX10_sumPaid_32 : decode cX10_sumPaid 32 = .ok (.iinc 3 1, 3) := by decide +kernel
theorem dX10_sumPaid_35 : decode cX10_sumPaid 35 = .ok (.goto (-31), 3) := by decide +kernel
theorem dX10_sumPaid_38 : decode cX10_sumPaid 38 = .ok (.lload_n 1, 1) := by decide +kernel
theorem dX10_sumPaid_39 : decode cX10_sumPaid 39 = .ok (.lreturn, 1) := by decide +kernel
theorem dX11_init_0 : decode cX11_init 0 = .ok (.aload_n 0, 1) := by decide +kernel
theorem dX11_init_1 : decode cX11_init 1 = .ok (.invokespecial 1, 3) := by decide +kernel
theorem dX11_init_4 : decode cX11_init 4 = .ok (.aload_n 0, 1) := by decide +kernel
theorem dX11_init_5 : decode cX11_init 5 = .ok (.sipush 700, 3) := by decide +kernel
theorem dX11_init_8 : decode cX11_init 8 = .ok (.newarray .boolean, 2) := by decide +kernel
theorem dX11_init_10 : decode cX11_init 10 = .ok (.putfield 9, 3) := by decide +kernel
theorem dX11_init_13 : decode cX11_init 13 = .ok (.aload_n 0, 1) := by decide +kernel
theorem dX11_init_14 : decode cX11_init 14 = .ok (.bipush 30, 2) := by decide +kernel
theorem dX11_init_16 : decode cX11_init 16 = .ok (.newarray .int, 2) := by decide +kernel
theorem dX11_init_18 : decode cX11_init 18 = .ok (.putfield 13, 3) := by decide +kernel
theorem dX11_init_21 : decode cX11_init 21 = .ok (.aload_n 0, 1) := by decide +kernel
theorem dX11_init_22 : decode cX11_init 22 = .ok (.bipush 30, 2) := by decide +kernel
theorem dX11_init_24 : decode cX11_init 24 = .ok (.newarray .int, 2) := by decide +kernel
theorem dX11_init_26 : decode cX11_init 26 = .ok (.putfield 17, 3) := by decide +kernel
theorem dX11_init_29 : decode cX11_init 29 = .ok (.aload_n 0, 1) := by decide +kernel
theorem dX11_init_30 : decode cX11_init 30 = .ok (.bipush 60, 2) := by decide +kernel
theorem dX11_init_32 : decode cX11_init 32 = .ok (.newarray .int, 2) := by decide +kernel
theorem dX11_init_34 : decode cX11_init 34 = .ok (.putfield 20, 3) := by decide +kernel
theorem dX11_init_37 : decode cX11_init 37 = .ok (.aload_n 0, 1) := by decide +kernel
theorem dX11_init_38 : decode cX11_init 38 = .ok (.bipush 60, 2) := by decide +kernel
theorem dX11_init_40 : decode cX11_init 40 = .ok (.newarray .int, 2) := by decide +kernel
theorem dX11_init_42 : decode cX11_init 42 = .ok (.putfield 23, 3) := by decide +kernel
theorem dX11_init_45 : decode cX11_init 45 = .ok (.aload_n 0, 1) := by decide +kernel
theorem dX11_init_46 : decode cX11_init 46 = .ok (.bipush 60, 2) := by decide +kernel
theorem dX11_init_48 : decode cX11_init 48 = .ok (.newarray .long, 2) := by decide +kernel
theorem dX11_init_50 : decode cX11_init 50 = .ok (.putfield 26, 3) := by decide +kernel
theorem dX11_init_53 : decode cX11_init 53 = .ok (.aload_n 0, 1) := by decide +kernel
theorem dX11_init_54 : decode cX11_init 54 = .ok (.bipush 60, 2) := by decide +kernel
theorem dX11_init_56 : decode cX11_init 56 = .ok (.newarray .long, 2) := by decide +kernel
theorem dX11_init_58 : decode cX11_init 58 = .ok (.putfield 30, 3) := by decide +kernel
theorem dX11_init_61 : decode cX11_init 61 = .ok (.aload_n 0, 1) := by decide +kernel
theorem dX11_init_62 : decode cX11_init 62 = .ok (.bipush 60, 2) := by decide +kernel
theorem dX11_init_64 : decode cX11_init 64 = .ok (.newarray .long, 2) := by decide +kernel
theorem dX11_init_66 : decode cX11_init 66 = .ok (.putfield 33, 3) := by decide +kernel
theorem dX11_init_69 : decode cX11_init 69 = .ok (.aload_n 0, 1) := by decide +kernel
theorem dX11_init_70 : decode cX11_init 70 = .ok (.bipush 120, 2) := by decide +kernel
theorem dX11_init_72 : decode cX11_init 72 = .ok (.newarray .int, 2) := by decide +kernel
theorem dX11_init_74 : decode cX11_init 74 = .ok (.putfield 36, 3) := by decide +kernel
theorem dX11_init_77 : decode cX11_init 77 = .ok (.aload_n 0, 1) := by decide +kernel
theorem dX11_init_78 : decode cX11_init 78 = .ok (.bipush 120, 2) := by decide +kernel
theorem dX11_init_80 : decode cX11_init 80 = .ok (.newarray .boolean, 2) := by decide +kernel
theorem dX11_init_82 : decode cX11_init 82 = .ok (.putfield 39, 3) := by decide +kernel
theorem dX11_init_85 : decode cX11_init 85 = .ok (.aload_n 0, 1) := by decide +kernel
theorem dX11_init_86 : decode cX11_init 86 = .ok (.bipush 120, 2) := by decide +kernel
theorem dX11_init_88 : decode cX11_init 88 = .ok (.newarray .int, 2) := by decide +kernel
theorem dX11_init_90 : decode cX11_init 90 = .ok (.putfield 42, 3) := by decide +kernel
theorem dX11_init_93 : decode cX11_init 93 = .ok (.aload_n 0, 1) := by decide +kernel
theorem dX11_init_94 : decode cX11_init 94 = .ok (.bipush 120, 2) := by decide +kernel
theorem dX11_init_96 : decode cX11_init 96 = .ok (.newarray .int, 2) := by decide +kernel
theorem dX11_init_98 : decode cX11_init 98 = .ok (.putfield 45, 3) := by decide +kernel
theorem dX11_init_101 : decode cX11_init 101 = .ok (.aload_n 0, 1) := by decide +kernel
theorem dX11_init_102 : decode cX11_init 102 = .ok (.sipush 960, 3) := by decide +kernel
theorem dX11_init_105 : decode cX11_init 105 = .ok (.newarray .int, 2) := by decide +kernel
theorem dX11_init_107 : decode cX11_init 107 = .ok (.putfield 48, 3) := by decide +kernel
theorem dX11_init_110 : decode cX11_init 110 = .ok (.aload_n 0, 1) := by decide +kernel
theorem dX11_init_111 : decode cX11_init 111 = .ok (.sipush 960, 3) := by decide +kernel
theorem dX11_init_114 : decode cX11_init 114 = .ok (.newarray .int, 2) := by decide +kernel
theorem dX11_init_116 : decode cX11_init 116 = .ok (.putfield 51, 3) := by decide +kernel
theorem dX11_init_119 : decode cX11_init 119 = .ok (.aload_n 0, 1) := by decide +kernel
theorem dX11_init_120 : decode cX11_init 120 = .ok (.bipush 120, 2) := by decide +kernel
theorem dX11_init_122 : decode cX11_init 122 = .ok (.newarray .int, 2) := by decide +kernel
theorem dX11_init_124 : decode cX11_init 124 = .ok (.putfield 54, 3) := by decide +kernel
theorem dX11_init_127 : decode cX11_init 127 = .ok (.aload_n 0, 1) := by decide +kernel
theorem dX11_init_128 : decode cX11_init 128 = .ok (.sipush 2400, 3) := by decide +kernel
theorem dX11_init_131 : decode cX11_init 131 = .ok (.newarray .int, 2) := by decide +kernel
theorem dX11_init_133 : decode cX11_init 133 = .ok (.putfield 57, 3) := by decide +kernel
theorem dX11_init_136 : decode cX11_init 136 = .ok (.aload_n 0, 1) := by decide +kernel
theorem dX11_init_137 : decode cX11_init 137 = .ok (.sipush 2400, 3) := by decide +kernel
theorem dX11_init_140 : decode cX11_init 140 = .ok (.newarray .int, 2) := by decide +kernel
theorem dX11_init_142 : decode cX11_init 142 = .ok (.putfield 60, 3) := by decide +kernel
theorem dX11_init_145 : decode cX11_init 145 = .ok (.aload_n 0, 1) := by decide +kernel
theorem dX11_init_146 : decode cX11_init 146 = .ok (.sipush 2400, 3) := by decide +kernel
theorem dX11_init_149 : decode cX11_init 149 = .ok (.newarray .int, 2) := by decide +kernel
theorem dX11_init_151 : decode cX11_init 151 = .ok (.putfield 63, 3) := by decide +kernel
theorem dX11_init_154 : decode cX11_init 154 = .ok (.aload_n 0, 1) := by decide +kernel
theorem dX11_init_155 : decode cX11_init 155 = .ok (.bipush 120, 2) := by decide +kernel
theorem dX11_init_157 : decode cX11_init 157 = .ok (.newarray .int, 2) := by decide +kernel
theorem dX11_init_159 : decode cX11_init 159 = .ok (.putfield 66, 3) := by decide +kernel
theorem dX11_init_162 : decode cX11_init 162 = .ok (.aload_n 0, 1) := by decide +kernel
theorem dX11_init_163 : decode cX11_init 163 = .ok (.iconst 5, 1) := by decide +kernel
theorem dX11_init_164 : decode cX11_init 164 = .ok (.newarray .int, 2) := by decide +kernel
theorem dX11_init_166 : decode cX11_init 166 = .ok (.putfield 69, 3) := by decide +kernel
theorem dX11_init_169 : decode cX11_init 169 = .ok (.aload_n 0, 1) := by decide +kernel
theorem dX11_init_170 : decode cX11_init 170 = .ok (.iconst 5, 1) := by decide +kernel
theorem dX11_init_171 : decode cX11_init 171 = .ok (.newarray .int, 2) := by decide +kernel
theorem dX11_init_173 : decode cX11_init 173 = .ok (.putfield 72, 3) := by decide +kernel
theorem dX11_init_176 : decode cX11_init 176 = .ok (.aload_n 0, 1) := by decide +kernel
theorem dX11_init_177 : decode cX11_init 177 = .ok (.iconst 5, 1) := by decide +kernel
theorem dX11_init_178 : decode cX11_init 178 = .ok (.newarray .int, 2) := by decide +kernel
theorem dX11_init_180 : decode cX11_init 180 = .ok (.putfield 75, 3) := by decide +kernel
theorem dX11_init_183 : decode cX11_init 183 = .ok (.aload_n 0, 1) := by decide +kernel
theorem dX11_init_184 : decode cX11_init 184 = .ok (.iconst 5, 1) := by decide +kernel
theorem dX11_init_185 : decode cX11_init 185 = .ok (.newarray .int, 2) := by decide +kernel
theorem dX11_init_187 : decode cX11_init 187 = .ok (.putfield 78, 3) := by decide +kernel
theorem dX11_init_190 : decode cX11_init 190 = .ok (.aload_n 0, 1) := by decide +kernel
theorem dX11_init_191 : decode cX11_init 191 = .ok (.iconst 5, 1) := by decide +kernel
theorem dX11_init_192 : decode cX11_init 192 = .ok (.newarray .int, 2) := by decide +kernel
theorem dX11_init_194 : decode cX11_init 194 = .ok (.putfield 81, 3) := by decide +kernel
theorem dX11_init_197 : decode cX11_init 197 = .ok (.aload_n 0, 1) := by decide +kernel
theorem dX11_init_198 : decode cX11_init 198 = .ok (.sipush 600, 3) := by decide +kernel
theorem dX11_init_201 : decode cX11_init 201 = .ok (.newarray .int, 2) := by decide +kernel
theorem dX11_init_203 : decode cX11_init 203 = .ok (.putfield 84, 3) := by decide +kernel
theorem dX11_init_206 : decode cX11_init 206 = .ok (.aload_n 0, 1) := by decide +kernel
theorem dX11_init_207 : decode cX11_init 207 = .ok (.sipush 600, 3) := by decide +kernel
theorem dX11_init_210 : decode cX11_init 210 = .ok (.newarray .int, 2) := by decide +kernel
theorem dX11_init_212 : decode cX11_init 212 = .ok (.putfield 87, 3) := by decide +kernel
theorem dX11_init_215 : decode cX11_init 215 = .ok (.aload_n 0, 1) := by decide +kernel
theorem dX11_init_216 : decode cX11_init 216 = .ok (.sipush 600, 3) := by decide +kernel
theorem dX11_init_219 : decode cX11_init 219 = .ok (.newarray .int, 2) := by decide +kernel
theorem dX11_init_221 : decode cX11_init 221 = .ok (.putfield 90, 3) := by decide +kernel
theorem dX11_init_224 : decode cX11_init 224 = .ok (.aload_n 0, 1) := by decide +kernel
theorem dX11_init_225 : decode cX11_init 225 = .ok (.sipush 600, 3) := by decide +kernel
theorem dX11_init_228 : decode cX11_init 228 = .ok (.newarray .int, 2) := by decide +kernel
theorem dX11_init_230 : decode cX11_init 230 = .ok (.putfield 93, 3) := by decide +kernel
theorem dX11_init_233 : decode cX11_init 233 = .ok (.aload_n 0, 1) := by decide +kernel
theorem dX11_init_234 : decode cX11_init 234 = .ok (.sipush 600, 3) := by decide +kernel
theorem dX11_init_237 : decode cX11_init 237 = .ok (.newarray .int, 2) := by decide +kernel
theorem dX11_init_239 : decode cX11_init 239 = .ok (.putfield 96, 3) := by decide +kernel
theorem dX11_init_242 : decode cX11_init 242 = .ok (.aload_n 0, 1) := by decide +kernel
theorem dX11_init_243 : decode cX11_init 243 = .ok (.sipush 600, 3) := by decide +kernel
theorem dX11_init_246 : decode cX11_init 246 = .ok (.newarray .int, 2) := by decide +kernel
theorem dX11_init_248 : decode cX11_init 248 = .ok (.putfield 99, 3) := by decide +kernel
theorem dX11_init_251 : decode cX11_init 251 = .ok (.aload_n 0, 1) := by decide +kernel
theorem dX11_init_252 : decode cX11_init 252 = .ok (.sipush 600, 3) := by decide +kernel
theorem dX11_init_255 : decode cX11_init 255 = .ok (.newarray .int, 2) := by decide +kernel
theorem dX11_init_257 : decode cX11_init 257 = .ok (.putfield 102, 3) := by decide +kernel
theorem dX11_init_260 : decode cX11_init 260 = .ok (.aload_n 0, 1) := by decide +kernel
theorem dX11_init_261 : decode cX11_init 261 = .ok (.sipush 600, 3) := by decide +kernel
theorem dX11_init_264 : decode cX11_init 264 = .ok (.newarray .int, 2) := by decide +kernel
theorem dX11_init_266 : decode cX11_init 266 = .ok (.putfield 105, 3) := by decide +kernel
theorem dX11_init_269 : decode cX11_init 269 = .ok (.aload_n 0, 1) := by decide +kernel
theorem dX11_init_270 : decode cX11_init 270 = .ok (.sipush 600, 3) := by decide +kernel
theorem dX11_init_273 : decode cX11_init 273 = .ok (.newarray .boolean, 2) := by decide +kernel
theorem dX11_init_275 : decode cX11_init 275 = .ok (.putfield 108, 3) := by decide +kernel
theorem dX11_init_278 : decode cX11_init 278 = .ok (.aload_n 0, 1) := by decide +kernel
theorem dX11_init_279 : decode cX11_init 279 = .ok (.sipush 600, 3) := by decide +kernel
theorem dX11_init_282 : decode cX11_init 282 = .ok (.newarray .boolean, 2) := by decide +kernel
theorem dX11_init_284 : decode cX11_init 284 = .ok (.putfield 111, 3) := by decide +kernel
theorem dX11_init_287 : decode cX11_init 287 = .ok (.aload_n 0, 1) := by decide +kernel
theorem dX11_init_288 : decode cX11_init 288 = .ok (.sipush 600, 3) := by decide +kernel
theorem dX11_init_291 : decode cX11_init 291 = .ok (.newarray .int, 2) := by decide +kernel
theorem dX11_init_293 : decode cX11_init 293 = .ok (.putfield 114, 3) := by decide +kernel
theorem dX11_init_296 : decode cX11_init 296 = .ok (.aload_n 0, 1) := by decide +kernel
theorem dX11_init_297 : decode cX11_init 297 = .ok (.sipush 600, 3) := by decide +kernel
theorem dX11_init_300 : decode cX11_init 300 = .ok (.newarray .int, 2) := by decide +kernel
theorem dX11_init_302 : decode cX11_init 302 = .ok (.putfield 117, 3) := by decide +kernel
theorem dX11_init_305 : decode cX11_init 305 = .ok (.aload_n 0, 1) := by decide +kernel
theorem dX11_init_306 : decode cX11_init 306 = .ok (.sipush 600, 3) := by decide +kernel
theorem dX11_init_309 : decode cX11_init 309 = .ok (.newarray .int, 2) := by decide +kernel
theorem dX11_init_311 : decode cX11_init 311 = .ok (.putfield 120, 3) := by decide +kernel
theorem dX11_init_314 : decode cX11_init 314 = .ok (.aload_n 0, 1) := by decide +kernel
theorem dX11_init_315 : decode cX11_init 315 = .ok (.iconst 5, 1) := by decide +kernel
theorem dX11_init_316 : decode cX11_init 316 = .ok (.newarray .int, 2) := by decide +kernel
theorem dX11_init_318 : decode cX11_init 318 = .ok (.putfield 123, 3) := by decide +kernel
theorem dX11_init_321 : decode cX11_init 321 = .ok (.aload_n 0, 1) := by decide +kernel
theorem dX11_init_322 : decode cX11_init 322 = .ok (.iconst 5, 1) := by decide +kernel
theorem dX11_init_323 : decode cX11_init 323 = .ok (.newarray .int, 2) := by decide +kernel
theorem dX11_init_325 : decode cX11_init 325 = .ok (.putfield 126, 3) := by decide +kernel
theorem dX11_init_328 : decode cX11_init 328 = .ok (.return_, 1) := by decide +kernel
theorem dX11_thrown_0 : decode cX11_thrown 0 = .ok (.aload_n 0, 1) := by decide +kernel
theorem dX11_thrown_1 : decode cX11_thrown 1 = .ok (.getfield 129, 3) := by decide +kernel
theorem dX11_thrown_4 : decode cX11_thrown 4 = .ok (.ireturn, 1) := by decide +kernel
theorem dX11_throwsIf_0 : decode cX11_throwsIf 0 = .ok (.iload_n 1, 1) := by decide +kernel
theorem dX11_throwsIf_1 : decode cX11_throwsIf 1 = .ok (.ifCond .eq 8, 3) := by decide +kernel
theorem dX11_throwsIf_4 : decode cX11_throwsIf 4 = .ok (.aload_n 0, 1) := by decide +kernel
theorem dX11_throwsIf_5 : decode cX11_throwsIf 5 = .ok (.iload_n 2, 1) := by decide +kernel
theorem dX11_throwsIf_6 : decode cX11_throwsIf 6 = .ok (.putfield 129, 3) := by decide +kernel
theorem dX11_throwsIf_9 : decode cX11_throwsIf 9 = .ok (.iload_n 1, 1) := by decide +kernel
theorem dX11_throwsIf_10 : decode cX11_throwsIf 10 = .ok (.ireturn, 1) := by decide +kernel
theorem dX11_noStreet_0 : decode cX11_noStreet 0 = .ok (.iload_n 1, 1) := by decide +kernel
theorem dX11_noStreet_1 : decode cX11_noStreet 1 = .ok (.ifCond .lt 11, 3) := by decide +kernel
theorem dX11_noStreet_4 : decode cX11_noStreet 4 = .ok (.iload_n 1, 1) := by decide +kernel
theorem dX11_noStreet_5 : decode cX11_noStreet 5 = .ok (.aload_n 0, 1) := by decide +kernel
theorem dX11_noStreet_6 : decode cX11_noStreet 6 = .ok (.getfield 133, 3) := by decide +kernel
theorem dX11_noStreet_9 : decode cX11_noStreet 9 = .ok (.if_icmp .lt 7, 3) := by decide +kernel
theorem dX11_noStreet_12 : decode cX11_noStreet 12 = .ok (.iconst 1, 1) := by decide +kernel
theorem dX11_noStreet_13 : decode cX11_noStreet 13 = .ok (.goto 4, 3) := by decide +kernel
theorem dX11_noStreet_16 : decode cX11_noStreet 16 = .ok (.iconst 0, 1) := by decide +kernel
theorem dX11_noStreet_17 : decode cX11_noStreet 17 = .ok (.ireturn, 1) := by decide +kernel
theorem dX11_noHouse_0 : decode cX11_noHouse 0 = .ok (.iload_n 1, 1) := by decide +kernel
theorem dX11_noHouse_1 : decode cX11_noHouse 1 = .ok (.ifCond .lt 11, 3) := by decide +kernel
theorem dX11_noHouse_4 : decode cX11_noHouse 4 = .ok (.iload_n 1, 1) := by decide +kernel
theorem dX11_noHouse_5 : decode cX11_noHouse 5 = .ok (.aload_n 0, 1) := by decide +kernel
theorem dX11_noHouse_6 : decode cX11_noHouse 6 = .ok (.getfield 136, 3) := by decide +kernel
theorem dX11_noHouse_9 : decode cX11_noHouse 9 = .ok (.if_icmp .lt 7, 3) := by decide +kernel
theorem dX11_noHouse_12 : decode cX11_noHouse 12 = .ok (.iconst 1, 1) := by decide +kernel
theorem dX11_noHouse_13 : decode cX11_noHouse 13 = .ok (.goto 4, 3) := by decide +kernel
theorem dX11_noHouse_16 : decode cX11_noHouse 16 = .ok (.iconst 0, 1) := by decide +kernel
theorem dX11_noHouse_17 : decode cX11_noHouse 17 = .ok (.ireturn, 1) := by decide +kernel
theorem dX11_noBin_0 : decode cX11_noBin 0 = .ok (.iload_n 1, 1) := by decide +kernel
theorem dX11_noBin_1 : decode cX11_noBin 1 = .ok (.ifCond .lt 11, 3) := by decide +kernel
theorem dX11_noBin_4 : decode cX11_noBin 4 = .ok (.iload_n 1, 1) := by decide +kernel
theorem dX11_noBin_5 : decode cX11_noBin 5 = .ok (.aload_n 0, 1) := by decide +kernel
theorem dX11_noBin_6 : decode cX11_noBin 6 = .ok (.getfield 139, 3) := by decide +kernel
theorem dX11_noBin_9 : decode cX11_noBin 9 = .ok (.if_icmp .lt 7, 3) := by decide +kernel
theorem dX11_noBin_12 : decode cX11_noBin 12 = .ok (.iconst 1, 1) := by decide +kernel
theorem dX11_noBin_13 : decode cX11_noBin 13 = .ok (.goto 4, 3) := by decide +kernel
theorem dX11_noBin_16 : decode cX11_noBin 16 = .ok (.iconst 0, 1) := by decide +kernel
theorem dX11_noBin_17 : decode cX11_noBin 17 = .ok (.ireturn, 1) := by decide +kernel
theorem dX11_noCart_0 : decode cX11_noCart 0 = .ok (.iload_n 1, 1) := by decide +kernel
theorem dX11_noCart_1 : decode cX11_noCart 1 = .ok (.ifCond .lt 11, 3) := by decide +kernel
theorem dX11_noCart_4 : decode cX11_noCart 4 = .ok (.iload_n 1, 1) := by decide +kernel
theorem dX11_noCart_5 : decode cX11_noCart 5 = .ok (.aload_n 0, 1) := by decide +kernel
theorem dX11_noCart_6 : decode cX11_noCart 6 = .ok (.getfield 142, 3) := by decide +kernel
theorem dX11_noCart_9 : decode cX11_noCart 9 = .ok (.if_icmp .lt 7, 3) := by decide +kernel
theorem dX11_noCart_12 : decode cX11_noCart 12 = .ok (.iconst 1, 1) := by decide +kernel
theorem dX11_noCart_13 : decode cX11_noCart 13 = .ok (.goto 4, 3) := by decide +kernel
theorem dX11_noCart_16 : decode cX11_noCart 16 = .ok (.iconst 0, 1) := by decide +kernel
theorem dX11_noCart_17 : decode cX11_noCart 17 = .ok (.ireturn, 1) := by decide +kernel
theorem dX11_noTip_0 : decode cX11_noTip 0 = .ok (.iload_n 1, 1) := by decide +kernel
theorem dX11_noTip_1 : decode cX11_noTip 1 = .ok (.ifCond .lt 11, 3) := by decide +kernel
theorem dX11_noTip_4 : decode cX11_noTip 4 = .ok (.iload_n 1, 1) := by decide +kernel
theorem dX11_noTip_5 : decode cX11_noTip 5 = .ok (.aload_n 0, 1) := by decide +kernel
theorem dX11_noTip_6 : decode cX11_noTip 6 = .ok (.getfield 145, 3) := by decide +kernel
theorem dX11_noTip_9 : decode cX11_noTip 9 = .ok (.if_icmp .lt 7, 3) := by decide +kernel
theorem dX11_noTip_12 : decode cX11_noTip 12 = .ok (.iconst 1, 1) := by decide +kernel
theorem dX11_noTip_13 : decode cX11_noTip 13 = .ok (.goto 4, 3) := by decide +kernel
theorem dX11_noTip_16 : decode cX11_noTip 16 = .ok (.iconst 0, 1) := by decide +kernel
theorem dX11_noTip_17 : decode cX11_noTip 17 = .ok (.ireturn, 1) := by decide +kernel
theorem dX11_in_0 : decode cX11_in 0 = .ok (.lload_n 0, 1) := by decide +kernel
theorem dX11_in_1 : decode cX11_in 1 = .ok (.lload_n 2, 1) := by decide +kernel
theorem dX11_in_2 : decode cX11_in 2 = .ok (.lcmp, 1) := by decide +kernel
theorem dX11_in_3 : decode cX11_in 3 = .ok (.ifCond .lt 14, 3) := by decide +kernel
theorem dX11_in_6 : decode cX11_in 6 = .ok (.lload_n 0, 1) := by decide +kernel
theorem dX11_in_7 : decode cX11_in 7 = .ok (.lload 4, 2) := by decide +kernel
theorem dX11_in_9 : decode cX11_in 9 = .ok (.lcmp, 1) := by decide +kernel
theorem dX11_in_10 : decode cX11_in 10 = .ok (.ifCond .gt 7, 3) := by decide +kernel
theorem dX11_in_13 : decode cX11_in 13 = .ok (.iconst 1, 1) := by decide +kernel
theorem dX11_in_14 : decode cX11_in 14 = .ok (.goto 4, 3) := by decide +kernel
theorem dX11_in_17 : decode cX11_in 17 = .ok (.iconst 0, 1) := by decide +kernel
theorem dX11_in_18 : decode cX11_in 18 = .ok (.ireturn, 1) := by decide +kernel
theorem dX11_isHoliday_0 : decode cX11_isHoliday 0 = .ok (.iload_n 1, 1) := by decide +kernel
theorem dX11_isHoliday_1 : decode cX11_isHoliday 1 = .ok (.sipush 700, 3) := by decide +kernel
theorem dX11_isHoliday_4 : decode cX11_isHoliday 4 = .ok (.if_icmp .ge 16, 3) := by decide +kernel
theorem dX11_isHoliday_7 : decode cX11_isHoliday 7 = .ok (.aload_n 0, 1) := by decide +kernel
theorem dX11_isHoliday_8 : decode cX11_isHoliday 8 = .ok (.getfield 9, 3) := by decide +kernel
theorem dX11_isHoliday_11 : decode cX11_isHoliday 11 = .ok (.iload_n 1, 1) := by decide +kernel
theorem dX11_isHoliday_12 : decode cX11_isHoliday 12 = .ok (.baload, 1) := by decide +kernel
theorem dX11_isHoliday_13 : decode cX11_isHoliday 13 = .ok (.ifCond .eq 7, 3) := by decide +kernel
theorem dX11_isHoliday_16 : decode cX11_isHoliday 16 = .ok (.iconst 1, 1) := by decide +kernel
theorem dX11_isHoliday_17 : decode cX11_isHoliday 17 = .ok (.goto 4, 3) := by decide +kernel
theorem dX11_isHoliday_20 : decode cX11_isHoliday 20 = .ok (.iconst 0, 1) := by decide +kernel
theorem dX11_isHoliday_21 : decode cX11_isHoliday 21 = .ok (.ireturn, 1) := by decide +kernel
set_option maxRecDepth 20000 in
theorem ggX11_dayOf_X11_isHoliday : GoodIn wsX11_dayOf wsX11_isHoliday := goodIn_r _ [7, 8, 9, 10, 11, 12, 13, 14, 15, 16, 17, 18, 19, 20, 21, 22, 23, 24, 25, 26, 27, 28, 29, 30, 31, 32, 33, 34, 35, 36, 37, 38, 39, 40, 41, 42, 43, 44, 45, 46, 47, 48, 49, 50, 51, 52, 53, 54, 55, 56] (by decide +kernel) (by decide +kernel)
set_option maxRecDepth 20000 in
theorem gX11_dayOf_X11_isHoliday : GoodIn wsX11_dayOf (wsV RX11 148 RX11 yX11_isHoliday wsX11_isHoliday) := goodIn_app (goodIn_of _ (by decide +kernel)) ggX11_dayOf_X11_isHoliday
theorem dX11_dayOf_0 : decode cX11_dayOf 0 = .ok (.aload_n 0, 1) := by decide +kernel
theorem dX11_dayOf_1 : decode cX11_dayOf 1 = .ok (.getfield 17, 3) := by decide +kernel
theorem dX11_dayOf_4 : decode cX11_dayOf 4 = .ok (.iconst 3, 1) := by decide +kernel
theorem dX11_dayOf_5 : decode cX11_dayOf 5 = .ok (.iload_n 1, 1) := by decide +kernel
theorem dX11_dayOf_6 : decode cX11_dayOf 6 = .ok (.imul, 1) := by decide +kernel
theorem dX11_dayOf_7 : decode cX11_dayOf 7 = .ok (.iload_n 2, 1) := by decide +kernel
theorem dX11_dayOf_8 : decode cX11_dayOf 8 = .ok (.iadd, 1) := by decide +kernel
theorem dX11_dayOf_9 : decode cX11_dayOf 9 = .ok (.iaload, 1) := by decide +kernel
theorem dX11_dayOf_10 : decode cX11_dayOf 10 = .ok (.istore 4, 2) := by decide +kernel
theorem dX11_dayOf_12 : decode cX11_dayOf 12 = .ok (.iload_n 3, 1) := by decide +kernel
theorem dX11_dayOf_13 : decode cX11_dayOf 13 = .ok (.iconst 2, 1) := by decide +kernel
theorem dX11_dayOf_14 : decode cX11_dayOf 14 = .ok (.irem, 1) := by decide +kernel
theorem dX11_dayOf_15 : decode cX11_dayOf 15 = .ok (.iconst 1, 1) := by decide +kernel
theorem dX11_dayOf_16 : decode cX11_dayOf 16 = .ok (.if_icmp .ne 10, 3) := by decide +kernel
theorem dX11_dayOf_19 : decode cX11_dayOf 19 = .ok (.iload 4, 2) := by decide +kernel
theorem dX11_dayOf_21 : decode cX11_dayOf 21 = .ok (.iconst 1, 1) := by decide +kernel
theorem dX11_dayOf_22 : decode cX11_dayOf 22 = .ok (.iand, 1) := by decide +kernel
theorem dX11_dayOf_23 : decode cX11_dayOf 23 = .ok (.goto 7, 3) := by decide +kernel
theorem dX11_dayOf_26 : decode cX11_dayOf 26 = .ok (.iload 4, 2) := by decide +kernel
theorem dX11_dayOf_28 : decode cX11_dayOf 28 = .ok (.iconst 2, 1) := by decide +kernel
theorem dX11_dayOf_29 : decode cX11_dayOf 29 = .ok (.iand, 1) := by decide +kernel
theorem dX11_dayOf_30 : decode cX11_dayOf 30 = .ok (.ifCond .ne 5, 3) := by decide +kernel
theorem dX11_dayOf_33 : decode cX11_dayOf 33 = .ok (.iconst (-1), 1) := by decide +kernel
theorem dX11_dayOf_34 : decode cX11_dayOf 34 = .ok (.ireturn, 1) := by decide +kernel
theorem dX11_dayOf_35 : decode cX11_dayOf 35 = .ok (.aload_n 0, 1) := by decide +kernel
theorem dX11_dayOf_36 : decode cX11_dayOf 36 = .ok (.getfield 13, 3) := by decide +kernel
theorem dX11_dayOf_39 : decode cX11_dayOf 39 = .ok (.iconst 3, 1) := by decide +kernel
theorem dX11_dayOf_40 : decode cX11_dayOf 40 = .ok (.iload_n 1, 1) := by decide +kernel
theorem dX11_dayOf_41 : decode cX11_dayOf 41 = .ok (.imul, 1) := by decide +kernel
theorem dX11_dayOf_42 : decode cX11_dayOf 42 = .ok (.iload_n 2, 1) := by decide +kernel
theorem dX11_dayOf_43 : decode cX11_dayOf 43 = .ok (.iadd, 1) := by decide +kernel
theorem dX11_dayOf_44 : decode cX11_dayOf 44 = .ok (.iaload, 1) := by decide +kernel
theorem dX11_dayOf_45 : decode cX11_dayOf 45 = .ok (.istore 5, 2) := by decide +kernel
theorem dX11_dayOf_47 : decode cX11_dayOf 47 = .ok (.bipush (-2), 2) := by decide +kernel
theorem dX11_dayOf_49 : decode cX11_dayOf 49 = .ok (.istore 6, 2) := by decide +kernel
theorem dX11_dayOf_51 : decode cX11_dayOf 51 = .ok (.iconst 5, 1) := by decide +kernel
theorem dX11_dayOf_52 : decode cX11_dayOf 52 = .ok (.istore 7, 2) := by decide +kernel
theorem dX11_dayOf_54 : decode cX11_dayOf 54 = .ok (.iload 7, 2) := by decide +kernel
theorem dX11_dayOf_56 : decode cX11_dayOf 56 = .ok (.ifCond .lt 82, 3) := by decide +kernel
theorem dX11_dayOf_59 : decode cX11_dayOf 59 = .ok (.iconst 0, 1) := by decide +kernel
theorem dX11_dayOf_60 : decode cX11_dayOf 60 = .ok (.istore 8, 2) := by decide +kernel
theorem dX11_dayOf_62 : decode cX11_dayOf 62 = .ok (.iconst 0, 1) := by decide +kernel
theorem dX11_dayOf_63 : decode cX11_dayOf 63 = .ok (.istore 9, 2) := by decide +kernel
theorem dX11_dayOf_65 : decode cX11_dayOf 65 = .ok (.iload 9, 2) := by decide +kernel
theorem dX11_dayOf_67 : decode cX11_dayOf 67 = .ok (.iload 7, 2) := by decide +kernel
theorem dX11_dayOf_69 : decode cX11_dayOf 69 = .ok (.if_icmp .ge 33, 3) := by decide +kernel
theorem dX11_dayOf_72 : decode cX11_dayOf 72 = .ok (.iload 8, 2) := by decide +kernel
theorem dX11_dayOf_74 : decode cX11_dayOf 74 = .ok (.aload_n 0, 1) := by decide +kernel
theorem dX11_dayOf_75 : decode cX11_dayOf 75 = .ok (.bipush 7, 2) := by decide +kernel
theorem dX11_dayOf_77 : decode cX11_dayOf 77 = .ok (.iload_n 3, 1) := by decide +kernel
theorem dX11_dayOf_78 : decode cX11_dayOf 78 = .ok (.imul, 1) := by decide +kernel
theorem dX11_dayOf_79 : decode cX11_dayOf 79 = .ok (.iload 9, 2) := by decide +kernel
theorem dX11_dayOf_81 : decode cX11_dayOf 81 = .ok (.iadd, 1) := by decide +kernel
theorem dX11_dayOf_82 : decode cX11_dayOf 82 = .ok (.invokevirtual 148, 3) := by decide +kernel
theorem dX11_dayOf_85 : decode cX11_dayOf 85 = .ok (.ifCond .eq 7, 3) := by decide +kernel
theorem dX11_dayOf_88 : decode cX11_dayOf 88 = .ok (.iconst 0, 1) := by decide +kernel
theorem dX11_dayOf_89 : decode cX11_dayOf 89 = .ok (.goto 4, 3) := by decide +kernel
theorem dX11_dayOf_92 : decode cX11_dayOf 92 = .ok (.iconst 1, 1) := by decide +kernel
theorem dX11_dayOf_93 : decode cX11_dayOf 93 = .ok (.iadd, 1) := by decide +kernel
theorem dX11_dayOf_94 : decode cX11_dayOf 94 = .ok (.istore 8, 2) := by decide +kernel
theorem dX11_dayOf_96 : decode cX11_dayOf 96 = .ok (.iinc 9 1, 3) := by decide +kernel
theorem dX11_dayOf_99 : decode cX11_dayOf 99 = .ok (.goto (-34), 3) := by decide +kernel
theorem dX11_dayOf_102 : decode cX11_dayOf 102 = .ok (.aload_n 0, 1) := by decide +kernel
theorem dX11_dayOf_103 : decode cX11_dayOf 103 = .ok (.bipush 7, 2) := by decide +kernel
theorem dX11_dayOf_105 : decode cX11_dayOf 105 = .ok (.iload_n 3, 1) := by decide +kernel
theorem dX11_dayOf_106 : decode cX11_dayOf 106 = .ok (.imul, 1) := by decide +kernel
theorem dX11_dayOf_107 : decode cX11_dayOf 107 = .ok (.iload 7, 2) := by decide +kernel
theorem dX11_dayOf_109 : decode cX11_dayOf 109 = .ok (.iadd, 1) := by decide +kernel
theorem dX11_dayOf_110 : decode cX11_dayOf 110 = .ok (.invokevirtual 148, 3) := by decide +kernel
theorem dX11_dayOf_113 : decode cX11_dayOf 113 = .ok (.ifCond .ne 19, 3) := by decide +kernel
theorem dX11_dayOf_116 : decode cX11_dayOf 116 = .ok (.iload 8, 2) := by decide +kernel
theorem dX11_dayOf_118 : decode cX11_dayOf 118 = .ok (.iload 5, 2) := by decide +kernel
theorem dX11_dayOf_120 : decode cX11_dayOf 120 = .ok (.if_icmp .ne 12, 3) := by decide +kernel
theorem dX11_dayOf_123 : decode cX11_dayOf 123 = .ok (.bipush 7, 2) := by decide +kernel
theorem dX11_dayOf_125 : decode cX11_dayOf 125 = .ok (.iload_n 3, 1) := by decide +kernel
theorem dX11_dayOf_126 : decode cX11_dayOf 126 = .ok (.imul, 1) := by decide +kernel
theorem dX11_dayOf_127 : decode cX11_dayOf 127 = .ok (.iload 7, 2) := by decide +kernel
theorem dX11_dayOf_129 : decode cX11_dayOf 129 = .ok (.iadd, 1) := by decide +kernel
theorem dX11_dayOf_130 : decode cX11_dayOf 130 = .ok (.istore 6, 2) := by decide +kernel
theorem dX11_dayOf_132 : decode cX11_dayOf 132 = .ok (.iinc 7 (-1), 3) := by decide +kernel
theorem dX11_dayOf_135 : decode cX11_dayOf 135 = .ok (.goto (-81), 3) := by decide +kernel
theorem dX11_dayOf_138 : decode cX11_dayOf 138 = .ok (.iload 6, 2) := by decide +kernel
theorem dX11_dayOf_140 : decode cX11_dayOf 140 = .ok (.ireturn, 1) := by decide +kernel
theorem dX11_group_0 : decode cX11_group 0 = .ok (.iload_n 0, 1) := by decide +kernel
theorem dX11_group_1 : decode cX11_group 1 = .ok (.iconst 1, 1) := by decide +kernel
theorem dX11_group_2 : decode cX11_group 2 = .ok (.if_icmp .ne 7, 3) := by decide +kernel
theorem dX11_group_5 : decode cX11_group 5 = .ok (.iconst 1, 1) := by decide +kernel
theorem dX11_group_6 : decode cX11_group 6 = .ok (.goto 13, 3) := by decide +kernel
theorem dX11_group_9 : decode cX11_group 9 = .ok (.iload_n 0, 1) := by decide +kernel
theorem dX11_group_10 : decode cX11_group 10 = .ok (.iconst 2, 1) := by decide +kernel
theorem dX11_group_11 : decode cX11_group 11 = .ok (.if_icmp .ne 7, 3) := by decide +kernel
theorem dX11_group_14 : decode cX11_group 14 = .ok (.iconst 2, 1) := by decide +kernel
theorem dX11_group_15 : decode cX11_group 15 = .ok (.goto 4, 3) := by decide +kernel
theorem dX11_group_18 : decode cX11_group 18 = .ok (.iconst 0, 1) := by decide +kernel
theorem dX11_group_19 : decode cX11_group 19 = .ok (.ireturn, 1) := by decide +kernel
theorem dX11_houseOf_0 : decode cX11_houseOf 0 = .ok (.iconst (-1), 1) := by decide +kernel
theorem dX11_houseOf_1 : decode cX11_houseOf 1 = .ok (.istore_n 3, 1) := by decide +kernel
theorem dX11_houseOf_2 : decode cX11_houseOf 2 = .ok (.iconst 0, 1) := by decide +kernel
theorem dX11_houseOf_3 : decode cX11_houseOf 3 = .ok (.istore 4, 2) := by decide +kernel
theorem dX11_houseOf_5 : decode cX11_houseOf 5 = .ok (.iload 4, 2) := by decide +kernel
theorem dX11_houseOf_7 : decode cX11_houseOf 7 = .ok (.aload_n 0, 1) := by decide +kernel
theorem dX11_houseOf_8 : decode cX11_houseOf 8 = .ok (.getfield 54, 3) := by decide +kernel
theorem dX11_houseOf_11 : decode cX11_houseOf 11 = .ok (.iload_n 1, 1) := by decide +kernel
theorem dX11_houseOf_12 : decode cX11_houseOf 12 = .ok (.iaload, 1) := by decide +kernel
theorem dX11_houseOf_13 : decode cX11_houseOf 13 = .ok (.if_icmp .ge 38, 3) := by decide +kernel
theorem dX11_houseOf_16 : decode cX11_houseOf 16 = .ok (.aload_n 0, 1) := by decide +kernel
theorem dX11_houseOf_17 : decode cX11_houseOf 17 = .ok (.getfield 51, 3) := by decide +kernel
theorem dX11_houseOf_20 : decode cX11_houseOf 20 = .ok (.bipush 8, 2) := by decide +kernel
theorem dX11_houseOf_22 : decode cX11_houseOf 22 = .ok (.iload_n 1, 1) := by decide +kernel
theorem dX11_houseOf_23 : decode cX11_houseOf 23 = .ok (.imul, 1) := by decide +kernel
theorem dX11_houseOf_24 : decode cX11_houseOf 24 = .ok (.iload 4, 2) := by decide +kernel
theorem dX11_houseOf_26 : decode cX11_houseOf 26 = .ok (.iadd, 1) := by decide +kernel
theorem dX11_houseOf_27 : decode cX11_houseOf 27 = .ok (.iaload, 1) := by decide +kernel
theorem dX11_houseOf_28 : decode cX11_houseOf 28 = .ok (.iload_n 2, 1) := by decide +kernel
theorem dX11_houseOf_29 : decode cX11_houseOf 29 = .ok (.if_icmp .gt 16, 3) := by decide +kernel
theorem dX11_houseOf_32 : decode cX11_houseOf 32 = .ok (.aload_n 0, 1) := by decide +kernel
theorem dX11_houseOf_33 : decode cX11_houseOf 33 = .ok (.getfield 48, 3) := by decide +kernel
theorem dX11_houseOf_36 : decode cX11_houseOf 36 = .ok (.bipush 8, 2) := by decide +kernel
theorem dX11_houseOf_38 : decode cX11_houseOf 38 = .ok (.iload_n 1, 1) := by decide +kernel
theorem dX11_houseOf_39 : decode cX11_houseOf 39 = .ok (.imul, 1) := by decide +kernel
theorem dX11_houseOf_40 : decode cX11_houseOf 40 = .ok (.iload 4, 2) := by decide +kernel
theorem dX11_houseOf_42 : decode cX11_houseOf 42 = .ok (.iadd, 1) := by decide +kernel
theorem dX11_houseOf_43 : decode cX11_houseOf 43 = .ok (.iaload, 1) := by decide +kernel
theorem dX11_houseOf_44 : decode cX11_houseOf 44 = .ok (.istore_n 3, 1) := by decide +kernel
theorem dX11_houseOf_45 : decode cX11_houseOf 45 = .ok (.iinc 4 1, 3) := by decide +kernel
theorem dX11_houseOf_48 : decode cX11_houseOf 48 = .ok (.goto (-43), 3) := by decide +kernel
theorem dX11_houseOf_51 : decode cX11_houseOf 51 = .ok (.iload_n 3, 1) := by decide +kernel
theorem dX11_houseOf_52 : decode cX11_houseOf 52 = .ok (.ireturn, 1) := by decide +kernel
theorem dX11_weightOf_0 : decode cX11_weightOf 0 = .ok (.iconst 0, 1) := by decide +kernel
theorem dX11_weightOf_1 : decode cX11_weightOf 1 = .ok (.istore 4, 2) := by decide +kernel
theorem dX11_weightOf_3 : decode cX11_weightOf 3 = .ok (.iconst 0, 1) := by decide +kernel
theorem dX11_weightOf_4 : decode cX11_weightOf 4 = .ok (.istore 5, 2) := by decide +kernel
theorem dX11_weightOf_6 : decode cX11_weightOf 6 = .ok (.iload 5, 2) := by decide +kernel
theorem dX11_weightOf_8 : decode cX11_weightOf 8 = .ok (.aload_n 0, 1) := by decide +kernel
theorem dX11_weightOf_9 : decode cX11_weightOf 9 = .ok (.getfield 66, 3) := by decide +kernel
theorem dX11_weightOf_12 : decode cX11_weightOf 12 = .ok (.iload_n 1, 1) := by decide +kernel
theorem dX11_weightOf_13 : decode cX11_weightOf 13 = .ok (.iaload, 1) := by decide +kernel
theorem dX11_weightOf_14 : decode cX11_weightOf 14 = .ok (.if_icmp .ge 55, 3) := by decide +kernel
theorem dX11_weightOf_17 : decode cX11_weightOf 17 = .ok (.aload_n 0, 1) := by decide +kernel
theorem dX11_weightOf_18 : decode cX11_weightOf 18 = .ok (.getfield 57, 3) := by decide +kernel
theorem dX11_weightOf_21 : decode cX11_weightOf 21 = .ok (.bipush 20, 2) := by decide +kernel
theorem dX11_weightOf_23 : decode cX11_weightOf 23 = .ok (.iload_n 1, 1) := by decide +kernel
theorem dX11_weightOf_24 : decode cX11_weightOf 24 = .ok (.imul, 1) := by decide +kernel
theorem dX11_weightOf_25 : decode cX11_weightOf 25 = .ok (.iload 5, 2) := by decide +kernel
theorem dX11_weightOf_27 : decode cX11_weightOf 27 = .ok (.iadd, 1) := by decide +kernel
theorem dX11_weightOf_28 : decode cX11_weightOf 28 = .ok (.iaload, 1) := by decide +kernel
theorem dX11_weightOf_29 : decode cX11_weightOf 29 = .ok (.iload_n 2, 1) := by decide +kernel
theorem dX11_weightOf_30 : decode cX11_weightOf 30 = .ok (.if_icmp .ne 33, 3) := by decide +kernel
theorem dX11_weightOf_33 : decode cX11_weightOf 33 = .ok (.aload_n 0, 1) := by decide +kernel
theorem dX11_weightOf_34 : decode cX11_weightOf 34 = .ok (.getfield 63, 3) := by decide +kernel
theorem dX11_weightOf_37 : decode cX11_weightOf 37 = .ok (.bipush 20, 2) := by decide +kernel
theorem dX11_weightOf_39 : decode cX11_weightOf 39 = .ok (.iload_n 1, 1) := by decide +kernel
theorem dX11_weightOf_40 : decode cX11_weightOf 40 = .ok (.imul, 1) := by decide +kernel
theorem dX11_weightOf_41 : decode cX11_weightOf 41 = .ok (.iload 5, 2) := by decide +kernel
theorem dX11_weightOf_43 : decode cX11_weightOf 43 = .ok (.iadd, 1) := by decide +kernel
theorem dX11_weightOf_44 : decode cX11_weightOf 44 = .ok (.iaload, 1) := by decide +kernel
theorem dX11_weightOf_45 : decode cX11_weightOf 45 = .ok (.iload_n 3, 1) := by decide +kernel
theorem dX11_weightOf_46 : decode cX11_weightOf 46 = .ok (.if_icmp .gt 17, 3) := by decide +kernel
theorem dX11_weightOf_49 : decode cX11_weightOf 49 = .ok (.aload_n 0, 1) := by decide +kernel
theorem dX11_weightOf_50 : decode cX11_weightOf 50 = .ok (.getfield 60, 3) := by decide +kernel
theorem dX11_weightOf_53 : decode cX11_weightOf 53 = .ok (.bipush 20, 2) := by decide +kernel
theorem dX11_weightOf_55 : decode cX11_weightOf 55 = .ok (.iload_n 1, 1) := by decide +kernel
theorem dX11_weightOf_56 : decode cX11_weightOf 56 = .ok (.imul, 1) := by decide +kernel
theorem dX11_weightOf_57 : decode cX11_weightOf 57 = .ok (.iload 5, 2) := by decide +kernel
theorem dX11_weightOf_59 : decode cX11_weightOf 59 = .ok (.iadd, 1) := by decide +kernel
theorem dX11_weightOf_60 : decode cX11_weightOf 60 = .ok (.iaload, 1) := by decide +kernel
theorem dX11_weightOf_61 : decode cX11_weightOf 61 = .ok (.istore 4, 2) := by decide +kernel
theorem dX11_weightOf_63 : decode cX11_weightOf 63 = .ok (.iinc 5 1, 3) := by decide +kernel
theorem dX11_weightOf_66 : decode cX11_weightOf 66 = .ok (.goto (-60), 3) := by decide +kernel
theorem dX11_weightOf_69 : decode cX11_weightOf 69 = .ok (.iload 4, 2) := by decide +kernel
theorem dX11_weightOf_71 : decode cX11_weightOf 71 = .ok (.ireturn, 1) := by decide +kernel
theorem dX11_middleOf_0 : decode cX11_middleOf 0 = .ok (.iconst 0, 1) := by decide +kernel
theorem dX11_middleOf_1 : decode cX11_middleOf 1 = .ok (.istore_n 2, 1) := by decide +kernel
theorem dX11_middleOf_2 : decode cX11_middleOf 2 = .ok (.aload_n 0, 1) := by decide +kernel
theorem dX11_middleOf_3 : decode cX11_middleOf 3 = .ok (.getfield 145, 3) := by decide +kernel
theorem dX11_middleOf_6 : decode cX11_middleOf 6 = .ok (.iconst 1, 1) := by decide +kernel
theorem dX11_middleOf_7 : decode cX11_middleOf 7 = .ok (.isub, 1) := by decide +kernel
theorem dX11_middleOf_8 : decode cX11_middleOf 8 = .ok (.istore_n 3, 1) := by decide +kernel
theorem dX11_middleOf_9 : decode cX11_middleOf 9 = .ok (.iload_n 3, 1) := by decide +kernel
theorem dX11_middleOf_10 : decode cX11_middleOf 10 = .ok (.ifCond .lt 100, 3) := by decide +kernel
theorem dX11_middleOf_13 : decode cX11_middleOf 13 = .ok (.iload_n 2, 1) := by decide +kernel
theorem dX11_middleOf_14 : decode cX11_middleOf 14 = .ok (.iconst 5, 1) := by decide +kernel
theorem dX11_middleOf_15 : decode cX11_middleOf 15 = .ok (.if_icmp .ge 95, 3) := by decide +kernel
theorem dX11_middleOf_18 : decode cX11_middleOf 18 = .ok (.aload_n 0, 1) := by decide +kernel
theorem dX11_middleOf_19 : decode cX11_middleOf 19 = .ok (.getfield 96, 3) := by decide +kernel
theorem dX11_middleOf_22 : decode cX11_middleOf 22 = .ok (.iload_n 3, 1) := by decide +kernel
theorem dX11_middleOf_23 : decode cX11_middleOf 23 = .ok (.iaload, 1) := by decide +kernel
theorem dX11_middleOf_24 : decode cX11_middleOf 24 = .ok (.iload_n 1, 1) := by decide +kernel
theorem dX11_middleOf_25 : decode cX11_middleOf 25 = .ok (.if_icmp .ne 79, 3) := by decide +kernel
theorem dX11_middleOf_28 : decode cX11_middleOf 28 = .ok (.aload_n 0, 1) := by decide +kernel
theorem dX11_middleOf_29 : decode cX11_middleOf 29 = .ok (.getfield 102, 3) := by decide +kernel
theorem dX11_middleOf_32 : decode cX11_middleOf 32 = .ok (.iload_n 3, 1) := by decide +kernel
theorem dX11_middleOf_33 : decode cX11_middleOf 33 = .ok (.iaload, 1) := by decide +kernel
theorem dX11_middleOf_34 : decode cX11_middleOf 34 = .ok (.ifCond .eq 6, 3) := by decide +kernel
theorem dX11_middleOf_37 : decode cX11_middleOf 37 = .ok (.goto 67, 3) := by decide +kernel
theorem dX11_middleOf_40 : decode cX11_middleOf 40 = .ok (.iload_n 2, 1) := by decide +kernel
theorem dX11_middleOf_41 : decode cX11_middleOf 41 = .ok (.istore 4, 2) := by decide +kernel
theorem dX11_middleOf_43 : decode cX11_middleOf 43 = .ok (.iload 4, 2) := by decide +kernel
theorem dX11_middleOf_45 : decode cX11_middleOf 45 = .ok (.ifCond .le 43, 3) := by decide +kernel
theorem dX11_middleOf_48 : decode cX11_middleOf 48 = .ok (.aload_n 0, 1) := by decide +kernel
theorem dX11_middleOf_49 : decode cX11_middleOf 49 = .ok (.getfield 123, 3) := by decide +kernel
theorem dX11_middleOf_52 : decode cX11_middleOf 52 = .ok (.iload 4, 2) := by decide +kernel
theorem dX11_middleOf_54 : decode cX11_middleOf 54 = .ok (.iconst 1, 1) := by decide +kernel
theorem dX11_middleOf_55 : decode cX11_middleOf 55 = .ok (.isub, 1) := by decide +kernel
theorem dX11_middleOf_56 : decode cX11_middleOf 56 = .ok (.iaload, 1) := by decide +kernel
theorem dX11_middleOf_57 : decode cX11_middleOf 57 = .ok (.aload_n 0, 1) := by decide +kernel
theorem dX11_middleOf_58 : decode cX11_middleOf 58 = .ok (.getfield 93, 3) := by decide +kernel
theorem dX11_middleOf_61 : decode cX11_middleOf 61 = .ok (.iload_n 3, 1) := by decide +kernel
theorem dX11_middleOf_62 : decode cX11_middleOf 62 = .ok (.iaload, 1) := by decide +kernel
theorem dX11_middleOf_63 : decode cX11_middleOf 63 = .ok (.if_icmp .le 25, 3) := by decide +kernel
theorem dX11_middleOf_66 : decode cX11_middleOf 66 = .ok (.aload_n 0, 1) := by decide +kernel
theorem dX11_middleOf_67 : decode cX11_middleOf 67 = .ok (.getfield 123, 3) := by decide +kernel
theorem dX11_middleOf_70 : decode cX11_middleOf 70 = .ok (.iload 4, 2) := by decide +kernel
theorem dX11_middleOf_72 : decode cX11_middleOf 72 = .ok (.aload_n 0, 1) := by decide +kernel
theorem dX11_middleOf_73 : decode cX11_middleOf 73 = .ok (.getfield 123, 3) := by decide +kernel
theorem dX11_middleOf_76 : decode cX11_middleOf 76 = .ok (.iload 4, 2) := by decide +kernel
theorem dX11_middleOf_78 : decode cX11_middleOf 78 = .ok (.iconst 1, 1) := by decide +kernel
theorem dX11_middleOf_79 : decode cX11_middleOf 79 = .ok (.isub, 1) := by decide +kernel
theorem dX11_middleOf_80 : decode cX11_middleOf 80 = .ok (.iaload, 1) := by decide +kernel
theorem dX11_middleOf_81 : decode cX11_middleOf 81 = .ok (.iastore, 1) := by decide +kernel
theorem dX11_middleOf_82 : decode cX11_middleOf 82 = .ok (.iinc 4 (-1), 3) := by decide +kernel
theorem dX11_middleOf_85 : decode cX11_middleOf 85 = .ok (.goto (-42), 3) := by decide +kernel
theorem dX11_middleOf_88 : decode cX11_middleOf 88 = .ok (.aload_n 0, 1) := by decide +kernel
theorem dX11_middleOf_89 : decode cX11_middleOf 89 = .ok (.getfield 123, 3) := by decide +kernel
theorem dX11_middleOf_92 : decode cX11_middleOf 92 = .ok (.iload 4, 2) := by decide +kernel
theorem dX11_middleOf_94 : decode cX11_middleOf 94 = .ok (.aload_n 0, 1) := by decide +kernel
theorem dX11_middleOf_95 : decode cX11_middleOf 95 = .ok (.getfield 93, 3) := by decide +kernel
theorem dX11_middleOf_98 : decode cX11_middleOf 98 = .ok (.iload_n 3, 1) := by decide +kernel
theorem dX11_middleOf_99 : decode cX11_middleOf 99 = .ok (.iaload, 1) := by decide +kernel
theorem dX11_middleOf_100 : decode cX11_middleOf 100 = .ok (.iastore, 1) := by decide +kernel
theorem dX11_middleOf_101 : decode cX11_middleOf 101 = .ok (.iinc 2 1, 3) := by decide +kernel
theorem dX11_middleOf_104 : decode cX11_middleOf 104 = .ok (.iinc 3 (-1), 3) := by decide +kernel
theorem dX11_middleOf_107 : decode cX11_middleOf 107 = .ok (.goto (-98), 3) := by decide +kernel
theorem dX11_middleOf_110 : decode cX11_middleOf 110 = .ok (.iload_n 2, 1) := by decide +kernel
theorem dX11_middleOf_111 : decode cX11_middleOf 111 = .ok (.ifCond .ne 7, 3) := by decide +kernel
theorem dX11_middleOf_114 : decode cX11_middleOf 114 = .ok (.iconst 0, 1) := by decide +kernel
theorem dX11_middleOf_115 : decode cX11_middleOf 115 = .ok (.goto 13, 3) := by decide +kernel
theorem dX11_middleOf_118 : decode cX11_middleOf 118 = .ok (.aload_n 0, 1) := by decide +kernel
theorem dX11_middleOf_119 : decode cX11_middleOf 119 = .ok (.getfield 123, 3) := by decide +kernel
theorem dX11_middleOf_122 : decode cX11_middleOf 122 = .ok (.iload_n 2, 1) := by decide +kernel
theorem dX11_middleOf_123 : decode cX11_middleOf 123 = .ok (.iconst 1, 1) := by decide +kernel
theorem dX11_middleOf_124 : decode cX11_middleOf 124 = .ok (.isub, 1) := by decide +kernel
theorem dX11_middleOf_125 : decode cX11_middleOf 125 = .ok (.iconst 2, 1) := by decide +kernel
theorem dX11_middleOf_126 : decode cX11_middleOf 126 = .ok (.idiv, 1) := by decide +kernel
theorem dX11_middleOf_127 : decode cX11_middleOf 127 = .ok (.iaload, 1) := by decide +kernel
theorem dX11_middleOf_128 : decode cX11_middleOf 128 = .ok (.ireturn, 1) := by decide +kernel
theorem dX11_bearers_0 : decode cX11_bearers 0 = .ok (.iconst 0, 1) := by decide +kernel
theorem dX11_bearers_1 : decode cX11_bearers 1 = .ok (.istore_n 2, 1) := by decide +kernel
theorem dX11_bearers_2 : decode cX11_bearers 2 = .ok (.iconst 0, 1) := by decide +kernel
theorem dX11_bearers_3 : decode cX11_bearers 3 = .ok (.istore_n 3, 1) := by decide +kernel
theorem dX11_bearers_4 : decode cX11_bearers 4 = .ok (.iload_n 3, 1) := by decide +kernel
theorem dX11_bearers_5 : decode cX11_bearers 5 = .ok (.aload_n 0, 1) := by decide +kernel
theorem dX11_bearers_6 : decode cX11_bearers 6 = .ok (.getfield 139, 3) := by decide +kernel
theorem dX11_bearers_9 : decode cX11_bearers 9 = .ok (.if_icmp .ge 36, 3) := by decide +kernel
theorem dX11_bearers_12 : decode cX11_bearers 12 = .ok (.iload_n 2, 1) := by decide +kernel
theorem dX11_bearers_13 : decode cX11_bearers 13 = .ok (.aload_n 0, 1) := by decide +kernel
theorem dX11_bearers_14 : decode cX11_bearers 14 = .ok (.getfield 39, 3) := by decide +kernel
theorem dX11_bearers_17 : decode cX11_bearers 17 = .ok (.iload_n 3, 1) := by decide +kernel
theorem dX11_bearers_18 : decode cX11_bearers 18 = .ok (.baload, 1) := by decide +kernel
theorem dX11_bearers_19 : decode cX11_bearers 19 = .ok (.ifCond .eq 17, 3) := by decide +kernel
theorem dX11_bearers_22 : decode cX11_bearers 22 = .ok (.aload_n 0, 1) := by decide +kernel
theorem dX11_bearers_23 : decode cX11_bearers 23 = .ok (.getfield 42, 3) := by decide +kernel
theorem dX11_bearers_26 : decode cX11_bearers 26 = .ok (.iload_n 3, 1) := by decide +kernel
theorem dX11_bearers_27 : decode cX11_bearers 27 = .ok (.iaload, 1) := by decide +kernel
theorem dX11_bearers_28 : decode cX11_bearers 28 = .ok (.iload_n 1, 1) := by decide +kernel
theorem dX11_bearers_29 : decode cX11_bearers 29 = .ok (.if_icmp .ne 7, 3) := by decide +kernel
theorem dX11_bearers_32 : decode cX11_bearers 32 = .ok (.iconst 1, 1) := by decide +kernel
theorem dX11_bearers_33 : decode cX11_bearers 33 = .ok (.goto 4, 3) := by decide +kernel
theorem dX11_bearers_36 : decode cX11_bearers 36 = .ok (.iconst 0, 1) := by decide +kernel
theorem dX11_bearers_37 : decode cX11_bearers 37 = .ok (.iadd, 1) := by decide +kernel
theorem dX11_bearers_38 : decode cX11_bearers 38 = .ok (.istore_n 2, 1) := by decide +kernel
theorem dX11_bearers_39 : decode cX11_bearers 39 = .ok (.iinc 3 1, 3) := by decide +kernel
theorem dX11_bearers_42 : decode cX11_bearers 42 = .ok (.goto (-38), 3) := by decide +kernel
theorem dX11_bearers_45 : decode cX11_bearers 45 = .ok (.iload_n 2, 1) := by decide +kernel
theorem dX11_bearers_46 : decode cX11_bearers 46 = .ok (.ireturn, 1) := by decide +kernel
theorem dX11_halvesToday_0 : decode cX11_halvesToday 0 = .ok (.iconst 0, 1) := by decide +kernel
theorem dX11_halvesToday_1 : decode cX11_halvesToday 1 = .ok (.istore_n 2, 1) := by decide +kernel
theorem dX11_halvesToday_2 : decode cX11_halvesToday 2 = .ok (.iconst 0, 1) := by decide +kernel
theorem dX11_halvesToday_3 : decode cX11_halvesToday 3 = .ok (.istore_n 3, 1) := by decide +kernel
theorem dX11_halvesToday_4 : decode cX11_halvesToday 4 = .ok (.iload_n 3, 1) := by decide +kernel
theorem dX11_halvesToday_5 : decode cX11_halvesToday 5 = .ok (.aload_n 0, 1) := by decide +kernel
theorem dX11_halvesToday_6 : decode cX11_halvesToday 6 = .ok (.getfield 145, 3) := by decide +kernel
theorem dX11_halvesToday_9 : decode cX11_halvesToday 9 = .ok (.if_icmp .ge 45, 3) := by decide +kernel
theorem dX11_halvesToday_12 : decode cX11_halvesToday 12 = .ok (.iload_n 2, 1) := by decide +kernel
theorem dX11_halvesToday_13 : decode cX11_halvesToday 13 = .ok (.aload_n 0, 1) := by decide +kernel
theorem dX11_halvesToday_14 : decode cX11_halvesToday 14 = .ok (.getfield 84, 3) := by decide +kernel
theorem dX11_halvesToday_17 : decode cX11_halvesToday 17 = .ok (.iload_n 3, 1) := by decide +kernel
theorem dX11_halvesToday_18 : decode cX11_halvesToday 18 = .ok (.iaload, 1) := by decide +kernel
theorem dX11_halvesToday_19 : decode cX11_halvesToday 19 = .ok (.aload_n 0, 1) := by decide +kernel
theorem dX11_halvesToday_20 : decode cX11_halvesToday 20 = .ok (.getfield 152, 3) := by decide +kernel
theorem dX11_halvesToday_23 : decode cX11_halvesToday 23 = .ok (.if_icmp .ne 22, 3) := by decide +kernel
theorem dX11_halvesToday_26 : decode cX11_halvesToday 26 = .ok (.aload_n 0, 1) := by decide +kernel
theorem dX11_halvesToday_27 : decode cX11_halvesToday 27 = .ok (.getfield 87, 3) := by decide +kernel
theorem dX11_halvesToday_30 : decode cX11_halvesToday 30 = .ok (.iload_n 3, 1) := by decide +kernel
theorem dX11_halvesToday_31 : decode cX11_halvesToday 31 = .ok (.iaload, 1) := by decide +kernel
theorem dX11_halvesToday_32 : decode cX11_halvesToday 32 = .ok (.iload_n 1, 1) := by decide +kernel
theorem dX11_halvesToday_33 : decode cX11_halvesToday 33 = .ok (.if_icmp .ne 12, 3) := by decide +kernel
theorem dX11_halvesToday_36 : decode cX11_halvesToday 36 = .ok (.aload_n 0, 1) := by decide +kernel
theorem dX11_halvesToday_37 : decode cX11_halvesToday 37 = .ok (.getfield 93, 3) := by decide +kernel
theorem dX11_halvesToday_40 : decode cX11_halvesToday 40 = .ok (.iload_n 3, 1) := by decide +kernel
theorem dX11_halvesToday_41 : decode cX11_halvesToday 41 = .ok (.iaload, 1) := by decide +kernel
theorem dX11_halvesToday_42 : decode cX11_halvesToday 42 = .ok (.goto 4, 3) := by decide +kernel
theorem dX11_halvesToday_45 : decode cX11_halvesToday 45 = .ok (.iconst 0, 1) := by decide +kernel
theorem dX11_halvesToday_46 : decode cX11_halvesToday 46 = .ok (.iadd, 1) := by decide +kernel
theorem dX11_halvesToday_47 : decode cX11_halvesToday 47 = .ok (.istore_n 2, 1) := by decide +kernel
theorem dX11_halvesToday_48 : decode cX11_halvesToday 48 = .ok (.iinc 3 1, 3) := by decide +kernel
theorem dX11_halvesToday_51 : decode cX11_halvesToday 51 = .ok (.goto (-47), 3) := by decide +kernel
theorem dX11_halvesToday_54 : decode cX11_halvesToday 54 = .ok (.iload_n 2, 1) := by decide +kernel
theorem dX11_halvesToday_55 : decode cX11_halvesToday 55 = .ok (.ireturn, 1) := by decide +kernel
set_option maxRecDepth 20000 in
theorem ggX11_agrees_X11_halvesToday : GoodIn wsX11_agrees wsX11_halvesToday := goodIn_r _ [8, 9, 10, 11, 12, 13, 14, 15, 16, 17, 18, 19, 20, 21, 22, 23, 24, 25, 26, 27, 28, 29, 30, 31, 32, 33, 34, 35, 36, 37, 38, 39, 40, 41, 42, 43, 44, 45, 46, 47, 48, 49, 50, 51, 52, 53, 54, 55, 56, 57, 58, 59, 60, 61] (by decide +kernel) (by decide +kernel)
set_option maxRecDepth 20000 in
theorem gX11_agrees_X11_halvesToday : GoodIn wsX11_agrees (wsV RX11 155 RX11 yX11_halvesToday wsX11_halvesToday) := goodIn_app (goodIn_of _ (by decide +kernel)) ggX11_agrees_X11_halvesToday
theorem dX11_agrees_0 : decode cX11_agrees 0 = .ok (.aload_n 0, 1) := by decide +kernel
theorem dX11_agrees_1 : decode cX11_agrees 1 = .ok (.getfield 75, 3) := by decide +kernel
theorem dX11_agrees_4 : decode cX11_agrees 4 = .ok (.iload_n 1, 1) := by decide +kernel
theorem dX11_agrees_5 : decode cX11_agrees 5 = .ok (.iaload, 1) := by decide +kernel
theorem dX11_agrees_6 : decode cX11_agrees 6 = .ok (.ifCond .ge 5, 3) := by decide +kernel
theorem dX11_agrees_9 : decode cX11_agrees 9 = .ok (.iconst 1, 1) := by decide +kernel
theorem dX11_agrees_10 : decode cX11_agrees 10 = .ok (.ireturn, 1) := by decide +kernel
theorem dX11_agrees_11 : decode cX11_agrees 11 = .ok (.aload_n 0, 1) := by decide +kernel
theorem dX11_agrees_12 : decode cX11_agrees 12 = .ok (.iload_n 1, 1) := by decide +kernel
theorem dX11_agrees_13 : decode cX11_agrees 13 = .ok (.invokevirtual 155, 3) := by decide +kernel
theorem dX11_agrees_16 : decode cX11_agrees 16 = .ok (.aload_n 0, 1) := by decide +kernel
theorem dX11_agrees_17 : decode cX11_agrees 17 = .ok (.getfield 75, 3) := by decide +kernel
theorem dX11_agrees_20 : decode cX11_agrees 20 = .ok (.iload_n 1, 1) := by decide +kernel
theorem dX11_agrees_21 : decode cX11_agrees 21 = .ok (.iaload, 1) := by decide +kernel
theorem dX11_agrees_22 : decode cX11_agrees 22 = .ok (.isub, 1) := by decide +kernel
theorem dX11_agrees_23 : decode cX11_agrees 23 = .ok (.i2l, 1) := by decide +kernel
theorem dX11_agrees_24 : decode cX11_agrees 24 = .ok (.lstore_n 2, 1) := by decide +kernel
theorem dX11_agrees_25 : decode cX11_agrees 25 = .ok (.ldc2_w 159, 3) := by decide +kernel
theorem dX11_agrees_28 : decode cX11_agrees 28 = .ok (.lload_n 2, 1) := by decide +kernel
theorem dX11_agrees_29 : decode cX11_agrees 29 = .ok (.lconst 0, 1) := by decide +kernel
theorem dX11_agrees_30 : decode cX11_agrees 30 = .ok (.lcmp, 1) := by decide +kernel
theorem dX11_agrees_31 : decode cX11_agrees 31 = .ok (.ifCond .ge 8, 3) := by decide +kernel
theorem dX11_agrees_34 : decode cX11_agrees 34 = .ok (.lload_n 2, 1) := by decide +kernel
theorem dX11_agrees_35 : decode cX11_agrees 35 = .ok (.lneg, 1) := by decide +kernel
theorem dX11_agrees_36 : decode cX11_agrees 36 = .ok (.goto 4, 3) := by decide +kernel
theorem dX11_agrees_39 : decode cX11_agrees 39 = .ok (.lload_n 2, 1) := by decide +kernel
theorem dX11_agrees_40 : decode cX11_agrees 40 = .ok (.lmul, 1) := by decide +kernel
theorem dX11_agrees_41 : decode cX11_agrees 41 = .ok (.aload_n 0, 1) := by decide +kernel
theorem dX11_agrees_42 : decode cX11_agrees 42 = .ok (.getfield 161, 3) := by decide +kernel
theorem dX11_agrees_45 : decode cX11_agrees 45 = .ok (.i2l, 1) := by decide +kernel
theorem dX11_agrees_46 : decode cX11_agrees 46 = .ok (.aload_n 0, 1) := by decide +kernel
theorem dX11_agrees_47 : decode cX11_agrees 47 = .ok (.getfield 75, 3) := by decide +kernel
theorem dX11_agrees_50 : decode cX11_agrees 50 = .ok (.iload_n 1, 1) := by decide +kernel
theorem dX11_agrees_51 : decode cX11_agrees 51 = .ok (.iaload, 1) := by decide +kernel
theorem dX11_agrees_52 : decode cX11_agrees 52 = .ok (.i2l, 1) := by decide +kernel
theorem dX11_agrees_53 : decode cX11_agrees 53 = .ok (.lmul, 1) := by decide +kernel
theorem dX11_agrees_54 : decode cX11_agrees 54 = .ok (.lcmp, 1) := by decide +kernel
theorem dX11_agrees_55 : decode cX11_agrees 55 = .ok (.ifCond .gt 7, 3) := by decide +kernel
theorem dX11_agrees_58 : decode cX11_agrees 58 = .ok (.iconst 1, 1) := by decide +kernel
theorem dX11_agrees_59 : decode cX11_agrees 59 = .ok (.goto 4, 3) := by decide +kernel
theorem dX11_agrees_62 : decode cX11_agrees 62 = .ok (.iconst 0, 1) := by decide +kernel
theorem dX11_agrees_63 : decode cX11_agrees 63 = .ok (.ireturn, 1) := by decide +kernel
set_option maxRecDepth 20000 in
theorem ggX11_charges_X11_houseOf : GoodIn wsX11_charges wsX11_houseOf := goodIn_r _ [16, 17, 18, 19, 20, 21, 22, 23, 24, 25, 26, 27, 28, 29, 30, 31, 32, 33, 34, 35, 36, 37, 38, 39, 40, 41, 42, 43, 44, 45, 46, 47, 48, 49, 50, 51, 52, 53, 54, 55, 56, 57, 58, 59, 60, 61, 62, 63, 64, 65, 66, 67] (by decide +kernel) (by decide +kernel)
set_option maxRecDepth 20000 in
theorem gX11_charges_X11_houseOf : GoodIn wsX11_charges (wsV RX11 164 RX11 yX11_houseOf wsX11_houseOf) := goodIn_app (goodIn_of _ (by decide +kernel)) ggX11_charges_X11_houseOf
theorem dX11_charges_0 : decode cX11_charges 0 = .ok (.aload_n 0, 1) := by decide +kernel
theorem dX11_charges_1 : decode cX11_charges 1 = .ok (.getfield 96, 3) := by decide +kernel
theorem dX11_charges_4 : decode cX11_charges 4 = .ok (.iload_n 1, 1) := by decide +kernel
theorem dX11_charges_5 : decode cX11_charges 5 = .ok (.iaload, 1) := by decide +kernel
theorem dX11_charges_6 : decode cX11_charges 6 = .ok (.istore_n 2, 1) := by decide +kernel
theorem dX11_charges_7 : decode cX11_charges 7 = .ok (.aload_n 0, 1) := by decide +kernel
theorem dX11_charges_8 : decode cX11_charges 8 = .ok (.getfield 111, 3) := by decide +kernel
theorem dX11_charges_11 : decode cX11_charges 11 = .ok (.iload_n 1, 1) := by decide +kernel
theorem dX11_charges_12 : decode cX11_charges 12 = .ok (.baload, 1) := by decide +kernel
theorem dX11_charges_13 : decode cX11_charges 13 = .ok (.ifCond .eq 13, 3) := by decide +kernel
theorem dX11_charges_16 : decode cX11_charges 16 = .ok (.aload_n 0, 1) := by decide +kernel
theorem dX11_charges_17 : decode cX11_charges 17 = .ok (.getfield 45, 3) := by decide +kernel
theorem dX11_charges_20 : decode cX11_charges 20 = .ok (.iload_n 2, 1) := by decide +kernel
theorem dX11_charges_21 : decode cX11_charges 21 = .ok (.dup2, 1) := by decide +kernel
theorem dX11_charges_22 : decode cX11_charges 22 = .ok (.iaload, 1) := by decide +kernel
theorem dX11_charges_23 : decode cX11_charges 23 = .ok (.iconst 1, 1) := by decide +kernel
theorem dX11_charges_24 : decode cX11_charges 24 = .ok (.iadd, 1) := by decide +kernel
theorem dX11_charges_25 : decode cX11_charges 25 = .ok (.iastore, 1) := by decide +kernel
theorem dX11_charges_26 : decode cX11_charges 26 = .ok (.aload_n 0, 1) := by decide +kernel
theorem dX11_charges_27 : decode cX11_charges 27 = .ok (.getfield 111, 3) := by decide +kernel
theorem dX11_charges_30 : decode cX11_charges 30 = .ok (.iload_n 1, 1) := by decide +kernel
theorem dX11_charges_31 : decode cX11_charges 31 = .ok (.baload, 1) := by decide +kernel
theorem dX11_charges_32 : decode cX11_charges 32 = .ok (.ifCond .eq 17, 3) := by decide +kernel
theorem dX11_charges_35 : decode cX11_charges 35 = .ok (.aload_n 0, 1) := by decide +kernel
theorem dX11_charges_36 : decode cX11_charges 36 = .ok (.getfield 45, 3) := by decide +kernel
theorem dX11_charges_39 : decode cX11_charges 39 = .ok (.iload_n 2, 1) := by decide +kernel
theorem dX11_charges_40 : decode cX11_charges 40 = .ok (.iaload, 1) := by decide +kernel
theorem dX11_charges_41 : decode cX11_charges 41 = .ok (.iconst 2, 1) := by decide +kernel
theorem dX11_charges_42 : decode cX11_charges 42 = .ok (.if_icmp .le 7, 3) := by decide +kernel
theorem dX11_charges_45 : decode cX11_charges 45 = .ok (.iconst 1, 1) := by decide +kernel
theorem dX11_charges_46 : decode cX11_charges 46 = .ok (.goto 4, 3) := by decide +kernel
theorem dX11_charges_49 : decode cX11_charges 49 = .ok (.iconst 0, 1) := by decide +kernel
theorem dX11_charges_50 : decode cX11_charges 50 = .ok (.istore_n 3, 1) := by decide +kernel
theorem dX11_charges_51 : decode cX11_charges 51 = .ok (.aload_n 0, 1) := by decide +kernel
theorem dX11_charges_52 : decode cX11_charges 52 = .ok (.getfield 36, 3) := by decide +kernel
theorem dX11_charges_55 : decode cX11_charges 55 = .ok (.iload_n 2, 1) := by decide +kernel
theorem dX11_charges_56 : decode cX11_charges 56 = .ok (.iaload, 1) := by decide +kernel
theorem dX11_charges_57 : decode cX11_charges 57 = .ok (.istore 4, 2) := by decide +kernel
theorem dX11_charges_59 : decode cX11_charges 59 = .ok (.iload 4, 2) := by decide +kernel
theorem dX11_charges_61 : decode cX11_charges 61 = .ok (.iconst 4, 1) := by decide +kernel
theorem dX11_charges_62 : decode cX11_charges 62 = .ok (.if_icmp .ne 48, 3) := by decide +kernel
theorem dX11_charges_65 : decode cX11_charges 65 = .ok (.aload_n 0, 1) := by decide +kernel
theorem dX11_charges_66 : decode cX11_charges 66 = .ok (.iload_n 2, 1) := by decide +kernel
theorem dX11_charges_67 : decode cX11_charges 67 = .ok (.aload_n 0, 1) := by decide +kernel
theorem dX11_charges_68 : decode cX11_charges 68 = .ok (.getfield 84, 3) := by decide +kernel
theorem dX11_charges_71 : decode cX11_charges 71 = .ok (.iload_n 1, 1) := by decide +kernel
theorem dX11_charges_72 : decode cX11_charges 72 = .ok (.iaload, 1) := by decide +kernel
theorem dX11_charges_73 : decode cX11_charges 73 = .ok (.invokevirtual 164, 3) := by decide +kernel
theorem dX11_charges_76 : decode cX11_charges 76 = .ok (.istore 5, 2) := by decide +kernel
theorem dX11_charges_78 : decode cX11_charges 78 = .ok (.iload 5, 2) := by decide +kernel
theorem dX11_charges_80 : decode cX11_charges 80 = .ok (.ifCond .lt 27, 3) := by decide +kernel
theorem dX11_charges_83 : decode cX11_charges 83 = .ok (.aload_n 0, 1) := by decide +kernel
theorem dX11_charges_84 : decode cX11_charges 84 = .ok (.getfield 23, 3) := by decide +kernel
theorem dX11_charges_87 : decode cX11_charges 87 = .ok (.iload 5, 2) := by decide +kernel
theorem dX11_charges_89 : decode cX11_charges 89 = .ok (.iaload, 1) := by decide +kernel
theorem dX11_charges_90 : decode cX11_charges 90 = .ok (.ifCond .le 17, 3) := by decide +kernel
theorem dX11_charges_93 : decode cX11_charges 93 = .ok (.aload_n 0, 1) := by decide +kernel
theorem dX11_charges_94 : decode cX11_charges 94 = .ok (.getfield 23, 3) := by decide +kernel
theorem dX11_charges_97 : decode cX11_charges 97 = .ok (.iload 5, 2) := by decide +kernel
theorem dX11_charges_99 : decode cX11_charges 99 = .ok (.dup2, 1) := by decide +kernel
theorem dX11_charges_100 : decode cX11_charges 100 = .ok (.iaload, 1) := by decide +kernel
theorem dX11_charges_101 : decode cX11_charges 101 = .ok (.iconst 1, 1) := by decide +kernel
theorem dX11_charges_102 : decode cX11_charges 102 = .ok (.isub, 1) := by decide +kernel
theorem dX11_charges_103 : decode cX11_charges 103 = .ok (.iastore, 1) := by decide +kernel
theorem dX11_charges_104 : decode cX11_charges 104 = .ok (.iconst (-1), 1) := by decide +kernel
theorem dX11_charges_105 : decode cX11_charges 105 = .ok (.istore 4, 2) := by decide +kernel
theorem dX11_charges_107 : decode cX11_charges 107 = .ok (.goto 22, 3) := by decide +kernel
theorem dX11_charges_110 : decode cX11_charges 110 = .ok (.iload_n 3, 1) := by decide +kernel
theorem dX11_charges_111 : decode cX11_charges 111 = .ok (.ifCond .eq 9, 3) := by decide +kernel
theorem dX11_charges_114 : decode cX11_charges 114 = .ok (.iconst 0, 1) := by decide +kernel
theorem dX11_charges_115 : decode cX11_charges 115 = .ok (.istore 4, 2) := by decide +kernel
theorem dX11_charges_117 : decode cX11_charges 117 = .ok (.goto 12, 3) := by decide +kernel
theorem dX11_charges_120 : decode cX11_charges 120 = .ok (.iload 4, 2) := by decide +kernel
theorem dX11_charges_122 : decode cX11_charges 122 = .ok (.iconst 2, 1) := by decide +kernel
theorem dX11_charges_123 : decode cX11_charges 123 = .ok (.if_icmp .ne 6, 3) := by decide +kernel
theorem dX11_charges_126 : decode cX11_charges 126 = .ok (.iconst (-1), 1) := by decide +kernel
theorem dX11_charges_127 : decode cX11_charges 127 = .ok (.istore 4, 2) := by decide +kernel
theorem dX11_charges_129 : decode cX11_charges 129 = .ok (.aload_n 0, 1) := by decide +kernel
theorem dX11_charges_130 : decode cX11_charges 130 = .ok (.getfield 114, 3) := by decide +kernel
theorem dX11_charges_133 : decode cX11_charges 133 = .ok (.iload_n 1, 1) := by decide +kernel
theorem dX11_charges_134 : decode cX11_charges 134 = .ok (.iload 4, 2) := by decide +kernel
theorem dX11_charges_136 : decode cX11_charges 136 = .ok (.ifCond .ge 7, 3) := by decide +kernel
theorem dX11_charges_139 : decode cX11_charges 139 = .ok (.iconst 0, 1) := by decide +kernel
theorem dX11_charges_140 : decode cX11_charges 140 = .ok (.goto 10, 3) := by decide +kernel
theorem dX11_charges_143 : decode cX11_charges 143 = .ok (.aload_n 0, 1) := by decide +kernel
theorem dX11_charges_144 : decode cX11_charges 144 = .ok (.getfield 78, 3) := by decide +kernel
theorem dX11_charges_147 : decode cX11_charges 147 = .ok (.iload 4, 2) := by decide +kernel
theorem dX11_charges_149 : decode cX11_charges 149 = .ok (.iaload, 1) := by decide +kernel
theorem dX11_charges_150 : decode cX11_charges 150 = .ok (.iastore, 1) := by decide +kernel
theorem dX11_charges_151 : decode cX11_charges 151 = .ok (.aload_n 0, 1) := by decide +kernel
theorem dX11_charges_152 : decode cX11_charges 152 = .ok (.getfield 117, 3) := by decide +kernel
theorem dX11_charges_155 : decode cX11_charges 155 = .ok (.iload_n 1, 1) := by decide +kernel
theorem dX11_charges_156 : decode cX11_charges 156 = .ok (.iload 4, 2) := by decide +kernel
theorem dX11_charges_158 : decode cX11_charges 158 = .ok (.ifCond .ge 7, 3) := by decide +kernel
theorem dX11_charges_161 : decode cX11_charges 161 = .ok (.iconst 0, 1) := by decide +kernel
theorem dX11_charges_162 : decode cX11_charges 162 = .ok (.goto 10, 3) := by decide +kernel
theorem dX11_charges_165 : decode cX11_charges 165 = .ok (.aload_n 0, 1) := by decide +kernel
theorem dX11_charges_166 : decode cX11_charges 166 = .ok (.getfield 81, 3) := by decide +kernel
theorem dX11_charges_169 : decode cX11_charges 169 = .ok (.iload 4, 2) := by decide +kernel
theorem dX11_charges_171 : decode cX11_charges 171 = .ok (.iaload, 1) := by decide +kernel
theorem dX11_charges_172 : decode cX11_charges 172 = .ok (.iastore, 1) := by decide +kernel
theorem dX11_charges_173 : decode cX11_charges 173 = .ok (.aload_n 0, 1) := by decide +kernel
theorem dX11_charges_174 : decode cX11_charges 174 = .ok (.getfield 108, 3) := by decide +kernel
theorem dX11_charges_177 : decode cX11_charges 177 = .ok (.iload_n 1, 1) := by decide +kernel
theorem dX11_charges_178 : decode cX11_charges 178 = .ok (.iconst 1, 1) := by decide +kernel
theorem dX11_charges_179 : decode cX11_charges 179 = .ok (.bastore, 1) := by decide +kernel
theorem dX11_charges_180 : decode cX11_charges 180 = .ok (.return_, 1) := by decide +kernel
set_option maxRecDepth 20000 in
theorem ggX11_allWeights_X11_weightOf : GoodIn wsX11_allWeights wsX11_weightOf := goodIn_r _ [8, 9, 10, 11, 12, 13, 14, 15, 16, 17, 18, 19, 20, 21, 22, 23, 24, 25, 26, 27, 28, 29, 30, 31, 32, 33, 34, 35, 36, 37, 38, 39, 40, 41, 42, 43, 44, 45, 46, 47, 48, 49, 50, 51, 52, 53, 54, 55, 56, 57, 58, 59, 60] (by decide +kernel) (by decide +kernel)
set_option maxRecDepth 20000 in
theorem gX11_allWeights_X11_weightOf : GoodIn wsX11_allWeights (wsV RX11 168 RX11 yX11_weightOf wsX11_weightOf) := goodIn_app (goodIn_of _ (by decide +kernel)) ggX11_allWeights_X11_weightOf
theorem dX11_allWeights_0 : decode cX11_allWeights 0 = .ok (.iconst 0, 1) := by decide +kernel
theorem dX11_allWeights_1 : decode cX11_allWeights 1 = .ok (.istore_n 2, 1) := by decide +kernel
theorem dX11_allWeights_2 : decode cX11_allWeights 2 = .ok (.iconst 0, 1) := by decide +kernel
theorem dX11_allWeights_3 : decode cX11_allWeights 3 = .ok (.istore_n 3, 1) := by decide +kernel
theorem dX11_allWeights_4 : decode cX11_allWeights 4 = .ok (.iload_n 3, 1) := by decide +kernel
theorem dX11_allWeights_5 : decode cX11_allWeights 5 = .ok (.aload_n 0, 1) := by decide +kernel
theorem dX11_allWeights_6 : decode cX11_allWeights 6 = .ok (.getfield 136, 3) := by decide +kernel
theorem dX11_allWeights_9 : decode cX11_allWeights 9 = .ok (.if_icmp .ge 29, 3) := by decide +kernel
theorem dX11_allWeights_12 : decode cX11_allWeights 12 = .ok (.iload_n 2, 1) := by decide +kernel
theorem dX11_allWeights_13 : decode cX11_allWeights 13 = .ok (.aload_n 0, 1) := by decide +kernel
theorem dX11_allWeights_14 : decode cX11_allWeights 14 = .ok (.aload_n 0, 1) := by decide +kernel
theorem dX11_allWeights_15 : decode cX11_allWeights 15 = .ok (.getfield 96, 3) := by decide +kernel
theorem dX11_allWeights_18 : decode cX11_allWeights 18 = .ok (.iload_n 1, 1) := by decide +kernel
theorem dX11_allWeights_19 : decode cX11_allWeights 19 = .ok (.iaload, 1) := by decide +kernel
theorem dX11_allWeights_20 : decode cX11_allWeights 20 = .ok (.iload_n 3, 1) := by decide +kernel
theorem dX11_allWeights_21 : decode cX11_allWeights 21 = .ok (.aload_n 0, 1) := by decide +kernel
theorem dX11_allWeights_22 : decode cX11_allWeights 22 = .ok (.getfield 84, 3) := by decide +kernel
theorem dX11_allWeights_25 : decode cX11_allWeights 25 = .ok (.iload_n 1, 1) := by decide +kernel
theorem dX11_allWeights_26 : decode cX11_allWeights 26 = .ok (.iaload, 1) := by decide +kernel
theorem dX11_allWeights_27 : decode cX11_allWeights 27 = .ok (.invokevirtual 168, 3) := by decide +kernel
theorem dX11_allWeights_30 : decode cX11_allWeights 30 = .ok (.iadd, 1) := by decide +kernel
theorem dX11_allWeights_31 : decode cX11_allWeights 31 = .ok (.istore_n 2, 1) := by decide +kernel
theorem dX11_allWeights_32 : decode cX11_allWeights 32 = .ok (.iinc 3 1, 3) := by decide +kernel
theorem dX11_allWeights_35 : decode cX11_allWeights 35 = .ok (.goto (-31), 3) := by decide +kernel
theorem dX11_allWeights_38 : decode cX11_allWeights 38 = .ok (.iload_n 2, 1) := by decide +kernel
theorem dX11_allWeights_39 : decode cX11_allWeights 39 = .ok (.ireturn, 1) := by decide +kernel
set_option maxRecDepth 20000 in
theorem ggX11_isNobodys_X11_allWeights : GoodIn wsX11_isNobodys wsX11_allWeights := goodIn_r _ [8, 9, 2, 3, 10, 11, 12, 7, 13, 14, 15, 16, 17, 25, 26, 27, 28, 29, 30, 31, 32, 33, 34, 35, 36, 37, 38, 39, 40, 41, 42, 43, 44, 45, 46, 47, 48, 49, 50, 51, 52, 53, 54, 55, 56, 57, 58, 59, 60, 61, 62, 63, 64, 65, 66, 67, 68, 69, 70, 71, 72] (by decide +kernel) (by decide +kernel)
set_option maxRecDepth 20000 in
theorem gX11_isNobodys_X11_allWeights : GoodIn wsX11_isNobodys (wsV RX11 172 RX11 yX11_allWeights wsX11_allWeights) := goodIn_app (goodIn_of _ (by decide +kernel)) ggX11_isNobodys_X11_allWeights
set_option maxRecDepth 20000 in
theorem ggX11_isNobodys_X11_houseOf : GoodIn wsX11_isNobodys wsX11_houseOf := goodIn_r _ [21, 22, 23, 24, 25, 26, 27, 28, 29, 30, 31, 32, 33, 34, 35, 36, 37, 38, 39, 40, 41, 42, 43, 44, 45, 46, 47, 48, 49, 50, 51, 52, 53, 54, 55, 56, 57, 58, 59, 60, 61, 62, 63, 64, 65, 66, 67, 68, 69, 70, 71, 72] (by decide +kernel) (by decide +kernel)
set_option maxRecDepth 20000 in
theorem gX11_isNobodys_X11_houseOf : GoodIn wsX11_isNobodys (wsV RX11 164 RX11 yX11_houseOf wsX11_houseOf) := goodIn_app (goodIn_of _ (by decide +kernel)) ggX11_isNobodys_X11_houseOf
theorem dX11_isNobodys_0 : decode cX11_isNobodys 0 = .ok (.aload_n 0, 1) := by decide +kernel
theorem dX11_isNobodys_1 : decode cX11_isNobodys 1 = .ok (.getfield 36, 3) := by decide +kernel
theorem dX11_isNobodys_4 : decode cX11_isNobodys 4 = .ok (.aload_n 0, 1) := by decide +kernel
theorem dX11_isNobodys_5 : decode cX11_isNobodys 5 = .ok (.getfield 96, 3) := by decide +kernel
theorem dX11_isNobodys_8 : decode cX11_isNobodys 8 = .ok (.iload_n 1, 1) := by decide +kernel
theorem dX11_isNobodys_9 : decode cX11_isNobodys 9 = .ok (.iaload, 1) := by decide +kernel
theorem dX11_isNobodys_10 : decode cX11_isNobodys 10 = .ok (.iaload, 1) := by decide +kernel
theorem dX11_isNobodys_11 : decode cX11_isNobodys 11 = .ok (.iconst 3, 1) := by decide +kernel
theorem dX11_isNobodys_12 : decode cX11_isNobodys 12 = .ok (.if_icmp .ne 19, 3) := by decide +kernel
theorem dX11_isNobodys_15 : decode cX11_isNobodys 15 = .ok (.aload_n 0, 1) := by decide +kernel
theorem dX11_isNobodys_16 : decode cX11_isNobodys 16 = .ok (.iload_n 1, 1) := by decide +kernel
theorem dX11_isNobodys_17 : decode cX11_isNobodys 17 = .ok (.invokevirtual 172, 3) := by decide +kernel
theorem dX11_isNobodys_20 : decode cX11_isNobodys 20 = .ok (.ifCond .ne 7, 3) := by decide +kernel
theorem dX11_isNobodys_23 : decode cX11_isNobodys 23 = .ok (.iconst 1, 1) := by decide +kernel
theorem dX11_isNobodys_24 : decode cX11_isNobodys 24 = .ok (.goto 31, 3) := by decide +kernel
theorem dX11_isNobodys_27 : decode cX11_isNobodys 27 = .ok (.iconst 0, 1) := by decide +kernel
theorem dX11_isNobodys_28 : decode cX11_isNobodys 28 = .ok (.goto 27, 3) := by decide +kernel
theorem dX11_isNobodys_31 : decode cX11_isNobodys 31 = .ok (.aload_n 0, 1) := by decide +kernel
theorem dX11_isNobodys_32 : decode cX11_isNobodys 32 = .ok (.aload_n 0, 1) := by decide +kernel
theorem dX11_isNobodys_33 : decode cX11_isNobodys 33 = .ok (.getfield 96, 3) := by decide +kernel
theorem dX11_isNobodys_36 : decode cX11_isNobodys 36 = .ok (.iload_n 1, 1) := by decide +kernel
theorem dX11_isNobodys_37 : decode cX11_isNobodys 37 = .ok (.iaload, 1) := by decide +kernel
theorem dX11_isNobodys_38 : decode cX11_isNobodys 38 = .ok (.aload_n 0, 1) := by decide +kernel
theorem dX11_isNobodys_39 : decode cX11_isNobodys 39 = .ok (.getfield 84, 3) := by decide +kernel
theorem dX11_isNobodys_42 : decode cX11_isNobodys 42 = .ok (.iload_n 1, 1) := by decide +kernel
theorem dX11_isNobodys_43 : decode cX11_isNobodys 43 = .ok (.iaload, 1) := by decide +kernel
theorem dX11_isNobodys_44 : decode cX11_isNobodys 44 = .ok (.invokevirtual 164, 3) := by decide +kernel
theorem dX11_isNobodys_47 : decode cX11_isNobodys 47 = .ok (.ifCond .ge 7, 3) := by decide +kernel
theorem dX11_isNobodys_50 : decode cX11_isNobodys 50 = .ok (.iconst 1, 1) := by decide +kernel
theorem dX11_isNobodys_51 : decode cX11_isNobodys 51 = .ok (.goto 4, 3) := by decide +kernel
theorem dX11_isNobodys_54 : decode cX11_isNobodys 54 = .ok (.iconst 0, 1) := by decide +kernel
theorem dX11_isNobodys_55 : decode cX11_isNobodys 55 = .ok (.ireturn, 1) := by decide +kernel
set_option maxRecDepth 20000 in
theorem ggX11_chargeOf_X11_isNobodys : GoodIn wsX11_chargeOf wsX11_isNobodys := goodIn_r _ [9, 10, 11, 12, 13, 14, 15, 8, 16, 17, 18, 19, 20, 21, 22, 23, 24, 25, 26, 27, 28, 29, 30, 31, 32, 33, 34, 35, 36, 37, 38, 39, 40, 41, 42, 43, 44, 45, 46, 47, 48, 49, 50, 51, 52, 53, 54, 55, 56, 57, 58, 59, 60, 61, 62, 63, 64, 65, 66, 67, 68, 69, 70, 71, 72, 73, 74, 75, 76, 77, 78, 79, 80] (by decide +kernel) (by decide +kernel)
set_option maxRecDepth 20000 in
theorem gX11_chargeOf_X11_isNobodys : GoodIn wsX11_chargeOf (wsV RX11 175 RX11 yX11_isNobodys wsX11_isNobodys) := goodIn_app (goodIn_of _ (by decide +kernel)) ggX11_chargeOf_X11_isNobodys
theorem dX11_chargeOf_0 : decode cX11_chargeOf 0 = .ok (.aload_n 0, 1) := by decide +kernel
theorem dX11_chargeOf_1 : decode cX11_chargeOf 1 = .ok (.getfield 108, 3) := by decide +kernel
theorem dX11_chargeOf_4 : decode cX11_chargeOf 4 = .ok (.iload_n 1, 1) := by decide +kernel
theorem dX11_chargeOf_5 : decode cX11_chargeOf 5 = .ok (.baload, 1) := by decide +kernel
theorem dX11_chargeOf_6 : decode cX11_chargeOf 6 = .ok (.ifCond .eq 11, 3) := by decide +kernel
theorem dX11_chargeOf_9 : decode cX11_chargeOf 9 = .ok (.aload_n 0, 1) := by decide +kernel
theorem dX11_chargeOf_10 : decode cX11_chargeOf 10 = .ok (.iload_n 1, 1) := by decide +kernel
theorem dX11_chargeOf_11 : decode cX11_chargeOf 11 = .ok (.invokevirtual 175, 3) := by decide +kernel
theorem dX11_chargeOf_14 : decode cX11_chargeOf 14 = .ok (.ifCond .eq 7, 3) := by decide +kernel
theorem dX11_chargeOf_17 : decode cX11_chargeOf 17 = .ok (.lconst 0, 1) := by decide +kernel
theorem dX11_chargeOf_18 : decode cX11_chargeOf 18 = .ok (.goto 26, 3) := by decide +kernel
theorem dX11_chargeOf_21 : decode cX11_chargeOf 21 = .ok (.aload_n 0, 1) := by decide +kernel
theorem dX11_chargeOf_22 : decode cX11_chargeOf 22 = .ok (.getfield 114, 3) := by decide +kernel
theorem dX11_chargeOf_25 : decode cX11_chargeOf 25 = .ok (.iload_n 1, 1) := by decide +kernel
theorem dX11_chargeOf_26 : decode cX11_chargeOf 26 = .ok (.iaload, 1) := by decide +kernel
theorem dX11_chargeOf_27 : decode cX11_chargeOf 27 = .ok (.i2l, 1) := by decide +kernel
theorem dX11_chargeOf_28 : decode cX11_chargeOf 28 = .ok (.aload_n 0, 1) := by decide +kernel
theorem dX11_chargeOf_29 : decode cX11_chargeOf 29 = .ok (.getfield 117, 3) := by decide +kernel
theorem dX11_chargeOf_32 : decode cX11_chargeOf 32 = .ok (.iload_n 1, 1) := by decide +kernel
theorem dX11_chargeOf_33 : decode cX11_chargeOf 33 = .ok (.iaload, 1) := by decide +kernel
theorem dX11_chargeOf_34 : decode cX11_chargeOf 34 = .ok (.i2l, 1) := by decide +kernel
theorem dX11_chargeOf_35 : decode cX11_chargeOf 35 = .ok (.aload_n 0, 1) := by decide +kernel
theorem dX11_chargeOf_36 : decode cX11_chargeOf 36 = .ok (.getfield 105, 3) := by decide +kernel
theorem dX11_chargeOf_39 : decode cX11_chargeOf 39 = .ok (.iload_n 1, 1) := by decide +kernel
theorem dX11_chargeOf_40 : decode cX11_chargeOf 40 = .ok (.iaload, 1) := by decide +kernel
theorem dX11_chargeOf_41 : decode cX11_chargeOf 41 = .ok (.i2l, 1) := by decide +kernel
theorem dX11_chargeOf_42 : decode cX11_chargeOf 42 = .ok (.lmul, 1) := by decide +kernel
theorem dX11_chargeOf_43 : decode cX11_chargeOf 43 = .ok (.ladd, 1) := by decide +kernel
theorem dX11_chargeOf_44 : decode cX11_chargeOf 44 = .ok (.lreturn, 1) := by decide +kernel
set_option maxRecDepth 20000 in
theorem ggX11_shareOf_X11_chargeOf : GoodIn wsX11_shareOf wsX11_chargeOf := goodIn_r _ [10, 1, 11, 12, 13, 14, 15, 16, 9, 17, 3, 2, 4, 18, 19, 20, 21, 5, 22, 23, 24, 25, 26, 27, 28, 29, 30, 31, 32, 33, 34, 35, 36, 37, 38, 39, 40, 41, 42, 43, 44, 45, 46, 47, 48, 49, 50, 51, 52, 53, 54, 55, 56, 57, 58, 59, 60, 61, 62, 63, 64, 65, 66, 67, 68, 69, 70, 71, 72, 73, 74, 75, 76, 77, 78, 79, 80, 81, 82, 83, 84] (by decide +kernel) (by decide +kernel)
set_option maxRecDepth 20000 in
theorem gX11_shareOf_X11_chargeOf : GoodIn wsX11_shareOf (wsV RX11 178 RX11 yX11_chargeOf wsX11_chargeOf) := goodIn_app (goodIn_of _ (by decide +kernel)) ggX11_shareOf_X11_chargeOf
set_option maxRecDepth 20000 in
theorem ggX11_shareOf_X11_houseOf : GoodIn wsX11_shareOf wsX11_houseOf := goodIn_r _ [33, 34, 35, 36, 37, 38, 39, 40, 41, 42, 43, 44, 45, 46, 47, 48, 49, 50, 51, 52, 53, 54, 55, 56, 57, 58, 59, 60, 61, 62, 63, 64, 65, 66, 67, 68, 69, 70, 71, 72, 73, 74, 75, 76, 77, 78, 79, 80, 81, 82, 83, 84] (by decide +kernel) (by decide +kernel)
set_option maxRecDepth 20000 in
theorem gX11_shareOf_X11_houseOf : GoodIn wsX11_shareOf (wsV RX11 164 RX11 yX11_houseOf wsX11_houseOf) := goodIn_app (goodIn_of _ (by decide +kernel)) ggX11_shareOf_X11_houseOf
set_option maxRecDepth 20000 in
theorem ggX11_shareOf_X11_allWeights : GoodIn wsX11_shareOf wsX11_allWeights := goodIn_r _ [21, 5, 2, 4, 22, 23, 24, 9, 25, 26, 27, 28, 29, 37, 38, 39, 40, 41, 42, 43, 44, 45, 46, 47, 48, 49, 50, 51, 52, 53, 54, 55, 56, 57, 58, 59, 60, 61, 62, 63, 64, 65, 66, 67, 68, 69, 70, 71, 72, 73, 74, 75, 76, 77, 78, 79, 80, 81, 82, 83, 84] (by decide +kernel) (by decide +kernel)
set_option maxRecDepth 20000 in
theorem gX11_shareOf_X11_allWeights : GoodIn wsX11_shareOf (wsV RX11 172 RX11 yX11_allWeights wsX11_allWeights) := goodIn_app (goodIn_of _ (by decide +kernel)) ggX11_shareOf_X11_allWeights
set_option maxRecDepth 20000 in
theorem ggX11_shareOf_X11_weightOf : GoodIn wsX11_shareOf wsX11_weightOf := goodIn_r _ [25, 26, 27, 28, 29, 37, 38, 39, 40, 41, 42, 43, 44, 45, 46, 47, 48, 49, 50, 51, 52, 53, 54, 55, 56, 57, 58, 59, 60, 61, 62, 63, 64, 65, 66, 67, 68, 69, 70, 71, 72, 73, 74, 75, 76, 77, 78, 79, 80, 81, 82, 83, 84] (by decide +kernel) (by decide +kernel)
set_option maxRecDepth 20000 in
theorem gX11_shareOf_X11_weightOf : GoodIn wsX11_shareOf (wsV RX11 168 RX11 yX11_weightOf wsX11_weightOf) := goodIn_app (goodIn_of _ (by decide +kernel)) ggX11_shareOf_X11_weightOf
theorem dX11_shareOf_0 : decode cX11_shareOf 0 = .ok (.aload_n 0, 1) := by decide +kernel
theorem dX11_shareOf_1 : decode cX11_shareOf 1 = .ok (.getfield 108, 3) := by decide +kernel
theorem dX11_shareOf_4 : decode cX11_shareOf 4 = .ok (.iload_n 1, 1) := by decide +kernel
theorem dX11_shareOf_5 : decode cX11_shareOf 5 = .ok (.baload, 1) := by decide +kernel
theorem dX11_shareOf_6 : decode cX11_shareOf 6 = .ok (.ifCond .ne 5, 3) := by decide +kernel
theorem dX11_shareOf_9 : decode cX11_shareOf 9 = .ok (.lconst 0, 1) := by decide +kernel
theorem dX11_shareOf_10 : decode cX11_shareOf 10 = .ok (.lreturn, 1) := by decide +kernel
theorem dX11_shareOf_11 : decode cX11_shareOf 11 = .ok (.aload_n 0, 1) := by decide +kernel
theorem dX11_shareOf_12 : decode cX11_shareOf 12 = .ok (.iload_n 1, 1) := by decide +kernel
theorem dX11_shareOf_13 : decode cX11_shareOf 13 = .ok (.invokevirtual 178, 3) := by decide +kernel
theorem dX11_shareOf_16 : decode cX11_shareOf 16 = .ok (.lstore_n 3, 1) := by decide +kernel
theorem dX11_shareOf_17 : decode cX11_shareOf 17 = .ok (.aload_n 0, 1) := by decide +kernel
theorem dX11_shareOf_18 : decode cX11_shareOf 18 = .ok (.getfield 96, 3) := by decide +kernel
theorem dX11_shareOf_21 : decode cX11_shareOf 21 = .ok (.iload_n 1, 1) := by decide +kernel
theorem dX11_shareOf_22 : decode cX11_shareOf 22 = .ok (.iaload, 1) := by decide +kernel
theorem dX11_shareOf_23 : decode cX11_shareOf 23 = .ok (.istore 5, 2) := by decide +kernel
theorem dX11_shareOf_25 : decode cX11_shareOf 25 = .ok (.aload_n 0, 1) := by decide +kernel
theorem dX11_shareOf_26 : decode cX11_shareOf 26 = .ok (.getfield 36, 3) := by decide +kernel
theorem dX11_shareOf_29 : decode cX11_shareOf 29 = .ok (.iload 5, 2) := by decide +kernel
theorem dX11_shareOf_31 : decode cX11_shareOf 31 = .ok (.iaload, 1) := by decide +kernel
theorem dX11_shareOf_32 : decode cX11_shareOf 32 = .ok (.iconst 3, 1) := by decide +kernel
theorem dX11_shareOf_33 : decode cX11_shareOf 33 = .ok (.if_icmp .eq 25, 3) := by decide +kernel
theorem dX11_shareOf_36 : decode cX11_shareOf 36 = .ok (.aload_n 0, 1) := by decide +kernel
theorem dX11_shareOf_37 : decode cX11_shareOf 37 = .ok (.iload 5, 2) := by decide +kernel
theorem dX11_shareOf_39 : decode cX11_shareOf 39 = .ok (.aload_n 0, 1) := by decide +kernel
theorem dX11_shareOf_40 : decode cX11_shareOf 40 = .ok (.getfield 84, 3) := by decide +kernel
theorem dX11_shareOf_43 : decode cX11_shareOf 43 = .ok (.iload_n 1, 1) := by decide +kernel
theorem dX11_shareOf_44 : decode cX11_shareOf 44 = .ok (.iaload, 1) := by decide +kernel
theorem dX11_shareOf_45 : decode cX11_shareOf 45 = .ok (.invokevirtual 164, 3) := by decide +kernel
theorem dX11_shareOf_48 : decode cX11_shareOf 48 = .ok (.iload_n 2, 1) := by decide +kernel
theorem dX11_shareOf_49 : decode cX11_shareOf 49 = .ok (.if_icmp .ne 7, 3) := by decide +kernel
theorem dX11_shareOf_52 : decode cX11_shareOf 52 = .ok (.lload_n 3, 1) := by decide +kernel
theorem dX11_shareOf_53 : decode cX11_shareOf 53 = .ok (.goto 4, 3) := by decide +kernel
theorem dX11_shareOf_56 : decode cX11_shareOf 56 = .ok (.lconst 0, 1) := by decide +kernel
theorem dX11_shareOf_57 : decode cX11_shareOf 57 = .ok (.lreturn, 1) := by decide +kernel
theorem dX11_shareOf_58 : decode cX11_shareOf 58 = .ok (.aload_n 0, 1) := by decide +kernel
theorem dX11_shareOf_59 : decode cX11_shareOf 59 = .ok (.iload_n 1, 1) := by decide +kernel
theorem dX11_shareOf_60 : decode cX11_shareOf 60 = .ok (.invokevirtual 172, 3) := by decide +kernel
theorem dX11_shareOf_63 : decode cX11_shareOf 63 = .ok (.i2l, 1) := by decide +kernel
theorem dX11_shareOf_64 : decode cX11_shareOf 64 = .ok (.lstore 6, 2) := by decide +kernel
theorem dX11_shareOf_66 : decode cX11_shareOf 66 = .ok (.lload 6, 2) := by decide +kernel
theorem dX11_shareOf_68 : decode cX11_shareOf 68 = .ok (.lconst 0, 1) := by decide +kernel
theorem dX11_shareOf_69 : decode cX11_shareOf 69 = .ok (.lcmp, 1) := by decide +kernel
theorem dX11_shareOf_70 : decode cX11_shareOf 70 = .ok (.ifCond .ne 5, 3) := by decide +kernel
theorem dX11_shareOf_73 : decode cX11_shareOf 73 = .ok (.lconst 0, 1) := by decide +kernel
theorem dX11_shareOf_74 : decode cX11_shareOf 74 = .ok (.lreturn, 1) := by decide +kernel
theorem dX11_shareOf_75 : decode cX11_shareOf 75 = .ok (.lload_n 3, 1) := by decide +kernel
theorem dX11_shareOf_76 : decode cX11_shareOf 76 = .ok (.lstore 8, 2) := by decide +kernel
theorem dX11_shareOf_78 : decode cX11_shareOf 78 = .ok (.iconst 0, 1) := by decide +kernel
theorem dX11_shareOf_79 : decode cX11_shareOf 79 = .ok (.istore 10, 2) := by decide +kernel
theorem dX11_shareOf_81 : decode cX11_shareOf 81 = .ok (.iload 10, 2) := by decide +kernel
theorem dX11_shareOf_83 : decode cX11_shareOf 83 = .ok (.aload_n 0, 1) := by decide +kernel
theorem dX11_shareOf_84 : decode cX11_shareOf 84 = .ok (.getfield 136, 3) := by decide +kernel
theorem dX11_shareOf_87 : decode cX11_shareOf 87 = .ok (.if_icmp .ge 34, 3) := by decide +kernel
theorem dX11_shareOf_90 : decode cX11_shareOf 90 = .ok (.lload 8, 2) := by decide +kernel
theorem dX11_shareOf_92 : decode cX11_shareOf 92 = .ok (.lload_n 3, 1) := by decide +kernel
theorem dX11_shareOf_93 : decode cX11_shareOf 93 = .ok (.aload_n 0, 1) := by decide +kernel
theorem dX11_shareOf_94 : decode cX11_shareOf 94 = .ok (.iload 5, 2) := by decide +kernel
theorem dX11_shareOf_96 : decode cX11_shareOf 96 = .ok (.iload 10, 2) := by decide +kernel
theorem dX11_shareOf_98 : decode cX11_shareOf 98 = .ok (.aload_n 0, 1) := by decide +kernel
theorem dX11_shareOf_99 : decode cX11_shareOf 99 = .ok (.getfield 84, 3) := by decide +kernel
theorem dX11_shareOf_102 : decode cX11_shareOf 102 = .ok (.iload_n 1, 1) := by decide +kernel
theorem dX11_shareOf_103 : decode cX11_shareOf 103 = .ok (.iaload, 1) := by decide +kernel
theorem dX11_shareOf_104 : decode cX11_shareOf 104 = .ok (.invokevirtual 168, 3) := by decide +kernel
theorem dX11_shareOf_107 : decode cX11_shareOf 107 = .ok (.i2l, 1) := by decide +kernel
theorem dX11_shareOf_108 : decode cX11_shareOf 108 = .ok (.lmul, 1) := by decide +kernel
theorem dX11_shareOf_109 : decode cX11_shareOf 109 = .ok (.lload 6, 2) := by decide +kernel
theorem dX11_shareOf_111 : decode cX11_shareOf 111 = .ok (.ldiv, 1) := by decide +kernel
theorem dX11_shareOf_112 : decode cX11_shareOf 112 = .ok (.lsub, 1) := by decide +kernel
theorem dX11_shareOf_113 : decode cX11_shareOf 113 = .ok (.lstore 8, 2) := by decide +kernel
theorem dX11_shareOf_115 : decode cX11_shareOf 115 = .ok (.iinc 10 1, 3) := by decide +kernel
theorem dX11_shareOf_118 : decode cX11_shareOf 118 = .ok (.goto (-37), 3) := by decide +kernel
theorem dX11_shareOf_121 : decode cX11_shareOf 121 = .ok (.iconst 0, 1) := by decide +kernel
theorem dX11_shareOf_122 : decode cX11_shareOf 122 = .ok (.istore 10, 2) := by decide +kernel
theorem dX11_shareOf_124 : decode cX11_shareOf 124 = .ok (.iconst 0, 1) := by decide +kernel
theorem dX11_shareOf_125 : decode cX11_shareOf 125 = .ok (.istore 11, 2) := by decide +kernel
theorem dX11_shareOf_127 : decode cX11_shareOf 127 = .ok (.iload 11, 2) := by decide +kernel
theorem dX11_shareOf_129 : decode cX11_shareOf 129 = .ok (.iload_n 2, 1) := by decide +kernel
theorem dX11_shareOf_130 : decode cX11_shareOf 130 = .ok (.if_icmp .ge 36, 3) := by decide +kernel
theorem dX11_shareOf_133 : decode cX11_shareOf 133 = .ok (.iload 10, 2) := by decide +kernel
theorem dX11_shareOf_135 : decode cX11_shareOf 135 = .ok (.aload_n 0, 1) := by decide +kernel
theorem dX11_shareOf_136 : decode cX11_shareOf 136 = .ok (.iload 5, 2) := by decide +kernel
theorem dX11_shareOf_138 : decode cX11_shareOf 138 = .ok (.iload 11, 2) := by decide +kernel
theorem dX11_shareOf_140 : decode cX11_shareOf 140 = .ok (.aload_n 0, 1) := by decide +kernel
theorem dX11_shareOf_141 : decode cX11_shareOf 141 = .ok (.getfield 84, 3) := by decide +kernel
theorem dX11_shareOf_144 : decode cX11_shareOf 144 = .ok (.iload_n 1, 1) := by decide +kernel
theorem dX11_shareOf_145 : decode cX11_shareOf 145 = .ok (.iaload, 1) := by decide +kernel
theorem dX11_shareOf_146 : decode cX11_shareOf 146 = .ok (.invokevirtual 168, 3) := by decide +kernel
theorem dX11_shareOf_149 : decode cX11_shareOf 149 = .ok (.ifCond .le 7, 3) := by decide +kernel
theorem dX11_shareOf_152 : decode cX11_shareOf 152 = .ok (.iconst 1, 1) := by decide +kernel
theorem dX11_shareOf_153 : decode cX11_shareOf 153 = .ok (.goto 4, 3) := by decide +kernel
theorem dX11_shareOf_156 : decode cX11_shareOf 156 = .ok (.iconst 0, 1) := by decide +kernel
theorem dX11_shareOf_157 : decode cX11_shareOf 157 = .ok (.iadd, 1) := by decide +kernel
theorem dX11_shareOf_158 : decode cX11_shareOf 158 = .ok (.istore 10, 2) := by decide +kernel
theorem dX11_shareOf_160 : decode cX11_shareOf 160 = .ok (.iinc 11 1, 3) := by decide +kernel
theorem dX11_shareOf_163 : decode cX11_shareOf 163 = .ok (.goto (-36), 3) := by decide +kernel
theorem dX11_shareOf_166 : decode cX11_shareOf 166 = .ok (.aload_n 0, 1) := by decide +kernel
theorem dX11_shareOf_167 : decode cX11_shareOf 167 = .ok (.iload 5, 2) := by decide +kernel
theorem dX11_shareOf_169 : decode cX11_shareOf 169 = .ok (.iload_n 2, 1) := by decide +kernel
theorem dX11_shareOf_170 : decode cX11_shareOf 170 = .ok (.aload_n 0, 1) := by decide +kernel
theorem dX11_shareOf_171 : decode cX11_shareOf 171 = .ok (.getfield 84, 3) := by decide +kernel
theorem dX11_shareOf_174 : decode cX11_shareOf 174 = .ok (.iload_n 1, 1) := by decide +kernel
theorem dX11_shareOf_175 : decode cX11_shareOf 175 = .ok (.iaload, 1) := by decide +kernel
theorem dX11_shareOf_176 : decode cX11_shareOf 176 = .ok (.invokevirtual 168, 3) := by decide +kernel
theorem dX11_shareOf_179 : decode cX11_shareOf 179 = .ok (.istore 11, 2) := by decide +kernel
theorem dX11_shareOf_181 : decode cX11_shareOf 181 = .ok (.lload_n 3, 1) := by decide +kernel
theorem dX11_shareOf_182 : decode cX11_shareOf 182 = .ok (.iload 11, 2) := by decide +kernel
theorem dX11_shareOf_184 : decode cX11_shareOf 184 = .ok (.i2l, 1) := by decide +kernel
theorem dX11_shareOf_185 : decode cX11_shareOf 185 = .ok (.lmul, 1) := by decide +kernel
theorem dX11_shareOf_186 : decode cX11_shareOf 186 = .ok (.lload 6, 2) := by decide +kernel
theorem dX11_shareOf_188 : decode cX11_shareOf 188 = .ok (.ldiv, 1) := by decide +kernel
theorem dX11_shareOf_189 : decode cX11_shareOf 189 = .ok (.iload 11, 2) := by decide +kernel
theorem dX11_shareOf_191 : decode cX11_shareOf 191 = .ok (.ifCond .le 16, 3) := by decide +kernel
theorem dX11_shareOf_194 : decode cX11_shareOf 194 = .ok (.iload 10, 2) := by decide +kernel
theorem dX11_shareOf_196 : decode cX11_shareOf 196 = .ok (.i2l, 1) := by decide +kernel
theorem dX11_shareOf_197 : decode cX11_shareOf 197 = .ok (.lload 8, 2) := by decide +kernel
theorem dX11_shareOf_199 : decode cX11_shareOf 199 = .ok (.lcmp, 1) := by decide +kernel
theorem dX11_shareOf_200 : decode cX11_shareOf 200 = .ok (.ifCond .ge 7, 3) := by decide +kernel
theorem dX11_shareOf_203 : decode cX11_shareOf 203 = .ok (.lconst 1, 1) := by decide +kernel
theorem dX11_shareOf_204 : decode cX11_shareOf 204 = .ok (.goto 4, 3) := by decide +kernel
theorem dX11_shareOf_207 : decode cX11_shareOf 207 = .ok (.lconst 0, 1) := by decide +kernel
theorem dX11_shareOf_208 : decode cX11_shareOf 208 = .ok (.ladd, 1) := by decide +kernel
theorem dX11_shareOf_209 : decode cX11_shareOf 209 = .ok (.lreturn, 1) := by decide +kernel
set_option maxRecDepth 20000 in
theorem ggX11_chargedTo_X11_shareOf : GoodIn wsX11_chargedTo wsX11_shareOf := goodIn_r _ [7, 8, 9, 10, 11, 12, 13, 14, 15, 6, 16, 17, 18, 19, 20, 21, 22, 23, 24, 25, 26, 27, 28, 29, 30, 31, 32, 33, 34, 35, 36, 37, 38, 39, 40, 41, 42, 43, 44, 45, 46, 47, 48, 49, 50, 51, 52, 53, 54, 55, 56, 57, 58, 59, 60, 61, 62, 63, 64, 65, 66, 67, 68, 69, 70, 71, 72, 73, 74, 75, 76, 77, 78, 79, 80, 81, 82, 83, 84, 85, 86, 87, 88, 89, 90] (by decide +kernel) (by decide +kernel)
set_option maxRecDepth 20000 in
theorem gX11_chargedTo_X11_shareOf : GoodIn wsX11_chargedTo (wsV RX11 182 RX11 yX11_shareOf wsX11_shareOf) := goodIn_app (goodIn_of _ (by decide +kernel)) ggX11_chargedTo_X11_shareOf
theorem dX11_chargedTo_0 : decode cX11_chargedTo 0 = .ok (.aload_n 0, 1) := by decide +kernel
theorem dX11_chargedTo_1 : decode cX11_chargedTo 1 = .ok (.getfield 26, 3) := by decide +kernel
theorem dX11_chargedTo_4 : decode cX11_chargedTo 4 = .ok (.iload_n 1, 1) := by decide +kernel
theorem dX11_chargedTo_5 : decode cX11_chargedTo 5 = .ok (.laload, 1) := by decide +kernel
theorem dX11_chargedTo_6 : decode cX11_chargedTo 6 = .ok (.lstore_n 2, 1) := by decide +kernel
theorem dX11_chargedTo_7 : decode cX11_chargedTo 7 = .ok (.iconst 0, 1) := by decide +kernel
theorem dX11_chargedTo_8 : decode cX11_chargedTo 8 = .ok (.istore 4, 2) := by decide +kernel
theorem dX11_chargedTo_10 : decode cX11_chargedTo 10 = .ok (.iload 4, 2) := by decide +kernel
theorem dX11_chargedTo_12 : decode cX11_chargedTo 12 = .ok (.aload_n 0, 1) := by decide +kernel
theorem dX11_chargedTo_13 : decode cX11_chargedTo 13 = .ok (.getfield 145, 3) := by decide +kernel
theorem dX11_chargedTo_16 : decode cX11_chargedTo 16 = .ok (.if_icmp .ge 19, 3) := by decide +kernel
theorem dX11_chargedTo_19 : decode cX11_chargedTo 19 = .ok (.lload_n 2, 1) := by decide +kernel
theorem dX11_chargedTo_20 : decode cX11_chargedTo 20 = .ok (.aload_n 0, 1) := by decide +kernel
theorem dX11_chargedTo_21 : decode cX11_chargedTo 21 = .ok (.iload 4, 2) := by decide +kernel
theorem dX11_chargedTo_23 : decode cX11_chargedTo 23 = .ok (.iload_n 1, 1) := by decide +kernel
theorem dX11_chargedTo_24 : decode cX11_chargedTo 24 = .ok (.invokevirtual 182, 3) := by decide +kernel
theorem dX11_chargedTo_27 : decode cX11_chargedTo 27 = .ok (.ladd, 1) := by decide +kernel
theorem dX11_chargedTo_28 : decode cX11_chargedTo 28 = .ok (.lstore_n 2, 1) := by decide +kernel
theorem dX11_chargedTo_29 : decode cX11_chargedTo 29 = .ok (.iinc 4 1, 3) := by decide +kernel
theorem dX11_chargedTo_32 : decode cX11_chargedTo 32 = .ok (.goto (-22), 3) := by decide +kernel
theorem dX11_chargedTo_35 : decode cX11_chargedTo 35 = .ok (.lload_n 2, 1) := by decide +kernel
theorem dX11_chargedTo_36 : decode cX11_chargedTo 36 = .ok (.lreturn, 1) := by decide +kernel
set_option maxRecDepth 20000 in
theorem ggX11_street_X11_throwsIf : GoodIn wsX11_street wsX11_throwsIf := goodIn_r _ [7, 1, 8, 9, 10, 11, 12, 13, 14, 15, 16, 17, 18, 19, 20, 21, 22, 23, 24, 25, 26, 27, 28, 29, 30, 31, 32, 33, 34, 35, 36, 37, 38, 39, 40, 41, 42, 43, 44, 45, 46, 47, 48, 49, 50, 51, 52, 53, 54, 55] (by decide +kernel) (by decide +kernel)
set_option maxRecDepth 20000 in
theorem gX11_street_X11_throwsIf : GoodIn wsX11_street (wsV RX11 186 RX11 yX11_throwsIf wsX11_throwsIf) := goodIn_app (goodIn_of _ (by decide +kernel)) ggX11_street_X11_throwsIf
theorem dX11_street_0 : decode cX11_street 0 = .ok (.aload_n 0, 1) := by decide +kernel
theorem dX11_street_1 : decode cX11_street 1 = .ok (.iconst 0, 1) := by decide +kernel
theorem dX11_street_2 : decode cX11_street 2 = .ok (.putfield 129, 3) := by decide +kernel
theorem dX11_street_5 : decode cX11_street 5 = .ok (.aload_n 0, 1) := by decide +kernel
theorem dX11_street_6 : decode cX11_street 6 = .ok (.aload_n 0, 1) := by decide +kernel
theorem dX11_street_7 : decode cX11_street 7 = .ok (.getfield 133, 3) := by decide +kernel
theorem dX11_street_10 : decode cX11_street 10 = .ok (.bipush 10, 2) := by decide +kernel
theorem dX11_street_12 : decode cX11_street 12 = .ok (.if_icmp .ne 7, 3) := by decide +kernel
theorem dX11_street_15 : decode cX11_street 15 = .ok (.iconst 1, 1) := by decide +kernel
theorem dX11_street_16 : decode cX11_street 16 = .ok (.goto 4, 3) := by decide +kernel
theorem dX11_street_19 : decode cX11_street 19 = .ok (.iconst 0, 1) := by decide +kernel
theorem dX11_street_20 : decode cX11_street 20 = .ok (.iconst 1, 1) := by decide +kernel
theorem dX11_street_21 : decode cX11_street 21 = .ok (.invokevirtual 186, 3) := by decide +kernel
theorem dX11_street_24 : decode cX11_street 24 = .ok (.ifCond .eq 5, 3) := by decide +kernel
theorem dX11_street_27 : decode cX11_street 27 = .ok (.iconst 0, 1) := by decide +kernel
theorem dX11_street_28 : decode cX11_street 28 = .ok (.ireturn, 1) := by decide +kernel
theorem dX11_street_29 : decode cX11_street 29 = .ok (.aload_n 0, 1) := by decide +kernel
theorem dX11_street_30 : decode cX11_street 30 = .ok (.dup, 1) := by decide +kernel
theorem dX11_street_31 : decode cX11_street 31 = .ok (.getfield 133, 3) := by decide +kernel
theorem dX11_street_34 : decode cX11_street 34 = .ok (.iconst 1, 1) := by decide +kernel
theorem dX11_street_35 : decode cX11_street 35 = .ok (.iadd, 1) := by decide +kernel
theorem dX11_street_36 : decode cX11_street 36 = .ok (.putfield 133, 3) := by decide +kernel
theorem dX11_street_39 : decode cX11_street 39 = .ok (.aload_n 0, 1) := by decide +kernel
theorem dX11_street_40 : decode cX11_street 40 = .ok (.getfield 133, 3) := by decide +kernel
theorem dX11_street_43 : decode cX11_street 43 = .ok (.iconst 1, 1) := by decide +kernel
theorem dX11_street_44 : decode cX11_street 44 = .ok (.isub, 1) := by decide +kernel
theorem dX11_street_45 : decode cX11_street 45 = .ok (.ireturn, 1) := by decide +kernel
set_option maxRecDepth 20000 in
theorem ggX11_round_X11_noStreet : GoodIn wsX11_round wsX11_noStreet := goodIn_r _ [11, 12, 20, 21, 22, 23, 24, 25, 26, 27, 28, 29, 30, 31, 32, 33, 34, 35, 36, 37, 38, 39, 40, 41, 42, 43, 44, 45, 46, 47, 48, 49, 50, 51, 52, 53, 54, 55, 56, 57, 58, 59, 60, 61, 62, 63, 64, 65, 66, 67] (by decide +kernel) (by decide +kernel)
set_option maxRecDepth 20000 in
theorem gX11_round_X11_noStreet : GoodIn wsX11_round (wsV RX11 190 RX11 yX11_noStreet wsX11_noStreet) := goodIn_app (goodIn_of _ (by decide +kernel)) ggX11_round_X11_noStreet
set_option maxRecDepth 20000 in
theorem ggX11_round_X11_throwsIf : GoodIn wsX11_round wsX11_throwsIf := goodIn_r _ [16, 1, 20, 21, 22, 23, 24, 25, 26, 27, 28, 29, 30, 31, 32, 33, 34, 35, 36, 37, 38, 39, 40, 41, 42, 43, 44, 45, 46, 47, 48, 49, 50, 51, 52, 53, 54, 55, 56, 57, 58, 59, 60, 61, 62, 63, 64, 65, 66, 67] (by decide +kernel) (by decide +kernel)
set_option maxRecDepth 20000 in
theorem gX11_round_X11_throwsIf : GoodIn wsX11_round (wsV RX11 186 RX11 yX11_throwsIf wsX11_throwsIf) := goodIn_app (goodIn_of _ (by decide +kernel)) ggX11_round_X11_throwsIf
set_option maxRecDepth 20000 in
theorem ggX11_round_X11_in : GoodIn wsX11_round wsX11_in := goodIn_r _ [19] (by decide +kernel) (by decide +kernel)
set_option maxRecDepth 20000 in
theorem gX11_round_X11_in : GoodIn wsX11_round (va_wsS RX11 195 yX11_in wsX11_in) := goodIn_app (goodIn_of _ (by decide +kernel)) ggX11_round_X11_in
theorem dX11_round_0 : decode cX11_round 0 = .ok (.aload_n 0, 1) := by decide +kernel
theorem dX11_round_1 : decode cX11_round 1 = .ok (.iconst 0, 1) := by decide +kernel
theorem dX11_round_2 : decode cX11_round 2 = .ok (.putfield 129, 3) := by decide +kernel
theorem dX11_round_5 : decode cX11_round 5 = .ok (.aload_n 0, 1) := by decide +kernel
theorem dX11_round_6 : decode cX11_round 6 = .ok (.aload_n 0, 1) := by decide +kernel
theorem dX11_round_7 : decode cX11_round 7 = .ok (.iload_n 1, 1) := by decide +kernel
theorem dX11_round_8 : decode cX11_round 8 = .ok (.invokevirtual 190, 3) := by decide +kernel
theorem dX11_round_11 : decode cX11_round 11 = .ok (.iconst 1, 1) := by decide +kernel
theorem dX11_round_12 : decode cX11_round 12 = .ok (.invokevirtual 186, 3) := by decide +kernel
theorem dX11_round_15 : decode cX11_round 15 = .ok (.ifCond .ne 53, 3) := by decide +kernel
theorem dX11_round_18 : decode cX11_round 18 = .ok (.aload_n 0, 1) := by decide +kernel
theorem dX11_round_19 : decode cX11_round 19 = .ok (.iload_n 2, 1) := by decide +kernel
theorem dX11_round_20 : decode cX11_round 20 = .ok (.i2l, 1) := by decide +kernel
theorem dX11_round_21 : decode cX11_round 21 = .ok (.lconst 0, 1) := by decide +kernel
theorem dX11_round_22 : decode cX11_round 22 = .ok (.ldc2_w 193, 3) := by decide +kernel
theorem dX11_round_25 : decode cX11_round 25 = .ok (.invokestatic 195, 3) := by decide +kernel
theorem dX11_round_28 : decode cX11_round 28 = .ok (.ifCond .eq 28, 3) := by decide +kernel
theorem dX11_round_31 : decode cX11_round 31 = .ok (.iload_n 3, 1) := by decide +kernel
theorem dX11_round_32 : decode cX11_round 32 = .ok (.i2l, 1) := by decide +kernel
theorem dX11_round_33 : decode cX11_round 33 = .ok (.lconst 0, 1) := by decide +kernel
theorem dX11_round_34 : decode cX11_round 34 = .ok (.ldc2_w 199, 3) := by decide +kernel
theorem dX11_round_37 : decode cX11_round 37 = .ok (.invokestatic 195, 3) := by decide +kernel
theorem dX11_round_40 : decode cX11_round 40 = .ok (.ifCond .eq 16, 3) := by decide +kernel
theorem dX11_round_43 : decode cX11_round 43 = .ok (.iload 4, 2) := by decide +kernel
theorem dX11_round_45 : decode cX11_round 45 = .ok (.i2l, 1) := by decide +kernel
theorem dX11_round_46 : decode cX11_round 46 = .ok (.lconst 0, 1) := by decide +kernel
theorem dX11_round_47 : decode cX11_round 47 = .ok (.ldc2_w 201, 3) := by decide +kernel
theorem dX11_round_50 : decode cX11_round 50 = .ok (.invokestatic 195, 3) := by decide +kernel
theorem dX11_round_53 : decode cX11_round 53 = .ok (.ifCond .ne 7, 3) := by decide +kernel
theorem dX11_round_56 : decode cX11_round 56 = .ok (.iconst 1, 1) := by decide +kernel
theorem dX11_round_57 : decode cX11_round 57 = .ok (.goto 4, 3) := by decide +kernel
theorem dX11_round_60 : decode cX11_round 60 = .ok (.iconst 0, 1) := by decide +kernel
theorem dX11_round_61 : decode cX11_round 61 = .ok (.iconst 2, 1) := by decide +kernel
theorem dX11_round_62 : decode cX11_round 62 = .ok (.invokevirtual 186, 3) := by decide +kernel
theorem dX11_round_65 : decode cX11_round 65 = .ok (.ifCond .eq 4, 3) := by decide +kernel
theorem dX11_round_68 : decode cX11_round 68 = .ok (.return_, 1) := by decide +kernel
theorem dX11_round_69 : decode cX11_round 69 = .ok (.aload_n 0, 1) := by decide +kernel
theorem dX11_round_70 : decode cX11_round 70 = .ok (.getfield 13, 3) := by decide +kernel
theorem dX11_round_73 : decode cX11_round 73 = .ok (.iconst 3, 1) := by decide +kernel
theorem dX11_round_74 : decode cX11_round 74 = .ok (.iload_n 1, 1) := by decide +kernel
theorem dX11_round_75 : decode cX11_round 75 = .ok (.imul, 1) := by decide +kernel
theorem dX11_round_76 : decode cX11_round 76 = .ok (.iload_n 2, 1) := by decide +kernel
theorem dX11_round_77 : decode cX11_round 77 = .ok (.iadd, 1) := by decide +kernel
theorem dX11_round_78 : decode cX11_round 78 = .ok (.iload_n 3, 1) := by decide +kernel
theorem dX11_round_79 : decode cX11_round 79 = .ok (.iastore, 1) := by decide +kernel
theorem dX11_round_80 : decode cX11_round 80 = .ok (.aload_n 0, 1) := by decide +kernel
theorem dX11_round_81 : decode cX11_round 81 = .ok (.getfield 17, 3) := by decide +kernel
theorem dX11_round_84 : decode cX11_round 84 = .ok (.iconst 3, 1) := by decide +kernel
theorem dX11_round_85 : decode cX11_round 85 = .ok (.iload_n 1, 1) := by decide +kernel
theorem dX11_round_86 : decode cX11_round 86 = .ok (.imul, 1) := by decide +kernel
theorem dX11_round_87 : decode cX11_round 87 = .ok (.iload_n 2, 1) := by decide +kernel
theorem dX11_round_88 : decode cX11_round 88 = .ok (.iadd, 1) := by decide +kernel
theorem dX11_round_89 : decode cX11_round 89 = .ok (.iload 4, 2) := by decide +kernel
theorem dX11_round_91 : decode cX11_round 91 = .ok (.iastore, 1) := by decide +kernel
theorem dX11_round_92 : decode cX11_round 92 = .ok (.return_, 1) := by decide +kernel
set_option maxRecDepth 20000 in
theorem ggX11_holiday_X11_in : GoodIn wsX11_holiday wsX11_in := goodIn_r _ [8] (by decide +kernel) (by decide +kernel)
set_option maxRecDepth 20000 in
theorem gX11_holiday_X11_in : GoodIn wsX11_holiday (va_wsS RX11 195 yX11_in wsX11_in) := goodIn_app (goodIn_of _ (by decide +kernel)) ggX11_holiday_X11_in
set_option maxRecDepth 20000 in
theorem ggX11_holiday_X11_throwsIf : GoodIn wsX11_holiday wsX11_throwsIf := goodIn_r _ [12, 1, 13, 14, 15, 16, 17, 18, 19, 20, 21, 22, 23, 24, 25, 26, 27, 28, 29, 30, 31, 32, 33, 34, 35, 36, 37, 38, 39, 40, 41, 42, 43, 44, 45, 46, 47, 48, 49, 50, 51, 52, 53, 54, 55, 56, 57, 58, 59, 60] (by decide +kernel) (by decide +kernel)
set_option maxRecDepth 20000 in
theorem gX11_holiday_X11_throwsIf : GoodIn wsX11_holiday (wsV RX11 186 RX11 yX11_throwsIf wsX11_throwsIf) := goodIn_app (goodIn_of _ (by decide +kernel)) ggX11_holiday_X11_throwsIf
theorem dX11_holiday_0 : decode cX11_holiday 0 = .ok (.aload_n 0, 1) := by decide +kernel
theorem dX11_holiday_1 : decode cX11_holiday 1 = .ok (.iconst 0, 1) := by decide +kernel
theorem dX11_holiday_2 : decode cX11_holiday 2 = .ok (.putfield 129, 3) := by decide +kernel
theorem dX11_holiday_5 : decode cX11_holiday 5 = .ok (.aload_n 0, 1) := by decide +kernel
theorem dX11_holiday_6 : decode cX11_holiday 6 = .ok (.iload_n 1, 1) := by decide +kernel
theorem dX11_holiday_7 : decode cX11_holiday 7 = .ok (.i2l, 1) := by decide +kernel
theorem dX11_holiday_8 : decode cX11_holiday 8 = .ok (.aload_n 0, 1) := by decide +kernel
theorem dX11_holiday_9 : decode cX11_holiday 9 = .ok (.getfield 152, 3) := by decide +kernel
theorem dX11_holiday_12 : decode cX11_holiday 12 = .ok (.i2l, 1) := by decide +kernel
theorem dX11_holiday_13 : decode cX11_holiday 13 = .ok (.ldc2_w 203, 3) := by decide +kernel
theorem dX11_holiday_16 : decode cX11_holiday 16 = .ok (.invokestatic 195, 3) := by decide +kernel
theorem dX11_holiday_19 : decode cX11_holiday 19 = .ok (.ifCond .ne 7, 3) := by decide +kernel
theorem dX11_holiday_22 : decode cX11_holiday 22 = .ok (.iconst 1, 1) := by decide +kernel
theorem dX11_holiday_23 : decode cX11_holiday 23 = .ok (.goto 4, 3) := by decide +kernel
theorem dX11_holiday_26 : decode cX11_holiday 26 = .ok (.iconst 0, 1) := by decide +kernel
theorem dX11_holiday_27 : decode cX11_holiday 27 = .ok (.iconst 1, 1) := by decide +kernel
theorem dX11_holiday_28 : decode cX11_holiday 28 = .ok (.invokevirtual 186, 3) := by decide +kernel
theorem dX11_holiday_31 : decode cX11_holiday 31 = .ok (.ifCond .eq 5, 3) := by decide +kernel
theorem dX11_holiday_34 : decode cX11_holiday 34 = .ok (.iconst 0, 1) := by decide +kernel
theorem dX11_holiday_35 : decode cX11_holiday 35 = .ok (.ireturn, 1) := by decide +kernel
theorem dX11_holiday_36 : decode cX11_holiday 36 = .ok (.aload_n 0, 1) := by decide +kernel
theorem dX11_holiday_37 : decode cX11_holiday 37 = .ok (.getfield 9, 3) := by decide +kernel
theorem dX11_holiday_40 : decode cX11_holiday 40 = .ok (.iload_n 1, 1) := by decide +kernel
theorem dX11_holiday_41 : decode cX11_holiday 41 = .ok (.baload, 1) := by decide +kernel
theorem dX11_holiday_42 : decode cX11_holiday 42 = .ok (.istore_n 3, 1) := by decide +kernel
theorem dX11_holiday_43 : decode cX11_holiday 43 = .ok (.aload_n 0, 1) := by decide +kernel
theorem dX11_holiday_44 : decode cX11_holiday 44 = .ok (.getfield 9, 3) := by decide +kernel
theorem dX11_holiday_47 : decode cX11_holiday 47 = .ok (.iload_n 1, 1) := by decide +kernel
theorem dX11_holiday_48 : decode cX11_holiday 48 = .ok (.iload_n 2, 1) := by decide +kernel
theorem dX11_holiday_49 : decode cX11_holiday 49 = .ok (.bastore, 1) := by decide +kernel
theorem dX11_holiday_50 : decode cX11_holiday 50 = .ok (.iload_n 3, 1) := by decide +kernel
theorem dX11_holiday_51 : decode cX11_holiday 51 = .ok (.iload_n 2, 1) := by decide +kernel
theorem dX11_holiday_52 : decode cX11_holiday 52 = .ok (.if_icmp .eq 7, 3) := by decide +kernel
theorem dX11_holiday_55 : decode cX11_holiday 55 = .ok (.iconst 1, 1) := by decide +kernel
theorem dX11_holiday_56 : decode cX11_holiday 56 = .ok (.goto 4, 3) := by decide +kernel
theorem dX11_holiday_59 : decode cX11_holiday 59 = .ok (.iconst 0, 1) := by decide +kernel
theorem dX11_holiday_60 : decode cX11_holiday 60 = .ok (.ireturn, 1) := by decide +kernel
set_option maxRecDepth 20000 in
theorem ggX11_when_X11_noStreet : GoodIn wsX11_when wsX11_noStreet := goodIn_r _ [8, 9, 28, 29, 30, 31, 32, 33, 34, 35, 36, 37, 38, 39, 40, 41, 42, 43, 44, 45, 46, 47, 48, 49, 50, 51, 52, 53, 54, 55, 56, 57, 58, 59, 60, 61, 62, 63, 64, 65, 66, 67, 68, 69, 70, 71, 72, 73, 74, 75] (by decide +kernel) (by decide +kernel)
set_option maxRecDepth 20000 in
theorem gX11_when_X11_noStreet : GoodIn wsX11_when (wsV RX11 190 RX11 yX11_noStreet wsX11_noStreet) := goodIn_app (goodIn_of _ (by decide +kernel)) ggX11_when_X11_noStreet
set_option maxRecDepth 20000 in
theorem ggX11_when_X11_throwsIf : GoodIn wsX11_when wsX11_throwsIf := goodIn_r _ [13, 1, 28, 29, 30, 31, 32, 33, 34, 35, 36, 37, 38, 39, 40, 41, 42, 43, 44, 45, 46, 47, 48, 49, 50, 51, 52, 53, 54, 55, 56, 57, 58, 59, 60, 61, 62, 63, 64, 65, 66, 67, 68, 69, 70, 71, 72, 73, 74, 75] (by decide +kernel) (by decide +kernel)
set_option maxRecDepth 20000 in
theorem gX11_when_X11_throwsIf : GoodIn wsX11_when (wsV RX11 186 RX11 yX11_throwsIf wsX11_throwsIf) := goodIn_app (goodIn_of _ (by decide +kernel)) ggX11_when_X11_throwsIf
set_option maxRecDepth 20000 in
theorem ggX11_when_X11_in : GoodIn wsX11_when wsX11_in := goodIn_r _ [16] (by decide +kernel) (by decide +kernel)
set_option maxRecDepth 20000 in
theorem gX11_when_X11_in : GoodIn wsX11_when (va_wsS RX11 195 yX11_in wsX11_in) := goodIn_app (goodIn_of _ (by decide +kernel)) ggX11_when_X11_in
set_option maxRecDepth 20000 in
theorem ggX11_when_X11_dayOf : GoodIn wsX11_when wsX11_dayOf := goodIn_r _ [20, 21, 22, 23, 24, 25, 7, 26, 27, 28, 29, 30, 31, 32, 33, 34, 35, 36, 37, 38, 39, 40, 41, 42, 43, 44, 45, 46, 47, 48, 49, 50, 51, 52, 53, 54, 55, 56, 57, 58, 59, 60, 61, 62, 63, 64, 65, 66, 67, 68, 69, 70, 71, 72, 73, 74, 75] (by decide +kernel) (by decide +kernel)
set_option maxRecDepth 20000 in
theorem gX11_when_X11_dayOf : GoodIn wsX11_when (wsV RX11 207 RX11 yX11_dayOf wsX11_dayOf) := goodIn_app (goodIn_of _ (by decide +kernel)) ggX11_when_X11_dayOf
theorem dX11_when_0 : decode cX11_when 0 = .ok (.aload_n 0, 1) := by decide +kernel
theorem dX11_when_1 : decode cX11_when 1 = .ok (.iconst 0, 1) := by decide +kernel
theorem dX11_when_2 : decode cX11_when 2 = .ok (.putfield 129, 3) := by decide +kernel
theorem dX11_when_5 : decode cX11_when 5 = .ok (.aload_n 0, 1) := by decide +kernel
theorem dX11_when_6 : decode cX11_when 6 = .ok (.aload_n 0, 1) := by decide +kernel
theorem dX11_when_7 : decode cX11_when 7 = .ok (.iload_n 1, 1) := by decide +kernel
theorem dX11_when_8 : decode cX11_when 8 = .ok (.invokevirtual 190, 3) := by decide +kernel
theorem dX11_when_11 : decode cX11_when 11 = .ok (.iconst 1, 1) := by decide +kernel
theorem dX11_when_12 : decode cX11_when 12 = .ok (.invokevirtual 186, 3) := by decide +kernel
theorem dX11_when_15 : decode cX11_when 15 = .ok (.ifCond .ne 40, 3) := by decide +kernel
theorem dX11_when_18 : decode cX11_when 18 = .ok (.aload_n 0, 1) := by decide +kernel
theorem dX11_when_19 : decode cX11_when 19 = .ok (.iload_n 2, 1) := by decide +kernel
theorem dX11_when_20 : decode cX11_when 20 = .ok (.i2l, 1) := by decide +kernel
theorem dX11_when_21 : decode cX11_when 21 = .ok (.lconst 0, 1) := by decide +kernel
theorem dX11_when_22 : decode cX11_when 22 = .ok (.ldc2_w 193, 3) := by decide +kernel
theorem dX11_when_25 : decode cX11_when 25 = .ok (.invokestatic 195, 3) := by decide +kernel
theorem dX11_when_28 : decode cX11_when 28 = .ok (.ifCond .eq 15, 3) := by decide +kernel
theorem dX11_when_31 : decode cX11_when 31 = .ok (.iload_n 3, 1) := by decide +kernel
theorem dX11_when_32 : decode cX11_when 32 = .ok (.i2l, 1) := by decide +kernel
theorem dX11_when_33 : decode cX11_when 33 = .ok (.lconst 0, 1) := by decide +kernel
theorem dX11_when_34 : decode cX11_when 34 = .ok (.ldc2_w 205, 3) := by decide +kernel
theorem dX11_when_37 : decode cX11_when 37 = .ok (.invokestatic 195, 3) := by decide +kernel
theorem dX11_when_40 : decode cX11_when 40 = .ok (.ifCond .ne 7, 3) := by decide +kernel
theorem dX11_when_43 : decode cX11_when 43 = .ok (.iconst 1, 1) := by decide +kernel
theorem dX11_when_44 : decode cX11_when 44 = .ok (.goto 4, 3) := by decide +kernel
theorem dX11_when_47 : decode cX11_when 47 = .ok (.iconst 0, 1) := by decide +kernel
theorem dX11_when_48 : decode cX11_when 48 = .ok (.iconst 2, 1) := by decide +kernel
theorem dX11_when_49 : decode cX11_when 49 = .ok (.invokevirtual 186, 3) := by decide +kernel
theorem dX11_when_52 : decode cX11_when 52 = .ok (.ifCond .eq 5, 3) := by decide +kernel
theorem dX11_when_55 : decode cX11_when 55 = .ok (.iconst 0, 1) := by decide +kernel
theorem dX11_when_56 : decode cX11_when 56 = .ok (.ireturn, 1) := by decide +kernel
theorem dX11_when_57 : decode cX11_when 57 = .ok (.aload_n 0, 1) := by decide +kernel
theorem dX11_when_58 : decode cX11_when 58 = .ok (.iload_n 1, 1) := by decide +kernel
theorem dX11_when_59 : decode cX11_when 59 = .ok (.iload_n 2, 1) := by decide +kernel
theorem dX11_when_60 : decode cX11_when 60 = .ok (.iload_n 3, 1) := by decide +kernel
theorem dX11_when_61 : decode cX11_when 61 = .ok (.invokevirtual 207, 3) := by decide +kernel
theorem dX11_when_64 : decode cX11_when 64 = .ok (.ireturn, 1) := by decide +kernel
set_option maxRecDepth 20000 in
theorem ggX11_house_X11_noStreet : GoodIn wsX11_house wsX11_noStreet := goodIn_r _ [8, 9, 14, 15, 16, 17, 18, 19, 20, 21, 22, 23, 24, 25, 26, 27, 28, 29, 30, 31, 32, 33, 34, 35, 36, 37, 38, 39, 40, 41, 42, 43, 44, 45, 46, 47, 48, 49, 50, 51, 52, 53, 54, 55, 56, 57, 58, 59, 60, 61] (by decide +kernel) (by decide +kernel)
set_option maxRecDepth 20000 in
theorem gX11_house_X11_noStreet : GoodIn wsX11_house (wsV RX11 190 RX11 yX11_noStreet wsX11_noStreet) := goodIn_app (goodIn_of _ (by decide +kernel)) ggX11_house_X11_noStreet
set_option maxRecDepth 20000 in
theorem ggX11_house_X11_throwsIf : GoodIn wsX11_house wsX11_throwsIf := goodIn_r _ [13, 1, 14, 15, 16, 17, 18, 19, 20, 21, 22, 23, 24, 25, 26, 27, 28, 29, 30, 31, 32, 33, 34, 35, 36, 37, 38, 39, 40, 41, 42, 43, 44, 45, 46, 47, 48, 49, 50, 51, 52, 53, 54, 55, 56, 57, 58, 59, 60, 61] (by decide +kernel) (by decide +kernel)
set_option maxRecDepth 20000 in
theorem gX11_house_X11_throwsIf : GoodIn wsX11_house (wsV RX11 186 RX11 yX11_throwsIf wsX11_throwsIf) := goodIn_app (goodIn_of _ (by decide +kernel)) ggX11_house_X11_throwsIf
theorem dX11_house_0 : decode cX11_house 0 = .ok (.aload_n 0, 1) := by decide +kernel
theorem dX11_house_1 : decode cX11_house 1 = .ok (.iconst 0, 1) := by decide +kernel
theorem dX11_house_2 : decode cX11_house 2 = .ok (.putfield 129, 3) := by decide +kernel
theorem dX11_house_5 : decode cX11_house 5 = .ok (.aload_n 0, 1) := by decide +kernel
theorem dX11_house_6 : decode cX11_house 6 = .ok (.aload_n 0, 1) := by decide +kernel
theorem dX11_house_7 : decode cX11_house 7 = .ok (.iload_n 1, 1) := by decide +kernel
theorem dX11_house_8 : decode cX11_house 8 = .ok (.invokevirtual 190, 3) := by decide +kernel
theorem dX11_house_11 : decode cX11_house 11 = .ok (.iconst 1, 1) := by decide +kernel
theorem dX11_house_12 : decode cX11_house 12 = .ok (.invokevirtual 186, 3) := by decide +kernel
theorem dX11_house_15 : decode cX11_house 15 = .ok (.ifCond .ne 25, 3) := by decide +kernel
theorem dX11_house_18 : decode cX11_house 18 = .ok (.aload_n 0, 1) := by decide +kernel
theorem dX11_house_19 : decode cX11_house 19 = .ok (.aload_n 0, 1) := by decide +kernel
theorem dX11_house_20 : decode cX11_house 20 = .ok (.getfield 136, 3) := by decide +kernel
theorem dX11_house_23 : decode cX11_house 23 = .ok (.bipush 60, 2) := by decide +kernel
theorem dX11_house_25 : decode cX11_house 25 = .ok (.if_icmp .ne 7, 3) := by decide +kernel
theorem dX11_house_28 : decode cX11_house 28 = .ok (.iconst 1, 1) := by decide +kernel
theorem dX11_house_29 : decode cX11_house 29 = .ok (.goto 4, 3) := by decide +kernel
theorem dX11_house_32 : decode cX11_house 32 = .ok (.iconst 0, 1) := by decide +kernel
theorem dX11_house_33 : decode cX11_house 33 = .ok (.iconst 2, 1) := by decide +kernel
theorem dX11_house_34 : decode cX11_house 34 = .ok (.invokevirtual 186, 3) := by decide +kernel
theorem dX11_house_37 : decode cX11_house 37 = .ok (.ifCond .eq 5, 3) := by decide +kernel
theorem dX11_house_40 : decode cX11_house 40 = .ok (.iconst 0, 1) := by decide +kernel
theorem dX11_house_41 : decode cX11_house 41 = .ok (.ireturn, 1) := by decide +kernel
theorem dX11_house_42 : decode cX11_house 42 = .ok (.aload_n 0, 1) := by decide +kernel
theorem dX11_house_43 : decode cX11_house 43 = .ok (.getfield 20, 3) := by decide +kernel
theorem dX11_house_46 : decode cX11_house 46 = .ok (.aload_n 0, 1) := by decide +kernel
theorem dX11_house_47 : decode cX11_house 47 = .ok (.getfield 136, 3) := by decide +kernel
theorem dX11_house_50 : decode cX11_house 50 = .ok (.iload_n 1, 1) := by decide +kernel
theorem dX11_house_51 : decode cX11_house 51 = .ok (.iastore, 1) := by decide +kernel
theorem dX11_house_52 : decode cX11_house 52 = .ok (.aload_n 0, 1) := by decide +kernel
theorem dX11_house_53 : decode cX11_house 53 = .ok (.dup, 1) := by decide +kernel
theorem dX11_house_54 : decode cX11_house 54 = .ok (.getfield 136, 3) := by decide +kernel
theorem dX11_house_57 : decode cX11_house 57 = .ok (.iconst 1, 1) := by decide +kernel
theorem dX11_house_58 : decode cX11_house 58 = .ok (.iadd, 1) := by decide +kernel
theorem dX11_house_59 : decode cX11_house 59 = .ok (.putfield 136, 3) := by decide +kernel
theorem dX11_house_62 : decode cX11_house 62 = .ok (.aload_n 0, 1) := by decide +kernel
theorem dX11_house_63 : decode cX11_house 63 = .ok (.getfield 136, 3) := by decide +kernel
theorem dX11_house_66 : decode cX11_house 66 = .ok (.iconst 1, 1) := by decide +kernel
theorem dX11_house_67 : decode cX11_house 67 = .ok (.isub, 1) := by decide +kernel
theorem dX11_house_68 : decode cX11_house 68 = .ok (.ireturn, 1) := by decide +kernel
set_option maxRecDepth 20000 in
theorem ggX11_bin_X11_noHouse : GoodIn wsX11_bin wsX11_noHouse := goodIn_r _ [15, 16, 24, 25, 26, 27, 28, 29, 30, 31, 32, 33, 34, 35, 36, 37, 38, 39, 40, 41, 42, 43, 44, 45, 46, 47, 48, 49, 50, 51, 52, 53, 54, 55, 56, 57, 58, 59, 60, 61, 62, 63, 64, 65, 66, 67, 68, 69, 70, 71] (by decide +kernel) (by decide +kernel)
set_option maxRecDepth 20000 in
theorem gX11_bin_X11_noHouse : GoodIn wsX11_bin (wsV RX11 209 RX11 yX11_noHouse wsX11_noHouse) := goodIn_app (goodIn_of _ (by decide +kernel)) ggX11_bin_X11_noHouse
set_option maxRecDepth 20000 in
theorem ggX11_bin_X11_throwsIf : GoodIn wsX11_bin wsX11_throwsIf := goodIn_r _ [20, 1, 24, 25, 26, 27, 28, 29, 30, 31, 32, 33, 34, 35, 36, 37, 38, 39, 40, 41, 42, 43, 44, 45, 46, 47, 48, 49, 50, 51, 52, 53, 54, 55, 56, 57, 58, 59, 60, 61, 62, 63, 64, 65, 66, 67, 68, 69, 70, 71] (by decide +kernel) (by decide +kernel)
set_option maxRecDepth 20000 in
theorem gX11_bin_X11_throwsIf : GoodIn wsX11_bin (wsV RX11 186 RX11 yX11_throwsIf wsX11_throwsIf) := goodIn_app (goodIn_of _ (by decide +kernel)) ggX11_bin_X11_throwsIf
set_option maxRecDepth 20000 in
theorem ggX11_bin_X11_in : GoodIn wsX11_bin wsX11_in := goodIn_r _ [23] (by decide +kernel) (by decide +kernel)
set_option maxRecDepth 20000 in
theorem gX11_bin_X11_in : GoodIn wsX11_bin (va_wsS RX11 195 yX11_in wsX11_in) := goodIn_app (goodIn_of _ (by decide +kernel)) ggX11_bin_X11_in
theorem dX11_bin_0 : decode cX11_bin 0 = .ok (.aload_n 0, 1) := by decide +kernel
theorem dX11_bin_1 : decode cX11_bin 1 = .ok (.iconst 0, 1) := by decide +kernel
theorem dX11_bin_2 : decode cX11_bin 2 = .ok (.putfield 129, 3) := by decide +kernel
theorem dX11_bin_5 : decode cX11_bin 5 = .ok (.aload_n 0, 1) := by decide +kernel
theorem dX11_bin_6 : decode cX11_bin 6 = .ok (.aload_n 0, 1) := by decide +kernel
theorem dX11_bin_7 : decode cX11_bin 7 = .ok (.iload_n 2, 1) := by decide +kernel
theorem dX11_bin_8 : decode cX11_bin 8 = .ok (.invokevirtual 209, 3) := by decide +kernel
theorem dX11_bin_11 : decode cX11_bin 11 = .ok (.iconst 1, 1) := by decide +kernel
theorem dX11_bin_12 : decode cX11_bin 12 = .ok (.invokevirtual 186, 3) := by decide +kernel
theorem dX11_bin_15 : decode cX11_bin 15 = .ok (.ifCond .ne 50, 3) := by decide +kernel
theorem dX11_bin_18 : decode cX11_bin 18 = .ok (.aload_n 0, 1) := by decide +kernel
theorem dX11_bin_19 : decode cX11_bin 19 = .ok (.iload_n 1, 1) := by decide +kernel
theorem dX11_bin_20 : decode cX11_bin 20 = .ok (.i2l, 1) := by decide +kernel
theorem dX11_bin_21 : decode cX11_bin 21 = .ok (.lconst 0, 1) := by decide +kernel
theorem dX11_bin_22 : decode cX11_bin 22 = .ok (.ldc2_w 199, 3) := by decide +kernel
theorem dX11_bin_25 : decode cX11_bin 25 = .ok (.invokestatic 195, 3) := by decide +kernel
theorem dX11_bin_28 : decode cX11_bin 28 = .ok (.ifCond .ne 7, 3) := by decide +kernel
theorem dX11_bin_31 : decode cX11_bin 31 = .ok (.iconst 1, 1) := by decide +kernel
theorem dX11_bin_32 : decode cX11_bin 32 = .ok (.goto 4, 3) := by decide +kernel
theorem dX11_bin_35 : decode cX11_bin 35 = .ok (.iconst 0, 1) := by decide +kernel
theorem dX11_bin_36 : decode cX11_bin 36 = .ok (.iconst 2, 1) := by decide +kernel
theorem dX11_bin_37 : decode cX11_bin 37 = .ok (.invokevirtual 186, 3) := by decide +kernel
theorem dX11_bin_40 : decode cX11_bin 40 = .ok (.ifCond .ne 25, 3) := by decide +kernel
theorem dX11_bin_43 : decode cX11_bin 43 = .ok (.aload_n 0, 1) := by decide +kernel
theorem dX11_bin_44 : decode cX11_bin 44 = .ok (.aload_n 0, 1) := by decide +kernel
theorem dX11_bin_45 : decode cX11_bin 45 = .ok (.getfield 139, 3) := by decide +kernel
theorem dX11_bin_48 : decode cX11_bin 48 = .ok (.bipush 120, 2) := by decide +kernel
theorem dX11_bin_50 : decode cX11_bin 50 = .ok (.if_icmp .ne 7, 3) := by decide +kernel
theorem dX11_bin_53 : decode cX11_bin 53 = .ok (.iconst 1, 1) := by decide +kernel
theorem dX11_bin_54 : decode cX11_bin 54 = .ok (.goto 4, 3) := by decide +kernel
theorem dX11_bin_57 : decode cX11_bin 57 = .ok (.iconst 0, 1) := by decide +kernel
theorem dX11_bin_58 : decode cX11_bin 58 = .ok (.iconst 3, 1) := by decide +kernel
theorem dX11_bin_59 : decode cX11_bin 59 = .ok (.invokevirtual 186, 3) := by decide +kernel
theorem dX11_bin_62 : decode cX11_bin 62 = .ok (.ifCond .eq 5, 3) := by decide +kernel
theorem dX11_bin_65 : decode cX11_bin 65 = .ok (.iconst 0, 1) := by decide +kernel
theorem dX11_bin_66 : decode cX11_bin 66 = .ok (.ireturn, 1) := by decide +kernel
theorem dX11_bin_67 : decode cX11_bin 67 = .ok (.aload_n 0, 1) := by decide +kernel
theorem dX11_bin_68 : decode cX11_bin 68 = .ok (.getfield 36, 3) := by decide +kernel
theorem dX11_bin_71 : decode cX11_bin 71 = .ok (.aload_n 0, 1) := by decide +kernel
theorem dX11_bin_72 : decode cX11_bin 72 = .ok (.getfield 139, 3) := by decide +kernel
theorem dX11_bin_75 : decode cX11_bin 75 = .ok (.iload_n 1, 1) := by decide +kernel
theorem dX11_bin_76 : decode cX11_bin 76 = .ok (.iastore, 1) := by decide +kernel
theorem dX11_bin_77 : decode cX11_bin 77 = .ok (.aload_n 0, 1) := by decide +kernel
theorem dX11_bin_78 : decode cX11_bin 78 = .ok (.getfield 39, 3) := by decide +kernel
theorem dX11_bin_81 : decode cX11_bin 81 = .ok (.aload_n 0, 1) := by decide +kernel
theorem dX11_bin_82 : decode cX11_bin 82 = .ok (.getfield 139, 3) := by decide +kernel
theorem dX11_bin_85 : decode cX11_bin 85 = .ok (.iconst 1, 1) := by decide +kernel
theorem dX11_bin_86 : decode cX11_bin 86 = .ok (.bastore, 1) := by decide +kernel
theorem dX11_bin_87 : decode cX11_bin 87 = .ok (.aload_n 0, 1) := by decide +kernel
theorem dX11_bin_88 : decode cX11_bin 88 = .ok (.getfield 42, 3) := by decide +kernel
theorem dX11_bin_91 : decode cX11_bin 91 = .ok (.aload_n 0, 1) := by decide +kernel
theorem dX11_bin_92 : decode cX11_bin 92 = .ok (.getfield 139, 3) := by decide +kernel
theorem dX11_bin_95 : decode cX11_bin 95 = .ok (.iload_n 3, 1) := by decide +kernel
theorem dX11_bin_96 : decode cX11_bin 96 = .ok (.iastore, 1) := by decide +kernel
theorem dX11_bin_97 : decode cX11_bin 97 = .ok (.aload_n 0, 1) := by decide +kernel
theorem dX11_bin_98 : decode cX11_bin 98 = .ok (.getfield 48, 3) := by decide +kernel
theorem dX11_bin_101 : decode cX11_bin 101 = .ok (.bipush 8, 2) := by decide +kernel
theorem dX11_bin_103 : decode cX11_bin 103 = .ok (.aload_n 0, 1) := by decide +kernel
theorem dX11_bin_104 : decode cX11_bin 104 = .ok (.getfield 139, 3) := by decide +kernel
theorem dX11_bin_107 : decode cX11_bin 107 = .ok (.imul, 1) := by decide +kernel
theorem dX11_bin_108 : decode cX11_bin 108 = .ok (.iload_n 2, 1) := by decide +kernel
theorem dX11_bin_109 : decode cX11_bin 109 = .ok (.iastore, 1) := by decide +kernel
theorem dX11_bin_110 : decode cX11_bin 110 = .ok (.aload_n 0, 1) := by decide +kernel
theorem dX11_bin_111 : decode cX11_bin 111 = .ok (.getfield 51, 3) := by decide +kernel
theorem dX11_bin_114 : decode cX11_bin 114 = .ok (.bipush 8, 2) := by decide +kernel
theorem dX11_bin_116 : decode cX11_bin 116 = .ok (.aload_n 0, 1) := by decide +kernel
theorem dX11_bin_117 : decode cX11_bin 117 = .ok (.getfield 139, 3) := by decide +kernel
theorem dX11_bin_120 : decode cX11_bin 120 = .ok (.imul, 1) := by decide +kernel
theorem dX11_bin_121 : decode cX11_bin 121 = .ok (.aload_n 0, 1) := by decide +kernel
theorem dX11_bin_122 : decode cX11_bin 122 = .ok (.getfield 152, 3) := by decide +kernel
theorem dX11_bin_125 : decode cX11_bin 125 = .ok (.iastore, 1) := by decide +kernel
theorem dX11_bin_126 : decode cX11_bin 126 = .ok (.aload_n 0, 1) := by decide +kernel
theorem dX11_bin_127 : decode cX11_bin 127 = .ok (.getfield 54, 3) := by decide +kernel
theorem dX11_bin_130 : decode cX11_bin 130 = .ok (.aload_n 0, 1) := by decide +kernel
theorem dX11_bin_131 : decode cX11_bin 131 = .ok (.getfield 139, 3) := by decide +kernel
theorem dX11_bin_134 : decode cX11_bin 134 = .ok (.iconst 1, 1) := by decide +kernel
theorem dX11_bin_135 : decode cX11_bin 135 = .ok (.iastore, 1) := by decide +kernel
theorem dX11_bin_136 : decode cX11_bin 136 = .ok (.aload_n 0, 1) := by decide +kernel
theorem dX11_bin_137 : decode cX11_bin 137 = .ok (.dup, 1) := by decide +kernel
theorem dX11_bin_138 : decode cX11_bin 138 = .ok (.getfield 139, 3) := by decide +kernel
theorem dX11_bin_141 : decode cX11_bin 141 = .ok (.iconst 1, 1) := by decide +kernel
theorem dX11_bin_142 : decode cX11_bin 142 = .ok (.iadd, 1) := by decide +kernel
theorem dX11_bin_143 : decode cX11_bin 143 = .ok (.putfield 139, 3) := by decide +kernel
theorem dX11_bin_146 : decode cX11_bin 146 = .ok (.aload_n 0, 1) := by decide +kernel
theorem dX11_bin_147 : decode cX11_bin 147 = .ok (.getfield 139, 3) := by decide +kernel
theorem dX11_bin_150 : decode cX11_bin 150 = .ok (.iconst 1, 1) := by decide +kernel
theorem dX11_bin_151 : decode cX11_bin 151 = .ok (.isub, 1) := by decide +kernel
theorem dX11_bin_152 : decode cX11_bin 152 = .ok (.ireturn, 1) := by decide +kernel
set_option maxRecDepth 20000 in
theorem ggX11_mark_X11_noBin : GoodIn wsX11_mark wsX11_noBin := goodIn_r _ [8, 9, 18, 19, 20, 21, 22, 23, 24, 25, 26, 27, 28, 29, 30, 31, 32, 33, 34, 35, 36, 37, 38, 39, 40, 41, 42, 43, 44, 45, 46, 47, 48, 49, 50, 51, 52, 53, 54, 55, 56, 57, 58, 59, 60, 61, 62, 63, 64, 65] (by decide +kernel) (by decide +kernel)
set_option maxRecDepth 20000 in
theorem gX11_mark_X11_noBin : GoodIn wsX11_mark (wsV RX11 212 RX11 yX11_noBin wsX11_noBin) := goodIn_app (goodIn_of _ (by decide +kernel)) ggX11_mark_X11_noBin
set_option maxRecDepth 20000 in
theorem ggX11_mark_X11_throwsIf : GoodIn wsX11_mark wsX11_throwsIf := goodIn_r _ [13, 1, 18, 19, 20, 21, 22, 23, 24, 25, 26, 27, 28, 29, 30, 31, 32, 33, 34, 35, 36, 37, 38, 39, 40, 41, 42, 43, 44, 45, 46, 47, 48, 49, 50, 51, 52, 53, 54, 55, 56, 57, 58, 59, 60, 61, 62, 63, 64, 65] (by decide +kernel) (by decide +kernel)
set_option maxRecDepth 20000 in
theorem gX11_mark_X11_throwsIf : GoodIn wsX11_mark (wsV RX11 186 RX11 yX11_throwsIf wsX11_throwsIf) := goodIn_app (goodIn_of _ (by decide +kernel)) ggX11_mark_X11_throwsIf
set_option maxRecDepth 20000 in
theorem ggX11_mark_X11_bearers : GoodIn wsX11_mark wsX11_bearers := goodIn_r _ [17, 9, 2, 3, 18, 19, 20, 21, 22, 23, 24, 25, 26, 27, 28, 29, 30, 31, 32, 33, 34, 35, 36, 37, 38, 39, 40, 41, 42, 43, 44, 45, 46, 47, 48, 49, 50, 51, 52, 53, 54, 55, 56, 57, 58, 59, 60, 61, 62, 63, 64, 65] (by decide +kernel) (by decide +kernel)
set_option maxRecDepth 20000 in
theorem gX11_mark_X11_bearers : GoodIn wsX11_mark (wsV RX11 215 RX11 yX11_bearers wsX11_bearers) := goodIn_app (goodIn_of _ (by decide +kernel)) ggX11_mark_X11_bearers
theorem dX11_mark_0 : decode cX11_mark 0 = .ok (.aload_n 0, 1) := by decide +kernel
theorem dX11_mark_1 : decode cX11_mark 1 = .ok (.iconst 0, 1) := by decide +kernel
theorem dX11_mark_2 : decode cX11_mark 2 = .ok (.putfield 129, 3) := by decide +kernel
theorem dX11_mark_5 : decode cX11_mark 5 = .ok (.aload_n 0, 1) := by decide +kernel
theorem dX11_mark_6 : decode cX11_mark 6 = .ok (.aload_n 0, 1) := by decide +kernel
theorem dX11_mark_7 : decode cX11_mark 7 = .ok (.iload_n 1, 1) := by decide +kernel
theorem dX11_mark_8 : decode cX11_mark 8 = .ok (.invokevirtual 212, 3) := by decide +kernel
theorem dX11_mark_11 : decode cX11_mark 11 = .ok (.iconst 1, 1) := by decide +kernel
theorem dX11_mark_12 : decode cX11_mark 12 = .ok (.invokevirtual 186, 3) := by decide +kernel
theorem dX11_mark_15 : decode cX11_mark 15 = .ok (.ifCond .eq 5, 3) := by decide +kernel
theorem dX11_mark_18 : decode cX11_mark 18 = .ok (.iconst 0, 1) := by decide +kernel
theorem dX11_mark_19 : decode cX11_mark 19 = .ok (.ireturn, 1) := by decide +kernel
theorem dX11_mark_20 : decode cX11_mark 20 = .ok (.aload_n 0, 1) := by decide +kernel
theorem dX11_mark_21 : decode cX11_mark 21 = .ok (.getfield 39, 3) := by decide +kernel
