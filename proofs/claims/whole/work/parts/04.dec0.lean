theorem ggX0_init_Jx4a65c_init_da8c8 : GoodIn wsX0_init wsJx4a65c_init_da8c8 := goodIn_r _ [16, 17, 18, 19, 20, 21, 22, 23, 24, 25, 26, 27, 28, 2, 3, 29, 30, 31] (by decide +kernel) (by decide +kernel)
set_option maxRecDepth 20000 in
theorem gX0_init_Jx4a65c_init_da8c8 : GoodIn wsX0_init (wsJx4a65c_init_da8c8) := ggX0_init_Jx4a65c_init_da8c8
theorem dX0_init_0 : decode cX0_init 0 = .ok (.aload_n 0, 1) := by decide +kernel
theorem dX0_init_1 : decode cX0_init 1 = .ok (.invokespecial 3, 3) := by decide +kernel
theorem dX0_init_4 : decode cX0_init 4 = .ok (.aload_n 0, 1) := by decide +kernel
theorem dX0_init_5 : decode cX0_init 5 = .ok (.new 9, 3) := by decide +kernel
theorem dX0_init_8 : decode cX0_init 8 = .ok (.dup, 1) := by decide +kernel
theorem dX0_init_9 : decode cX0_init 9 = .ok (.invokespecial 11, 3) := by decide +kernel
theorem dX0_init_12 : decode cX0_init 12 = .ok (.putfield 12, 3) := by decide +kernel
theorem dX0_init_15 : decode cX0_init 15 = .ok (.aload_n 0, 1) := by decide +kernel
theorem dX0_init_16 : decode cX0_init 16 = .ok (.new 9, 3) := by decide +kernel
theorem dX0_init_19 : decode cX0_init 19 = .ok (.dup, 1) := by decide +kernel
theorem dX0_init_20 : decode cX0_init 20 = .ok (.invokespecial 11, 3) := by decide +kernel
theorem dX0_init_23 : decode cX0_init 23 = .ok (.putfield 18, 3) := by decide +kernel
theorem dX0_init_26 : decode cX0_init 26 = .ok (.aload_n 0, 1) := by decide +kernel
theorem dX0_init_27 : decode cX0_init 27 = .ok (.iconst 1, 1) := by decide +kernel
theorem dX0_init_28 : decode cX0_init 28 = .ok (.putfield 21, 3) := by decide +kernel
theorem dX0_init_31 : decode cX0_init 31 = .ok (.aload_n 0, 1) := by decide +kernel
theorem dX0_init_32 : decode cX0_init 32 = .ok (.iconst 0, 1) := by decide +kernel
theorem dX0_init_33 : decode cX0_init 33 = .ok (.putfield 25, 3) := by decide +kernel
theorem dX0_init_36 : decode cX0_init 36 = .ok (.aload_n 0, 1) := by decide +kernel
theorem dX0_init_37 : decode cX0_init 37 = .ok (.iload_n 1, 1) := by decide +kernel
theorem dX0_init_38 : decode cX0_init 38 = .ok (.putfield 29, 3) := by decide +kernel
theorem dX0_init_41 : decode cX0_init 41 = .ok (.aload_n 0, 1) := by decide +kernel
theorem dX0_init_42 : decode cX0_init 42 = .ok (.iload_n 2, 1) := by decide +kernel
theorem dX0_init_43 : decode cX0_init 43 = .ok (.putfield 32, 3) := by decide +kernel
theorem dX0_init_46 : decode cX0_init 46 = .ok (.aload_n 0, 1) := by decide +kernel
theorem dX0_init_47 : decode cX0_init 47 = .ok (.iload_n 3, 1) := by decide +kernel
theorem dX0_init_48 : decode cX0_init 48 = .ok (.putfield 35, 3) := by decide +kernel
theorem dX0_init_51 : decode cX0_init 51 = .ok (.return_, 1) := by decide +kernel
theorem dX0_bears_0 : decode cX0_bears 0 = .ok (.aload_n 0, 1) := by decide +kernel
theorem dX0_bears_1 : decode cX0_bears 1 = .ok (.getfield 21, 3) := by decide +kernel
theorem dX0_bears_4 : decode cX0_bears 4 = .ok (.ifCond .eq 15, 3) := by decide +kernel
theorem dX0_bears_7 : decode cX0_bears 7 = .ok (.aload_n 0, 1) := by decide +kernel
theorem dX0_bears_8 : decode cX0_bears 8 = .ok (.getfield 35, 3) := by decide +kernel
theorem dX0_bears_11 : decode cX0_bears 11 = .ok (.iload_n 1, 1) := by decide +kernel
theorem dX0_bears_12 : decode cX0_bears 12 = .ok (.if_icmp .ne 7, 3) := by decide +kernel
theorem dX0_bears_15 : decode cX0_bears 15 = .ok (.iconst 1, 1) := by decide +kernel
theorem dX0_bears_16 : decode cX0_bears 16 = .ok (.goto 4, 3) := by decide +kernel
theorem dX0_bears_19 : decode cX0_bears 19 = .ok (.iconst 0, 1) := by decide +kernel
theorem dX0_bears_20 : decode cX0_bears 20 = .ok (.ireturn, 1) := by decide +kernel
theorem dX0_groupOfKind_0 : decode cX0_groupOfKind 0 = .ok (.aload_n 0, 1) := by decide +kernel
theorem dX0_groupOfKind_1 : decode cX0_groupOfKind 1 = .ok (.getfield 32, 3) := by decide +kernel
theorem dX0_groupOfKind_4 : decode cX0_groupOfKind 4 = .ok (.lookupswitch 32 #[(1, 28), (2, 30)], 28) := by decide +kernel
theorem dX0_groupOfKind_32 : decode cX0_groupOfKind 32 = .ok (.iconst 1, 1) := by decide +kernel
theorem dX0_groupOfKind_33 : decode cX0_groupOfKind 33 = .ok (.ireturn, 1) := by decide +kernel
theorem dX0_groupOfKind_34 : decode cX0_groupOfKind 34 = .ok (.iconst 2, 1) := by decide +kernel
theorem dX0_groupOfKind_35 : decode cX0_groupOfKind 35 = .ok (.ireturn, 1) := by decide +kernel
theorem dX0_groupOfKind_36 : decode cX0_groupOfKind 36 = .ok (.iconst 0, 1) := by decide +kernel
theorem dX0_groupOfKind_37 : decode cX0_groupOfKind 37 = .ok (.ireturn, 1) := by decide +kernel
set_option maxRecDepth 20000 in
theorem ggX0_latestMoveDay_Jx4a65c_isEmpty_aae02 : GoodIn wsX0_latestMoveDay wsJx4a65c_isEmpty_aae02 := goodIn_r _ [8, 9, 40, 41, 42] (by decide +kernel) (by decide +kernel)
set_option maxRecDepth 20000 in
theorem gX0_latestMoveDay_Jx4a65c_isEmpty_aae02 : GoodIn wsX0_latestMoveDay (wsV RX0 38 RJx4a65c yJx4a65c_isEmpty_aae02 wsJx4a65c_isEmpty_aae02) := goodIn_app (goodIn_of _ (by decide +kernel)) ggX0_latestMoveDay_Jx4a65c_isEmpty_aae02
set_option maxRecDepth 20000 in
theorem ggX0_latestMoveDay_Jx4a65c_size_8abf5 : GoodIn wsX0_latestMoveDay wsJx4a65c_size_8abf5 := goodIn_r _ [13, 9, 40, 41, 42] (by decide +kernel) (by decide +kernel)
set_option maxRecDepth 20000 in
theorem gX0_latestMoveDay_Jx4a65c_size_8abf5 : GoodIn wsX0_latestMoveDay (wsV RX0 42 RJx4a65c yJx4a65c_size_8abf5 wsJx4a65c_size_8abf5) := goodIn_app (goodIn_of _ (by decide +kernel)) ggX0_latestMoveDay_Jx4a65c_size_8abf5
set_option maxRecDepth 20000 in
theorem ggX0_latestMoveDay_Jx4a65c_get_915e3 : GoodIn wsX0_latestMoveDay wsJx4a65c_get_915e3 := goodIn_r _ [17, 9, 18, 19, 20, 21, 22, 23, 24, 25, 26, 27, 28, 7, 29, 30, 40, 41, 42] (by decide +kernel) (by decide +kernel)
set_option maxRecDepth 20000 in
theorem gX0_latestMoveDay_Jx4a65c_get_915e3 : GoodIn wsX0_latestMoveDay (wsV RX0 46 RJx4a65c yJx4a65c_get_915e3 wsJx4a65c_get_915e3) := goodIn_app (goodIn_of _ (by decide +kernel)) ggX0_latestMoveDay_Jx4a65c_get_915e3
theorem dX0_latestMoveDay_0 : decode cX0_latestMoveDay 0 = .ok (.aload_n 0, 1) := by decide +kernel
theorem dX0_latestMoveDay_1 : decode cX0_latestMoveDay 1 = .ok (.getfield 12, 3) := by decide +kernel
theorem dX0_latestMoveDay_4 : decode cX0_latestMoveDay 4 = .ok (.invokevirtual 38, 3) := by decide +kernel
theorem dX0_latestMoveDay_7 : decode cX0_latestMoveDay 7 = .ok (.ifCond .eq 7, 3) := by decide +kernel
theorem dX0_latestMoveDay_10 : decode cX0_latestMoveDay 10 = .ok (.iconst 0, 1) := by decide +kernel
theorem dX0_latestMoveDay_11 : decode cX0_latestMoveDay 11 = .ok (.goto 25, 3) := by decide +kernel
theorem dX0_latestMoveDay_14 : decode cX0_latestMoveDay 14 = .ok (.aload_n 0, 1) := by decide +kernel
theorem dX0_latestMoveDay_15 : decode cX0_latestMoveDay 15 = .ok (.getfield 12, 3) := by decide +kernel
theorem dX0_latestMoveDay_18 : decode cX0_latestMoveDay 18 = .ok (.aload_n 0, 1) := by decide +kernel
theorem dX0_latestMoveDay_19 : decode cX0_latestMoveDay 19 = .ok (.getfield 12, 3) := by decide +kernel
theorem dX0_latestMoveDay_22 : decode cX0_latestMoveDay 22 = .ok (.invokevirtual 42, 3) := by decide +kernel
theorem dX0_latestMoveDay_25 : decode cX0_latestMoveDay 25 = .ok (.iconst 1, 1) := by decide +kernel
theorem dX0_latestMoveDay_26 : decode cX0_latestMoveDay 26 = .ok (.isub, 1) := by decide +kernel
theorem dX0_latestMoveDay_27 : decode cX0_latestMoveDay 27 = .ok (.invokevirtual 46, 3) := by decide +kernel
theorem dX0_latestMoveDay_30 : decode cX0_latestMoveDay 30 = .ok (.checkcast 50, 3) := by decide +kernel
theorem dX0_latestMoveDay_33 : decode cX0_latestMoveDay 33 = .ok (.getfield 52, 3) := by decide +kernel
theorem dX0_latestMoveDay_36 : decode cX0_latestMoveDay 36 = .ok (.ireturn, 1) := by decide +kernel
set_option maxRecDepth 20000 in
theorem ggX0_latestPartDay_Jx4a65c_isEmpty_aae02 : GoodIn wsX0_latestPartDay wsJx4a65c_isEmpty_aae02 := goodIn_r _ [8, 9, 41, 42, 43] (by decide +kernel) (by decide +kernel)
set_option maxRecDepth 20000 in
theorem gX0_latestPartDay_Jx4a65c_isEmpty_aae02 : GoodIn wsX0_latestPartDay (wsV RX0 38 RJx4a65c yJx4a65c_isEmpty_aae02 wsJx4a65c_isEmpty_aae02) := goodIn_app (goodIn_of _ (by decide +kernel)) ggX0_latestPartDay_Jx4a65c_isEmpty_aae02
set_option maxRecDepth 20000 in
theorem ggX0_latestPartDay_Jx4a65c_size_8abf5 : GoodIn wsX0_latestPartDay wsJx4a65c_size_8abf5 := goodIn_r _ [13, 9, 41, 42, 43] (by decide +kernel) (by decide +kernel)
set_option maxRecDepth 20000 in
theorem gX0_latestPartDay_Jx4a65c_size_8abf5 : GoodIn wsX0_latestPartDay (wsV RX0 42 RJx4a65c yJx4a65c_size_8abf5 wsJx4a65c_size_8abf5) := goodIn_app (goodIn_of _ (by decide +kernel)) ggX0_latestPartDay_Jx4a65c_size_8abf5
set_option maxRecDepth 20000 in
theorem ggX0_latestPartDay_Jx4a65c_get_915e3 : GoodIn wsX0_latestPartDay wsJx4a65c_get_915e3 := goodIn_r _ [17, 9, 18, 19, 20, 21, 22, 23, 24, 25, 26, 27, 28, 7, 29, 30, 41, 42, 43] (by decide +kernel) (by decide +kernel)
set_option maxRecDepth 20000 in
theorem gX0_latestPartDay_Jx4a65c_get_915e3 : GoodIn wsX0_latestPartDay (wsV RX0 46 RJx4a65c yJx4a65c_get_915e3 wsJx4a65c_get_915e3) := goodIn_app (goodIn_of _ (by decide +kernel)) ggX0_latestPartDay_Jx4a65c_get_915e3
theorem dX0_latestPartDay_0 : decode cX0_latestPartDay 0 = .ok (.aload_n 0, 1) := by decide +kernel
theorem dX0_latestPartDay_1 : decode cX0_latestPartDay 1 = .ok (.getfield 18, 3) := by decide +kernel
theorem dX0_latestPartDay_4 : decode cX0_latestPartDay 4 = .ok (.invokevirtual 38, 3) := by decide +kernel
theorem dX0_latestPartDay_7 : decode cX0_latestPartDay 7 = .ok (.ifCond .eq 7, 3) := by decide +kernel
theorem dX0_latestPartDay_10 : decode cX0_latestPartDay 10 = .ok (.iconst 0, 1) := by decide +kernel
theorem dX0_latestPartDay_11 : decode cX0_latestPartDay 11 = .ok (.goto 25, 3) := by decide +kernel
theorem dX0_latestPartDay_14 : decode cX0_latestPartDay 14 = .ok (.aload_n 0, 1) := by decide +kernel
theorem dX0_latestPartDay_15 : decode cX0_latestPartDay 15 = .ok (.getfield 18, 3) := by decide +kernel
theorem dX0_latestPartDay_18 : decode cX0_latestPartDay 18 = .ok (.aload_n 0, 1) := by decide +kernel
theorem dX0_latestPartDay_19 : decode cX0_latestPartDay 19 = .ok (.getfield 18, 3) := by decide +kernel
theorem dX0_latestPartDay_22 : decode cX0_latestPartDay 22 = .ok (.invokevirtual 42, 3) := by decide +kernel
theorem dX0_latestPartDay_25 : decode cX0_latestPartDay 25 = .ok (.iconst 1, 1) := by decide +kernel
theorem dX0_latestPartDay_26 : decode cX0_latestPartDay 26 = .ok (.isub, 1) := by decide +kernel
theorem dX0_latestPartDay_27 : decode cX0_latestPartDay 27 = .ok (.invokevirtual 46, 3) := by decide +kernel
theorem dX0_latestPartDay_30 : decode cX0_latestPartDay 30 = .ok (.checkcast 55, 3) := by decide +kernel
theorem dX0_latestPartDay_33 : decode cX0_latestPartDay 33 = .ok (.getfield 57, 3) := by decide +kernel
theorem dX0_latestPartDay_36 : decode cX0_latestPartDay 36 = .ok (.ireturn, 1) := by decide +kernel
set_option maxRecDepth 20000 in
theorem ggX0_ownerOn_Jx4a65c_size_8abf5 : GoodIn wsX0_ownerOn wsJx4a65c_size_8abf5 := goodIn_r _ [9, 10, 37, 38, 39] (by decide +kernel) (by decide +kernel)
set_option maxRecDepth 20000 in
theorem gX0_ownerOn_Jx4a65c_size_8abf5 : GoodIn wsX0_ownerOn (wsV RX0 42 RJx4a65c yJx4a65c_size_8abf5 wsJx4a65c_size_8abf5) := goodIn_app (goodIn_of _ (by decide +kernel)) ggX0_ownerOn_Jx4a65c_size_8abf5
set_option maxRecDepth 20000 in
theorem ggX0_ownerOn_Jx4a65c_get_915e3 : GoodIn wsX0_ownerOn wsJx4a65c_get_915e3 := goodIn_r _ [14, 10, 15, 16, 17, 18, 19, 20, 21, 22, 23, 24, 25, 8, 26, 27, 37, 38, 39] (by decide +kernel) (by decide +kernel)
set_option maxRecDepth 20000 in
theorem gX0_ownerOn_Jx4a65c_get_915e3 : GoodIn wsX0_ownerOn (wsV RX0 46 RJx4a65c yJx4a65c_get_915e3 wsJx4a65c_get_915e3) := goodIn_app (goodIn_of _ (by decide +kernel)) ggX0_ownerOn_Jx4a65c_get_915e3
theorem dX0_ownerOn_0 : decode cX0_ownerOn 0 = .ok (.aload_n 0, 1) := by decide +kernel
theorem dX0_ownerOn_1 : decode cX0_ownerOn 1 = .ok (.getfield 12, 3) := by decide +kernel
theorem dX0_ownerOn_4 : decode cX0_ownerOn 4 = .ok (.invokevirtual 42, 3) := by decide +kernel
theorem dX0_ownerOn_7 : decode cX0_ownerOn 7 = .ok (.iconst 1, 1) := by decide +kernel
theorem dX0_ownerOn_8 : decode cX0_ownerOn 8 = .ok (.isub, 1) := by decide +kernel
theorem dX0_ownerOn_9 : decode cX0_ownerOn 9 = .ok (.istore_n 2, 1) := by decide +kernel
theorem dX0_ownerOn_10 : decode cX0_ownerOn 10 = .ok (.iload_n 2, 1) := by decide +kernel
theorem dX0_ownerOn_11 : decode cX0_ownerOn 11 = .ok (.ifCond .lt 42, 3) := by decide +kernel
theorem dX0_ownerOn_14 : decode cX0_ownerOn 14 = .ok (.aload_n 0, 1) := by decide +kernel
theorem dX0_ownerOn_15 : decode cX0_ownerOn 15 = .ok (.getfield 12, 3) := by decide +kernel
theorem dX0_ownerOn_18 : decode cX0_ownerOn 18 = .ok (.iload_n 2, 1) := by decide +kernel
theorem dX0_ownerOn_19 : decode cX0_ownerOn 19 = .ok (.invokevirtual 46, 3) := by decide +kernel
theorem dX0_ownerOn_22 : decode cX0_ownerOn 22 = .ok (.checkcast 50, 3) := by decide +kernel
theorem dX0_ownerOn_25 : decode cX0_ownerOn 25 = .ok (.getfield 52, 3) := by decide +kernel
theorem dX0_ownerOn_28 : decode cX0_ownerOn 28 = .ok (.iload_n 1, 1) := by decide +kernel
theorem dX0_ownerOn_29 : decode cX0_ownerOn 29 = .ok (.if_icmp .gt 18, 3) := by decide +kernel
theorem dX0_ownerOn_32 : decode cX0_ownerOn 32 = .ok (.aload_n 0, 1) := by decide +kernel
theorem dX0_ownerOn_33 : decode cX0_ownerOn 33 = .ok (.getfield 12, 3) := by decide +kernel
theorem dX0_ownerOn_36 : decode cX0_ownerOn 36 = .ok (.iload_n 2, 1) := by decide +kernel
theorem dX0_ownerOn_37 : decode cX0_ownerOn 37 = .ok (.invokevirtual 46, 3) := by decide +kernel
theorem dX0_ownerOn_40 : decode cX0_ownerOn 40 = .ok (.checkcast 50, 3) := by decide +kernel
theorem dX0_ownerOn_43 : decode cX0_ownerOn 43 = .ok (.getfield 58, 3) := by decide +kernel
theorem dX0_ownerOn_46 : decode cX0_ownerOn 46 = .ok (.areturn, 1) := by decide +kernel
theorem dX0_ownerOn_47 : decode cX0_ownerOn 47 = .ok (.iinc 2 (-1), 3) := by decide +kernel
theorem dX0_ownerOn_50 : decode cX0_ownerOn 50 = .ok (.goto (-40), 3) := by decide +kernel
theorem dX0_ownerOn_53 : decode cX0_ownerOn 53 = .ok (.aconst_null, 1) := by decide +kernel
theorem dX0_ownerOn_54 : decode cX0_ownerOn 54 = .ok (.areturn, 1) := by decide +kernel
set_option maxRecDepth 20000 in
theorem ggX0_spreadWeights_Jx4a65c_size_8abf5 : GoodIn wsX0_spreadWeights wsJx4a65c_size_8abf5 := goodIn_r _ [11, 12, 50, 51, 52] (by decide +kernel) (by decide +kernel)
set_option maxRecDepth 20000 in
theorem gX0_spreadWeights_Jx4a65c_size_8abf5 : GoodIn wsX0_spreadWeights (wsV RX0 42 RJx4a65c yJx4a65c_size_8abf5 wsJx4a65c_size_8abf5) := goodIn_app (goodIn_of _ (by decide +kernel)) ggX0_spreadWeights_Jx4a65c_size_8abf5
set_option maxRecDepth 20000 in
theorem ggX0_spreadWeights_Jx4a65c_get_915e3 : GoodIn wsX0_spreadWeights wsJx4a65c_get_915e3 := goodIn_r _ [16, 12, 17, 18, 19, 20, 21, 22, 23, 24, 25, 26, 27, 10, 28, 29, 50, 51, 52] (by decide +kernel) (by decide +kernel)
set_option maxRecDepth 20000 in
theorem gX0_spreadWeights_Jx4a65c_get_915e3 : GoodIn wsX0_spreadWeights (wsV RX0 46 RJx4a65c yJx4a65c_get_915e3 wsJx4a65c_get_915e3) := goodIn_app (goodIn_of _ (by decide +kernel)) ggX0_spreadWeights_Jx4a65c_get_915e3
theorem dX0_spreadWeights_0 : decode cX0_spreadWeights 0 = .ok (.iconst 0, 1) := by decide +kernel
theorem dX0_spreadWeights_1 : decode cX0_spreadWeights 1 = .ok (.istore_n 2, 1) := by decide +kernel
theorem dX0_spreadWeights_2 : decode cX0_spreadWeights 2 = .ok (.iload_n 2, 1) := by decide +kernel
theorem dX0_spreadWeights_3 : decode cX0_spreadWeights 3 = .ok (.aload_n 0, 1) := by decide +kernel
theorem dX0_spreadWeights_4 : decode cX0_spreadWeights 4 = .ok (.getfield 18, 3) := by decide +kernel
theorem dX0_spreadWeights_7 : decode cX0_spreadWeights 7 = .ok (.invokevirtual 42, 3) := by decide +kernel
theorem dX0_spreadWeights_10 : decode cX0_spreadWeights 10 = .ok (.if_icmp .ge 41, 3) := by decide +kernel
theorem dX0_spreadWeights_13 : decode cX0_spreadWeights 13 = .ok (.aload_n 0, 1) := by decide +kernel
theorem dX0_spreadWeights_14 : decode cX0_spreadWeights 14 = .ok (.getfield 18, 3) := by decide +kernel
theorem dX0_spreadWeights_17 : decode cX0_spreadWeights 17 = .ok (.iload_n 2, 1) := by decide +kernel
theorem dX0_spreadWeights_18 : decode cX0_spreadWeights 18 = .ok (.invokevirtual 46, 3) := by decide +kernel
theorem dX0_spreadWeights_21 : decode cX0_spreadWeights 21 = .ok (.checkcast 55, 3) := by decide +kernel
theorem dX0_spreadWeights_24 : decode cX0_spreadWeights 24 = .ok (.astore_n 3, 1) := by decide +kernel
theorem dX0_spreadWeights_25 : decode cX0_spreadWeights 25 = .ok (.aload_n 3, 1) := by decide +kernel
theorem dX0_spreadWeights_26 : decode cX0_spreadWeights 26 = .ok (.getfield 57, 3) := by decide +kernel
theorem dX0_spreadWeights_29 : decode cX0_spreadWeights 29 = .ok (.iload_n 1, 1) := by decide +kernel
theorem dX0_spreadWeights_30 : decode cX0_spreadWeights 30 = .ok (.if_icmp .gt 15, 3) := by decide +kernel
theorem dX0_spreadWeights_33 : decode cX0_spreadWeights 33 = .ok (.aload_n 3, 1) := by decide +kernel
theorem dX0_spreadWeights_34 : decode cX0_spreadWeights 34 = .ok (.getfield 62, 3) := by decide +kernel
theorem dX0_spreadWeights_37 : decode cX0_spreadWeights 37 = .ok (.aload_n 3, 1) := by decide +kernel
theorem dX0_spreadWeights_38 : decode cX0_spreadWeights 38 = .ok (.getfield 65, 3) := by decide +kernel
theorem dX0_spreadWeights_41 : decode cX0_spreadWeights 41 = .ok (.i2l, 1) := by decide +kernel
theorem dX0_spreadWeights_42 : decode cX0_spreadWeights 42 = .ok (.putfield 68, 3) := by decide +kernel
theorem dX0_spreadWeights_45 : decode cX0_spreadWeights 45 = .ok (.iinc 2 1, 3) := by decide +kernel
theorem dX0_spreadWeights_48 : decode cX0_spreadWeights 48 = .ok (.goto (-46), 3) := by decide +kernel
theorem dX0_spreadWeights_51 : decode cX0_spreadWeights 51 = .ok (.return_, 1) := by decide +kernel
theorem dX1_init_0 : decode cX1_init 0 = .ok (.aload_n 0, 1) := by decide +kernel
theorem dX1_init_1 : decode cX1_init 1 = .ok (.invokespecial 3, 3) := by decide +kernel
theorem dX1_init_4 : decode cX1_init 4 = .ok (.aload_n 0, 1) := by decide +kernel
theorem dX1_init_5 : decode cX1_init 5 = .ok (.sipush 700, 3) := by decide +kernel
theorem dX1_init_8 : decode cX1_init 8 = .ok (.newarray .boolean, 2) := by decide +kernel
theorem dX1_init_10 : decode cX1_init 10 = .ok (.putfield 9, 3) := by decide +kernel
theorem dX1_init_13 : decode cX1_init 13 = .ok (.return_, 1) := by decide +kernel
theorem dX1_set_0 : decode cX1_set 0 = .ok (.iload_n 1, 1) := by decide +kernel
theorem dX1_set_1 : decode cX1_set 1 = .ok (.ifCond .lt 22, 3) := by decide +kernel
theorem dX1_set_4 : decode cX1_set 4 = .ok (.iload_n 1, 1) := by decide +kernel
theorem dX1_set_5 : decode cX1_set 5 = .ok (.aload_n 0, 1) := by decide +kernel
theorem dX1_set_6 : decode cX1_set 6 = .ok (.getfield 9, 3) := by decide +kernel
theorem dX1_set_9 : decode cX1_set 9 = .ok (.arraylength, 1) := by decide +kernel
theorem dX1_set_10 : decode cX1_set 10 = .ok (.if_icmp .ge 13, 3) := by decide +kernel
theorem dX1_set_13 : decode cX1_set 13 = .ok (.aload_n 0, 1) := by decide +kernel
theorem dX1_set_14 : decode cX1_set 14 = .ok (.getfield 9, 3) := by decide +kernel
theorem dX1_set_17 : decode cX1_set 17 = .ok (.iload_n 1, 1) := by decide +kernel
theorem dX1_set_18 : decode cX1_set 18 = .ok (.baload, 1) := by decide +kernel
theorem dX1_set_19 : decode cX1_set 19 = .ok (.iload_n 2, 1) := by decide +kernel
theorem dX1_set_20 : decode cX1_set 20 = .ok (.if_icmp .ne 5, 3) := by decide +kernel
theorem dX1_set_23 : decode cX1_set 23 = .ok (.iconst 0, 1) := by decide +kernel
theorem dX1_set_24 : decode cX1_set 24 = .ok (.ireturn, 1) := by decide +kernel
theorem dX1_set_25 : decode cX1_set 25 = .ok (.aload_n 0, 1) := by decide +kernel
theorem dX1_set_26 : decode cX1_set 26 = .ok (.getfield 9, 3) := by decide +kernel
theorem dX1_set_29 : decode cX1_set 29 = .ok (.iload_n 1, 1) := by decide +kernel
theorem dX1_set_30 : decode cX1_set 30 = .ok (.iload_n 2, 1) := by decide +kernel
theorem dX1_set_31 : decode cX1_set 31 = .ok (.bastore, 1) := by decide +kernel
theorem dX1_set_32 : decode cX1_set 32 = .ok (.iconst 1, 1) := by decide +kernel
theorem dX1_set_33 : decode cX1_set 33 = .ok (.ireturn, 1) := by decide +kernel
set_option maxRecDepth 20000 in
theorem ggX1_workday_X1_isHoliday : GoodIn wsX1_workday wsX1_isHoliday := goodIn_r _ [5, 6, 7] (by decide +kernel) (by decide +kernel)
set_option maxRecDepth 20000 in
theorem gX1_workday_X1_isHoliday : GoodIn wsX1_workday (wsV RX1 15 RX1 yX1_isHoliday wsX1_isHoliday) := goodIn_app (goodIn_of _ (by decide +kernel)) ggX1_workday_X1_isHoliday
theorem dX1_workday_0 : decode cX1_workday 0 = .ok (.iload_n 2, 1) := by decide +kernel
theorem dX1_workday_1 : decode cX1_workday 1 = .ok (.istore_n 3, 1) := by decide +kernel
theorem dX1_workday_2 : decode cX1_workday 2 = .ok (.iconst 0, 1) := by decide +kernel
theorem dX1_workday_3 : decode cX1_workday 3 = .ok (.istore 4, 2) := by decide +kernel
theorem dX1_workday_5 : decode cX1_workday 5 = .ok (.iload 4, 2) := by decide +kernel
theorem dX1_workday_7 : decode cX1_workday 7 = .ok (.iconst 5, 1) := by decide +kernel
theorem dX1_workday_8 : decode cX1_workday 8 = .ok (.if_icmp .gt 40, 3) := by decide +kernel
theorem dX1_workday_11 : decode cX1_workday 11 = .ok (.iload_n 1, 1) := by decide +kernel
theorem dX1_workday_12 : decode cX1_workday 12 = .ok (.bipush 7, 2) := by decide +kernel
theorem dX1_workday_14 : decode cX1_workday 14 = .ok (.imul, 1) := by decide +kernel
theorem dX1_workday_15 : decode cX1_workday 15 = .ok (.iload 4, 2) := by decide +kernel
theorem dX1_workday_17 : decode cX1_workday 17 = .ok (.iadd, 1) := by decide +kernel
theorem dX1_workday_18 : decode cX1_workday 18 = .ok (.istore 5, 2) := by decide +kernel
theorem dX1_workday_20 : decode cX1_workday 20 = .ok (.aload_n 0, 1) := by decide +kernel
theorem dX1_workday_21 : decode cX1_workday 21 = .ok (.iload 5, 2) := by decide +kernel
theorem dX1_workday_23 : decode cX1_workday 23 = .ok (.invokevirtual 15, 3) := by decide +kernel
theorem dX1_workday_26 : decode cX1_workday 26 = .ok (.ifCond .eq 6, 3) := by decide +kernel
theorem dX1_workday_29 : decode cX1_workday 29 = .ok (.goto 13, 3) := by decide +kernel
theorem dX1_workday_32 : decode cX1_workday 32 = .ok (.iload_n 3, 1) := by decide +kernel
theorem dX1_workday_33 : decode cX1_workday 33 = .ok (.ifCond .ne 6, 3) := by decide +kernel
theorem dX1_workday_36 : decode cX1_workday 36 = .ok (.iload 5, 2) := by decide +kernel
theorem dX1_workday_38 : decode cX1_workday 38 = .ok (.ireturn, 1) := by decide +kernel
theorem dX1_workday_39 : decode cX1_workday 39 = .ok (.iinc 3 (-1), 3) := by decide +kernel
theorem dX1_workday_42 : decode cX1_workday 42 = .ok (.iinc 4 1, 3) := by decide +kernel
theorem dX1_workday_45 : decode cX1_workday 45 = .ok (.goto (-40), 3) := by decide +kernel
theorem dX1_workday_48 : decode cX1_workday 48 = .ok (.bipush (-2), 2) := by decide +kernel
theorem dX1_workday_50 : decode cX1_workday 50 = .ok (.ireturn, 1) := by decide +kernel
theorem dX1_isHoliday_0 : decode cX1_isHoliday 0 = .ok (.iload_n 1, 1) := by decide +kernel
theorem dX1_isHoliday_1 : decode cX1_isHoliday 1 = .ok (.ifCond .lt 25, 3) := by decide +kernel
theorem dX1_isHoliday_4 : decode cX1_isHoliday 4 = .ok (.iload_n 1, 1) := by decide +kernel
theorem dX1_isHoliday_5 : decode cX1_isHoliday 5 = .ok (.aload_n 0, 1) := by decide +kernel
theorem dX1_isHoliday_6 : decode cX1_isHoliday 6 = .ok (.getfield 9, 3) := by decide +kernel
theorem dX1_isHoliday_9 : decode cX1_isHoliday 9 = .ok (.arraylength, 1) := by decide +kernel
theorem dX1_isHoliday_10 : decode cX1_isHoliday 10 = .ok (.if_icmp .ge 16, 3) := by decide +kernel
theorem dX1_isHoliday_13 : decode cX1_isHoliday 13 = .ok (.aload_n 0, 1) := by decide +kernel
theorem dX1_isHoliday_14 : decode cX1_isHoliday 14 = .ok (.getfield 9, 3) := by decide +kernel
theorem dX1_isHoliday_17 : decode cX1_isHoliday 17 = .ok (.iload_n 1, 1) := by decide +kernel
theorem dX1_isHoliday_18 : decode cX1_isHoliday 18 = .ok (.baload, 1) := by decide +kernel
theorem dX1_isHoliday_19 : decode cX1_isHoliday 19 = .ok (.ifCond .eq 7, 3) := by decide +kernel
theorem dX1_isHoliday_22 : decode cX1_isHoliday 22 = .ok (.iconst 1, 1) := by decide +kernel
theorem dX1_isHoliday_23 : decode cX1_isHoliday 23 = .ok (.goto 4, 3) := by decide +kernel
theorem dX1_isHoliday_26 : decode cX1_isHoliday 26 = .ok (.iconst 0, 1) := by decide +kernel
theorem dX1_isHoliday_27 : decode cX1_isHoliday 27 = .ok (.ireturn, 1) := by decide +kernel
theorem dX2_init_0 : decode cX2_init 0 = .ok (.aload_n 0, 1) := by decide +kernel
theorem dX2_init_1 : decode cX2_init 1 = .ok (.invokespecial 3, 3) := by decide +kernel
theorem dX2_init_4 : decode cX2_init 4 = .ok (.aload_n 0, 1) := by decide +kernel
theorem dX2_init_5 : decode cX2_init 5 = .ok (.iconst 0, 1) := by decide +kernel
theorem dX2_init_6 : decode cX2_init 6 = .ok (.putfield 9, 3) := by decide +kernel
theorem dX2_init_9 : decode cX2_init 9 = .ok (.aload_n 0, 1) := by decide +kernel
theorem dX2_init_10 : decode cX2_init 10 = .ok (.iconst (-1), 1) := by decide +kernel
theorem dX2_init_11 : decode cX2_init 11 = .ok (.putfield 15, 3) := by decide +kernel
theorem dX2_init_14 : decode cX2_init 14 = .ok (.aload_n 0, 1) := by decide +kernel
theorem dX2_init_15 : decode cX2_init 15 = .ok (.iconst 0, 1) := by decide +kernel
theorem dX2_init_16 : decode cX2_init 16 = .ok (.putfield 18, 3) := by decide +kernel
theorem dX2_init_19 : decode cX2_init 19 = .ok (.aload_n 0, 1) := by decide +kernel
theorem dX2_init_20 : decode cX2_init 20 = .ok (.iconst 0, 1) := by decide +kernel
theorem dX2_init_21 : decode cX2_init 21 = .ok (.putfield 22, 3) := by decide +kernel
theorem dX2_init_24 : decode cX2_init 24 = .ok (.aload_n 0, 1) := by decide +kernel
theorem dX2_init_25 : decode cX2_init 25 = .ok (.iload_n 1, 1) := by decide +kernel
theorem dX2_init_26 : decode cX2_init 26 = .ok (.putfield 25, 3) := by decide +kernel
theorem dX2_init_29 : decode cX2_init 29 = .ok (.aload_n 0, 1) := by decide +kernel
theorem dX2_init_30 : decode cX2_init 30 = .ok (.iload_n 2, 1) := by decide +kernel
theorem dX2_init_31 : decode cX2_init 31 = .ok (.putfield 28, 3) := by decide +kernel
theorem dX2_init_34 : decode cX2_init 34 = .ok (.return_, 1) := by decide +kernel
theorem dX2_takeHalves_0 : decode cX2_takeHalves 0 = .ok (.aload_n 0, 1) := by decide +kernel
theorem dX2_takeHalves_1 : decode cX2_takeHalves 1 = .ok (.getfield 9, 3) := by decide +kernel
theorem dX2_takeHalves_4 : decode cX2_takeHalves 4 = .ok (.iload_n 1, 1) := by decide +kernel
theorem dX2_takeHalves_5 : decode cX2_takeHalves 5 = .ok (.iadd, 1) := by decide +kernel
theorem dX2_takeHalves_6 : decode cX2_takeHalves 6 = .ok (.istore_n 2, 1) := by decide +kernel
theorem dX2_takeHalves_7 : decode cX2_takeHalves 7 = .ok (.aload_n 0, 1) := by decide +kernel
theorem dX2_takeHalves_8 : decode cX2_takeHalves 8 = .ok (.iload_n 2, 1) := by decide +kernel
theorem dX2_takeHalves_9 : decode cX2_takeHalves 9 = .ok (.sipush 500, 3) := by decide +kernel
theorem dX2_takeHalves_12 : decode cX2_takeHalves 12 = .ok (.irem, 1) := by decide +kernel
theorem dX2_takeHalves_13 : decode cX2_takeHalves 13 = .ok (.putfield 9, 3) := by decide +kernel
theorem dX2_takeHalves_16 : decode cX2_takeHalves 16 = .ok (.iload_n 2, 1) := by decide +kernel
theorem dX2_takeHalves_17 : decode cX2_takeHalves 17 = .ok (.sipush 500, 3) := by decide +kernel
theorem dX2_takeHalves_20 : decode cX2_takeHalves 20 = .ok (.idiv, 1) := by decide +kernel
theorem dX2_takeHalves_21 : decode cX2_takeHalves 21 = .ok (.ireturn, 1) := by decide +kernel
theorem dX2_payHalves_0 : decode cX2_payHalves 0 = .ok (.aload_n 0, 1) := by decide +kernel
theorem dX2_payHalves_1 : decode cX2_payHalves 1 = .ok (.getfield 18, 3) := by decide +kernel
theorem dX2_payHalves_4 : decode cX2_payHalves 4 = .ok (.ifCond .ne 5, 3) := by decide +kernel
theorem dX2_payHalves_7 : decode cX2_payHalves 7 = .ok (.iload_n 1, 1) := by decide +kernel
theorem dX2_payHalves_8 : decode cX2_payHalves 8 = .ok (.ireturn, 1) := by decide +kernel
theorem dX2_payHalves_9 : decode cX2_payHalves 9 = .ok (.iload_n 1, 1) := by decide +kernel
theorem dX2_payHalves_10 : decode cX2_payHalves 10 = .ok (.aload_n 0, 1) := by decide +kernel
theorem dX2_payHalves_11 : decode cX2_payHalves 11 = .ok (.getfield 22, 3) := by decide +kernel
theorem dX2_payHalves_14 : decode cX2_payHalves 14 = .ok (.invokestatic 31, 3) := by decide +kernel
theorem dX2_payHalves_17 : decode cX2_payHalves 17 = .ok (.istore_n 2, 1) := by decide +kernel
theorem dX2_payHalves_18 : decode cX2_payHalves 18 = .ok (.aload_n 0, 1) := by decide +kernel
theorem dX2_payHalves_19 : decode cX2_payHalves 19 = .ok (.dup, 1) := by decide +kernel
theorem dX2_payHalves_20 : decode cX2_payHalves 20 = .ok (.getfield 22, 3) := by decide +kernel
theorem dX2_payHalves_23 : decode cX2_payHalves 23 = .ok (.iload_n 2, 1) := by decide +kernel
theorem dX2_payHalves_24 : decode cX2_payHalves 24 = .ok (.isub, 1) := by decide +kernel
theorem dX2_payHalves_25 : decode cX2_payHalves 25 = .ok (.putfield 22, 3) := by decide +kernel
theorem dX2_payHalves_28 : decode cX2_payHalves 28 = .ok (.iload_n 2, 1) := by decide +kernel
theorem dX2_payHalves_29 : decode cX2_payHalves 29 = .ok (.ireturn, 1) := by decide +kernel
theorem dX2_capOfDay_0 : decode cX2_capOfDay 0 = .ok (.aload_n 0, 1) := by decide +kernel
theorem dX2_capOfDay_1 : decode cX2_capOfDay 1 = .ok (.getfield 18, 3) := by decide +kernel
theorem dX2_capOfDay_4 : decode cX2_capOfDay 4 = .ok (.ifCond .eq 10, 3) := by decide +kernel
theorem dX2_capOfDay_7 : decode cX2_capOfDay 7 = .ok (.aload_n 0, 1) := by decide +kernel
theorem dX2_capOfDay_8 : decode cX2_capOfDay 8 = .ok (.getfield 15, 3) := by decide +kernel
theorem dX2_capOfDay_11 : decode cX2_capOfDay 11 = .ok (.goto 4, 3) := by decide +kernel
theorem dX2_capOfDay_14 : decode cX2_capOfDay 14 = .ok (.iconst (-1), 1) := by decide +kernel
theorem dX2_capOfDay_15 : decode cX2_capOfDay 15 = .ok (.ireturn, 1) := by decide +kernel
theorem dX3_init_0 : decode cX3_init 0 = .ok (.aload_n 0, 1) := by decide +kernel
theorem dX3_init_1 : decode cX3_init 1 = .ok (.invokespecial 1, 3) := by decide +kernel
theorem dX3_init_4 : decode cX3_init 4 = .ok (.aload_n 0, 1) := by decide +kernel
theorem dX3_init_5 : decode cX3_init 5 = .ok (.iconst 0, 1) := by decide +kernel
theorem dX3_init_6 : decode cX3_init 6 = .ok (.putfield 7, 3) := by decide +kernel
theorem dX3_init_9 : decode cX3_init 9 = .ok (.aload_n 0, 1) := by decide +kernel
theorem dX3_init_10 : decode cX3_init 10 = .ok (.lconst 0, 1) := by decide +kernel
theorem dX3_init_11 : decode cX3_init 11 = .ok (.putfield 13, 3) := by decide +kernel
theorem dX3_init_14 : decode cX3_init 14 = .ok (.aload_n 0, 1) := by decide +kernel
theorem dX3_init_15 : decode cX3_init 15 = .ok (.lconst 0, 1) := by decide +kernel
theorem dX3_init_16 : decode cX3_init 16 = .ok (.putfield 17, 3) := by decide +kernel
theorem dX3_init_19 : decode cX3_init 19 = .ok (.aload_n 0, 1) := by decide +kernel
theorem dX3_init_20 : decode cX3_init 20 = .ok (.lconst 0, 1) := by decide +kernel
theorem dX3_init_21 : decode cX3_init 21 = .ok (.putfield 20, 3) := by decide +kernel
theorem dX3_init_24 : decode cX3_init 24 = .ok (.aload_n 0, 1) := by decide +kernel
theorem dX3_init_25 : decode cX3_init 25 = .ok (.lconst 0, 1) := by decide +kernel
theorem dX3_init_26 : decode cX3_init 26 = .ok (.putfield 23, 3) := by decide +kernel
theorem dX3_init_29 : decode cX3_init 29 = .ok (.aload_n 0, 1) := by decide +kernel
theorem dX3_init_30 : decode cX3_init 30 = .ok (.lconst 0, 1) := by decide +kernel
theorem dX3_init_31 : decode cX3_init 31 = .ok (.putfield 26, 3) := by decide +kernel
theorem dX3_init_34 : decode cX3_init 34 = .ok (.aload_n 0, 1) := by decide +kernel
theorem dX3_init_35 : decode cX3_init 35 = .ok (.lconst 0, 1) := by decide +kernel
theorem dX3_init_36 : decode cX3_init 36 = .ok (.putfield 29, 3) := by decide +kernel
theorem dX3_init_39 : decode cX3_init 39 = .ok (.aload_n 0, 1) := by decide +kernel
theorem dX3_init_40 : decode cX3_init 40 = .ok (.iload_n 1, 1) := by decide +kernel
theorem dX3_init_41 : decode cX3_init 41 = .ok (.putfield 32, 3) := by decide +kernel
theorem dX3_init_44 : decode cX3_init 44 = .ok (.aload_n 0, 1) := by decide +kernel
theorem dX3_init_45 : decode cX3_init 45 = .ok (.iload_n 2, 1) := by decide +kernel
theorem dX3_init_46 : decode cX3_init 46 = .ok (.putfield 35, 3) := by decide +kernel
theorem dX3_init_49 : decode cX3_init 49 = .ok (.aload_n 0, 1) := by decide +kernel
theorem dX3_init_50 : decode cX3_init 50 = .ok (.aload_n 3, 1) := by decide +kernel
theorem dX3_init_51 : decode cX3_init 51 = .ok (.putfield 38, 3) := by decide +kernel
theorem dX3_init_54 : decode cX3_init 54 = .ok (.return_, 1) := by decide +kernel
theorem dX3_allCharged_0 : decode cX3_allCharged 0 = .ok (.aload_n 0, 1) := by decide +kernel
theorem dX3_allCharged_1 : decode cX3_allCharged 1 = .ok (.getfield 13, 3) := by decide +kernel
theorem dX3_allCharged_4 : decode cX3_allCharged 4 = .ok (.aload_n 0, 1) := by decide +kernel
theorem dX3_allCharged_5 : decode cX3_allCharged 5 = .ok (.getfield 17, 3) := by decide +kernel
theorem dX3_allCharged_8 : decode cX3_allCharged 8 = .ok (.ladd, 1) := by decide +kernel
theorem dX3_allCharged_9 : decode cX3_allCharged 9 = .ok (.lreturn, 1) := by decide +kernel
theorem dX4_init_0 : decode cX4_init 0 = .ok (.aload_n 0, 1) := by decide +kernel
theorem dX4_init_1 : decode cX4_init 1 = .ok (.invokespecial 1, 3) := by decide +kernel
theorem dX4_init_4 : decode cX4_init 4 = .ok (.aload_n 0, 1) := by decide +kernel
theorem dX4_init_5 : decode cX4_init 5 = .ok (.iconst 5, 1) := by decide +kernel
theorem dX4_init_6 : decode cX4_init 6 = .ok (.newarray .int, 2) := by decide +kernel
theorem dX4_init_8 : decode cX4_init 8 = .ok (.putfield 7, 3) := by decide +kernel
theorem dX4_init_11 : decode cX4_init 11 = .ok (.aload_n 0, 1) := by decide +kernel
theorem dX4_init_12 : decode cX4_init 12 = .ok (.iconst 0, 1) := by decide +kernel
theorem dX4_init_13 : decode cX4_init 13 = .ok (.putfield 13, 3) := by decide +kernel
theorem dX4_init_16 : decode cX4_init 16 = .ok (.return_, 1) := by decide +kernel
theorem dX4_clear_0 : decode cX4_clear 0 = .ok (.aload_n 0, 1) := by decide +kernel
theorem dX4_clear_1 : decode cX4_clear 1 = .ok (.iconst 0, 1) := by decide +kernel
theorem dX4_clear_2 : decode cX4_clear 2 = .ok (.putfield 13, 3) := by decide +kernel
theorem dX4_clear_5 : decode cX4_clear 5 = .ok (.return_, 1) := by decide +kernel
theorem dX4_isFull_0 : decode cX4_isFull 0 = .ok (.aload_n 0, 1) := by decide +kernel
theorem dX4_isFull_1 : decode cX4_isFull 1 = .ok (.getfield 13, 3) := by decide +kernel
theorem dX4_isFull_4 : decode cX4_isFull 4 = .ok (.aload_n 0, 1) := by decide +kernel
theorem dX4_isFull_5 : decode cX4_isFull 5 = .ok (.getfield 7, 3) := by decide +kernel
theorem dX4_isFull_8 : decode cX4_isFull 8 = .ok (.arraylength, 1) := by decide +kernel
theorem dX4_isFull_9 : decode cX4_isFull 9 = .ok (.if_icmp .lt 7, 3) := by decide +kernel
theorem dX4_isFull_12 : decode cX4_isFull 12 = .ok (.iconst 1, 1) := by decide +kernel
theorem dX4_isFull_13 : decode cX4_isFull 13 = .ok (.goto 4, 3) := by decide +kernel
theorem dX4_isFull_16 : decode cX4_isFull 16 = .ok (.iconst 0, 1) := by decide +kernel
theorem dX4_isFull_17 : decode cX4_isFull 17 = .ok (.ireturn, 1) := by decide +kernel
set_option maxRecDepth 20000 in
theorem ggX4_insert_X4_isFull : GoodIn wsX4_insert wsX4_isFull := goodIn_r _ [7, 1, 2, 8, 9] (by decide +kernel) (by decide +kernel)
set_option maxRecDepth 20000 in
theorem gX4_insert_X4_isFull : GoodIn wsX4_insert (wsV RX4 17 RX4 yX4_isFull wsX4_isFull) := goodIn_app (goodIn_of _ (by decide +kernel)) ggX4_insert_X4_isFull
theorem dX4_insert_0 : decode cX4_insert 0 = .ok (.aload_n 0, 1) := by decide +kernel
theorem dX4_insert_1 : decode cX4_insert 1 = .ok (.invokevirtual 17, 3) := by decide +kernel
theorem dX4_insert_4 : decode cX4_insert 4 = .ok (.ifCond .eq 4, 3) := by decide +kernel
theorem dX4_insert_7 : decode cX4_insert 7 = .ok (.return_, 1) := by decide +kernel
theorem dX4_insert_8 : decode cX4_insert 8 = .ok (.aload_n 0, 1) := by decide +kernel
theorem dX4_insert_9 : decode cX4_insert 9 = .ok (.getfield 13, 3) := by decide +kernel
theorem dX4_insert_12 : decode cX4_insert 12 = .ok (.istore_n 2, 1) := by decide +kernel
theorem dX4_insert_13 : decode cX4_insert 13 = .ok (.iload_n 2, 1) := by decide +kernel
theorem dX4_insert_14 : decode cX4_insert 14 = .ok (.ifCond .le 44, 3) := by decide +kernel
theorem dX4_insert_17 : decode cX4_insert 17 = .ok (.iload_n 2, 1) := by decide +kernel
theorem dX4_insert_18 : decode cX4_insert 18 = .ok (.aload_n 0, 1) := by decide +kernel
theorem dX4_insert_19 : decode cX4_insert 19 = .ok (.getfield 7, 3) := by decide +kernel
theorem dX4_insert_22 : decode cX4_insert 22 = .ok (.arraylength, 1) := by decide +kernel
theorem dX4_insert_23 : decode cX4_insert 23 = .ok (.if_icmp .ge 35, 3) := by decide +kernel
theorem dX4_insert_26 : decode cX4_insert 26 = .ok (.aload_n 0, 1) := by decide +kernel
theorem dX4_insert_27 : decode cX4_insert 27 = .ok (.getfield 7, 3) := by decide +kernel
theorem dX4_insert_30 : decode cX4_insert 30 = .ok (.iload_n 2, 1) := by decide +kernel
theorem dX4_insert_31 : decode cX4_insert 31 = .ok (.iconst 1, 1) := by decide +kernel
theorem dX4_insert_32 : decode cX4_insert 32 = .ok (.isub, 1) := by decide +kernel
theorem dX4_insert_33 : decode cX4_insert 33 = .ok (.iaload, 1) := by decide +kernel
theorem dX4_insert_34 : decode cX4_insert 34 = .ok (.iload_n 1, 1) := by decide +kernel
theorem dX4_insert_35 : decode cX4_insert 35 = .ok (.if_icmp .le 23, 3) := by decide +kernel
theorem dX4_insert_38 : decode cX4_insert 38 = .ok (.aload_n 0, 1) := by decide +kernel
theorem dX4_insert_39 : decode cX4_insert 39 = .ok (.getfield 7, 3) := by decide +kernel
theorem dX4_insert_42 : decode cX4_insert 42 = .ok (.iload_n 2, 1) := by decide +kernel
theorem dX4_insert_43 : decode cX4_insert 43 = .ok (.aload_n 0, 1) := by decide +kernel
theorem dX4_insert_44 : decode cX4_insert 44 = .ok (.getfield 7, 3) := by decide +kernel
theorem dX4_insert_47 : decode cX4_insert 47 = .ok (.iload_n 2, 1) := by decide +kernel
theorem dX4_insert_48 : decode cX4_insert 48 = .ok (.iconst 1, 1) := by decide +kernel
theorem dX4_insert_49 : decode cX4_insert 49 = .ok (.isub, 1) := by decide +kernel
theorem dX4_insert_50 : decode cX4_insert 50 = .ok (.iaload, 1) := by decide +kernel
theorem dX4_insert_51 : decode cX4_insert 51 = .ok (.iastore, 1) := by decide +kernel
theorem dX4_insert_52 : decode cX4_insert 52 = .ok (.iinc 2 (-1), 3) := by decide +kernel
theorem dX4_insert_55 : decode cX4_insert 55 = .ok (.goto (-42), 3) := by decide +kernel
theorem dX4_insert_58 : decode cX4_insert 58 = .ok (.aload_n 0, 1) := by decide +kernel
theorem dX4_insert_59 : decode cX4_insert 59 = .ok (.getfield 7, 3) := by decide +kernel
theorem dX4_insert_62 : decode cX4_insert 62 = .ok (.iload_n 2, 1) := by decide +kernel
theorem dX4_insert_63 : decode cX4_insert 63 = .ok (.iload_n 1, 1) := by decide +kernel
theorem dX4_insert_64 : decode cX4_insert 64 = .ok (.iastore, 1) := by decide +kernel
theorem dX4_insert_65 : decode cX4_insert 65 = .ok (.aload_n 0, 1) := by decide +kernel
theorem dX4_insert_66 : decode cX4_insert 66 = .ok (.dup, 1) := by decide +kernel
theorem dX4_insert_67 : decode cX4_insert 67 = .ok (.getfield 13, 3) := by decide +kernel
theorem dX4_insert_70 : decode cX4_insert 70 = .ok (.iconst 1, 1) := by decide +kernel
theorem dX4_insert_71 : decode cX4_insert 71 = .ok (.iadd, 1) := by decide +kernel
theorem dX4_insert_72 : decode cX4_insert 72 = .ok (.putfield 13, 3) := by decide +kernel
theorem dX4_insert_75 : decode cX4_insert 75 = .ok (.return_, 1) := by decide +kernel
theorem dX4_lowerMiddle_0 : decode cX4_lowerMiddle 0 = .ok (.aload_n 0, 1) := by decide +kernel
theorem dX4_lowerMiddle_1 : decode cX4_lowerMiddle 1 = .ok (.getfield 13, 3) := by decide +kernel
theorem dX4_lowerMiddle_4 : decode cX4_lowerMiddle 4 = .ok (.iconst 1, 1) := by decide +kernel
theorem dX4_lowerMiddle_5 : decode cX4_lowerMiddle 5 = .ok (.isub, 1) := by decide +kernel
theorem dX4_lowerMiddle_6 : decode cX4_lowerMiddle 6 = .ok (.iconst 2, 1) := by decide +kernel
theorem dX4_lowerMiddle_7 : decode cX4_lowerMiddle 7 = .ok (.idiv, 1) := by decide +kernel
theorem dX4_lowerMiddle_8 : decode cX4_lowerMiddle 8 = .ok (.istore_n 1, 1) := by decide +kernel
theorem dX4_lowerMiddle_9 : decode cX4_lowerMiddle 9 = .ok (.aload_n 0, 1) := by decide +kernel
theorem dX4_lowerMiddle_10 : decode cX4_lowerMiddle 10 = .ok (.getfield 13, 3) := by decide +kernel
theorem dX4_lowerMiddle_13 : decode cX4_lowerMiddle 13 = .ok (.ifCond .le 21, 3) := by decide +kernel
theorem dX4_lowerMiddle_16 : decode cX4_lowerMiddle 16 = .ok (.iload_n 1, 1) := by decide +kernel
theorem dX4_lowerMiddle_17 : decode cX4_lowerMiddle 17 = .ok (.aload_n 0, 1) := by decide +kernel
theorem dX4_lowerMiddle_18 : decode cX4_lowerMiddle 18 = .ok (.getfield 7, 3) := by decide +kernel
theorem dX4_lowerMiddle_21 : decode cX4_lowerMiddle 21 = .ok (.arraylength, 1) := by decide +kernel
theorem dX4_lowerMiddle_22 : decode cX4_lowerMiddle 22 = .ok (.if_icmp .ge 12, 3) := by decide +kernel
theorem dX4_lowerMiddle_25 : decode cX4_lowerMiddle 25 = .ok (.aload_n 0, 1) := by decide +kernel
theorem dX4_lowerMiddle_26 : decode cX4_lowerMiddle 26 = .ok (.getfield 7, 3) := by decide +kernel
theorem dX4_lowerMiddle_29 : decode cX4_lowerMiddle 29 = .ok (.iload_n 1, 1) := by decide +kernel
theorem dX4_lowerMiddle_30 : decode cX4_lowerMiddle 30 = .ok (.iaload, 1) := by decide +kernel
theorem dX4_lowerMiddle_31 : decode cX4_lowerMiddle 31 = .ok (.goto 4, 3) := by decide +kernel
theorem dX4_lowerMiddle_34 : decode cX4_lowerMiddle 34 = .ok (.iconst 0, 1) := by decide +kernel
theorem dX4_lowerMiddle_35 : decode cX4_lowerMiddle 35 = .ok (.ireturn, 1) := by decide +kernel
theorem dX5_init_0 : decode cX5_init 0 = .ok (.aload_n 0, 1) := by decide +kernel
theorem dX5_init_1 : decode cX5_init 1 = .ok (.invokespecial 1, 3) := by decide +kernel
theorem dX5_init_4 : decode cX5_init 4 = .ok (.aload_n 0, 1) := by decide +kernel
theorem dX5_init_5 : decode cX5_init 5 = .ok (.aload_n 1, 1) := by decide +kernel
theorem dX5_init_6 : decode cX5_init 6 = .ok (.putfield 7, 3) := by decide +kernel
theorem dX5_init_9 : decode cX5_init 9 = .ok (.aload_n 0, 1) := by decide +kernel
theorem dX5_init_10 : decode cX5_init 10 = .ok (.iload_n 2, 1) := by decide +kernel
theorem dX5_init_11 : decode cX5_init 11 = .ok (.putfield 13, 3) := by decide +kernel
theorem dX5_init_14 : decode cX5_init 14 = .ok (.return_, 1) := by decide +kernel
theorem dX6_init_0 : decode cX6_init 0 = .ok (.aload_n 0, 1) := by decide +kernel
theorem dX6_init_1 : decode cX6_init 1 = .ok (.invokespecial 1, 3) := by decide +kernel
theorem dX6_init_4 : decode cX6_init 4 = .ok (.aload_n 0, 1) := by decide +kernel
theorem dX6_init_5 : decode cX6_init 5 = .ok (.aload_n 1, 1) := by decide +kernel
theorem dX6_init_6 : decode cX6_init 6 = .ok (.putfield 7, 3) := by decide +kernel
theorem dX6_init_9 : decode cX6_init 9 = .ok (.aload_n 0, 1) := by decide +kernel
theorem dX6_init_10 : decode cX6_init 10 = .ok (.iload_n 2, 1) := by decide +kernel
theorem dX6_init_11 : decode cX6_init 11 = .ok (.putfield 13, 3) := by decide +kernel
theorem dX6_init_14 : decode cX6_init 14 = .ok (.aload_n 0, 1) := by decide +kernel
theorem dX6_init_15 : decode cX6_init 15 = .ok (.iload_n 3, 1) := by decide +kernel
theorem dX6_init_16 : decode cX6_init 16 = .ok (.putfield 17, 3) := by decide +kernel
theorem dX6_init_19 : decode cX6_init 19 = .ok (.return_, 1) := by decide +kernel
theorem dX7_init_0 : decode cX7_init 0 = .ok (.aload_n 0, 1) := by decide +kernel
theorem dX7_init_1 : decode cX7_init 1 = .ok (.invokespecial 3, 3) := by decide +kernel
theorem dX7_init_4 : decode cX7_init 4 = .ok (.aload_n 0, 1) := by decide +kernel
theorem dX7_init_5 : decode cX7_init 5 = .ok (.iconst 3, 1) := by decide +kernel
theorem dX7_init_6 : decode cX7_init 6 = .ok (.newarray .int, 2) := by decide +kernel
theorem dX7_init_8 : decode cX7_init 8 = .ok (.putfield 9, 3) := by decide +kernel
theorem dX7_init_11 : decode cX7_init 11 = .ok (.aload_n 0, 1) := by decide +kernel
theorem dX7_init_12 : decode cX7_init 12 = .ok (.iconst 3, 1) := by decide +kernel
theorem dX7_init_13 : decode cX7_init 13 = .ok (.newarray .int, 2) := by decide +kernel
theorem dX7_init_15 : decode cX7_init 15 = .ok (.putfield 15, 3) := by decide +kernel
theorem dX7_init_18 : decode cX7_init 18 = .ok (.return_, 1) := by decide +kernel
theorem dX7_setRound_0 : decode cX7_setRound 0 = .ok (.iload_n 1, 1) := by decide +kernel
theorem dX7_setRound_1 : decode cX7_setRound 1 = .ok (.ifCond .lt 35, 3) := by decide +kernel
theorem dX7_setRound_4 : decode cX7_setRound 4 = .ok (.iload_n 1, 1) := by decide +kernel
theorem dX7_setRound_5 : decode cX7_setRound 5 = .ok (.aload_n 0, 1) := by decide +kernel
theorem dX7_setRound_6 : decode cX7_setRound 6 = .ok (.getfield 9, 3) := by decide +kernel
theorem dX7_setRound_9 : decode cX7_setRound 9 = .ok (.arraylength, 1) := by decide +kernel
theorem dX7_setRound_10 : decode cX7_setRound 10 = .ok (.if_icmp .ge 26, 3) := by decide +kernel
theorem dX7_setRound_13 : decode cX7_setRound 13 = .ok (.iload_n 1, 1) := by decide +kernel
theorem dX7_setRound_14 : decode cX7_setRound 14 = .ok (.aload_n 0, 1) := by decide +kernel
theorem dX7_setRound_15 : decode cX7_setRound 15 = .ok (.getfield 15, 3) := by decide +kernel
theorem dX7_setRound_18 : decode cX7_setRound 18 = .ok (.arraylength, 1) := by decide +kernel
theorem dX7_setRound_19 : decode cX7_setRound 19 = .ok (.if_icmp .ge 17, 3) := by decide +kernel
theorem dX7_setRound_22 : decode cX7_setRound 22 = .ok (.aload_n 0, 1) := by decide +kernel
theorem dX7_setRound_23 : decode cX7_setRound 23 = .ok (.getfield 9, 3) := by decide +kernel
theorem dX7_setRound_26 : decode cX7_setRound 26 = .ok (.iload_n 1, 1) := by decide +kernel
theorem dX7_setRound_27 : decode cX7_setRound 27 = .ok (.iload_n 2, 1) := by decide +kernel
theorem dX7_setRound_28 : decode cX7_setRound 28 = .ok (.iastore, 1) := by decide +kernel
theorem dX7_setRound_29 : decode cX7_setRound 29 = .ok (.aload_n 0, 1) := by decide +kernel
theorem dX7_setRound_30 : decode cX7_setRound 30 = .ok (.getfield 15, 3) := by decide +kernel
theorem dX7_setRound_33 : decode cX7_setRound 33 = .ok (.iload_n 1, 1) := by decide +kernel
theorem dX7_setRound_34 : decode cX7_setRound 34 = .ok (.iload_n 3, 1) := by decide +kernel
theorem dX7_setRound_35 : decode cX7_setRound 35 = .ok (.iastore, 1) := by decide +kernel
theorem dX7_setRound_36 : decode cX7_setRound 36 = .ok (.return_, 1) := by decide +kernel
theorem dX7_hasRoundIn_0 : decode cX7_hasRoundIn 0 = .ok (.iload_n 1, 1) := by decide +kernel
theorem dX7_hasRoundIn_1 : decode cX7_hasRoundIn 1 = .ok (.ifCond .lt 12, 3) := by decide +kernel
theorem dX7_hasRoundIn_4 : decode cX7_hasRoundIn 4 = .ok (.iload_n 1, 1) := by decide +kernel
theorem dX7_hasRoundIn_5 : decode cX7_hasRoundIn 5 = .ok (.aload_n 0, 1) := by decide +kernel
theorem dX7_hasRoundIn_6 : decode cX7_hasRoundIn 6 = .ok (.getfield 15, 3) := by decide +kernel
theorem dX7_hasRoundIn_9 : decode cX7_hasRoundIn 9 = .ok (.arraylength, 1) := by decide +kernel
theorem dX7_hasRoundIn_10 : decode cX7_hasRoundIn 10 = .ok (.if_icmp .lt 5, 3) := by decide +kernel
theorem dX7_hasRoundIn_13 : decode cX7_hasRoundIn 13 = .ok (.iconst 0, 1) := by decide +kernel
theorem dX7_hasRoundIn_14 : decode cX7_hasRoundIn 14 = .ok (.ireturn, 1) := by decide +kernel
theorem dX7_hasRoundIn_15 : decode cX7_hasRoundIn 15 = .ok (.iload_n 2, 1) := by decide +kernel
theorem dX7_hasRoundIn_16 : decode cX7_hasRoundIn 16 = .ok (.iconst 2, 1) := by decide +kernel
theorem dX7_hasRoundIn_17 : decode cX7_hasRoundIn 17 = .ok (.irem, 1) := by decide +kernel
theorem dX7_hasRoundIn_18 : decode cX7_hasRoundIn 18 = .ok (.ifCond .ne 7, 3) := by decide +kernel
theorem dX7_hasRoundIn_21 : decode cX7_hasRoundIn 21 = .ok (.iconst 2, 1) := by decide +kernel
theorem dX7_hasRoundIn_22 : decode cX7_hasRoundIn 22 = .ok (.goto 4, 3) := by decide +kernel
theorem dX7_hasRoundIn_25 : decode cX7_hasRoundIn 25 = .ok (.iconst 1, 1) := by decide +kernel
theorem dX7_hasRoundIn_26 : decode cX7_hasRoundIn 26 = .ok (.istore_n 3, 1) := by decide +kernel
theorem dX7_hasRoundIn_27 : decode cX7_hasRoundIn 27 = .ok (.aload_n 0, 1) := by decide +kernel
theorem dX7_hasRoundIn_28 : decode cX7_hasRoundIn 28 = .ok (.getfield 15, 3) := by decide +kernel
theorem dX7_hasRoundIn_31 : decode cX7_hasRoundIn 31 = .ok (.iload_n 1, 1) := by decide +kernel
theorem dX7_hasRoundIn_32 : decode cX7_hasRoundIn 32 = .ok (.iaload, 1) := by decide +kernel
theorem dX7_hasRoundIn_33 : decode cX7_hasRoundIn 33 = .ok (.iload_n 3, 1) := by decide +kernel
theorem dX7_hasRoundIn_34 : decode cX7_hasRoundIn 34 = .ok (.if_icmp .eq 13, 3) := by decide +kernel
theorem dX7_hasRoundIn_37 : decode cX7_hasRoundIn 37 = .ok (.aload_n 0, 1) := by decide +kernel
theorem dX7_hasRoundIn_38 : decode cX7_hasRoundIn 38 = .ok (.getfield 15, 3) := by decide +kernel
theorem dX7_hasRoundIn_41 : decode cX7_hasRoundIn 41 = .ok (.iload_n 1, 1) := by decide +kernel
theorem dX7_hasRoundIn_42 : decode cX7_hasRoundIn 42 = .ok (.iaload, 1) := by decide +kernel
theorem dX7_hasRoundIn_43 : decode cX7_hasRoundIn 43 = .ok (.iconst 3, 1) := by decide +kernel
theorem dX7_hasRoundIn_44 : decode cX7_hasRoundIn 44 = .ok (.if_icmp .ne 7, 3) := by decide +kernel
theorem dX7_hasRoundIn_47 : decode cX7_hasRoundIn 47 = .ok (.iconst 1, 1) := by decide +kernel
theorem dX7_hasRoundIn_48 : decode cX7_hasRoundIn 48 = .ok (.goto 4, 3) := by decide +kernel
theorem dX7_hasRoundIn_51 : decode cX7_hasRoundIn 51 = .ok (.iconst 0, 1) := by decide +kernel
theorem dX7_hasRoundIn_52 : decode cX7_hasRoundIn 52 = .ok (.ireturn, 1) := by decide +kernel
theorem dX7_weekdayOf_0 : decode cX7_weekdayOf 0 = .ok (.iload_n 1, 1) := by decide +kernel
theorem dX7_weekdayOf_1 : decode cX7_weekdayOf 1 = .ok (.ifCond .lt 21, 3) := by decide +kernel
theorem dX7_weekdayOf_4 : decode cX7_weekdayOf 4 = .ok (.iload_n 1, 1) := by decide +kernel
theorem dX7_weekdayOf_5 : decode cX7_weekdayOf 5 = .ok (.aload_n 0, 1) := by decide +kernel
theorem dX7_weekdayOf_6 : decode cX7_weekdayOf 6 = .ok (.getfield 9, 3) := by decide +kernel
theorem dX7_weekdayOf_9 : decode cX7_weekdayOf 9 = .ok (.arraylength, 1) := by decide +kernel
theorem dX7_weekdayOf_10 : decode cX7_weekdayOf 10 = .ok (.if_icmp .ge 12, 3) := by decide +kernel
theorem dX7_weekdayOf_13 : decode cX7_weekdayOf 13 = .ok (.aload_n 0, 1) := by decide +kernel
theorem dX7_weekdayOf_14 : decode cX7_weekdayOf 14 = .ok (.getfield 9, 3) := by decide +kernel
theorem dX7_weekdayOf_17 : decode cX7_weekdayOf 17 = .ok (.iload_n 1, 1) := by decide +kernel
theorem dX7_weekdayOf_18 : decode cX7_weekdayOf 18 = .ok (.iaload, 1) := by decide +kernel
theorem dX7_weekdayOf_19 : decode cX7_weekdayOf 19 = .ok (.goto 4, 3) := by decide +kernel
theorem dX7_weekdayOf_22 : decode cX7_weekdayOf 22 = .ok (.iconst 0, 1) := by decide +kernel
theorem dX7_weekdayOf_23 : decode cX7_weekdayOf 23 = .ok (.ireturn, 1) := by decide +kernel
theorem dX8_init_0 : decode cX8_init 0 = .ok (.aload_n 0, 1) := by decide +kernel
theorem dX8_init_1 : decode cX8_init 1 = .ok (.invokespecial 3, 3) := by decide +kernel
theorem dX8_init_4 : decode cX8_init 4 = .ok (.aload_n 0, 1) := by decide +kernel
theorem dX8_init_5 : decode cX8_init 5 = .ok (.iconst 5, 1) := by decide +kernel
theorem dX8_init_6 : decode cX8_init 6 = .ok (.newarray .int, 2) := by decide +kernel
theorem dX8_init_8 : decode cX8_init 8 = .ok (.putfield 9, 3) := by decide +kernel
theorem dX8_init_11 : decode cX8_init 11 = .ok (.aload_n 0, 1) := by decide +kernel
theorem dX8_init_12 : decode cX8_init 12 = .ok (.iconst 5, 1) := by decide +kernel
theorem dX8_init_13 : decode cX8_init 13 = .ok (.newarray .int, 2) := by decide +kernel
theorem dX8_init_15 : decode cX8_init 15 = .ok (.putfield 15, 3) := by decide +kernel
theorem dX8_init_18 : decode cX8_init 18 = .ok (.return_, 1) := by decide +kernel
theorem dX8_set_0 : decode cX8_set 0 = .ok (.iload_n 1, 1) := by decide +kernel
theorem dX8_set_1 : decode cX8_set 1 = .ok (.ifCond .lt 35, 3) := by decide +kernel
theorem dX8_set_4 : decode cX8_set 4 = .ok (.iload_n 1, 1) := by decide +kernel
theorem dX8_set_5 : decode cX8_set 5 = .ok (.aload_n 0, 1) := by decide +kernel
theorem dX8_set_6 : decode cX8_set 6 = .ok (.getfield 9, 3) := by decide +kernel
theorem dX8_set_9 : decode cX8_set 9 = .ok (.arraylength, 1) := by decide +kernel
theorem dX8_set_10 : decode cX8_set 10 = .ok (.if_icmp .ge 26, 3) := by decide +kernel
theorem dX8_set_13 : decode cX8_set 13 = .ok (.iload_n 1, 1) := by decide +kernel
theorem dX8_set_14 : decode cX8_set 14 = .ok (.aload_n 0, 1) := by decide +kernel
theorem dX8_set_15 : decode cX8_set 15 = .ok (.getfield 15, 3) := by decide +kernel
theorem dX8_set_18 : decode cX8_set 18 = .ok (.arraylength, 1) := by decide +kernel
theorem dX8_set_19 : decode cX8_set 19 = .ok (.if_icmp .ge 17, 3) := by decide +kernel
theorem dX8_set_22 : decode cX8_set 22 = .ok (.aload_n 0, 1) := by decide +kernel
theorem dX8_set_23 : decode cX8_set 23 = .ok (.getfield 9, 3) := by decide +kernel
theorem dX8_set_26 : decode cX8_set 26 = .ok (.iload_n 1, 1) := by decide +kernel
theorem dX8_set_27 : decode cX8_set 27 = .ok (.iload_n 2, 1) := by decide +kernel
theorem dX8_set_28 : decode cX8_set 28 = .ok (.iastore, 1) := by decide +kernel
theorem dX8_set_29 : decode cX8_set 29 = .ok (.aload_n 0, 1) := by decide +kernel
theorem dX8_set_30 : decode cX8_set 30 = .ok (.getfield 15, 3) := by decide +kernel
theorem dX8_set_33 : decode cX8_set 33 = .ok (.iload_n 1, 1) := by decide +kernel
theorem dX8_set_34 : decode cX8_set 34 = .ok (.iload_n 3, 1) := by decide +kernel
theorem dX8_set_35 : decode cX8_set 35 = .ok (.iastore, 1) := by decide +kernel
theorem dX8_set_36 : decode cX8_set 36 = .ok (.return_, 1) := by decide +kernel
theorem dX8_liftOf_0 : decode cX8_liftOf 0 = .ok (.iload_n 1, 1) := by decide +kernel
theorem dX8_liftOf_1 : decode cX8_liftOf 1 = .ok (.ifCond .lt 21, 3) := by decide +kernel
theorem dX8_liftOf_4 : decode cX8_liftOf 4 = .ok (.iload_n 1, 1) := by decide +kernel
theorem dX8_liftOf_5 : decode cX8_liftOf 5 = .ok (.aload_n 0, 1) := by decide +kernel
theorem dX8_liftOf_6 : decode cX8_liftOf 6 = .ok (.getfield 9, 3) := by decide +kernel
theorem dX8_liftOf_9 : decode cX8_liftOf 9 = .ok (.arraylength, 1) := by decide +kernel
theorem dX8_liftOf_10 : decode cX8_liftOf 10 = .ok (.if_icmp .ge 12, 3) := by decide +kernel
theorem dX8_liftOf_13 : decode cX8_liftOf 13 = .ok (.aload_n 0, 1) := by decide +kernel
theorem dX8_liftOf_14 : decode cX8_liftOf 14 = .ok (.getfield 9, 3) := by decide +kernel
theorem dX8_liftOf_17 : decode cX8_liftOf 17 = .ok (.iload_n 1, 1) := by decide +kernel
theorem dX8_liftOf_18 : decode cX8_liftOf 18 = .ok (.iaload, 1) := by decide +kernel
theorem dX8_liftOf_19 : decode cX8_liftOf 19 = .ok (.goto 4, 3) := by decide +kernel
theorem dX8_liftOf_22 : decode cX8_liftOf 22 = .ok (.iconst 0, 1) := by decide +kernel
theorem dX8_liftOf_23 : decode cX8_liftOf 23 = .ok (.ireturn, 1) := by decide +kernel
theorem dX8_rateOf_0 : decode cX8_rateOf 0 = .ok (.iload_n 1, 1) := by decide +kernel
theorem dX8_rateOf_1 : decode cX8_rateOf 1 = .ok (.ifCond .lt 21, 3) := by decide +kernel
theorem dX8_rateOf_4 : decode cX8_rateOf 4 = .ok (.iload_n 1, 1) := by decide +kernel
theorem dX8_rateOf_5 : decode cX8_rateOf 5 = .ok (.aload_n 0, 1) := by decide +kernel
theorem dX8_rateOf_6 : decode cX8_rateOf 6 = .ok (.getfield 15, 3) := by decide +kernel
theorem dX8_rateOf_9 : decode cX8_rateOf 9 = .ok (.arraylength, 1) := by decide +kernel
theorem dX8_rateOf_10 : decode cX8_rateOf 10 = .ok (.if_icmp .ge 12, 3) := by decide +kernel
theorem dX8_rateOf_13 : decode cX8_rateOf 13 = .ok (.aload_n 0, 1) := by decide +kernel
theorem dX8_rateOf_14 : decode cX8_rateOf 14 = .ok (.getfield 15, 3) := by decide +kernel
theorem dX8_rateOf_17 : decode cX8_rateOf 17 = .ok (.iload_n 1, 1) := by decide +kernel
theorem dX8_rateOf_18 : decode cX8_rateOf 18 = .ok (.iaload, 1) := by decide +kernel
theorem dX8_rateOf_19 : decode cX8_rateOf 19 = .ok (.goto 4, 3) := by decide +kernel
theorem dX8_rateOf_22 : decode cX8_rateOf 22 = .ok (.iconst 0, 1) := by decide +kernel
theorem dX8_rateOf_23 : decode cX8_rateOf 23 = .ok (.ireturn, 1) := by decide +kernel
theorem dX9_init_0 : decode cX9_init 0 = .ok (.aload_n 0, 1) := by decide +kernel
theorem dX9_init_1 : decode cX9_init 1 = .ok (.invokespecial 3, 3) := by decide +kernel
theorem dX9_init_4 : decode cX9_init 4 = .ok (.aload_n 0, 1) := by decide +kernel
theorem dX9_init_5 : decode cX9_init 5 = .ok (.iconst 0, 1) := by decide +kernel
theorem dX9_init_6 : decode cX9_init 6 = .ok (.putfield 9, 3) := by decide +kernel
theorem dX9_init_9 : decode cX9_init 9 = .ok (.aload_n 0, 1) := by decide +kernel
theorem dX9_init_10 : decode cX9_init 10 = .ok (.aconst_null, 1) := by decide +kernel
theorem dX9_init_11 : decode cX9_init 11 = .ok (.putfield 15, 3) := by decide +kernel
theorem dX9_init_14 : decode cX9_init 14 = .ok (.aload_n 0, 1) := by decide +kernel
theorem dX9_init_15 : decode cX9_init 15 = .ok (.iconst 0, 1) := by decide +kernel
theorem dX9_init_16 : decode cX9_init 16 = .ok (.putfield 19, 3) := by decide +kernel
theorem dX9_init_19 : decode cX9_init 19 = .ok (.aload_n 0, 1) := by decide +kernel
theorem dX9_init_20 : decode cX9_init 20 = .ok (.iconst 0, 1) := by decide +kernel
theorem dX9_init_21 : decode cX9_init 21 = .ok (.putfield 22, 3) := by decide +kernel
theorem dX9_init_24 : decode cX9_init 24 = .ok (.aload_n 0, 1) := by decide +kernel
theorem dX9_init_25 : decode cX9_init 25 = .ok (.iconst 0, 1) := by decide +kernel
theorem dX9_init_26 : decode cX9_init 26 = .ok (.putfield 25, 3) := by decide +kernel
theorem dX9_init_29 : decode cX9_init 29 = .ok (.aload_n 0, 1) := by decide +kernel
theorem dX9_init_30 : decode cX9_init 30 = .ok (.iconst (-1), 1) := by decide +kernel
theorem dX9_init_31 : decode cX9_init 31 = .ok (.putfield 28, 3) := by decide +kernel
theorem dX9_init_34 : decode cX9_init 34 = .ok (.aload_n 0, 1) := by decide +kernel
theorem dX9_init_35 : decode cX9_init 35 = .ok (.iconst 0, 1) := by decide +kernel
theorem dX9_init_36 : decode cX9_init 36 = .ok (.putfield 31, 3) := by decide +kernel
theorem dX9_init_39 : decode cX9_init 39 = .ok (.aload_n 0, 1) := by decide +kernel
theorem dX9_init_40 : decode cX9_init 40 = .ok (.iconst 0, 1) := by decide +kernel
theorem dX9_init_41 : decode cX9_init 41 = .ok (.putfield 35, 3) := by decide +kernel
theorem dX9_init_44 : decode cX9_init 44 = .ok (.aload_n 0, 1) := by decide +kernel
theorem dX9_init_45 : decode cX9_init 45 = .ok (.iconst 0, 1) := by decide +kernel
theorem dX9_init_46 : decode cX9_init 46 = .ok (.putfield 38, 3) := by decide +kernel
theorem dX9_init_49 : decode cX9_init 49 = .ok (.aload_n 0, 1) := by decide +kernel
theorem dX9_init_50 : decode cX9_init 50 = .ok (.iconst 0, 1) := by decide +kernel
theorem dX9_init_51 : decode cX9_init 51 = .ok (.putfield 41, 3) := by decide +kernel
theorem dX9_init_54 : decode cX9_init 54 = .ok (.aload_n 0, 1) := by decide +kernel
theorem dX9_init_55 : decode cX9_init 55 = .ok (.iload_n 1, 1) := by decide +kernel
theorem dX9_init_56 : decode cX9_init 56 = .ok (.putfield 44, 3) := by decide +kernel
theorem dX9_init_59 : decode cX9_init 59 = .ok (.aload_n 0, 1) := by decide +kernel
theorem dX9_init_60 : decode cX9_init 60 = .ok (.aload_n 2, 1) := by decide +kernel
theorem dX9_init_61 : decode cX9_init 61 = .ok (.putfield 47, 3) := by decide +kernel
theorem dX9_init_64 : decode cX9_init 64 = .ok (.aload_n 0, 1) := by decide +kernel
theorem dX9_init_65 : decode cX9_init 65 = .ok (.iload_n 3, 1) := by decide +kernel
theorem dX9_init_66 : decode cX9_init 66 = .ok (.putfield 51, 3) := by decide +kernel
theorem dX9_init_69 : decode cX9_init 69 = .ok (.return_, 1) := by decide +kernel
set_option maxRecDepth 20000 in
theorem ggX10_init_Jx4a65c_init_da8c8 : GoodIn wsX10_init wsJx4a65c_init_da8c8 := goodIn_r _ [29, 30, 31, 32, 33, 34, 35, 36, 37, 38, 39, 40, 41, 2, 3, 58, 59, 60] (by decide +kernel) (by decide +kernel)
set_option maxRecDepth 20000 in
theorem gX10_init_Jx4a65c_init_da8c8 : GoodIn wsX10_init (wsJx4a65c_init_da8c8) := ggX10_init_Jx4a65c_init_da8c8
set_option maxRecDepth 20000 in
theorem ggX10_init_X1_init : GoodIn wsX10_init wsX1_init := goodIn_r _ [43, 44, 2, 3, 45, 46, 72] (by decide +kernel) (by decide +kernel)
set_option maxRecDepth 20000 in
theorem gX10_init_X1_init_n30 : GoodIn wsX10_init (wsX1_init) := ggX10_init_X1_init
set_option maxRecDepth 20000 in
theorem ggX10_init_X8_init : GoodIn wsX10_init wsX8_init := goodIn_r _ [48, 49, 2, 3, 50, 51, 52, 73, 74] (by decide +kernel) (by decide +kernel)
set_option maxRecDepth 20000 in
theorem gX10_init_X8_init_n37 : GoodIn wsX10_init (wsX8_init) := ggX10_init_X8_init
set_option maxRecDepth 20000 in
theorem ggX10_init_X4_init : GoodIn wsX10_init wsX4_init := goodIn_r _ [54, 55, 2, 3, 50, 56, 57, 75, 76] (by decide +kernel) (by decide +kernel)
set_option maxRecDepth 20000 in
theorem gX10_init_X4_init_n44 : GoodIn wsX10_init (wsX4_init) := ggX10_init_X4_init
theorem dX10_init_0 : decode cX10_init 0 = .ok (.aload_n 0, 1) := by decide +kernel
theorem dX10_init_1 : decode cX10_init 1 = .ok (.invokespecial 1, 3) := by decide +kernel
theorem dX10_init_4 : decode cX10_init 4 = .ok (.aload_n 0, 1) := by decide +kernel
theorem dX10_init_5 : decode cX10_init 5 = .ok (.new 7, 3) := by decide +kernel
theorem dX10_init_8 : decode cX10_init 8 = .ok (.dup, 1) := by decide +kernel
theorem dX10_init_9 : decode cX10_init 9 = .ok (.invokespecial 9, 3) := by decide +kernel
theorem dX10_init_12 : decode cX10_init 12 = .ok (.putfield 10, 3) := by decide +kernel
theorem dX10_init_15 : decode cX10_init 15 = .ok (.aload_n 0, 1) := by decide +kernel
theorem dX10_init_16 : decode cX10_init 16 = .ok (.new 7, 3) := by decide +kernel
theorem dX10_init_19 : decode cX10_init 19 = .ok (.dup, 1) := by decide +kernel
theorem dX10_init_20 : decode cX10_init 20 = .ok (.invokespecial 9, 3) := by decide +kernel
theorem dX10_init_23 : decode cX10_init 23 = .ok (.putfield 16, 3) := by decide +kernel
theorem dX10_init_26 : decode cX10_init 26 = .ok (.aload_n 0, 1) := by decide +kernel
theorem dX10_init_27 : decode cX10_init 27 = .ok (.new 7, 3) := by decide +kernel
theorem dX10_init_30 : decode cX10_init 30 = .ok (.dup, 1) := by decide +kernel
theorem dX10_init_31 : decode cX10_init 31 = .ok (.invokespecial 9, 3) := by decide +kernel
theorem dX10_init_34 : decode cX10_init 34 = .ok (.putfield 19, 3) := by decide +kernel
theorem dX10_init_37 : decode cX10_init 37 = .ok (.aload_n 0, 1) := by decide +kernel
theorem dX10_init_38 : decode cX10_init 38 = .ok (.new 7, 3) := by decide +kernel
theorem dX10_init_41 : decode cX10_init 41 = .ok (.dup, 1) := by decide +kernel
theorem dX10_init_42 : decode cX10_init 42 = .ok (.invokespecial 9, 3) := by decide +kernel
theorem dX10_init_45 : decode cX10_init 45 = .ok (.putfield 22, 3) := by decide +kernel
theorem dX10_init_48 : decode cX10_init 48 = .ok (.aload_n 0, 1) := by decide +kernel
theorem dX10_init_49 : decode cX10_init 49 = .ok (.new 7, 3) := by decide +kernel
theorem dX10_init_52 : decode cX10_init 52 = .ok (.dup, 1) := by decide +kernel
theorem dX10_init_53 : decode cX10_init 53 = .ok (.invokespecial 9, 3) := by decide +kernel
theorem dX10_init_56 : decode cX10_init 56 = .ok (.putfield 25, 3) := by decide +kernel
theorem dX10_init_59 : decode cX10_init 59 = .ok (.aload_n 0, 1) := by decide +kernel
theorem dX10_init_60 : decode cX10_init 60 = .ok (.new 28, 3) := by decide +kernel
theorem dX10_init_63 : decode cX10_init 63 = .ok (.dup, 1) := by decide +kernel
theorem dX10_init_64 : decode cX10_init 64 = .ok (.invokespecial 30, 3) := by decide +kernel
theorem dX10_init_67 : decode cX10_init 67 = .ok (.putfield 31, 3) := by decide +kernel
theorem dX10_init_70 : decode cX10_init 70 = .ok (.aload_n 0, 1) := by decide +kernel
theorem dX10_init_71 : decode cX10_init 71 = .ok (.new 35, 3) := by decide +kernel
theorem dX10_init_74 : decode cX10_init 74 = .ok (.dup, 1) := by decide +kernel
theorem dX10_init_75 : decode cX10_init 75 = .ok (.invokespecial 37, 3) := by decide +kernel
theorem dX10_init_78 : decode cX10_init 78 = .ok (.putfield 38, 3) := by decide +kernel
theorem dX10_init_81 : decode cX10_init 81 = .ok (.aload_n 0, 1) := by decide +kernel
theorem dX10_init_82 : decode cX10_init 82 = .ok (.new 42, 3) := by decide +kernel
theorem dX10_init_85 : decode cX10_init 85 = .ok (.dup, 1) := by decide +kernel
theorem dX10_init_86 : decode cX10_init 86 = .ok (.invokespecial 44, 3) := by decide +kernel
theorem dX10_init_89 : decode cX10_init 89 = .ok (.putfield 45, 3) := by decide +kernel
theorem dX10_init_92 : decode cX10_init 92 = .ok (.aload_n 0, 1) := by decide +kernel
theorem dX10_init_93 : decode cX10_init 93 = .ok (.iconst 0, 1) := by decide +kernel
theorem dX10_init_94 : decode cX10_init 94 = .ok (.putfield 49, 3) := by decide +kernel
theorem dX10_init_97 : decode cX10_init 97 = .ok (.aload_n 0, 1) := by decide +kernel
theorem dX10_init_98 : decode cX10_init 98 = .ok (.iconst 0, 1) := by decide +kernel
theorem dX10_init_99 : decode cX10_init 99 = .ok (.putfield 53, 3) := by decide +kernel
theorem dX10_init_102 : decode cX10_init 102 = .ok (.aload_n 0, 1) := by decide +kernel
theorem dX10_init_103 : decode cX10_init 103 = .ok (.iconst 0, 1) := by decide +kernel
theorem dX10_init_104 : decode cX10_init 104 = .ok (.putfield 56, 3) := by decide +kernel
theorem dX10_init_107 : decode cX10_init 107 = .ok (.return_, 1) := by decide +kernel
set_option maxRecDepth 20000 in
theorem ggX10_street_Jx4a65c_size_8abf5 : GoodIn wsX10_street wsJx4a65c_size_8abf5 := goodIn_r _ [9, 10, 92, 93, 94] (by decide +kernel) (by decide +kernel)
set_option maxRecDepth 20000 in
theorem gX10_street_Jx4a65c_size_8abf5 : GoodIn wsX10_street (wsV RX10 59 RJx4a65c yJx4a65c_size_8abf5 wsJx4a65c_size_8abf5) := goodIn_app (goodIn_of _ (by decide +kernel)) ggX10_street_Jx4a65c_size_8abf5
set_option maxRecDepth 20000 in
theorem ggX10_street_X10_requireRoom : GoodIn wsX10_street wsX10_requireRoom := goodIn_ca (goodIn_r _ [14, 15, 16] (by decide +kernel) (by decide +kernel)) (goodIn_sub (fun _ h => List.mem_cons_of_mem _ (List.mem_append_right _ h)) (by decide +kernel))
set_option maxRecDepth 20000 in
theorem gX10_street_X10_requireRoom : GoodIn wsX10_street (va_wsS RX10 63 yX10_requireRoom wsX10_requireRoom) := goodIn_app (goodIn_of _ (by decide +kernel)) ggX10_street_X10_requireRoom
set_option maxRecDepth 20000 in
theorem ggX10_street_X7_init : GoodIn wsX10_street wsX7_init := goodIn_r _ [18, 19, 20, 21, 22, 23, 24, 90, 91] (by decide +kernel) (by decide +kernel)
set_option maxRecDepth 20000 in
theorem gX10_street_X7_init_n69 : GoodIn wsX10_street (wsX7_init) := ggX10_street_X7_init
set_option maxRecDepth 20000 in
theorem ggX10_street_Jx4a65c_add_9ea2d : GoodIn wsX10_street wsJx4a65c_add_9ea2d := goodIn_r _ [28, 29, 30, 31, 10, 32, 33, 34, 8, 35, 36, 37, 38, 39, 40, 41, 42, 43, 44, 45, 46, 47, 48, 49, 50, 51, 52, 53, 54, 55, 56, 57, 58, 59, 60, 61, 62, 63, 64, 65, 66, 67, 68, 69, 70, 71, 72, 73, 74, 75, 76, 77, 78, 92, 93, 94] (by decide +kernel) (by decide +kernel)
set_option maxRecDepth 20000 in
theorem gX10_street_Jx4a65c_add_9ea2d : GoodIn wsX10_street (wsV RX10 70 RJx4a65c yJx4a65c_add_9ea2d wsJx4a65c_add_9ea2d) := goodIn_app (goodIn_of _ (by decide +kernel)) ggX10_street_Jx4a65c_add_9ea2d
theorem dX10_street_0 : decode cX10_street 0 = .ok (.aload_n 0, 1) := by decide +kernel
theorem dX10_street_1 : decode cX10_street 1 = .ok (.getfield 10, 3) := by decide +kernel
theorem dX10_street_4 : decode cX10_street 4 = .ok (.invokevirtual 59, 3) := by decide +kernel
theorem dX10_street_7 : decode cX10_street 7 = .ok (.bipush 10, 2) := by decide +kernel
theorem dX10_street_9 : decode cX10_street 9 = .ok (.if_icmp .ge 7, 3) := by decide +kernel
theorem dX10_street_12 : decode cX10_street 12 = .ok (.iconst 1, 1) := by decide +kernel
theorem dX10_street_13 : decode cX10_street 13 = .ok (.goto 4, 3) := by decide +kernel
theorem dX10_street_16 : decode cX10_street 16 = .ok (.iconst 0, 1) := by decide +kernel
theorem dX10_street_17 : decode cX10_street 17 = .ok (.invokestatic 63, 3) := by decide +kernel
theorem dX10_street_20 : decode cX10_street 20 = .ok (.aload_n 0, 1) := by decide +kernel
theorem dX10_street_21 : decode cX10_street 21 = .ok (.getfield 10, 3) := by decide +kernel
theorem dX10_street_24 : decode cX10_street 24 = .ok (.new 67, 3) := by decide +kernel
theorem dX10_street_27 : decode cX10_street 27 = .ok (.dup, 1) := by decide +kernel
theorem dX10_street_28 : decode cX10_street 28 = .ok (.invokespecial 69, 3) := by decide +kernel
theorem dX10_street_31 : decode cX10_street 31 = .ok (.invokevirtual 70, 3) := by decide +kernel
theorem dX10_street_34 : decode cX10_street 34 = .ok (.pop, 1) := by decide +kernel
theorem dX10_street_35 : decode cX10_street 35 = .ok (.aload_n 0, 1) := by decide +kernel
theorem dX10_street_36 : decode cX10_street 36 = .ok (.getfield 10, 3) := by decide +kernel
theorem dX10_street_39 : decode cX10_street 39 = .ok (.invokevirtual 59, 3) := by decide +kernel
theorem dX10_street_42 : decode cX10_street 42 = .ok (.iconst 1, 1) := by decide +kernel
theorem dX10_street_43 : decode cX10_street 43 = .ok (.isub, 1) := by decide +kernel
theorem dX10_street_44 : decode cX10_street 44 = .ok (.ireturn, 1) := by decide +kernel
set_option maxRecDepth 20000 in
theorem ggX10_round_X10_streetAt : GoodIn wsX10_round wsX10_streetAt := goodIn_ca (goodIn_r _ [7, 8, 9, 10, 11, 12, 13, 14, 15, 16, 17, 6, 18, 19, 20, 21, 22, 23, 24, 25, 26, 27, 28, 29, 30, 31, 32, 33, 34, 35, 36, 37, 57, 58, 59, 60, 61, 62, 63, 64, 65, 66, 67, 68, 69, 70] (by decide +kernel) (by decide +kernel)) (goodIn_sub (fun _ h => List.mem_cons_of_mem _ (List.mem_append_left _ (List.mem_append_right _ h))) (by decide +kernel))
set_option maxRecDepth 20000 in
theorem gX10_round_X10_streetAt : GoodIn wsX10_round (wsV RX10 74 RX10 yX10_streetAt wsX10_streetAt) := goodIn_app (goodIn_of _ (by decide +kernel)) ggX10_round_X10_streetAt
set_option maxRecDepth 20000 in
theorem ggX10_round_X10_isGroup : GoodIn wsX10_round wsX10_isGroup := goodIn_r _ [40, 41, 42, 43, 6, 44] (by decide +kernel) (by decide +kernel)
set_option maxRecDepth 20000 in
theorem gX10_round_X10_isGroup : GoodIn wsX10_round (va_wsS RX10 78 yX10_isGroup wsX10_isGroup) := goodIn_app (goodIn_of _ (by decide +kernel)) ggX10_round_X10_isGroup
set_option maxRecDepth 20000 in
theorem ggX10_round_X10_require : GoodIn wsX10_round wsX10_require := goodIn_ca (goodIn_r _ [47, 48, 49] (by decide +kernel) (by decide +kernel)) (goodIn_sub (fun _ h => List.mem_cons_of_mem _ (List.mem_append_right _ h)) (by decide +kernel))
set_option maxRecDepth 20000 in
theorem gX10_round_X10_require : GoodIn wsX10_round (va_wsS RX10 82 yX10_require wsX10_require) := goodIn_app (goodIn_of _ (by decide +kernel)) ggX10_round_X10_require
set_option maxRecDepth 20000 in
theorem ggX10_round_X10_isWithin : GoodIn wsX10_round wsX10_isWithin := goodIn_r _ [44] (by decide +kernel) (by decide +kernel)
set_option maxRecDepth 20000 in
theorem gX10_round_X10_isWithin : GoodIn wsX10_round (va_wsS RX10 87 yX10_isWithin wsX10_isWithin) := goodIn_app (goodIn_of _ (by decide +kernel)) ggX10_round_X10_isWithin
set_option maxRecDepth 20000 in
theorem ggX10_round_X7_setRound : GoodIn wsX10_round wsX7_setRound := goodIn_r _ [54, 55, 56, 71, 72] (by decide +kernel) (by decide +kernel)
set_option maxRecDepth 20000 in
theorem gX10_round_X7_setRound : GoodIn wsX10_round (wsV RX10 93 RX7 yX7_setRound wsX7_setRound) := goodIn_app (goodIn_of _ (by decide +kernel)) ggX10_round_X7_setRound
theorem dX10_round_0 : decode cX10_round 0 = .ok (.aload_n 0, 1) := by decide +kernel
theorem dX10_round_1 : decode cX10_round 1 = .ok (.iload_n 1, 1) := by decide +kernel
theorem dX10_round_2 : decode cX10_round 2 = .ok (.invokevirtual 74, 3) := by decide +kernel
theorem dX10_round_5 : decode cX10_round 5 = .ok (.astore 5, 2) := by decide +kernel
theorem dX10_round_7 : decode cX10_round 7 = .ok (.iload_n 2, 1) := by decide +kernel
theorem dX10_round_8 : decode cX10_round 8 = .ok (.invokestatic 78, 3) := by decide +kernel
theorem dX10_round_11 : decode cX10_round 11 = .ok (.invokestatic 82, 3) := by decide +kernel
theorem dX10_round_14 : decode cX10_round 14 = .ok (.iload_n 3, 1) := by decide +kernel
theorem dX10_round_15 : decode cX10_round 15 = .ok (.i2l, 1) := by decide +kernel
theorem dX10_round_16 : decode cX10_round 16 = .ok (.lconst 0, 1) := by decide +kernel
theorem dX10_round_17 : decode cX10_round 17 = .ok (.ldc2_w 85, 3) := by decide +kernel
theorem dX10_round_20 : decode cX10_round 20 = .ok (.invokestatic 87, 3) := by decide +kernel
theorem dX10_round_23 : decode cX10_round 23 = .ok (.invokestatic 82, 3) := by decide +kernel
theorem dX10_round_26 : decode cX10_round 26 = .ok (.iload 4, 2) := by decide +kernel
theorem dX10_round_28 : decode cX10_round 28 = .ok (.i2l, 1) := by decide +kernel
theorem dX10_round_29 : decode cX10_round 29 = .ok (.lconst 0, 1) := by decide +kernel
theorem dX10_round_30 : decode cX10_round 30 = .ok (.ldc2_w 91, 3) := by decide +kernel
theorem dX10_round_33 : decode cX10_round 33 = .ok (.invokestatic 87, 3) := by decide +kernel
theorem dX10_round_36 : decode cX10_round 36 = .ok (.invokestatic 82, 3) := by decide +kernel
theorem dX10_round_39 : decode cX10_round 39 = .ok (.aload 5, 2) := by decide +kernel
theorem dX10_round_41 : decode cX10_round 41 = .ok (.iload_n 2, 1) := by decide +kernel
theorem dX10_round_42 : decode cX10_round 42 = .ok (.iload_n 3, 1) := by decide +kernel
theorem dX10_round_43 : decode cX10_round 43 = .ok (.iload 4, 2) := by decide +kernel
theorem dX10_round_45 : decode cX10_round 45 = .ok (.invokevirtual 93, 3) := by decide +kernel
theorem dX10_round_48 : decode cX10_round 48 = .ok (.return_, 1) := by decide +kernel
set_option maxRecDepth 20000 in
theorem ggX10_holiday_X10_isWithin : GoodIn wsX10_holiday wsX10_isWithin := goodIn_r _ [7] (by decide +kernel) (by decide +kernel)
set_option maxRecDepth 20000 in
theorem gX10_holiday_X10_isWithin : GoodIn wsX10_holiday (va_wsS RX10 87 yX10_isWithin wsX10_isWithin) := goodIn_app (goodIn_of _ (by decide +kernel)) ggX10_holiday_X10_isWithin
set_option maxRecDepth 20000 in
theorem ggX10_holiday_X10_require : GoodIn wsX10_holiday wsX10_require := goodIn_ca (goodIn_r _ [10, 11, 12] (by decide +kernel) (by decide +kernel)) (goodIn_sub (fun _ h => List.mem_cons_of_mem _ (List.mem_append_right _ h)) (by decide +kernel))
set_option maxRecDepth 20000 in
theorem gX10_holiday_X10_require : GoodIn wsX10_holiday (va_wsS RX10 82 yX10_require wsX10_require) := goodIn_app (goodIn_of _ (by decide +kernel)) ggX10_holiday_X10_require
set_option maxRecDepth 20000 in
theorem ggX10_holiday_X1_set : GoodIn wsX10_holiday wsX1_set := goodIn_r _ [17, 18, 30] (by decide +kernel) (by decide +kernel)
set_option maxRecDepth 20000 in
theorem gX10_holiday_X1_set : GoodIn wsX10_holiday (wsV RX10 99 RX1 yX1_set wsX1_set) := goodIn_app (goodIn_of _ (by decide +kernel)) ggX10_holiday_X1_set
theorem dX10_holiday_0 : decode cX10_holiday 0 = .ok (.iload_n 1, 1) := by decide +kernel
theorem dX10_holiday_1 : decode cX10_holiday 1 = .ok (.i2l, 1) := by decide +kernel
theorem dX10_holiday_2 : decode cX10_holiday 2 = .ok (.aload_n 0, 1) := by decide +kernel
theorem dX10_holiday_3 : decode cX10_holiday 3 = .ok (.getfield 49, 3) := by decide +kernel
theorem dX10_holiday_6 : decode cX10_holiday 6 = .ok (.i2l, 1) := by decide +kernel
theorem dX10_holiday_7 : decode cX10_holiday 7 = .ok (.ldc2_w 97, 3) := by decide +kernel
theorem dX10_holiday_10 : decode cX10_holiday 10 = .ok (.invokestatic 87, 3) := by decide +kernel
theorem dX10_holiday_13 : decode cX10_holiday 13 = .ok (.invokestatic 82, 3) := by decide +kernel
theorem dX10_holiday_16 : decode cX10_holiday 16 = .ok (.aload_n 0, 1) := by decide +kernel
theorem dX10_holiday_17 : decode cX10_holiday 17 = .ok (.getfield 31, 3) := by decide +kernel
theorem dX10_holiday_20 : decode cX10_holiday 20 = .ok (.iload_n 1, 1) := by decide +kernel
theorem dX10_holiday_21 : decode cX10_holiday 21 = .ok (.iload_n 2, 1) := by decide +kernel
theorem dX10_holiday_22 : decode cX10_holiday 22 = .ok (.invokevirtual 99, 3) := by decide +kernel
theorem dX10_holiday_25 : decode cX10_holiday 25 = .ok (.ireturn, 1) := by decide +kernel
set_option maxRecDepth 20000 in
theorem ggX10_when_X10_streetAt : GoodIn wsX10_when wsX10_streetAt := goodIn_ca (goodIn_r _ [6, 7, 8, 9, 10, 11, 12, 13, 14, 15, 16, 5, 17, 18, 19, 20, 21, 22, 23, 24, 25, 26, 27, 28, 29, 30, 31, 32, 33, 34, 35, 36, 75, 76, 77, 78, 79, 80, 81, 82, 83, 84, 85, 86, 87, 88] (by decide +kernel) (by decide +kernel)) (goodIn_sub (fun _ h => List.mem_cons_of_mem _ (List.mem_append_left _ (List.mem_append_right _ h))) (by decide +kernel))
set_option maxRecDepth 20000 in
theorem gX10_when_X10_streetAt : GoodIn wsX10_when (wsV RX10 74 RX10 yX10_streetAt wsX10_streetAt) := goodIn_app (goodIn_of _ (by decide +kernel)) ggX10_when_X10_streetAt
set_option maxRecDepth 20000 in
theorem ggX10_when_X10_isGroup : GoodIn wsX10_when wsX10_isGroup := goodIn_r _ [39, 40, 41, 42, 5, 43] (by decide +kernel) (by decide +kernel)
set_option maxRecDepth 20000 in
theorem gX10_when_X10_isGroup : GoodIn wsX10_when (va_wsS RX10 78 yX10_isGroup wsX10_isGroup) := goodIn_app (goodIn_of _ (by decide +kernel)) ggX10_when_X10_isGroup
set_option maxRecDepth 20000 in
theorem ggX10_when_X10_require : GoodIn wsX10_when wsX10_require := goodIn_ca (goodIn_r _ [46, 47, 48] (by decide +kernel) (by decide +kernel)) (goodIn_sub (fun _ h => List.mem_cons_of_mem _ (List.mem_append_right _ h)) (by decide +kernel))
set_option maxRecDepth 20000 in
theorem gX10_when_X10_require : GoodIn wsX10_when (va_wsS RX10 82 yX10_require wsX10_require) := goodIn_app (goodIn_of _ (by decide +kernel)) ggX10_when_X10_require
set_option maxRecDepth 20000 in
theorem ggX10_when_X10_isWithin : GoodIn wsX10_when wsX10_isWithin := goodIn_r _ [43] (by decide +kernel) (by decide +kernel)
set_option maxRecDepth 20000 in
theorem gX10_when_X10_isWithin : GoodIn wsX10_when (va_wsS RX10 87 yX10_isWithin wsX10_isWithin) := goodIn_app (goodIn_of _ (by decide +kernel)) ggX10_when_X10_isWithin
set_option maxRecDepth 20000 in
theorem ggX10_when_X10_roundDay : GoodIn wsX10_when wsX10_roundDay := goodIn_r _ [52, 53, 54, 55, 56, 57, 58, 59, 60, 61, 62, 63, 64, 65, 66, 67, 68, 69, 70, 71, 72, 73, 74, 75, 76, 77, 78, 79, 80, 81, 82, 83, 84, 85, 89, 90, 91] (by decide +kernel) (by decide +kernel)
set_option maxRecDepth 20000 in
theorem gX10_when_X10_roundDay : GoodIn wsX10_when (wsV RX10 105 RX10 yX10_roundDay wsX10_roundDay) := goodIn_app (goodIn_of _ (by decide +kernel)) ggX10_when_X10_roundDay
theorem dX10_when_0 : decode cX10_when 0 = .ok (.aload_n 0, 1) := by decide +kernel
theorem dX10_when_1 : decode cX10_when 1 = .ok (.iload_n 1, 1) := by decide +kernel
theorem dX10_when_2 : decode cX10_when 2 = .ok (.invokevirtual 74, 3) := by decide +kernel
theorem dX10_when_5 : decode cX10_when 5 = .ok (.astore 4, 2) := by decide +kernel
theorem dX10_when_7 : decode cX10_when 7 = .ok (.iload_n 2, 1) := by decide +kernel
theorem dX10_when_8 : decode cX10_when 8 = .ok (.invokestatic 78, 3) := by decide +kernel
theorem dX10_when_11 : decode cX10_when 11 = .ok (.invokestatic 82, 3) := by decide +kernel
theorem dX10_when_14 : decode cX10_when 14 = .ok (.iload_n 3, 1) := by decide +kernel
theorem dX10_when_15 : decode cX10_when 15 = .ok (.i2l, 1) := by decide +kernel
theorem dX10_when_16 : decode cX10_when 16 = .ok (.lconst 0, 1) := by decide +kernel
theorem dX10_when_17 : decode cX10_when 17 = .ok (.ldc2_w 103, 3) := by decide +kernel
theorem dX10_when_20 : decode cX10_when 20 = .ok (.invokestatic 87, 3) := by decide +kernel
theorem dX10_when_23 : decode cX10_when 23 = .ok (.invokestatic 82, 3) := by decide +kernel
theorem dX10_when_26 : decode cX10_when 26 = .ok (.aload_n 0, 1) := by decide +kernel
theorem dX10_when_27 : decode cX10_when 27 = .ok (.aload 4, 2) := by decide +kernel
theorem dX10_when_29 : decode cX10_when 29 = .ok (.iload_n 2, 1) := by decide +kernel
theorem dX10_when_30 : decode cX10_when 30 = .ok (.iload_n 3, 1) := by decide +kernel
theorem dX10_when_31 : decode cX10_when 31 = .ok (.invokevirtual 105, 3) := by decide +kernel
theorem dX10_when_34 : decode cX10_when 34 = .ok (.ireturn, 1) := by decide +kernel
set_option maxRecDepth 20000 in
theorem ggX10_house_X10_streetAt : GoodIn wsX10_house wsX10_streetAt := goodIn_ca (goodIn_r _ [10, 11, 12, 13, 14, 15, 16, 17, 18, 19, 20, 9, 21, 22, 23, 24, 25, 26, 27, 28, 29, 30, 31, 32, 33, 34, 35, 36, 37, 38, 39, 40, 115, 116, 117, 118, 119, 120, 121, 122, 123, 124, 125, 136, 137, 138] (by decide +kernel) (by decide +kernel)) (goodIn_sub (fun _ h => List.mem_cons_of_mem _ (List.mem_append_left _ (List.mem_append_right _ h))) (by decide +kernel))
set_option maxRecDepth 20000 in
theorem gX10_house_X10_streetAt : GoodIn wsX10_house (wsV RX10 74 RX10 yX10_streetAt wsX10_streetAt) := goodIn_app (goodIn_of _ (by decide +kernel)) ggX10_house_X10_streetAt
set_option maxRecDepth 20000 in
theorem ggX10_house_Jx4a65c_size_8abf5 : GoodIn wsX10_house wsJx4a65c_size_8abf5 := goodIn_r _ [17, 18, 136, 137, 138] (by decide +kernel) (by decide +kernel)
set_option maxRecDepth 20000 in
theorem gX10_house_Jx4a65c_size_8abf5 : GoodIn wsX10_house (wsV RX10 59 RJx4a65c yJx4a65c_size_8abf5 wsJx4a65c_size_8abf5) := goodIn_app (goodIn_of _ (by decide +kernel)) ggX10_house_Jx4a65c_size_8abf5
set_option maxRecDepth 20000 in
theorem ggX10_house_X10_requireRoom : GoodIn wsX10_house wsX10_requireRoom := goodIn_ca (goodIn_r _ [43, 44, 45] (by decide +kernel) (by decide +kernel)) (goodIn_sub (fun _ h => List.mem_cons_of_mem _ (List.mem_append_right _ h)) (by decide +kernel))
set_option maxRecDepth 20000 in
theorem gX10_house_X10_requireRoom : GoodIn wsX10_house (va_wsS RX10 63 yX10_requireRoom wsX10_requireRoom) := goodIn_app (goodIn_of _ (by decide +kernel)) ggX10_house_X10_requireRoom
set_option maxRecDepth 20000 in
theorem ggX10_house_X3_init : GoodIn wsX10_house wsX3_init := goodIn_r _ [48, 49, 50, 51, 52, 53, 54, 55, 56, 57, 58, 59, 60, 61, 126, 127, 128, 129, 130, 131, 132, 133, 134, 135] (by decide +kernel) (by decide +kernel)
set_option maxRecDepth 20000 in
theorem gX10_house_X3_init : GoodIn wsX10_house (wsX3_init) := ggX10_house_X3_init
set_option maxRecDepth 20000 in
theorem ggX10_house_Jx4a65c_add_9ea2d : GoodIn wsX10_house wsJx4a65c_add_9ea2d := goodIn_r _ [65, 66, 67, 40, 18, 68, 69, 70, 16, 71, 72, 73, 74, 75, 76, 77, 78, 79, 80, 81, 82, 83, 84, 85, 86, 87, 88, 89, 90, 91, 92, 93, 94, 95, 96, 97, 98, 99, 100, 101, 102, 103, 104, 105, 106, 107, 108, 109, 110, 111, 112, 113, 114, 136, 137, 138] (by decide +kernel) (by decide +kernel)
set_option maxRecDepth 20000 in
theorem gX10_house_Jx4a65c_add_9ea2d : GoodIn wsX10_house (wsV RX10 70 RJx4a65c yJx4a65c_add_9ea2d wsJx4a65c_add_9ea2d) := goodIn_app (goodIn_of _ (by decide +kernel)) ggX10_house_Jx4a65c_add_9ea2d
theorem dX10_house_0 : decode cX10_house 0 = .ok (.aload_n 0, 1) := by decide +kernel
theorem dX10_house_1 : decode cX10_house 1 = .ok (.iload_n 1, 1) := by decide +kernel
theorem dX10_house_2 : decode cX10_house 2 = .ok (.invokevirtual 74, 3) := by decide +kernel
theorem dX10_house_5 : decode cX10_house 5 = .ok (.astore_n 2, 1) := by decide +kernel
theorem dX10_house_6 : decode cX10_house 6 = .ok (.aload_n 0, 1) := by decide +kernel
theorem dX10_house_7 : decode cX10_house 7 = .ok (.getfield 16, 3) := by decide +kernel
theorem dX10_house_10 : decode cX10_house 10 = .ok (.invokevirtual 59, 3) := by decide +kernel
theorem dX10_house_13 : decode cX10_house 13 = .ok (.bipush 60, 2) := by decide +kernel
theorem dX10_house_15 : decode cX10_house 15 = .ok (.if_icmp .ge 7, 3) := by decide +kernel
theorem dX10_house_18 : decode cX10_house 18 = .ok (.iconst 1, 1) := by decide +kernel
theorem dX10_house_19 : decode cX10_house 19 = .ok (.goto 4, 3) := by decide +kernel
theorem dX10_house_22 : decode cX10_house 22 = .ok (.iconst 0, 1) := by decide +kernel
theorem dX10_house_23 : decode cX10_house 23 = .ok (.invokestatic 63, 3) := by decide +kernel
theorem dX10_house_26 : decode cX10_house 26 = .ok (.new 109, 3) := by decide +kernel
theorem dX10_house_29 : decode cX10_house 29 = .ok (.dup, 1) := by decide +kernel
theorem dX10_house_30 : decode cX10_house 30 = .ok (.aload_n 0, 1) := by decide +kernel
theorem dX10_house_31 : decode cX10_house 31 = .ok (.getfield 16, 3) := by decide +kernel
theorem dX10_house_34 : decode cX10_house 34 = .ok (.invokevirtual 59, 3) := by decide +kernel
theorem dX10_house_37 : decode cX10_house 37 = .ok (.iload_n 1, 1) := by decide +kernel
theorem dX10_house_38 : decode cX10_house 38 = .ok (.aload_n 2, 1) := by decide +kernel
theorem dX10_house_39 : decode cX10_house 39 = .ok (.invokespecial 111, 3) := by decide +kernel
theorem dX10_house_42 : decode cX10_house 42 = .ok (.astore_n 3, 1) := by decide +kernel
theorem dX10_house_43 : decode cX10_house 43 = .ok (.aload_n 0, 1) := by decide +kernel
theorem dX10_house_44 : decode cX10_house 44 = .ok (.getfield 16, 3) := by decide +kernel
theorem dX10_house_47 : decode cX10_house 47 = .ok (.aload_n 3, 1) := by decide +kernel
theorem dX10_house_48 : decode cX10_house 48 = .ok (.invokevirtual 70, 3) := by decide +kernel
theorem dX10_house_51 : decode cX10_house 51 = .ok (.pop, 1) := by decide +kernel
theorem dX10_house_52 : decode cX10_house 52 = .ok (.aload_n 3, 1) := by decide +kernel
theorem dX10_house_53 : decode cX10_house 53 = .ok (.getfield 114, 3) := by decide +kernel
theorem dX10_house_56 : decode cX10_house 56 = .ok (.ireturn, 1) := by decide +kernel
set_option maxRecDepth 20000 in
theorem ggX10_bin_X10_houseAt : GoodIn wsX10_bin wsX10_houseAt := goodIn_ca (goodIn_r _ [16, 17, 18, 19, 20, 21, 22, 23, 24, 25, 26, 15, 27, 28, 29, 30, 31, 32, 33, 34, 35, 36, 37, 38, 39, 40, 41, 42, 43, 44, 45, 46, 147, 148, 149, 150, 151, 152, 153, 154, 155, 156, 157, 167, 168, 169] (by decide +kernel) (by decide +kernel)) (goodIn_sub (fun _ h => List.mem_cons_of_mem _ (List.mem_append_left _ (List.mem_append_left _ (List.mem_append_right _ h)))) (by decide +kernel))
set_option maxRecDepth 20000 in
theorem gX10_bin_X10_houseAt : GoodIn wsX10_bin (wsV RX10 117 RX10 yX10_houseAt wsX10_houseAt) := goodIn_app (goodIn_of _ (by decide +kernel)) ggX10_bin_X10_houseAt
set_option maxRecDepth 20000 in
theorem ggX10_bin_X10_isWithin : GoodIn wsX10_bin wsX10_isWithin := goodIn_r _ [49] (by decide +kernel) (by decide +kernel)
set_option maxRecDepth 20000 in
theorem gX10_bin_X10_isWithin : GoodIn wsX10_bin (va_wsS RX10 87 yX10_isWithin wsX10_isWithin) := goodIn_app (goodIn_of _ (by decide +kernel)) ggX10_bin_X10_isWithin
set_option maxRecDepth 20000 in
theorem ggX10_bin_X10_require : GoodIn wsX10_bin wsX10_require := goodIn_ca (goodIn_r _ [52, 53, 54] (by decide +kernel) (by decide +kernel)) (goodIn_sub (fun _ h => List.mem_cons_of_mem _ (List.mem_append_left _ (List.mem_append_right _ h))) (by decide +kernel))
set_option maxRecDepth 20000 in
theorem gX10_bin_X10_require : GoodIn wsX10_bin (va_wsS RX10 82 yX10_require wsX10_require) := goodIn_app (goodIn_of _ (by decide +kernel)) ggX10_bin_X10_require
set_option maxRecDepth 20000 in
theorem ggX10_bin_Jx4a65c_size_8abf5 : GoodIn wsX10_bin wsJx4a65c_size_8abf5 := goodIn_r _ [23, 24, 167, 168, 169] (by decide +kernel) (by decide +kernel)
set_option maxRecDepth 20000 in
theorem gX10_bin_Jx4a65c_size_8abf5 : GoodIn wsX10_bin (wsV RX10 59 RJx4a65c yJx4a65c_size_8abf5 wsJx4a65c_size_8abf5) := goodIn_app (goodIn_of _ (by decide +kernel)) ggX10_bin_Jx4a65c_size_8abf5
set_option maxRecDepth 20000 in
theorem ggX10_bin_X10_requireRoom : GoodIn wsX10_bin wsX10_requireRoom := goodIn_ca (goodIn_r _ [57, 58, 59] (by decide +kernel) (by decide +kernel)) (goodIn_sub (fun _ h => List.mem_cons_of_mem _ (List.mem_append_right _ h)) (by decide +kernel))
set_option maxRecDepth 20000 in
theorem gX10_bin_X10_requireRoom : GoodIn wsX10_bin (va_wsS RX10 63 yX10_requireRoom wsX10_requireRoom) := goodIn_app (goodIn_of _ (by decide +kernel)) ggX10_bin_X10_requireRoom
set_option maxRecDepth 20000 in
theorem ggX10_bin_X0_init : GoodIn wsX10_bin wsX0_init := goodIn_r _ [62, 63, 64, 65, 66, 67, 22, 68, 69, 70, 71, 72, 73, 74, 75, 76, 77, 78, 46, 79, 80, 81, 82, 83, 84, 85, 86, 87, 88, 167, 168, 169, 158, 159, 160, 161, 162, 163, 164] (by decide +kernel) (by decide +kernel)
set_option maxRecDepth 20000 in
theorem gX10_bin_X0_init : GoodIn wsX10_bin (wsX0_init) := ggX10_bin_X0_init
set_option maxRecDepth 20000 in
theorem ggX10_bin_X5_init : GoodIn wsX10_bin wsX5_init := goodIn_r _ [91, 92, 64, 65, 93, 94, 165, 166] (by decide +kernel) (by decide +kernel)
set_option maxRecDepth 20000 in
theorem gX10_bin_X5_init : GoodIn wsX10_bin (wsX5_init) := ggX10_bin_X5_init
set_option maxRecDepth 20000 in
theorem ggX10_bin_Jx4a65c_add_9ea2d : GoodIn wsX10_bin wsJx4a65c_add_9ea2d := goodIn_r _ [98, 99, 100, 46, 24, 101, 102, 103, 22, 104, 105, 106, 107, 108, 109, 110, 111, 112, 78, 113, 114, 115, 116, 117, 118, 119, 120, 121, 122, 123, 124, 125, 126, 127, 128, 129, 130, 131, 132, 133, 134, 135, 136, 137, 138, 139, 140, 141, 142, 143, 144, 145, 146, 167, 168, 169] (by decide +kernel) (by decide +kernel)
set_option maxRecDepth 20000 in
theorem gX10_bin_Jx4a65c_add_9ea2d : GoodIn wsX10_bin (wsV RX10 70 RJx4a65c yJx4a65c_add_9ea2d wsJx4a65c_add_9ea2d) := goodIn_app (goodIn_of _ (by decide +kernel)) ggX10_bin_Jx4a65c_add_9ea2d
theorem dX10_bin_0 : decode cX10_bin 0 = .ok (.aload_n 0, 1) := by decide +kernel
theorem dX10_bin_1 : decode cX10_bin 1 = .ok (.iload_n 2, 1) := by decide +kernel
theorem dX10_bin_2 : decode cX10_bin 2 = .ok (.invokevirtual 117, 3) := by decide +kernel
theorem dX10_bin_5 : decode cX10_bin 5 = .ok (.astore 4, 2) := by decide +kernel
theorem dX10_bin_7 : decode cX10_bin 7 = .ok (.iload_n 1, 1) := by decide +kernel
theorem dX10_bin_8 : decode cX10_bin 8 = .ok (.i2l, 1) := by decide +kernel
theorem dX10_bin_9 : decode cX10_bin 9 = .ok (.lconst 0, 1) := by decide +kernel
theorem dX10_bin_10 : decode cX10_bin 10 = .ok (.ldc2_w 85, 3) := by decide +kernel
theorem dX10_bin_13 : decode cX10_bin 13 = .ok (.invokestatic 87, 3) := by decide +kernel
theorem dX10_bin_16 : decode cX10_bin 16 = .ok (.invokestatic 82, 3) := by decide +kernel
theorem dX10_bin_19 : decode cX10_bin 19 = .ok (.aload_n 0, 1) := by decide +kernel
theorem dX10_bin_20 : decode cX10_bin 20 = .ok (.getfield 19, 3) := by decide +kernel
theorem dX10_bin_23 : decode cX10_bin 23 = .ok (.invokevirtual 59, 3) := by decide +kernel
theorem dX10_bin_26 : decode cX10_bin 26 = .ok (.bipush 120, 2) := by decide +kernel
theorem dX10_bin_28 : decode cX10_bin 28 = .ok (.if_icmp .ge 7, 3) := by decide +kernel
theorem dX10_bin_31 : decode cX10_bin 31 = .ok (.iconst 1, 1) := by decide +kernel
theorem dX10_bin_32 : decode cX10_bin 32 = .ok (.goto 4, 3) := by decide +kernel
theorem dX10_bin_35 : decode cX10_bin 35 = .ok (.iconst 0, 1) := by decide +kernel
theorem dX10_bin_36 : decode cX10_bin 36 = .ok (.invokestatic 63, 3) := by decide +kernel
theorem dX10_bin_39 : decode cX10_bin 39 = .ok (.new 121, 3) := by decide +kernel
theorem dX10_bin_42 : decode cX10_bin 42 = .ok (.dup, 1) := by decide +kernel
theorem dX10_bin_43 : decode cX10_bin 43 = .ok (.aload_n 0, 1) := by decide +kernel
theorem dX10_bin_44 : decode cX10_bin 44 = .ok (.getfield 19, 3) := by decide +kernel
theorem dX10_bin_47 : decode cX10_bin 47 = .ok (.invokevirtual 59, 3) := by decide +kernel
theorem dX10_bin_50 : decode cX10_bin 50 = .ok (.iload_n 1, 1) := by decide +kernel
theorem dX10_bin_51 : decode cX10_bin 51 = .ok (.iload_n 3, 1) := by decide +kernel
theorem dX10_bin_52 : decode cX10_bin 52 = .ok (.invokespecial 123, 3) := by decide +kernel
theorem dX10_bin_55 : decode cX10_bin 55 = .ok (.astore 5, 2) := by decide +kernel
theorem dX10_bin_57 : decode cX10_bin 57 = .ok (.aload 5, 2) := by decide +kernel
theorem dX10_bin_59 : decode cX10_bin 59 = .ok (.getfield 125, 3) := by decide +kernel
theorem dX10_bin_62 : decode cX10_bin 62 = .ok (.new 128, 3) := by decide +kernel
theorem dX10_bin_65 : decode cX10_bin 65 = .ok (.dup, 1) := by decide +kernel
theorem dX10_bin_66 : decode cX10_bin 66 = .ok (.aload 4, 2) := by decide +kernel
theorem dX10_bin_68 : decode cX10_bin 68 = .ok (.aload_n 0, 1) := by decide +kernel
theorem dX10_bin_69 : decode cX10_bin 69 = .ok (.getfield 49, 3) := by decide +kernel
theorem dX10_bin_72 : decode cX10_bin 72 = .ok (.invokespecial 130, 3) := by decide +kernel
theorem dX10_bin_75 : decode cX10_bin 75 = .ok (.invokevirtual 70, 3) := by decide +kernel
theorem dX10_bin_78 : decode cX10_bin 78 = .ok (.pop, 1) := by decide +kernel
theorem dX10_bin_79 : decode cX10_bin 79 = .ok (.aload_n 0, 1) := by decide +kernel
theorem dX10_bin_80 : decode cX10_bin 80 = .ok (.getfield 19, 3) := by decide +kernel
theorem dX10_bin_83 : decode cX10_bin 83 = .ok (.aload 5, 2) := by decide +kernel
theorem dX10_bin_85 : decode cX10_bin 85 = .ok (.invokevirtual 70, 3) := by decide +kernel
theorem dX10_bin_88 : decode cX10_bin 88 = .ok (.pop, 1) := by decide +kernel
theorem dX10_bin_89 : decode cX10_bin 89 = .ok (.aload 5, 2) := by decide +kernel
theorem dX10_bin_91 : decode cX10_bin 91 = .ok (.getfield 133, 3) := by decide +kernel
theorem dX10_bin_94 : decode cX10_bin 94 = .ok (.ireturn, 1) := by decide +kernel
set_option maxRecDepth 20000 in
theorem ggX10_mark_X10_binAt : GoodIn wsX10_mark wsX10_binAt := goodIn_ca (goodIn_r _ [7, 8, 9, 10, 11, 12, 13, 14, 15, 16, 17, 6, 18, 19, 20, 21, 22, 23, 24, 25, 26, 27, 28, 29, 30, 31, 32, 33, 34, 35, 36, 37, 56, 57, 58, 59, 60, 61, 62, 63, 64, 65, 66, 67, 68, 69] (by decide +kernel) (by decide +kernel)) (goodIn_sub (fun _ h => List.mem_cons_of_mem _ (List.mem_append_right _ h)) (by decide +kernel))
set_option maxRecDepth 20000 in
theorem gX10_mark_X10_binAt : GoodIn wsX10_mark (wsV RX10 134 RX10 yX10_binAt wsX10_binAt) := goodIn_app (goodIn_of _ (by decide +kernel)) ggX10_mark_X10_binAt
set_option maxRecDepth 20000 in
theorem ggX10_mark_X10_countBearing : GoodIn wsX10_mark wsX10_countBearing := goodIn_r _ [41, 8, 9, 10, 11, 12, 13, 14, 15, 21, 22, 23, 24, 25, 26, 27, 28, 29, 30, 31, 32, 33, 34, 35, 36, 37, 42, 43, 44, 45, 46, 47, 48, 56, 57, 58, 59, 60, 61, 62, 63, 64, 65, 66, 67, 68, 69, 49, 50, 51, 52, 53, 54, 55] (by decide +kernel) (by decide +kernel)
set_option maxRecDepth 20000 in
theorem gX10_mark_X10_countBearing : GoodIn wsX10_mark (wsV RX10 145 RX10 yX10_countBearing wsX10_countBearing) := goodIn_app (goodIn_of _ (by decide +kernel)) ggX10_mark_X10_countBearing
theorem dX10_mark_0 : decode cX10_mark 0 = .ok (.aload_n 0, 1) := by decide +kernel
theorem dX10_mark_1 : decode cX10_mark 1 = .ok (.iload_n 1, 1) := by decide +kernel
theorem dX10_mark_2 : decode cX10_mark 2 = .ok (.invokevirtual 134, 3) := by decide +kernel
theorem dX10_mark_5 : decode cX10_mark 5 = .ok (.astore_n 3, 1) := by decide +kernel
theorem dX10_mark_6 : decode cX10_mark 6 = .ok (.aload_n 3, 1) := by decide +kernel
theorem dX10_mark_7 : decode cX10_mark 7 = .ok (.iconst 1, 1) := by decide +kernel
theorem dX10_mark_8 : decode cX10_mark 8 = .ok (.putfield 138, 3) := by decide +kernel
theorem dX10_mark_11 : decode cX10_mark 11 = .ok (.aload_n 3, 1) := by decide +kernel
theorem dX10_mark_12 : decode cX10_mark 12 = .ok (.iload_n 2, 1) := by decide +kernel
theorem dX10_mark_13 : decode cX10_mark 13 = .ok (.putfield 142, 3) := by decide +kernel
theorem dX10_mark_16 : decode cX10_mark 16 = .ok (.aload_n 0, 1) := by decide +kernel
theorem dX10_mark_17 : decode cX10_mark 17 = .ok (.iload_n 2, 1) := by decide +kernel
theorem dX10_mark_18 : decode cX10_mark 18 = .ok (.invokevirtual 145, 3) := by decide +kernel
theorem dX10_mark_21 : decode cX10_mark 21 = .ok (.ireturn, 1) := by decide +kernel
set_option maxRecDepth 20000 in
theorem ggX10_lost_X10_binAt : GoodIn wsX10_lost wsX10_binAt := goodIn_ca (goodIn_r _ [6, 7, 8, 9, 10, 11, 12, 13, 14, 15, 16, 5, 17, 18, 19, 20, 21, 22, 23, 24, 25, 26, 27, 28, 29, 30, 31, 32, 33, 34, 35, 36, 44, 45, 46, 47, 48, 49, 50, 51, 52, 53, 54, 55, 56, 57] (by decide +kernel) (by decide +kernel)) (goodIn_sub (fun _ h => List.mem_cons_of_mem _ (List.mem_append_right _ h)) (by decide +kernel))
set_option maxRecDepth 20000 in
theorem gX10_lost_X10_binAt : GoodIn wsX10_lost (wsV RX10 134 RX10 yX10_binAt wsX10_binAt) := goodIn_app (goodIn_of _ (by decide +kernel)) ggX10_lost_X10_binAt
theorem dX10_lost_0 : decode cX10_lost 0 = .ok (.aload_n 0, 1) := by decide +kernel
theorem dX10_lost_1 : decode cX10_lost 1 = .ok (.iload_n 1, 1) := by decide +kernel
theorem dX10_lost_2 : decode cX10_lost 2 = .ok (.invokevirtual 134, 3) := by decide +kernel
theorem dX10_lost_5 : decode cX10_lost 5 = .ok (.astore_n 2, 1) := by decide +kernel
theorem dX10_lost_6 : decode cX10_lost 6 = .ok (.aload_n 2, 1) := by decide +kernel
theorem dX10_lost_7 : decode cX10_lost 7 = .ok (.getfield 138, 3) := by decide +kernel
theorem dX10_lost_10 : decode cX10_lost 10 = .ok (.istore_n 3, 1) := by decide +kernel
theorem dX10_lost_11 : decode cX10_lost 11 = .ok (.aload_n 2, 1) := by decide +kernel
theorem dX10_lost_12 : decode cX10_lost 12 = .ok (.iconst 0, 1) := by decide +kernel
theorem dX10_lost_13 : decode cX10_lost 13 = .ok (.putfield 138, 3) := by decide +kernel
theorem dX10_lost_16 : decode cX10_lost 16 = .ok (.iload_n 3, 1) := by decide +kernel
theorem dX10_lost_17 : decode cX10_lost 17 = .ok (.ireturn, 1) := by decide +kernel
set_option maxRecDepth 20000 in
theorem ggX10_move_X10_binAt : GoodIn wsX10_move wsX10_binAt := goodIn_ca (goodIn_r _ [15, 16, 17, 18, 19, 20, 21, 22, 23, 24, 25, 14, 26, 27, 28, 29, 30, 31, 32, 33, 34, 35, 36, 37, 38, 39, 40, 41, 42, 43, 44, 45, 137, 138, 139, 140, 141, 142, 143, 144, 145, 146, 147, 157, 158, 159] (by decide +kernel) (by decide +kernel)) (goodIn_sub (fun _ h => List.mem_cons_of_mem _ (List.mem_append_left _ (List.mem_append_left _ (List.mem_append_right _ h)))) (by decide +kernel))
set_option maxRecDepth 20000 in
theorem gX10_move_X10_binAt : GoodIn wsX10_move (wsV RX10 134 RX10 yX10_binAt wsX10_binAt) := goodIn_app (goodIn_of _ (by decide +kernel)) ggX10_move_X10_binAt
set_option maxRecDepth 20000 in
theorem ggX10_move_X10_houseAt : GoodIn wsX10_move wsX10_houseAt := goodIn_ca (goodIn_r _ [49, 50, 51, 18, 19, 20, 21, 22, 23, 24, 25, 14, 26, 27, 28, 29, 30, 31, 32, 33, 34, 35, 36, 37, 38, 39, 40, 41, 42, 43, 44, 45, 137, 138, 139, 140, 141, 142, 143, 144, 145, 146, 147, 157, 158, 159] (by decide +kernel) (by decide +kernel)) (goodIn_sub (fun _ h => List.mem_cons_of_mem _ (List.mem_append_left _ (List.mem_append_left _ (List.mem_append_right _ h)))) (by decide +kernel))
set_option maxRecDepth 20000 in
theorem gX10_move_X10_houseAt : GoodIn wsX10_move (wsV RX10 117 RX10 yX10_houseAt wsX10_houseAt) := goodIn_app (goodIn_of _ (by decide +kernel)) ggX10_move_X10_houseAt
set_option maxRecDepth 20000 in
theorem ggX10_move_X0_latestMoveDay : GoodIn wsX10_move wsX0_latestMoveDay := goodIn_r _ [56, 57, 58, 59, 60, 61, 62, 21, 63, 23, 64, 19, 20, 22, 65, 30, 31, 32, 33, 34, 35, 36, 37, 38, 39, 40, 41, 42, 43, 44, 45, 148, 149, 150, 151, 152, 153, 154, 155, 156, 157, 158, 159] (by decide +kernel) (by decide +kernel)
set_option maxRecDepth 20000 in
theorem gX10_move_X0_latestMoveDay : GoodIn wsX10_move (wsV RX10 149 RX0 yX0_latestMoveDay wsX0_latestMoveDay) := goodIn_app (goodIn_of _ (by decide +kernel)) ggX10_move_X0_latestMoveDay
set_option maxRecDepth 20000 in
theorem ggX10_move_X10_isWithin : GoodIn wsX10_move wsX10_isWithin := goodIn_r _ [68] (by decide +kernel) (by decide +kernel)
set_option maxRecDepth 20000 in
theorem gX10_move_X10_isWithin : GoodIn wsX10_move (va_wsS RX10 87 yX10_isWithin wsX10_isWithin) := goodIn_app (goodIn_of _ (by decide +kernel)) ggX10_move_X10_isWithin
set_option maxRecDepth 20000 in
theorem ggX10_move_X10_require : GoodIn wsX10_move wsX10_require := goodIn_ca (goodIn_r _ [71, 72, 73] (by decide +kernel) (by decide +kernel)) (goodIn_sub (fun _ h => List.mem_cons_of_mem _ (List.mem_append_left _ (List.mem_append_right _ h))) (by decide +kernel))
set_option maxRecDepth 20000 in
theorem gX10_move_X10_require : GoodIn wsX10_move (va_wsS RX10 82 yX10_require wsX10_require) := goodIn_app (goodIn_of _ (by decide +kernel)) ggX10_move_X10_require
set_option maxRecDepth 20000 in
theorem ggX10_move_Jx4a65c_size_8abf5 : GoodIn wsX10_move wsJx4a65c_size_8abf5 := goodIn_r _ [22, 23, 157, 158, 159] (by decide +kernel) (by decide +kernel)
set_option maxRecDepth 20000 in
theorem gX10_move_Jx4a65c_size_8abf5 : GoodIn wsX10_move (wsV RX10 59 RJx4a65c yJx4a65c_size_8abf5 wsJx4a65c_size_8abf5) := goodIn_app (goodIn_of _ (by decide +kernel)) ggX10_move_Jx4a65c_size_8abf5
set_option maxRecDepth 20000 in
theorem ggX10_move_X10_requireRoom : GoodIn wsX10_move wsX10_requireRoom := goodIn_ca (goodIn_r _ [76, 77, 78] (by decide +kernel) (by decide +kernel)) (goodIn_sub (fun _ h => List.mem_cons_of_mem _ (List.mem_append_right _ h)) (by decide +kernel))
set_option maxRecDepth 20000 in
theorem gX10_move_X10_requireRoom : GoodIn wsX10_move (va_wsS RX10 63 yX10_requireRoom wsX10_requireRoom) := goodIn_app (goodIn_of _ (by decide +kernel)) ggX10_move_X10_requireRoom
set_option maxRecDepth 20000 in
theorem ggX10_move_X5_init : GoodIn wsX10_move wsX5_init := goodIn_r _ [81, 82, 83, 84, 85, 86, 155, 156] (by decide +kernel) (by decide +kernel)
set_option maxRecDepth 20000 in
theorem gX10_move_X5_init : GoodIn wsX10_move (wsX5_init) := ggX10_move_X5_init
set_option maxRecDepth 20000 in
theorem ggX10_move_Jx4a65c_add_9ea2d : GoodIn wsX10_move wsJx4a65c_add_9ea2d := goodIn_r _ [90, 91, 92, 45, 23, 93, 94, 95, 21, 96, 97, 98, 99, 100, 101, 102, 103, 104, 105, 106, 3, 4, 5, 107, 108, 109, 110, 111, 112, 113, 114, 115, 116, 117, 118, 119, 120, 121, 122, 123, 124, 125, 126, 127, 128, 129, 130, 131, 132, 133, 134, 135, 136, 157, 158, 159] (by decide +kernel) (by decide +kernel)
set_option maxRecDepth 20000 in
theorem gX10_move_Jx4a65c_add_9ea2d : GoodIn wsX10_move (wsV RX10 70 RJx4a65c yJx4a65c_add_9ea2d wsJx4a65c_add_9ea2d) := goodIn_app (goodIn_of _ (by decide +kernel)) ggX10_move_Jx4a65c_add_9ea2d
theorem dX10_move_0 : decode cX10_move 0 = .ok (.aload_n 0, 1) := by decide +kernel
theorem dX10_move_1 : decode cX10_move 1 = .ok (.iload_n 1, 1) := by decide +kernel
theorem dX10_move_2 : decode cX10_move 2 = .ok (.invokevirtual 134, 3) := by decide +kernel
theorem dX10_move_5 : decode cX10_move 5 = .ok (.astore 4, 2) := by decide +kernel
theorem dX10_move_7 : decode cX10_move 7 = .ok (.aload_n 0, 1) := by decide +kernel
theorem dX10_move_8 : decode cX10_move 8 = .ok (.iload_n 2, 1) := by decide +kernel
theorem dX10_move_9 : decode cX10_move 9 = .ok (.invokevirtual 117, 3) := by decide +kernel
theorem dX10_move_12 : decode cX10_move 12 = .ok (.astore 5, 2) := by decide +kernel
theorem dX10_move_14 : decode cX10_move 14 = .ok (.iload_n 3, 1) := by decide +kernel
theorem dX10_move_15 : decode cX10_move 15 = .ok (.i2l, 1) := by decide +kernel
theorem dX10_move_16 : decode cX10_move 16 = .ok (.aload_n 0, 1) := by decide +kernel
theorem dX10_move_17 : decode cX10_move 17 = .ok (.getfield 49, 3) := by decide +kernel
theorem dX10_move_20 : decode cX10_move 20 = .ok (.aload 4, 2) := by decide +kernel
theorem dX10_move_22 : decode cX10_move 22 = .ok (.invokevirtual 149, 3) := by decide +kernel
theorem dX10_move_25 : decode cX10_move 25 = .ok (.invokestatic 152, 3) := by decide +kernel
theorem dX10_move_28 : decode cX10_move 28 = .ok (.i2l, 1) := by decide +kernel
theorem dX10_move_29 : decode cX10_move 29 = .ok (.ldc2_w 97, 3) := by decide +kernel
theorem dX10_move_32 : decode cX10_move 32 = .ok (.invokestatic 87, 3) := by decide +kernel
theorem dX10_move_35 : decode cX10_move 35 = .ok (.invokestatic 82, 3) := by decide +kernel
theorem dX10_move_38 : decode cX10_move 38 = .ok (.aload 4, 2) := by decide +kernel
theorem dX10_move_40 : decode cX10_move 40 = .ok (.getfield 125, 3) := by decide +kernel
theorem dX10_move_43 : decode cX10_move 43 = .ok (.invokevirtual 59, 3) := by decide +kernel
theorem dX10_move_46 : decode cX10_move 46 = .ok (.bipush 8, 2) := by decide +kernel
theorem dX10_move_48 : decode cX10_move 48 = .ok (.if_icmp .ge 7, 3) := by decide +kernel
theorem dX10_move_51 : decode cX10_move 51 = .ok (.iconst 1, 1) := by decide +kernel
theorem dX10_move_52 : decode cX10_move 52 = .ok (.goto 4, 3) := by decide +kernel
theorem dX10_move_55 : decode cX10_move 55 = .ok (.iconst 0, 1) := by decide +kernel
theorem dX10_move_56 : decode cX10_move 56 = .ok (.invokestatic 63, 3) := by decide +kernel
theorem dX10_move_59 : decode cX10_move 59 = .ok (.aload 4, 2) := by decide +kernel
theorem dX10_move_61 : decode cX10_move 61 = .ok (.getfield 125, 3) := by decide +kernel
theorem dX10_move_64 : decode cX10_move 64 = .ok (.new 128, 3) := by decide +kernel
theorem dX10_move_67 : decode cX10_move 67 = .ok (.dup, 1) := by decide +kernel
theorem dX10_move_68 : decode cX10_move 68 = .ok (.aload 5, 2) := by decide +kernel
theorem dX10_move_70 : decode cX10_move 70 = .ok (.iload_n 3, 1) := by decide +kernel
theorem dX10_move_71 : decode cX10_move 71 = .ok (.invokespecial 130, 3) := by decide +kernel
theorem dX10_move_74 : decode cX10_move 74 = .ok (.invokevirtual 70, 3) := by decide +kernel
theorem dX10_move_77 : decode cX10_move 77 = .ok (.pop, 1) := by decide +kernel
theorem dX10_move_78 : decode cX10_move 78 = .ok (.aload 4, 2) := by decide +kernel
theorem dX10_move_80 : decode cX10_move 80 = .ok (.getfield 125, 3) := by decide +kernel
theorem dX10_move_83 : decode cX10_move 83 = .ok (.invokevirtual 59, 3) := by decide +kernel
theorem dX10_move_86 : decode cX10_move 86 = .ok (.ireturn, 1) := by decide +kernel
set_option maxRecDepth 20000 in
theorem ggX10_part_X10_binAt : GoodIn wsX10_part wsX10_binAt := goodIn_ca (goodIn_r _ [17, 18, 19, 20, 21, 22, 23, 24, 25, 26, 27, 16, 28, 29, 30, 31, 32, 33, 34, 35, 36, 37, 38, 39, 40, 41, 42, 43, 44, 45, 46, 47, 147, 148, 149, 150, 151, 152, 153, 154, 155, 156, 157, 161, 162, 163] (by decide +kernel) (by decide +kernel)) (goodIn_sub (fun _ h => List.mem_cons_of_mem _ (List.mem_append_left _ (List.mem_append_left _ (List.mem_append_right _ h)))) (by decide +kernel))
set_option maxRecDepth 20000 in
theorem gX10_part_X10_binAt : GoodIn wsX10_part (wsV RX10 134 RX10 yX10_binAt wsX10_binAt) := goodIn_app (goodIn_of _ (by decide +kernel)) ggX10_part_X10_binAt
set_option maxRecDepth 20000 in
theorem ggX10_part_X10_houseAt : GoodIn wsX10_part wsX10_houseAt := goodIn_ca (goodIn_r _ [51, 52, 53, 20, 21, 22, 23, 24, 25, 26, 27, 16, 28, 29, 30, 31, 32, 33, 34, 35, 36, 37, 38, 39, 40, 41, 42, 43, 44, 45, 46, 47, 147, 148, 149, 150, 151, 152, 153, 154, 155, 156, 157, 161, 162, 163] (by decide +kernel) (by decide +kernel)) (goodIn_sub (fun _ h => List.mem_cons_of_mem _ (List.mem_append_left _ (List.mem_append_left _ (List.mem_append_right _ h)))) (by decide +kernel))
set_option maxRecDepth 20000 in
theorem gX10_part_X10_houseAt : GoodIn wsX10_part (wsV RX10 117 RX10 yX10_houseAt wsX10_houseAt) := goodIn_app (goodIn_of _ (by decide +kernel)) ggX10_part_X10_houseAt
set_option maxRecDepth 20000 in
theorem ggX10_part_X10_require : GoodIn wsX10_part wsX10_require := goodIn_ca (goodIn_r _ [56, 57, 58] (by decide +kernel) (by decide +kernel)) (goodIn_sub (fun _ h => List.mem_cons_of_mem _ (List.mem_append_left _ (List.mem_append_right _ h))) (by decide +kernel))
set_option maxRecDepth 20000 in
theorem gX10_part_X10_require : GoodIn wsX10_part (va_wsS RX10 82 yX10_require wsX10_require) := goodIn_app (goodIn_of _ (by decide +kernel)) ggX10_part_X10_require
set_option maxRecDepth 20000 in
theorem ggX10_part_X10_isWithin : GoodIn wsX10_part wsX10_isWithin := goodIn_r _ [61] (by decide +kernel) (by decide +kernel)
set_option maxRecDepth 20000 in
theorem gX10_part_X10_isWithin : GoodIn wsX10_part (va_wsS RX10 87 yX10_isWithin wsX10_isWithin) := goodIn_app (goodIn_of _ (by decide +kernel)) ggX10_part_X10_isWithin
set_option maxRecDepth 20000 in
theorem ggX10_part_X0_latestPartDay : GoodIn wsX10_part wsX0_latestPartDay := goodIn_r _ [66, 67, 68, 69, 70, 71, 72, 23, 73, 25, 74, 21, 22, 24, 75, 32, 33, 34, 35, 36, 37, 38, 39, 40, 41, 42, 43, 44, 45, 46, 47, 140, 141, 142, 143, 144, 145, 146, 158, 159, 160, 161, 162, 163] (by decide +kernel) (by decide +kernel)
set_option maxRecDepth 20000 in
theorem gX10_part_X0_latestPartDay : GoodIn wsX10_part (wsV RX10 163 RX0 yX0_latestPartDay wsX0_latestPartDay) := goodIn_app (goodIn_of _ (by decide +kernel)) ggX10_part_X0_latestPartDay
set_option maxRecDepth 20000 in
theorem ggX10_part_Jx4a65c_size_8abf5 : GoodIn wsX10_part wsJx4a65c_size_8abf5 := goodIn_r _ [24, 25, 161, 162, 163] (by decide +kernel) (by decide +kernel)
set_option maxRecDepth 20000 in
theorem gX10_part_Jx4a65c_size_8abf5 : GoodIn wsX10_part (wsV RX10 59 RJx4a65c yJx4a65c_size_8abf5 wsJx4a65c_size_8abf5) := goodIn_app (goodIn_of _ (by decide +kernel)) ggX10_part_Jx4a65c_size_8abf5
set_option maxRecDepth 20000 in
theorem ggX10_part_X10_requireRoom : GoodIn wsX10_part wsX10_requireRoom := goodIn_ca (goodIn_r _ [78, 79, 80] (by decide +kernel) (by decide +kernel)) (goodIn_sub (fun _ h => List.mem_cons_of_mem _ (List.mem_append_right _ h)) (by decide +kernel))
set_option maxRecDepth 20000 in
theorem gX10_part_X10_requireRoom : GoodIn wsX10_part (va_wsS RX10 63 yX10_requireRoom wsX10_requireRoom) := goodIn_app (goodIn_of _ (by decide +kernel)) ggX10_part_X10_requireRoom
set_option maxRecDepth 20000 in
theorem ggX10_part_X6_init : GoodIn wsX10_part wsX6_init := goodIn_r _ [83, 84, 85, 86, 87, 88, 89, 158, 159, 160] (by decide +kernel) (by decide +kernel)
set_option maxRecDepth 20000 in
theorem gX10_part_X6_init : GoodIn wsX10_part (wsX6_init) := ggX10_part_X6_init
set_option maxRecDepth 20000 in
theorem ggX10_part_Jx4a65c_add_9ea2d : GoodIn wsX10_part wsJx4a65c_add_9ea2d := goodIn_r _ [93, 94, 95, 47, 25, 96, 97, 98, 23, 99, 100, 101, 102, 103, 104, 105, 106, 107, 108, 109, 5, 6, 7, 110, 111, 112, 113, 114, 115, 116, 117, 118, 119, 120, 121, 122, 123, 124, 125, 126, 127, 128, 129, 130, 131, 132, 133, 134, 135, 136, 137, 138, 139, 161, 162, 163] (by decide +kernel) (by decide +kernel)
set_option maxRecDepth 20000 in
theorem gX10_part_Jx4a65c_add_9ea2d : GoodIn wsX10_part (wsV RX10 70 RJx4a65c yJx4a65c_add_9ea2d wsJx4a65c_add_9ea2d) := goodIn_app (goodIn_of _ (by decide +kernel)) ggX10_part_Jx4a65c_add_9ea2d
theorem dX10_part_0 : decode cX10_part 0 = .ok (.aload_n 0, 1) := by decide +kernel
theorem dX10_part_1 : decode cX10_part 1 = .ok (.iload_n 1, 1) := by decide +kernel
theorem dX10_part_2 : decode cX10_part 2 = .ok (.invokevirtual 134, 3) := by decide +kernel
theorem dX10_part_5 : decode cX10_part 5 = .ok (.astore 5, 2) := by decide +kernel
theorem dX10_part_7 : decode cX10_part 7 = .ok (.aload_n 0, 1) := by decide +kernel
theorem dX10_part_8 : decode cX10_part 8 = .ok (.iload_n 2, 1) := by decide +kernel
theorem dX10_part_9 : decode cX10_part 9 = .ok (.invokevirtual 117, 3) := by decide +kernel
theorem dX10_part_12 : decode cX10_part 12 = .ok (.astore 6, 2) := by decide +kernel
theorem dX10_part_14 : decode cX10_part 14 = .ok (.aload 5, 2) := by decide +kernel
theorem dX10_part_16 : decode cX10_part 16 = .ok (.getfield 158, 3) := by decide +kernel
theorem dX10_part_19 : decode cX10_part 19 = .ok (.iconst 3, 1) := by decide +kernel
theorem dX10_part_20 : decode cX10_part 20 = .ok (.if_icmp .ne 7, 3) := by decide +kernel
theorem dX10_part_23 : decode cX10_part 23 = .ok (.iconst 1, 1) := by decide +kernel
theorem dX10_part_24 : decode cX10_part 24 = .ok (.goto 4, 3) := by decide +kernel
theorem dX10_part_27 : decode cX10_part 27 = .ok (.iconst 0, 1) := by decide +kernel
theorem dX10_part_28 : decode cX10_part 28 = .ok (.invokestatic 82, 3) := by decide +kernel
theorem dX10_part_31 : decode cX10_part 31 = .ok (.iload_n 3, 1) := by decide +kernel
theorem dX10_part_32 : decode cX10_part 32 = .ok (.i2l, 1) := by decide +kernel
theorem dX10_part_33 : decode cX10_part 33 = .ok (.lconst 0, 1) := by decide +kernel
theorem dX10_part_34 : decode cX10_part 34 = .ok (.ldc2_w 161, 3) := by decide +kernel
theorem dX10_part_37 : decode cX10_part 37 = .ok (.invokestatic 87, 3) := by decide +kernel
theorem dX10_part_40 : decode cX10_part 40 = .ok (.invokestatic 82, 3) := by decide +kernel
theorem dX10_part_43 : decode cX10_part 43 = .ok (.iload 4, 2) := by decide +kernel
theorem dX10_part_45 : decode cX10_part 45 = .ok (.i2l, 1) := by decide +kernel
theorem dX10_part_46 : decode cX10_part 46 = .ok (.aload_n 0, 1) := by decide +kernel
theorem dX10_part_47 : decode cX10_part 47 = .ok (.getfield 49, 3) := by decide +kernel
theorem dX10_part_50 : decode cX10_part 50 = .ok (.aload 5, 2) := by decide +kernel
theorem dX10_part_52 : decode cX10_part 52 = .ok (.invokevirtual 163, 3) := by decide +kernel
theorem dX10_part_55 : decode cX10_part 55 = .ok (.invokestatic 152, 3) := by decide +kernel
theorem dX10_part_58 : decode cX10_part 58 = .ok (.i2l, 1) := by decide +kernel
theorem dX10_part_59 : decode cX10_part 59 = .ok (.ldc2_w 97, 3) := by decide +kernel
theorem dX10_part_62 : decode cX10_part 62 = .ok (.invokestatic 87, 3) := by decide +kernel
theorem dX10_part_65 : decode cX10_part 65 = .ok (.invokestatic 82, 3) := by decide +kernel
theorem dX10_part_68 : decode cX10_part 68 = .ok (.aload 5, 2) := by decide +kernel
theorem dX10_part_70 : decode cX10_part 70 = .ok (.getfield 166, 3) := by decide +kernel
theorem dX10_part_73 : decode cX10_part 73 = .ok (.invokevirtual 59, 3) := by decide +kernel
theorem dX10_part_76 : decode cX10_part 76 = .ok (.bipush 20, 2) := by decide +kernel
theorem dX10_part_78 : decode cX10_part 78 = .ok (.if_icmp .ge 7, 3) := by decide +kernel
theorem dX10_part_81 : decode cX10_part 81 = .ok (.iconst 1, 1) := by decide +kernel
theorem dX10_part_82 : decode cX10_part 82 = .ok (.goto 4, 3) := by decide +kernel
theorem dX10_part_85 : decode cX10_part 85 = .ok (.iconst 0, 1) := by decide +kernel
theorem dX10_part_86 : decode cX10_part 86 = .ok (.invokestatic 63, 3) := by decide +kernel
theorem dX10_part_89 : decode cX10_part 89 = .ok (.aload 5, 2) := by decide +kernel
theorem dX10_part_91 : decode cX10_part 91 = .ok (.getfield 166, 3) := by decide +kernel
theorem dX10_part_94 : decode cX10_part 94 = .ok (.new 169, 3) := by decide +kernel
theorem dX10_part_97 : decode cX10_part 97 = .ok (.dup, 1) := by decide +kernel
theorem dX10_part_98 : decode cX10_part 98 = .ok (.aload 6, 2) := by decide +kernel
theorem dX10_part_100 : decode cX10_part 100 = .ok (.iload_n 3, 1) := by decide +kernel
theorem dX10_part_101 : decode cX10_part 101 = .ok (.iload 4, 2) := by decide +kernel
theorem dX10_part_103 : decode cX10_part 103 = .ok (.invokespecial 171, 3) := by decide +kernel
theorem dX10_part_106 : decode cX10_part 106 = .ok (.invokevirtual 70, 3) := by decide +kernel
theorem dX10_part_109 : decode cX10_part 109 = .ok (.pop, 1) := by decide +kernel
theorem dX10_part_110 : decode cX10_part 110 = .ok (.aload 5, 2) := by decide +kernel
theorem dX10_part_112 : decode cX10_part 112 = .ok (.getfield 166, 3) := by decide +kernel
theorem dX10_part_115 : decode cX10_part 115 = .ok (.invokevirtual 59, 3) := by decide +kernel
theorem dX10_part_118 : decode cX10_part 118 = .ok (.ireturn, 1) := by decide +kernel
set_option maxRecDepth 20000 in
theorem ggX10_cart_X10_isWithin : GoodIn wsX10_cart wsX10_isWithin := goodIn_r _ [10] (by decide +kernel) (by decide +kernel)
set_option maxRecDepth 20000 in
theorem gX10_cart_X10_isWithin : GoodIn wsX10_cart (va_wsS RX10 87 yX10_isWithin wsX10_isWithin) := goodIn_app (goodIn_of _ (by decide +kernel)) ggX10_cart_X10_isWithin
set_option maxRecDepth 20000 in
theorem ggX10_cart_X10_require : GoodIn wsX10_cart wsX10_require := goodIn_ca (goodIn_r _ [13, 14, 15] (by decide +kernel) (by decide +kernel)) (goodIn_sub (fun _ h => List.mem_cons_of_mem _ (List.mem_append_left _ (List.mem_append_right _ h))) (by decide +kernel))
set_option maxRecDepth 20000 in
theorem gX10_cart_X10_require : GoodIn wsX10_cart (va_wsS RX10 82 yX10_require wsX10_require) := goodIn_app (goodIn_of _ (by decide +kernel)) ggX10_cart_X10_require
set_option maxRecDepth 20000 in
theorem ggX10_cart_Jx4a65c_size_8abf5 : GoodIn wsX10_cart wsJx4a65c_size_8abf5 := goodIn_r _ [20, 21, 110, 111, 112] (by decide +kernel) (by decide +kernel)
set_option maxRecDepth 20000 in
theorem gX10_cart_Jx4a65c_size_8abf5 : GoodIn wsX10_cart (wsV RX10 59 RJx4a65c yJx4a65c_size_8abf5 wsJx4a65c_size_8abf5) := goodIn_app (goodIn_of _ (by decide +kernel)) ggX10_cart_Jx4a65c_size_8abf5
set_option maxRecDepth 20000 in
theorem ggX10_cart_X10_requireRoom : GoodIn wsX10_cart wsX10_requireRoom := goodIn_ca (goodIn_r _ [24, 25, 26] (by decide +kernel) (by decide +kernel)) (goodIn_sub (fun _ h => List.mem_cons_of_mem _ (List.mem_append_right _ h)) (by decide +kernel))
set_option maxRecDepth 20000 in
theorem gX10_cart_X10_requireRoom : GoodIn wsX10_cart (va_wsS RX10 63 yX10_requireRoom wsX10_requireRoom) := goodIn_app (goodIn_of _ (by decide +kernel)) ggX10_cart_X10_requireRoom
set_option maxRecDepth 20000 in
theorem ggX10_cart_X2_init : GoodIn wsX10_cart wsX2_init := goodIn_r _ [29, 30, 31, 32, 33, 34, 35, 36, 37, 38, 104, 105, 106, 107, 108, 109] (by decide +kernel) (by decide +kernel)
set_option maxRecDepth 20000 in
theorem gX10_cart_X2_init : GoodIn wsX10_cart (wsX2_init) := ggX10_cart_X2_init
set_option maxRecDepth 20000 in
theorem ggX10_cart_Jx4a65c_add_9ea2d : GoodIn wsX10_cart wsJx4a65c_add_9ea2d := goodIn_r _ [42, 43, 44, 45, 21, 46, 47, 48, 19, 49, 50, 51, 52, 53, 54, 55, 56, 57, 58, 59, 60, 61, 62, 63, 64, 65, 66, 67, 68, 69, 70, 71, 72, 73, 74, 75, 76, 77, 78, 79, 80, 81, 82, 83, 84, 85, 86, 87, 88, 89, 90, 91, 92, 110, 111, 112] (by decide +kernel) (by decide +kernel)
set_option maxRecDepth 20000 in
theorem gX10_cart_Jx4a65c_add_9ea2d : GoodIn wsX10_cart (wsV RX10 70 RJx4a65c yJx4a65c_add_9ea2d wsJx4a65c_add_9ea2d) := goodIn_app (goodIn_of _ (by decide +kernel)) ggX10_cart_Jx4a65c_add_9ea2d
theorem dX10_cart_0 : decode cX10_cart 0 = .ok (.iload_n 1, 1) := by decide +kernel
theorem dX10_cart_1 : decode cX10_cart 1 = .ok (.i2l, 1) := by decide +kernel
theorem dX10_cart_2 : decode cX10_cart 2 = .ok (.lconst 0, 1) := by decide +kernel
theorem dX10_cart_3 : decode cX10_cart 3 = .ok (.ldc2_w 174, 3) := by decide +kernel
theorem dX10_cart_6 : decode cX10_cart 6 = .ok (.invokestatic 87, 3) := by decide +kernel
theorem dX10_cart_9 : decode cX10_cart 9 = .ok (.invokestatic 82, 3) := by decide +kernel
theorem dX10_cart_12 : decode cX10_cart 12 = .ok (.aload_n 0, 1) := by decide +kernel
theorem dX10_cart_13 : decode cX10_cart 13 = .ok (.getfield 22, 3) := by decide +kernel
theorem dX10_cart_16 : decode cX10_cart 16 = .ok (.invokevirtual 59, 3) := by decide +kernel
theorem dX10_cart_19 : decode cX10_cart 19 = .ok (.iconst 5, 1) := by decide +kernel
theorem dX10_cart_20 : decode cX10_cart 20 = .ok (.if_icmp .ge 7, 3) := by decide +kernel
theorem dX10_cart_23 : decode cX10_cart 23 = .ok (.iconst 1, 1) := by decide +kernel
theorem dX10_cart_24 : decode cX10_cart 24 = .ok (.goto 4, 3) := by decide +kernel
theorem dX10_cart_27 : decode cX10_cart 27 = .ok (.iconst 0, 1) := by decide +kernel
theorem dX10_cart_28 : decode cX10_cart 28 = .ok (.invokestatic 63, 3) := by decide +kernel
theorem dX10_cart_31 : decode cX10_cart 31 = .ok (.new 176, 3) := by decide +kernel
theorem dX10_cart_34 : decode cX10_cart 34 = .ok (.dup, 1) := by decide +kernel
theorem dX10_cart_35 : decode cX10_cart 35 = .ok (.aload_n 0, 1) := by decide +kernel
theorem dX10_cart_36 : decode cX10_cart 36 = .ok (.getfield 22, 3) := by decide +kernel
theorem dX10_cart_39 : decode cX10_cart 39 = .ok (.invokevirtual 59, 3) := by decide +kernel
theorem dX10_cart_42 : decode cX10_cart 42 = .ok (.iload_n 1, 1) := by decide +kernel
theorem dX10_cart_43 : decode cX10_cart 43 = .ok (.invokespecial 178, 3) := by decide +kernel
theorem dX10_cart_46 : decode cX10_cart 46 = .ok (.astore_n 2, 1) := by decide +kernel
theorem dX10_cart_47 : decode cX10_cart 47 = .ok (.aload_n 0, 1) := by decide +kernel
theorem dX10_cart_48 : decode cX10_cart 48 = .ok (.getfield 22, 3) := by decide +kernel
theorem dX10_cart_51 : decode cX10_cart 51 = .ok (.aload_n 2, 1) := by decide +kernel
theorem dX10_cart_52 : decode cX10_cart 52 = .ok (.invokevirtual 70, 3) := by decide +kernel
theorem dX10_cart_55 : decode cX10_cart 55 = .ok (.pop, 1) := by decide +kernel
theorem dX10_cart_56 : decode cX10_cart 56 = .ok (.aload_n 2, 1) := by decide +kernel
theorem dX10_cart_57 : decode cX10_cart 57 = .ok (.getfield 181, 3) := by decide +kernel
theorem dX10_cart_60 : decode cX10_cart 60 = .ok (.ireturn, 1) := by decide +kernel
set_option maxRecDepth 20000 in
theorem ggX10_table_X10_isWithin : GoodIn wsX10_table wsX10_isWithin := goodIn_r _ [7] (by decide +kernel) (by decide +kernel)
set_option maxRecDepth 20000 in
theorem gX10_table_X10_isWithin : GoodIn wsX10_table (va_wsS RX10 87 yX10_isWithin wsX10_isWithin) := goodIn_app (goodIn_of _ (by decide +kernel)) ggX10_table_X10_isWithin
set_option maxRecDepth 20000 in
theorem ggX10_table_X10_require : GoodIn wsX10_table wsX10_require := goodIn_ca (goodIn_r _ [10, 11, 12] (by decide +kernel) (by decide +kernel)) (goodIn_sub (fun _ h => List.mem_cons_of_mem _ (List.mem_append_right _ h)) (by decide +kernel))
set_option maxRecDepth 20000 in
theorem gX10_table_X10_require : GoodIn wsX10_table (va_wsS RX10 82 yX10_require wsX10_require) := goodIn_app (goodIn_of _ (by decide +kernel)) ggX10_table_X10_require
set_option maxRecDepth 20000 in
theorem ggX10_table_X8_set : GoodIn wsX10_table wsX8_set := goodIn_r _ [17, 18, 19, 31, 32] (by decide +kernel) (by decide +kernel)
set_option maxRecDepth 20000 in
theorem gX10_table_X8_set : GoodIn wsX10_table (wsV RX10 182 RX8 yX8_set wsX8_set) := goodIn_app (goodIn_of _ (by decide +kernel)) ggX10_table_X8_set
theorem dX10_table_0 : decode cX10_table 0 = .ok (.iload_n 1, 1) := by decide +kernel
theorem dX10_table_1 : decode cX10_table 1 = .ok (.i2l, 1) := by decide +kernel
theorem dX10_table_2 : decode cX10_table 2 = .ok (.lconst 0, 1) := by decide +kernel
theorem dX10_table_3 : decode cX10_table 3 = .ok (.ldc2_w 85, 3) := by decide +kernel
theorem dX10_table_6 : decode cX10_table 6 = .ok (.invokestatic 87, 3) := by decide +kernel
theorem dX10_table_9 : decode cX10_table 9 = .ok (.ifCond .eq 12, 3) := by decide +kernel
theorem dX10_table_12 : decode cX10_table 12 = .ok (.iload_n 1, 1) := by decide +kernel
theorem dX10_table_13 : decode cX10_table 13 = .ok (.iconst 2, 1) := by decide +kernel
theorem dX10_table_14 : decode cX10_table 14 = .ok (.if_icmp .eq 7, 3) := by decide +kernel
theorem dX10_table_17 : decode cX10_table 17 = .ok (.iconst 1, 1) := by decide +kernel
theorem dX10_table_18 : decode cX10_table 18 = .ok (.goto 4, 3) := by decide +kernel
theorem dX10_table_21 : decode cX10_table 21 = .ok (.iconst 0, 1) := by decide +kernel
theorem dX10_table_22 : decode cX10_table 22 = .ok (.invokestatic 82, 3) := by decide +kernel
theorem dX10_table_25 : decode cX10_table 25 = .ok (.iload_n 2, 1) := by decide +kernel
theorem dX10_table_26 : decode cX10_table 26 = .ok (.i2l, 1) := by decide +kernel
theorem dX10_table_27 : decode cX10_table 27 = .ok (.lconst 0, 1) := by decide +kernel
theorem dX10_table_28 : decode cX10_table 28 = .ok (.ldc2_w 174, 3) := by decide +kernel
theorem dX10_table_31 : decode cX10_table 31 = .ok (.invokestatic 87, 3) := by decide +kernel
theorem dX10_table_34 : decode cX10_table 34 = .ok (.invokestatic 82, 3) := by decide +kernel
theorem dX10_table_37 : decode cX10_table 37 = .ok (.iload_n 3, 1) := by decide +kernel
theorem dX10_table_38 : decode cX10_table 38 = .ok (.i2l, 1) := by decide +kernel
theorem dX10_table_39 : decode cX10_table 39 = .ok (.lconst 0, 1) := by decide +kernel
theorem dX10_table_40 : decode cX10_table 40 = .ok (.ldc2_w 174, 3) := by decide +kernel
theorem dX10_table_43 : decode cX10_table 43 = .ok (.invokestatic 87, 3) := by decide +kernel
theorem dX10_table_46 : decode cX10_table 46 = .ok (.invokestatic 82, 3) := by decide +kernel
theorem dX10_table_49 : decode cX10_table 49 = .ok (.aload_n 0, 1) := by decide +kernel
theorem dX10_table_50 : decode cX10_table 50 = .ok (.getfield 38, 3) := by decide +kernel
theorem dX10_table_53 : decode cX10_table 53 = .ok (.iload_n 1, 1) := by decide +kernel
theorem dX10_table_54 : decode cX10_table 54 = .ok (.iload_n 2, 1) := by decide +kernel
theorem dX10_table_55 : decode cX10_table 55 = .ok (.iload_n 3, 1) := by decide +kernel
theorem dX10_table_56 : decode cX10_table 56 = .ok (.invokevirtual 182, 3) := by decide +kernel
theorem dX10_table_59 : decode cX10_table 59 = .ok (.return_, 1) := by decide +kernel
set_option maxRecDepth 20000 in
theorem ggX10_terms_X10_isWithin : GoodIn wsX10_terms wsX10_isWithin := goodIn_r _ [8] (by decide +kernel) (by decide +kernel)
set_option maxRecDepth 20000 in
theorem gX10_terms_X10_isWithin : GoodIn wsX10_terms (va_wsS RX10 87 yX10_isWithin wsX10_isWithin) := goodIn_app (goodIn_of _ (by decide +kernel)) ggX10_terms_X10_isWithin
set_option maxRecDepth 20000 in
theorem ggX10_terms_X10_require : GoodIn wsX10_terms wsX10_require := goodIn_ca (goodIn_r _ [11, 12, 13] (by decide +kernel) (by decide +kernel)) (goodIn_sub (fun _ h => List.mem_cons_of_mem _ (List.mem_append_right _ h)) (by decide +kernel))
set_option maxRecDepth 20000 in
theorem gX10_terms_X10_require : GoodIn wsX10_terms (va_wsS RX10 82 yX10_require wsX10_require) := goodIn_app (goodIn_of _ (by decide +kernel)) ggX10_terms_X10_require
theorem dX10_terms_0 : decode cX10_terms 0 = .ok (.iload_n 1, 1) := by decide +kernel
theorem dX10_terms_1 : decode cX10_terms 1 = .ok (.i2l, 1) := by decide +kernel
theorem dX10_terms_2 : decode cX10_terms 2 = .ok (.lconst 0, 1) := by decide +kernel
theorem dX10_terms_3 : decode cX10_terms 3 = .ok (.ldc2_w 174, 3) := by decide +kernel
theorem dX10_terms_6 : decode cX10_terms 6 = .ok (.invokestatic 87, 3) := by decide +kernel
theorem dX10_terms_9 : decode cX10_terms 9 = .ok (.invokestatic 82, 3) := by decide +kernel
theorem dX10_terms_12 : decode cX10_terms 12 = .ok (.iload_n 2, 1) := by decide +kernel
theorem dX10_terms_13 : decode cX10_terms 13 = .ok (.i2l, 1) := by decide +kernel
theorem dX10_terms_14 : decode cX10_terms 14 = .ok (.lconst 0, 1) := by decide +kernel
theorem dX10_terms_15 : decode cX10_terms 15 = .ok (.ldc2_w 161, 3) := by decide +kernel
theorem dX10_terms_18 : decode cX10_terms 18 = .ok (.invokestatic 87, 3) := by decide +kernel
theorem dX10_terms_21 : decode cX10_terms 21 = .ok (.invokestatic 82, 3) := by decide +kernel
theorem dX10_terms_24 : decode cX10_terms 24 = .ok (.aload_n 0, 1) := by decide +kernel
theorem dX10_terms_25 : decode cX10_terms 25 = .ok (.iload_n 1, 1) := by decide +kernel
theorem dX10_terms_26 : decode cX10_terms 26 = .ok (.putfield 53, 3) := by decide +kernel
theorem dX10_terms_29 : decode cX10_terms 29 = .ok (.aload_n 0, 1) := by decide +kernel
theorem dX10_terms_30 : decode cX10_terms 30 = .ok (.iload_n 2, 1) := by decide +kernel
theorem dX10_terms_31 : decode cX10_terms 31 = .ok (.putfield 56, 3) := by decide +kernel
theorem dX10_terms_34 : decode cX10_terms 34 = .ok (.return_, 1) := by decide +kernel
set_option maxRecDepth 20000 in
theorem ggX10_band_X10_houseAt : GoodIn wsX10_band wsX10_houseAt := goodIn_ca (goodIn_r _ [9, 10, 11, 12, 13, 14, 15, 16, 17, 18, 19, 8, 20, 21, 22, 23, 24, 25, 26, 27, 28, 29, 30, 31, 32, 33, 34, 35, 36, 37, 38, 39, 58, 59, 60, 61, 62, 63, 64, 65, 66, 67, 68, 69, 70, 71] (by decide +kernel) (by decide +kernel)) (goodIn_sub (fun _ h => List.mem_cons_of_mem _ (List.mem_append_left _ (List.mem_append_right _ h))) (by decide +kernel))
set_option maxRecDepth 20000 in
theorem gX10_band_X10_houseAt : GoodIn wsX10_band (wsV RX10 117 RX10 yX10_houseAt wsX10_houseAt) := goodIn_app (goodIn_of _ (by decide +kernel)) ggX10_band_X10_houseAt
set_option maxRecDepth 20000 in
theorem ggX10_band_X10_isWithin : GoodIn wsX10_band wsX10_isWithin := goodIn_r _ [42] (by decide +kernel) (by decide +kernel)
set_option maxRecDepth 20000 in
theorem gX10_band_X10_isWithin : GoodIn wsX10_band (va_wsS RX10 87 yX10_isWithin wsX10_isWithin) := goodIn_app (goodIn_of _ (by decide +kernel)) ggX10_band_X10_isWithin
set_option maxRecDepth 20000 in
theorem ggX10_band_X10_require : GoodIn wsX10_band wsX10_require := goodIn_ca (goodIn_r _ [45, 46, 47] (by decide +kernel) (by decide +kernel)) (goodIn_sub (fun _ h => List.mem_cons_of_mem _ (List.mem_append_right _ h)) (by decide +kernel))
set_option maxRecDepth 20000 in
theorem gX10_band_X10_require : GoodIn wsX10_band (va_wsS RX10 82 yX10_require wsX10_require) := goodIn_app (goodIn_of _ (by decide +kernel)) ggX10_band_X10_require
theorem dX10_band_0 : decode cX10_band 0 = .ok (.aload_n 0, 1) := by decide +kernel
theorem dX10_band_1 : decode cX10_band 1 = .ok (.iload_n 1, 1) := by decide +kernel
theorem dX10_band_2 : decode cX10_band 2 = .ok (.invokevirtual 117, 3) := by decide +kernel
theorem dX10_band_5 : decode cX10_band 5 = .ok (.astore_n 3, 1) := by decide +kernel
theorem dX10_band_6 : decode cX10_band 6 = .ok (.iload_n 2, 1) := by decide +kernel
theorem dX10_band_7 : decode cX10_band 7 = .ok (.i2l, 1) := by decide +kernel
theorem dX10_band_8 : decode cX10_band 8 = .ok (.lconst 1, 1) := by decide +kernel
theorem dX10_band_9 : decode cX10_band 9 = .ok (.ldc2_w 161, 3) := by decide +kernel
theorem dX10_band_12 : decode cX10_band 12 = .ok (.invokestatic 87, 3) := by decide +kernel
theorem dX10_band_15 : decode cX10_band 15 = .ok (.invokestatic 82, 3) := by decide +kernel
theorem dX10_band_18 : decode cX10_band 18 = .ok (.aload_n 3, 1) := by decide +kernel
theorem dX10_band_19 : decode cX10_band 19 = .ok (.dup, 1) := by decide +kernel
theorem dX10_band_20 : decode cX10_band 20 = .ok (.getfield 184, 3) := by decide +kernel
theorem dX10_band_23 : decode cX10_band 23 = .ok (.iload_n 2, 1) := by decide +kernel
theorem dX10_band_24 : decode cX10_band 24 = .ok (.iadd, 1) := by decide +kernel
theorem dX10_band_25 : decode cX10_band 25 = .ok (.putfield 184, 3) := by decide +kernel
theorem dX10_band_28 : decode cX10_band 28 = .ok (.aload_n 3, 1) := by decide +kernel
theorem dX10_band_29 : decode cX10_band 29 = .ok (.dup, 1) := by decide +kernel
theorem dX10_band_30 : decode cX10_band 30 = .ok (.getfield 187, 3) := by decide +kernel
theorem dX10_band_33 : decode cX10_band 33 = .ok (.aload_n 0, 1) := by decide +kernel
theorem dX10_band_34 : decode cX10_band 34 = .ok (.getfield 53, 3) := by decide +kernel
theorem dX10_band_37 : decode cX10_band 37 = .ok (.i2l, 1) := by decide +kernel
theorem dX10_band_38 : decode cX10_band 38 = .ok (.iload_n 2, 1) := by decide +kernel
theorem dX10_band_39 : decode cX10_band 39 = .ok (.i2l, 1) := by decide +kernel
theorem dX10_band_40 : decode cX10_band 40 = .ok (.lmul, 1) := by decide +kernel
theorem dX10_band_41 : decode cX10_band 41 = .ok (.ladd, 1) := by decide +kernel
theorem dX10_band_42 : decode cX10_band 42 = .ok (.putfield 187, 3) := by decide +kernel
theorem dX10_band_45 : decode cX10_band 45 = .ok (.aload_n 3, 1) := by decide +kernel
theorem dX10_band_46 : decode cX10_band 46 = .ok (.getfield 184, 3) := by decide +kernel
theorem dX10_band_49 : decode cX10_band 49 = .ok (.ireturn, 1) := by decide +kernel
set_option maxRecDepth 20000 in
theorem ggX10_tip_X10_cartAt : GoodIn wsX10_tip wsX10_cartAt := goodIn_ca (goodIn_r _ [15, 16, 17, 18, 19, 20, 21, 22, 23, 24, 25, 14, 26, 27, 28, 29, 30, 31, 32, 33, 34, 35, 36, 37, 38, 39, 40, 41, 42, 43, 44, 45, 178, 179, 180, 181, 182, 183, 184, 185, 186, 187, 188, 202, 203, 204] (by decide +kernel) (by decide +kernel)) (goodIn_sub (fun _ h => List.mem_cons_of_mem _ (List.mem_append_left _ (List.mem_append_left _ (List.mem_append_right _ h)))) (by decide +kernel))
set_option maxRecDepth 20000 in
theorem gX10_tip_X10_cartAt : GoodIn wsX10_tip (wsV RX10 191 RX10 yX10_cartAt wsX10_cartAt) := goodIn_app (goodIn_of _ (by decide +kernel)) ggX10_tip_X10_cartAt
set_option maxRecDepth 20000 in
theorem ggX10_tip_X10_isWithin : GoodIn wsX10_tip wsX10_isWithin := goodIn_r _ [48] (by decide +kernel) (by decide +kernel)
set_option maxRecDepth 20000 in
theorem gX10_tip_X10_isWithin : GoodIn wsX10_tip (va_wsS RX10 87 yX10_isWithin wsX10_isWithin) := goodIn_app (goodIn_of _ (by decide +kernel)) ggX10_tip_X10_isWithin
set_option maxRecDepth 20000 in
theorem ggX10_tip_X10_require : GoodIn wsX10_tip wsX10_require := goodIn_ca (goodIn_r _ [51, 52, 53] (by decide +kernel) (by decide +kernel)) (goodIn_sub (fun _ h => List.mem_cons_of_mem _ (List.mem_append_left _ (List.mem_append_right _ h))) (by decide +kernel))
set_option maxRecDepth 20000 in
theorem gX10_tip_X10_require : GoodIn wsX10_tip (va_wsS RX10 82 yX10_require wsX10_require) := goodIn_app (goodIn_of _ (by decide +kernel)) ggX10_tip_X10_require
set_option maxRecDepth 20000 in
theorem ggX10_tip_Jx4a65c_size_8abf5 : GoodIn wsX10_tip wsJx4a65c_size_8abf5 := goodIn_r _ [22, 23, 202, 203, 204] (by decide +kernel) (by decide +kernel)
set_option maxRecDepth 20000 in
theorem gX10_tip_Jx4a65c_size_8abf5 : GoodIn wsX10_tip (wsV RX10 59 RJx4a65c yJx4a65c_size_8abf5 wsJx4a65c_size_8abf5) := goodIn_app (goodIn_of _ (by decide +kernel)) ggX10_tip_Jx4a65c_size_8abf5
set_option maxRecDepth 20000 in
theorem ggX10_tip_X10_requireRoom : GoodIn wsX10_tip wsX10_requireRoom := goodIn_ca (goodIn_r _ [56, 57, 58] (by decide +kernel) (by decide +kernel)) (goodIn_sub (fun _ h => List.mem_cons_of_mem _ (List.mem_append_right _ h)) (by decide +kernel))
set_option maxRecDepth 20000 in
theorem gX10_tip_X10_requireRoom : GoodIn wsX10_tip (va_wsS RX10 63 yX10_requireRoom wsX10_requireRoom) := goodIn_app (goodIn_of _ (by decide +kernel)) ggX10_tip_X10_requireRoom
set_option maxRecDepth 20000 in
theorem ggX10_tip_X9_init : GoodIn wsX10_tip wsX9_init := goodIn_r _ [61, 62, 63, 64, 65, 66, 67, 68, 69, 70, 71, 72, 73, 74, 75, 76, 77, 189, 190, 191, 192, 193, 194, 195, 196, 197, 198, 199, 200, 201] (by decide +kernel) (by decide +kernel)
set_option maxRecDepth 20000 in
theorem gX10_tip_X9_init : GoodIn wsX10_tip (wsX9_init) := ggX10_tip_X9_init
set_option maxRecDepth 20000 in
theorem ggX10_tip_X10_identify : GoodIn wsX10_tip wsX10_identify := goodIn_r _ [81, 82, 83, 84, 9, 85, 18, 19, 20, 21, 22, 23, 29, 30, 31, 32, 33, 34, 35, 36, 37, 38, 39, 40, 41, 42, 43, 44, 45, 86, 87, 88, 89, 90, 91, 92, 178, 179, 180, 181, 182, 183, 184, 185, 186, 187, 188, 189, 190, 191, 192, 193, 194, 195, 196, 197, 198, 199, 200, 201, 202, 203, 204, 205, 206, 207, 208, 209, 210, 211] (by decide +kernel) (by decide +kernel)
set_option maxRecDepth 20000 in
theorem gX10_tip_X10_identify : GoodIn wsX10_tip (wsV RX10 204 RX10 yX10_identify wsX10_identify) := goodIn_app (goodIn_of _ (by decide +kernel)) ggX10_tip_X10_identify
set_option maxRecDepth 20000 in
theorem ggX10_tip_X10_middleOf : GoodIn wsX10_tip wsX10_middleOf := goodIn_r _ [96, 97, 3, 98, 9, 8, 10, 99, 100, 101, 102, 103, 104, 18, 19, 20, 21, 22, 23, 105, 106, 107, 108, 109, 29, 30, 31, 32, 33, 34, 35, 36, 37, 38, 39, 40, 41, 42, 43, 44, 45, 110, 111, 112, 113, 114, 115, 116, 117, 118, 178, 179, 180, 181, 182, 183, 184, 185, 186, 187, 188, 189, 190, 191, 192, 193, 194, 195, 196, 197, 198, 199, 200, 201, 212, 213, 202, 203, 204] (by decide +kernel) (by decide +kernel)
set_option maxRecDepth 20000 in
theorem gX10_tip_X10_middleOf : GoodIn wsX10_tip (wsV RX10 215 RX10 yX10_middleOf wsX10_middleOf) := goodIn_app (goodIn_of _ (by decide +kernel)) ggX10_tip_X10_middleOf
set_option maxRecDepth 20000 in
theorem ggX10_tip_X2_takeHalves : GoodIn wsX10_tip wsX2_takeHalves := goodIn_r _ [123, 124, 214, 215, 216, 217, 218, 219] (by decide +kernel) (by decide +kernel)
set_option maxRecDepth 20000 in
theorem gX10_tip_X2_takeHalves : GoodIn wsX10_tip (wsV RX10 222 RX2 yX2_takeHalves wsX2_takeHalves) := goodIn_app (goodIn_of _ (by decide +kernel)) ggX10_tip_X2_takeHalves
set_option maxRecDepth 20000 in
theorem ggX10_tip_Jx4a65c_add_9ea2d : GoodIn wsX10_tip wsJx4a65c_add_9ea2d := goodIn_r _ [128, 129, 130, 45, 23, 131, 132, 133, 21, 134, 135, 136, 137, 138, 139, 140, 141, 142, 143, 144, 145, 146, 147, 148, 149, 150, 151, 152, 153, 154, 155, 156, 157, 158, 159, 160, 161, 162, 163, 164, 165, 166, 167, 168, 169, 170, 171, 172, 173, 174, 175, 176, 177, 202, 203, 204] (by decide +kernel) (by decide +kernel)
set_option maxRecDepth 20000 in
theorem gX10_tip_Jx4a65c_add_9ea2d : GoodIn wsX10_tip (wsV RX10 70 RJx4a65c yJx4a65c_add_9ea2d wsJx4a65c_add_9ea2d) := goodIn_app (goodIn_of _ (by decide +kernel)) ggX10_tip_Jx4a65c_add_9ea2d
theorem dX10_tip_0 : decode cX10_tip 0 = .ok (.aload_n 0, 1) := by decide +kernel
theorem dX10_tip_1 : decode cX10_tip 1 = .ok (.iload_n 1, 1) := by decide +kernel
theorem dX10_tip_2 : decode cX10_tip 2 = .ok (.invokevirtual 191, 3) := by decide +kernel
theorem dX10_tip_5 : decode cX10_tip 5 = .ok (.astore 4, 2) := by decide +kernel
theorem dX10_tip_7 : decode cX10_tip 7 = .ok (.iload_n 3, 1) := by decide +kernel
theorem dX10_tip_8 : decode cX10_tip 8 = .ok (.i2l, 1) := by decide +kernel
theorem dX10_tip_9 : decode cX10_tip 9 = .ok (.ldc2_w 195, 3) := by decide +kernel
theorem dX10_tip_12 : decode cX10_tip 12 = .ok (.ldc2_w 197, 3) := by decide +kernel
theorem dX10_tip_15 : decode cX10_tip 15 = .ok (.invokestatic 87, 3) := by decide +kernel
theorem dX10_tip_18 : decode cX10_tip 18 = .ok (.invokestatic 82, 3) := by decide +kernel
theorem dX10_tip_21 : decode cX10_tip 21 = .ok (.aload_n 0, 1) := by decide +kernel
theorem dX10_tip_22 : decode cX10_tip 22 = .ok (.getfield 25, 3) := by decide +kernel
theorem dX10_tip_25 : decode cX10_tip 25 = .ok (.invokevirtual 59, 3) := by decide +kernel
theorem dX10_tip_28 : decode cX10_tip 28 = .ok (.sipush 600, 3) := by decide +kernel
theorem dX10_tip_31 : decode cX10_tip 31 = .ok (.if_icmp .ge 7, 3) := by decide +kernel
theorem dX10_tip_34 : decode cX10_tip 34 = .ok (.iconst 1, 1) := by decide +kernel
theorem dX10_tip_35 : decode cX10_tip 35 = .ok (.goto 4, 3) := by decide +kernel
theorem dX10_tip_38 : decode cX10_tip 38 = .ok (.iconst 0, 1) := by decide +kernel
theorem dX10_tip_39 : decode cX10_tip 39 = .ok (.invokestatic 63, 3) := by decide +kernel
theorem dX10_tip_42 : decode cX10_tip 42 = .ok (.new 199, 3) := by decide +kernel
theorem dX10_tip_45 : decode cX10_tip 45 = .ok (.dup, 1) := by decide +kernel
theorem dX10_tip_46 : decode cX10_tip 46 = .ok (.aload_n 0, 1) := by decide +kernel
theorem dX10_tip_47 : decode cX10_tip 47 = .ok (.getfield 49, 3) := by decide +kernel
theorem dX10_tip_50 : decode cX10_tip 50 = .ok (.aload 4, 2) := by decide +kernel
theorem dX10_tip_52 : decode cX10_tip 52 = .ok (.iload_n 2, 1) := by decide +kernel
theorem dX10_tip_53 : decode cX10_tip 53 = .ok (.invokespecial 201, 3) := by decide +kernel
theorem dX10_tip_56 : decode cX10_tip 56 = .ok (.astore 5, 2) := by decide +kernel
theorem dX10_tip_58 : decode cX10_tip 58 = .ok (.aload_n 0, 1) := by decide +kernel
theorem dX10_tip_59 : decode cX10_tip 59 = .ok (.aload 5, 2) := by decide +kernel
theorem dX10_tip_61 : decode cX10_tip 61 = .ok (.invokevirtual 204, 3) := by decide +kernel
theorem dX10_tip_64 : decode cX10_tip 64 = .ok (.iload_n 3, 1) := by decide +kernel
theorem dX10_tip_65 : decode cX10_tip 65 = .ok (.iconst (-1), 1) := by decide +kernel
theorem dX10_tip_66 : decode cX10_tip 66 = .ok (.if_icmp .ne 26, 3) := by decide +kernel
theorem dX10_tip_69 : decode cX10_tip 69 = .ok (.aload 5, 2) := by decide +kernel
theorem dX10_tip_71 : decode cX10_tip 71 = .ok (.iconst 1, 1) := by decide +kernel
theorem dX10_tip_72 : decode cX10_tip 72 = .ok (.putfield 208, 3) := by decide +kernel
theorem dX10_tip_75 : decode cX10_tip 75 = .ok (.aload 5, 2) := by decide +kernel
theorem dX10_tip_77 : decode cX10_tip 77 = .ok (.aload_n 0, 1) := by decide +kernel
theorem dX10_tip_78 : decode cX10_tip 78 = .ok (.aload 5, 2) := by decide +kernel
theorem dX10_tip_80 : decode cX10_tip 80 = .ok (.getfield 211, 3) := by decide +kernel
theorem dX10_tip_83 : decode cX10_tip 83 = .ok (.invokevirtual 215, 3) := by decide +kernel
theorem dX10_tip_86 : decode cX10_tip 86 = .ok (.putfield 219, 3) := by decide +kernel
theorem dX10_tip_89 : decode cX10_tip 89 = .ok (.goto 14, 3) := by decide +kernel
theorem dX10_tip_92 : decode cX10_tip 92 = .ok (.aload 5, 2) := by decide +kernel
theorem dX10_tip_94 : decode cX10_tip 94 = .ok (.aload 4, 2) := by decide +kernel
theorem dX10_tip_96 : decode cX10_tip 96 = .ok (.iload_n 3, 1) := by decide +kernel
theorem dX10_tip_97 : decode cX10_tip 97 = .ok (.invokevirtual 222, 3) := by decide +kernel
theorem dX10_tip_100 : decode cX10_tip 100 = .ok (.putfield 219, 3) := by decide +kernel
theorem dX10_tip_103 : decode cX10_tip 103 = .ok (.aload_n 0, 1) := by decide +kernel
theorem dX10_tip_104 : decode cX10_tip 104 = .ok (.getfield 25, 3) := by decide +kernel
theorem dX10_tip_107 : decode cX10_tip 107 = .ok (.aload 5, 2) := by decide +kernel
theorem dX10_tip_109 : decode cX10_tip 109 = .ok (.invokevirtual 70, 3) := by decide +kernel
theorem dX10_tip_112 : decode cX10_tip 112 = .ok (.pop, 1) := by decide +kernel
theorem dX10_tip_113 : decode cX10_tip 113 = .ok (.aload_n 0, 1) := by decide +kernel
theorem dX10_tip_114 : decode cX10_tip 114 = .ok (.getfield 25, 3) := by decide +kernel
theorem dX10_tip_117 : decode cX10_tip 117 = .ok (.invokevirtual 59, 3) := by decide +kernel
theorem dX10_tip_120 : decode cX10_tip 120 = .ok (.iconst 1, 1) := by decide +kernel
theorem dX10_tip_121 : decode cX10_tip 121 = .ok (.isub, 1) := by decide +kernel
theorem dX10_tip_122 : decode cX10_tip 122 = .ok (.ireturn, 1) := by decide +kernel
set_option maxRecDepth 20000 in
theorem ggX10_wrong_X10_tipAt : GoodIn wsX10_wrong wsX10_tipAt := goodIn_ca (goodIn_r _ [10, 11, 12, 13, 14, 15, 16, 17, 18, 19, 20, 9, 21, 22, 23, 24, 25, 26, 27, 28, 29, 30, 31, 32, 33, 34, 35, 36, 37, 38, 39, 40, 64, 65, 66, 67, 68, 69, 70, 71, 72, 73, 74, 82, 83, 84] (by decide +kernel) (by decide +kernel)) (goodIn_sub (fun _ h => List.mem_cons_of_mem _ (List.mem_append_left _ (List.mem_append_left _ (List.mem_append_right _ h)))) (by decide +kernel))
set_option maxRecDepth 20000 in
theorem gX10_wrong_X10_tipAt : GoodIn wsX10_wrong (wsV RX10 225 RX10 yX10_tipAt wsX10_tipAt) := goodIn_app (goodIn_of _ (by decide +kernel)) ggX10_wrong_X10_tipAt
set_option maxRecDepth 20000 in
theorem ggX10_wrong_X10_requireThere : GoodIn wsX10_wrong wsX10_requireThere := goodIn_ca (goodIn_r _ [43, 44, 45] (by decide +kernel) (by decide +kernel)) (goodIn_sub (fun _ h => List.mem_cons_of_mem _ (List.mem_append_left _ (List.mem_append_right _ h))) (by decide +kernel))
set_option maxRecDepth 20000 in
theorem gX10_wrong_X10_requireThere : GoodIn wsX10_wrong (va_wsS RX10 232 yX10_requireThere wsX10_requireThere) := goodIn_app (goodIn_of _ (by decide +kernel)) ggX10_wrong_X10_requireThere
set_option maxRecDepth 20000 in
theorem ggX10_wrong_X10_require : GoodIn wsX10_wrong wsX10_require := goodIn_ca (goodIn_r _ [48, 49, 50] (by decide +kernel) (by decide +kernel)) (goodIn_sub (fun _ h => List.mem_cons_of_mem _ (List.mem_append_right _ h)) (by decide +kernel))
set_option maxRecDepth 20000 in
theorem gX10_wrong_X10_require : GoodIn wsX10_wrong (va_wsS RX10 82 yX10_require wsX10_require) := goodIn_app (goodIn_of _ (by decide +kernel)) ggX10_wrong_X10_require
theorem dX10_wrong_0 : decode cX10_wrong 0 = .ok (.aload_n 0, 1) := by decide +kernel
theorem dX10_wrong_1 : decode cX10_wrong 1 = .ok (.iload_n 1, 1) := by decide +kernel
theorem dX10_wrong_2 : decode cX10_wrong 2 = .ok (.invokevirtual 225, 3) := by decide +kernel
theorem dX10_wrong_5 : decode cX10_wrong 5 = .ok (.astore_n 2, 1) := by decide +kernel
theorem dX10_wrong_6 : decode cX10_wrong 6 = .ok (.aload_n 2, 1) := by decide +kernel
theorem dX10_wrong_7 : decode cX10_wrong 7 = .ok (.getfield 229, 3) := by decide +kernel
theorem dX10_wrong_10 : decode cX10_wrong 10 = .ok (.aload_n 0, 1) := by decide +kernel
theorem dX10_wrong_11 : decode cX10_wrong 11 = .ok (.getfield 49, 3) := by decide +kernel
theorem dX10_wrong_14 : decode cX10_wrong 14 = .ok (.if_icmp .ne 7, 3) := by decide +kernel
theorem dX10_wrong_17 : decode cX10_wrong 17 = .ok (.iconst 1, 1) := by decide +kernel
theorem dX10_wrong_18 : decode cX10_wrong 18 = .ok (.goto 4, 3) := by decide +kernel
theorem dX10_wrong_21 : decode cX10_wrong 21 = .ok (.iconst 0, 1) := by decide +kernel
theorem dX10_wrong_22 : decode cX10_wrong 22 = .ok (.invokestatic 232, 3) := by decide +kernel
theorem dX10_wrong_25 : decode cX10_wrong 25 = .ok (.aload_n 2, 1) := by decide +kernel
theorem dX10_wrong_26 : decode cX10_wrong 26 = .ok (.getfield 211, 3) := by decide +kernel
theorem dX10_wrong_29 : decode cX10_wrong 29 = .ok (.ifnull 29, 3) := by decide +kernel
theorem dX10_wrong_32 : decode cX10_wrong 32 = .ok (.aload_n 2, 1) := by decide +kernel
theorem dX10_wrong_33 : decode cX10_wrong 33 = .ok (.getfield 211, 3) := by decide +kernel
theorem dX10_wrong_36 : decode cX10_wrong 36 = .ok (.getfield 158, 3) := by decide +kernel
theorem dX10_wrong_39 : decode cX10_wrong 39 = .ok (.iconst 1, 1) := by decide +kernel
theorem dX10_wrong_40 : decode cX10_wrong 40 = .ok (.if_icmp .eq 14, 3) := by decide +kernel
theorem dX10_wrong_43 : decode cX10_wrong 43 = .ok (.aload_n 2, 1) := by decide +kernel
theorem dX10_wrong_44 : decode cX10_wrong 44 = .ok (.getfield 211, 3) := by decide +kernel
theorem dX10_wrong_47 : decode cX10_wrong 47 = .ok (.getfield 158, 3) := by decide +kernel
theorem dX10_wrong_50 : decode cX10_wrong 50 = .ok (.iconst 2, 1) := by decide +kernel
theorem dX10_wrong_51 : decode cX10_wrong 51 = .ok (.if_icmp .ne 7, 3) := by decide +kernel
theorem dX10_wrong_54 : decode cX10_wrong 54 = .ok (.iconst 1, 1) := by decide +kernel
theorem dX10_wrong_55 : decode cX10_wrong 55 = .ok (.goto 4, 3) := by decide +kernel
theorem dX10_wrong_58 : decode cX10_wrong 58 = .ok (.iconst 0, 1) := by decide +kernel
theorem dX10_wrong_59 : decode cX10_wrong 59 = .ok (.invokestatic 82, 3) := by decide +kernel
theorem dX10_wrong_62 : decode cX10_wrong 62 = .ok (.aload_n 2, 1) := by decide +kernel
theorem dX10_wrong_63 : decode cX10_wrong 63 = .ok (.getfield 235, 3) := by decide +kernel
theorem dX10_wrong_66 : decode cX10_wrong 66 = .ok (.ifCond .ne 7, 3) := by decide +kernel
theorem dX10_wrong_69 : decode cX10_wrong 69 = .ok (.iconst 1, 1) := by decide +kernel
theorem dX10_wrong_70 : decode cX10_wrong 70 = .ok (.goto 4, 3) := by decide +kernel
theorem dX10_wrong_73 : decode cX10_wrong 73 = .ok (.iconst 0, 1) := by decide +kernel
theorem dX10_wrong_74 : decode cX10_wrong 74 = .ok (.istore_n 3, 1) := by decide +kernel
theorem dX10_wrong_75 : decode cX10_wrong 75 = .ok (.aload_n 2, 1) := by decide +kernel
theorem dX10_wrong_76 : decode cX10_wrong 76 = .ok (.iconst 1, 1) := by decide +kernel
theorem dX10_wrong_77 : decode cX10_wrong 77 = .ok (.putfield 235, 3) := by decide +kernel
theorem dX10_wrong_80 : decode cX10_wrong 80 = .ok (.iload_n 3, 1) := by decide +kernel
theorem dX10_wrong_81 : decode cX10_wrong 81 = .ok (.ireturn, 1) := by decide +kernel
set_option maxRecDepth 20000 in
theorem ggX10_gate_X10_cartAt : GoodIn wsX10_gate wsX10_cartAt := goodIn_ca (goodIn_r _ [7, 8, 9, 10, 11, 12, 13, 14, 15, 16, 17, 6, 18, 19, 20, 21, 22, 23, 24, 25, 26, 27, 28, 29, 30, 31, 32, 33, 34, 35, 36, 37, 52, 53, 54, 55, 56, 57, 58, 59, 60, 61, 62, 63, 64, 65] (by decide +kernel) (by decide +kernel)) (goodIn_sub (fun _ h => List.mem_cons_of_mem _ (List.mem_append_left _ (List.mem_append_right _ h))) (by decide +kernel))
set_option maxRecDepth 20000 in
theorem gX10_gate_X10_cartAt : GoodIn wsX10_gate (wsV RX10 191 RX10 yX10_cartAt wsX10_cartAt) := goodIn_app (goodIn_of _ (by decide +kernel)) ggX10_gate_X10_cartAt
set_option maxRecDepth 20000 in
theorem ggX10_gate_X10_isWithin : GoodIn wsX10_gate wsX10_isWithin := goodIn_r _ [40] (by decide +kernel) (by decide +kernel)
set_option maxRecDepth 20000 in
theorem gX10_gate_X10_isWithin : GoodIn wsX10_gate (va_wsS RX10 87 yX10_isWithin wsX10_isWithin) := goodIn_app (goodIn_of _ (by decide +kernel)) ggX10_gate_X10_isWithin
set_option maxRecDepth 20000 in
theorem ggX10_gate_X10_require : GoodIn wsX10_gate wsX10_require := goodIn_ca (goodIn_r _ [43, 44, 45] (by decide +kernel) (by decide +kernel)) (goodIn_sub (fun _ h => List.mem_cons_of_mem _ (List.mem_append_right _ h)) (by decide +kernel))
set_option maxRecDepth 20000 in
theorem gX10_gate_X10_require : GoodIn wsX10_gate (va_wsS RX10 82 yX10_require wsX10_require) := goodIn_app (goodIn_of _ (by decide +kernel)) ggX10_gate_X10_require
theorem dX10_gate_0 : decode cX10_gate 0 = .ok (.aload_n 0, 1) := by decide +kernel
theorem dX10_gate_1 : decode cX10_gate 1 = .ok (.iload_n 1, 1) := by decide +kernel
theorem dX10_gate_2 : decode cX10_gate 2 = .ok (.invokevirtual 191, 3) := by decide +kernel
theorem dX10_gate_5 : decode cX10_gate 5 = .ok (.astore_n 3, 1) := by decide +kernel
theorem dX10_gate_6 : decode cX10_gate 6 = .ok (.iload_n 2, 1) := by decide +kernel
theorem dX10_gate_7 : decode cX10_gate 7 = .ok (.i2l, 1) := by decide +kernel
theorem dX10_gate_8 : decode cX10_gate 8 = .ok (.lconst 0, 1) := by decide +kernel
theorem dX10_gate_9 : decode cX10_gate 9 = .ok (.ldc2_w 238, 3) := by decide +kernel
theorem dX10_gate_12 : decode cX10_gate 12 = .ok (.invokestatic 87, 3) := by decide +kernel
theorem dX10_gate_15 : decode cX10_gate 15 = .ok (.invokestatic 82, 3) := by decide +kernel
theorem dX10_gate_18 : decode cX10_gate 18 = .ok (.aload_n 3, 1) := by decide +kernel
theorem dX10_gate_19 : decode cX10_gate 19 = .ok (.iload_n 2, 1) := by decide +kernel
theorem dX10_gate_20 : decode cX10_gate 20 = .ok (.putfield 240, 3) := by decide +kernel
theorem dX10_gate_23 : decode cX10_gate 23 = .ok (.return_, 1) := by decide +kernel
set_option maxRecDepth 20000 in
theorem ggX10_close_X10_requireRoom : GoodIn wsX10_close wsX10_requireRoom := goodIn_ca (goodIn_r _ [12, 13, 14] (by decide +kernel) (by decide +kernel)) (goodIn_sub (fun _ h => List.mem_cons_of_mem _ (List.mem_append_right _ h)) (by decide +kernel))
set_option maxRecDepth 20000 in
theorem gX10_close_X10_requireRoom : GoodIn wsX10_close (va_wsS RX10 63 yX10_requireRoom wsX10_requireRoom) := goodIn_app (goodIn_of _ (by decide +kernel)) ggX10_close_X10_requireRoom
set_option maxRecDepth 20000 in
theorem ggX10_close_X10_readGates : GoodIn wsX10_close wsX10_readGates := goodIn_r _ [18, 19, 20, 21, 22, 23, 24, 25, 26, 27, 28, 29, 30, 31, 32, 33, 34, 35, 36, 37, 38, 39, 40, 41, 42, 43, 44, 45, 46, 47, 48, 49, 11, 50, 51, 52, 53, 54, 55, 56, 57, 58, 59, 60, 2, 3, 4, 5, 61, 62, 63, 64, 65, 1, 161, 162, 163, 164, 165, 166, 167, 168, 169, 170, 171, 185, 186, 187, 188, 189, 190, 191, 192, 193, 172, 173, 174, 175, 176, 177, 178, 179, 180, 181, 182, 183, 184] (by decide +kernel) (by decide +kernel)
set_option maxRecDepth 20000 in
theorem gX10_close_X10_readGates : GoodIn wsX10_close (wsV RX10 243 RX10 yX10_readGates wsX10_readGates) := goodIn_app (goodIn_of _ (by decide +kernel)) ggX10_close_X10_readGates
set_option maxRecDepth 20000 in
theorem ggX10_close_X10_firstTipToday : GoodIn wsX10_close wsX10_firstTipToday := goodIn_r _ [64, 2, 3, 65, 1, 24, 25, 26, 27, 28, 29, 30, 31, 32, 33, 34, 35, 36, 37, 38, 39, 40, 41, 42, 43, 44, 45, 46, 161, 162, 163, 164, 165, 166, 167, 168, 169, 170, 171, 172, 173, 174, 175, 176, 177, 178, 179, 180, 181, 182, 183, 184, 191, 192, 193] (by decide +kernel) (by decide +kernel)
set_option maxRecDepth 20000 in
theorem gX10_close_X10_firstTipToday : GoodIn wsX10_close (wsV RX10 246 RX10 yX10_firstTipToday wsX10_firstTipToday) := goodIn_app (goodIn_of _ (by decide +kernel)) ggX10_close_X10_firstTipToday
set_option maxRecDepth 20000 in
theorem ggX10_close_Jx4a65c_size_8abf5 : GoodIn wsX10_close wsJx4a65c_size_8abf5 := goodIn_r _ [28, 29, 191, 192, 193] (by decide +kernel) (by decide +kernel)
set_option maxRecDepth 20000 in
theorem gX10_close_Jx4a65c_size_8abf5 : GoodIn wsX10_close (wsV RX10 59 RJx4a65c yJx4a65c_size_8abf5 wsJx4a65c_size_8abf5) := goodIn_app (goodIn_of _ (by decide +kernel)) ggX10_close_Jx4a65c_size_8abf5
set_option maxRecDepth 20000 in
theorem ggX10_close_Jx4a65c_get_915e3 : GoodIn wsX10_close wsJx4a65c_get_915e3 := goodIn_r _ [33, 29, 34, 35, 36, 37, 38, 39, 40, 41, 42, 43, 44, 27, 45, 46, 191, 192, 193] (by decide +kernel) (by decide +kernel)
set_option maxRecDepth 20000 in
theorem gX10_close_Jx4a65c_get_915e3 : GoodIn wsX10_close (wsV RX10 249 RJx4a65c yJx4a65c_get_915e3 wsJx4a65c_get_915e3) := goodIn_app (goodIn_of _ (by decide +kernel)) ggX10_close_Jx4a65c_get_915e3
set_option maxRecDepth 20000 in
theorem ggX10_close_X2_payHalves : GoodIn wsX10_close wsX2_payHalves := goodIn_r _ [70, 71, 72, 73, 74, 53, 75, 185, 186, 187, 188, 189, 190] (by decide +kernel) (by decide +kernel)
set_option maxRecDepth 20000 in
theorem gX10_close_X2_payHalves : GoodIn wsX10_close (wsV RX10 257 RX2 yX2_payHalves wsX2_payHalves) := goodIn_app (goodIn_of _ (by decide +kernel)) ggX10_close_X2_payHalves
set_option maxRecDepth 20000 in
theorem ggX10_close_X2_capOfDay : GoodIn wsX10_close wsX2_capOfDay := goodIn_r _ [79, 71, 80, 185, 186, 187, 188, 189, 190] (by decide +kernel) (by decide +kernel)
set_option maxRecDepth 20000 in
theorem gX10_close_X2_capOfDay : GoodIn wsX10_close (wsV RX10 263 RX2 yX2_capOfDay wsX2_capOfDay) := goodIn_app (goodIn_of _ (by decide +kernel)) ggX10_close_X2_capOfDay
set_option maxRecDepth 20000 in
theorem ggX10_close_X10_chargeTip : GoodIn wsX10_close wsX10_chargeTip := goodIn_r _ [84, 85, 86, 87, 88, 89, 90, 91, 92, 93, 11, 94, 95, 65, 96, 97, 98, 99, 100, 101, 102, 103, 104, 105, 25, 26, 27, 28, 29, 106, 31, 32, 33, 34, 35, 36, 37, 38, 39, 40, 41, 42, 43, 44, 45, 46, 107, 108, 109, 110, 111, 112, 113, 114, 115, 116, 117, 118, 119, 120, 121, 122, 123, 124, 125, 126, 127, 128, 129, 130, 131, 132, 133, 8, 6, 134, 135, 136, 137, 138, 24, 30, 139, 140, 141, 142, 143, 144, 145, 146, 147, 148, 149, 150, 151, 152, 153, 154, 155, 156, 172, 173, 174, 175, 176, 177, 178, 179, 180, 181, 182, 183, 184, 194, 195, 196, 197, 198, 199, 200, 161, 162, 163, 164, 165, 166, 167, 168, 169, 170, 171, 201, 202, 191, 192, 193, 203, 204, 205, 206, 207, 208, 209, 210, 211, 212, 213, 214, 215, 216, 217] (by decide +kernel) (by decide +kernel)
set_option maxRecDepth 20000 in
theorem gX10_close_X10_chargeTip : GoodIn wsX10_close (wsV RX10 269 RX10 yX10_chargeTip wsX10_chargeTip) := goodIn_app (goodIn_of _ (by decide +kernel)) ggX10_close_X10_chargeTip
set_option maxRecDepth 20000 in
theorem ggX10_close_X10_forgetGates : GoodIn wsX10_close wsX10_forgetGates := goodIn_r _ [160, 19, 20, 22, 24, 25, 26, 27, 28, 29, 30, 31, 32, 33, 34, 35, 36, 37, 38, 39, 40, 41, 42, 43, 44, 45, 46, 161, 162, 163, 164, 165, 166, 167, 168, 169, 170, 171, 185, 186, 187, 188, 189, 190, 191, 192, 193] (by decide +kernel) (by decide +kernel)
set_option maxRecDepth 20000 in
theorem gX10_close_X10_forgetGates : GoodIn wsX10_close (wsV RX10 273 RX10 yX10_forgetGates wsX10_forgetGates) := goodIn_app (goodIn_of _ (by decide +kernel)) ggX10_close_X10_forgetGates
theorem dX10_close_0 : decode cX10_close 0 = .ok (.aload_n 0, 1) := by decide +kernel
theorem dX10_close_1 : decode cX10_close 1 = .ok (.getfield 49, 3) := by decide +kernel
theorem dX10_close_4 : decode cX10_close 4 = .ok (.sipush 699, 3) := by decide +kernel
theorem dX10_close_7 : decode cX10_close 7 = .ok (.if_icmp .ge 7, 3) := by decide +kernel
theorem dX10_close_10 : decode cX10_close 10 = .ok (.iconst 1, 1) := by decide +kernel
theorem dX10_close_11 : decode cX10_close 11 = .ok (.goto 4, 3) := by decide +kernel
theorem dX10_close_14 : decode cX10_close 14 = .ok (.iconst 0, 1) := by decide +kernel
theorem dX10_close_15 : decode cX10_close 15 = .ok (.invokestatic 63, 3) := by decide +kernel
theorem dX10_close_18 : decode cX10_close 18 = .ok (.aload_n 0, 1) := by decide +kernel
theorem dX10_close_19 : decode cX10_close 19 = .ok (.invokevirtual 243, 3) := by decide +kernel
theorem dX10_close_22 : decode cX10_close 22 = .ok (.iconst 0, 1) := by decide +kernel
theorem dX10_close_23 : decode cX10_close 23 = .ok (.istore_n 1, 1) := by decide +kernel
theorem dX10_close_24 : decode cX10_close 24 = .ok (.aload_n 0, 1) := by decide +kernel
theorem dX10_close_25 : decode cX10_close 25 = .ok (.invokevirtual 246, 3) := by decide +kernel
theorem dX10_close_28 : decode cX10_close 28 = .ok (.istore_n 2, 1) := by decide +kernel
theorem dX10_close_29 : decode cX10_close 29 = .ok (.iload_n 2, 1) := by decide +kernel
theorem dX10_close_30 : decode cX10_close 30 = .ok (.aload_n 0, 1) := by decide +kernel
theorem dX10_close_31 : decode cX10_close 31 = .ok (.getfield 25, 3) := by decide +kernel
theorem dX10_close_34 : decode cX10_close 34 = .ok (.invokevirtual 59, 3) := by decide +kernel
theorem dX10_close_37 : decode cX10_close 37 = .ok (.if_icmp .ge 66, 3) := by decide +kernel
theorem dX10_close_40 : decode cX10_close 40 = .ok (.aload_n 0, 1) := by decide +kernel
theorem dX10_close_41 : decode cX10_close 41 = .ok (.getfield 25, 3) := by decide +kernel
theorem dX10_close_44 : decode cX10_close 44 = .ok (.iload_n 2, 1) := by decide +kernel
theorem dX10_close_45 : decode cX10_close 45 = .ok (.invokevirtual 249, 3) := by decide +kernel
theorem dX10_close_48 : decode cX10_close 48 = .ok (.checkcast 199, 3) := by decide +kernel
theorem dX10_close_51 : decode cX10_close 51 = .ok (.astore_n 3, 1) := by decide +kernel
theorem dX10_close_52 : decode cX10_close 52 = .ok (.aload_n 3, 1) := by decide +kernel
theorem dX10_close_53 : decode cX10_close 53 = .ok (.aload_n 3, 1) := by decide +kernel
theorem dX10_close_54 : decode cX10_close 54 = .ok (.getfield 253, 3) := by decide +kernel
theorem dX10_close_57 : decode cX10_close 57 = .ok (.aload_n 3, 1) := by decide +kernel
theorem dX10_close_58 : decode cX10_close 58 = .ok (.getfield 219, 3) := by decide +kernel
theorem dX10_close_61 : decode cX10_close 61 = .ok (.invokevirtual 257, 3) := by decide +kernel
theorem dX10_close_64 : decode cX10_close 64 = .ok (.putfield 260, 3) := by decide +kernel
theorem dX10_close_67 : decode cX10_close 67 = .ok (.aload_n 3, 1) := by decide +kernel
theorem dX10_close_68 : decode cX10_close 68 = .ok (.aload_n 3, 1) := by decide +kernel
theorem dX10_close_69 : decode cX10_close 69 = .ok (.getfield 253, 3) := by decide +kernel
theorem dX10_close_72 : decode cX10_close 72 = .ok (.invokevirtual 263, 3) := by decide +kernel
theorem dX10_close_75 : decode cX10_close 75 = .ok (.putfield 266, 3) := by decide +kernel
theorem dX10_close_78 : decode cX10_close 78 = .ok (.aload_n 3, 1) := by decide +kernel
theorem dX10_close_79 : decode cX10_close 79 = .ok (.getfield 211, 3) := by decide +kernel
theorem dX10_close_82 : decode cX10_close 82 = .ok (.ifnull 15, 3) := by decide +kernel
theorem dX10_close_85 : decode cX10_close 85 = .ok (.aload_n 0, 1) := by decide +kernel
theorem dX10_close_86 : decode cX10_close 86 = .ok (.aload_n 3, 1) := by decide +kernel
theorem dX10_close_87 : decode cX10_close 87 = .ok (.aload_n 3, 1) := by decide +kernel
theorem dX10_close_88 : decode cX10_close 88 = .ok (.getfield 211, 3) := by decide +kernel
theorem dX10_close_91 : decode cX10_close 91 = .ok (.invokevirtual 269, 3) := by decide +kernel
theorem dX10_close_94 : decode cX10_close 94 = .ok (.iinc 1 1, 3) := by decide +kernel
theorem dX10_close_97 : decode cX10_close 97 = .ok (.iinc 2 1, 3) := by decide +kernel
theorem dX10_close_100 : decode cX10_close 100 = .ok (.goto (-71), 3) := by decide +kernel
theorem dX10_close_103 : decode cX10_close 103 = .ok (.aload_n 0, 1) := by decide +kernel
theorem dX10_close_104 : decode cX10_close 104 = .ok (.invokevirtual 273, 3) := by decide +kernel
theorem dX10_close_107 : decode cX10_close 107 = .ok (.aload_n 0, 1) := by decide +kernel
theorem dX10_close_108 : decode cX10_close 108 = .ok (.dup, 1) := by decide +kernel
theorem dX10_close_109 : decode cX10_close 109 = .ok (.getfield 49, 3) := by decide +kernel
theorem dX10_close_112 : decode cX10_close 112 = .ok (.iconst 1, 1) := by decide +kernel
theorem dX10_close_113 : decode cX10_close 113 = .ok (.iadd, 1) := by decide +kernel
theorem dX10_close_114 : decode cX10_close 114 = .ok (.putfield 49, 3) := by decide +kernel
theorem dX10_close_117 : decode cX10_close 117 = .ok (.iload_n 1, 1) := by decide +kernel
theorem dX10_close_118 : decode cX10_close 118 = .ok (.ireturn, 1) := by decide +kernel
set_option maxRecDepth 20000 in
theorem ggX10_claim_X10_tipAt : GoodIn wsX10_claim wsX10_tipAt := goodIn_ca (goodIn_r _ [10, 11, 12, 13, 14, 15, 16, 17, 18, 19, 20, 9, 21, 22, 23, 24, 25, 26, 27, 28, 29, 30, 31, 32, 33, 34, 35, 36, 37, 38, 39, 40, 153, 154, 155, 156, 157, 158, 159, 160, 161, 162, 163, 164, 165, 166] (by decide +kernel) (by decide +kernel)) (goodIn_sub (fun _ h => List.mem_cons_of_mem _ (List.mem_append_left _ (List.mem_append_left _ (List.mem_append_right _ h)))) (by decide +kernel))
set_option maxRecDepth 20000 in
theorem gX10_claim_X10_tipAt : GoodIn wsX10_claim (wsV RX10 225 RX10 yX10_tipAt wsX10_tipAt) := goodIn_app (goodIn_of _ (by decide +kernel)) ggX10_claim_X10_tipAt
set_option maxRecDepth 20000 in
theorem ggX10_claim_X10_binAt : GoodIn wsX10_claim wsX10_binAt := goodIn_ca (goodIn_r _ [44, 45, 46, 13, 14, 15, 16, 17, 18, 19, 20, 9, 21, 22, 23, 24, 25, 26, 27, 28, 29, 30, 31, 32, 33, 34, 35, 36, 37, 38, 39, 40, 153, 154, 155, 156, 157, 158, 159, 160, 161, 162, 163, 164, 165, 166] (by decide +kernel) (by decide +kernel)) (goodIn_sub (fun _ h => List.mem_cons_of_mem _ (List.mem_append_left _ (List.mem_append_left _ (List.mem_append_right _ h)))) (by decide +kernel))
set_option maxRecDepth 20000 in
theorem gX10_claim_X10_binAt : GoodIn wsX10_claim (wsV RX10 134 RX10 yX10_binAt wsX10_binAt) := goodIn_app (goodIn_of _ (by decide +kernel)) ggX10_claim_X10_binAt
set_option maxRecDepth 20000 in
theorem ggX10_claim_X10_requireThere : GoodIn wsX10_claim wsX10_requireThere := goodIn_ca (goodIn_r _ [49, 50, 51] (by decide +kernel) (by decide +kernel)) (goodIn_sub (fun _ h => List.mem_cons_of_mem _ (List.mem_append_left _ (List.mem_append_right _ h))) (by decide +kernel))
set_option maxRecDepth 20000 in
theorem gX10_claim_X10_requireThere : GoodIn wsX10_claim (va_wsS RX10 232 yX10_requireThere wsX10_requireThere) := goodIn_app (goodIn_of _ (by decide +kernel)) ggX10_claim_X10_requireThere
set_option maxRecDepth 20000 in
theorem ggX10_claim_X0_bears : GoodIn wsX10_claim wsX0_bears := goodIn_r _ [56, 57, 58, 167, 168, 169, 170, 171, 172, 173] (by decide +kernel) (by decide +kernel)
set_option maxRecDepth 20000 in
theorem gX10_claim_X0_bears : GoodIn wsX10_claim (wsV RX10 280 RX0 yX0_bears wsX0_bears) := goodIn_app (goodIn_of _ (by decide +kernel)) ggX10_claim_X0_bears
set_option maxRecDepth 20000 in
theorem ggX10_claim_X10_require : GoodIn wsX10_claim wsX10_require := goodIn_ca (goodIn_r _ [61, 62, 63] (by decide +kernel) (by decide +kernel)) (goodIn_sub (fun _ h => List.mem_cons_of_mem _ (List.mem_append_right _ h)) (by decide +kernel))
set_option maxRecDepth 20000 in
theorem gX10_claim_X10_require : GoodIn wsX10_claim (va_wsS RX10 82 yX10_require wsX10_require) := goodIn_app (goodIn_of _ (by decide +kernel)) ggX10_claim_X10_require
set_option maxRecDepth 20000 in
theorem ggX10_claim_X10_chargeTip : GoodIn wsX10_claim wsX10_chargeTip := goodIn_r _ [67, 68, 69, 70, 71, 72, 73, 74, 75, 76, 9, 77, 78, 2, 79, 80, 81, 55, 82, 83, 84, 85, 86, 87, 14, 15, 16, 17, 18, 88, 25, 26, 27, 28, 29, 30, 31, 32, 33, 34, 35, 36, 37, 38, 39, 40, 89, 90, 91, 92, 93, 94, 95, 96, 97, 98, 99, 100, 101, 102, 103, 104, 105, 106, 107, 108, 109, 110, 111, 112, 113, 114, 115, 5, 116, 117, 118, 119, 120, 121, 13, 24, 122, 123, 124, 125, 126, 127, 128, 129, 130, 131, 132, 133, 134, 135, 136, 137, 138, 139, 140, 141, 142, 143, 144, 145, 146, 147, 148, 149, 150, 151, 152, 167, 168, 169, 170, 171, 172, 173, 153, 154, 155, 156, 157, 158, 159, 160, 161, 162, 163, 174, 175, 164, 165, 166, 176, 177, 178, 179, 180, 181, 182, 183, 184, 185, 186, 187, 188, 189, 190] (by decide +kernel) (by decide +kernel)
set_option maxRecDepth 20000 in
theorem gX10_claim_X10_chargeTip : GoodIn wsX10_claim (wsV RX10 269 RX10 yX10_chargeTip wsX10_chargeTip) := goodIn_app (goodIn_of _ (by decide +kernel)) ggX10_claim_X10_chargeTip
set_option maxRecDepth 20000 in
theorem ggX10_claim_X10_splitCharge : GoodIn wsX10_claim wsX10_splitCharge := goodIn_r _ [115, 73, 5, 71, 72, 116, 78, 2, 111, 117, 118, 119, 9, 120, 108, 109, 121, 13, 14, 15, 16, 17, 18, 24, 25, 26, 27, 28, 29, 30, 31, 32, 33, 34, 35, 36, 37, 38, 39, 40, 122, 123, 124, 125, 126, 127, 128, 55, 129, 130, 131, 132, 133, 134, 135, 87, 88, 136, 137, 138, 139, 79, 80, 81, 82, 83, 84, 85, 86, 140, 141, 142, 143, 144, 145, 146, 147, 148, 149, 150, 151, 152, 167, 168, 169, 170, 171, 172, 173, 176, 177, 178, 179, 180, 181, 182, 183, 184, 185, 153, 154, 155, 156, 157, 158, 159, 160, 161, 162, 163, 164, 165, 166, 188, 189, 190, 174, 175] (by decide +kernel) (by decide +kernel)
set_option maxRecDepth 20000 in
theorem gX10_claim_X10_splitCharge : GoodIn wsX10_claim (wsV RX10 283 RX10 yX10_splitCharge wsX10_splitCharge) := goodIn_app (goodIn_of _ (by decide +kernel)) ggX10_claim_X10_splitCharge
theorem dX10_claim_0 : decode cX10_claim 0 = .ok (.aload_n 0, 1) := by decide +kernel
theorem dX10_claim_1 : decode cX10_claim 1 = .ok (.iload_n 1, 1) := by decide +kernel
theorem dX10_claim_2 : decode cX10_claim 2 = .ok (.invokevirtual 225, 3) := by decide +kernel
theorem dX10_claim_5 : decode cX10_claim 5 = .ok (.astore_n 3, 1) := by decide +kernel
theorem dX10_claim_6 : decode cX10_claim 6 = .ok (.aload_n 0, 1) := by decide +kernel
theorem dX10_claim_7 : decode cX10_claim 7 = .ok (.iload_n 2, 1) := by decide +kernel
theorem dX10_claim_8 : decode cX10_claim 8 = .ok (.invokevirtual 134, 3) := by decide +kernel
theorem dX10_claim_11 : decode cX10_claim 11 = .ok (.astore 4, 2) := by decide +kernel
theorem dX10_claim_13 : decode cX10_claim 13 = .ok (.aload_n 3, 1) := by decide +kernel
theorem dX10_claim_14 : decode cX10_claim 14 = .ok (.getfield 276, 3) := by decide +kernel
theorem dX10_claim_17 : decode cX10_claim 17 = .ok (.iconst 2, 1) := by decide +kernel
theorem dX10_claim_18 : decode cX10_claim 18 = .ok (.if_icmp .ne 18, 3) := by decide +kernel
theorem dX10_claim_21 : decode cX10_claim 21 = .ok (.aload_n 3, 1) := by decide +kernel
theorem dX10_claim_22 : decode cX10_claim 22 = .ok (.getfield 229, 3) := by decide +kernel
theorem dX10_claim_25 : decode cX10_claim 25 = .ok (.aload_n 0, 1) := by decide +kernel
theorem dX10_claim_26 : decode cX10_claim 26 = .ok (.getfield 49, 3) := by decide +kernel
theorem dX10_claim_29 : decode cX10_claim 29 = .ok (.if_icmp .ge 7, 3) := by decide +kernel
theorem dX10_claim_32 : decode cX10_claim 32 = .ok (.iconst 1, 1) := by decide +kernel
theorem dX10_claim_33 : decode cX10_claim 33 = .ok (.goto 4, 3) := by decide +kernel
theorem dX10_claim_36 : decode cX10_claim 36 = .ok (.iconst 0, 1) := by decide +kernel
theorem dX10_claim_37 : decode cX10_claim 37 = .ok (.invokestatic 232, 3) := by decide +kernel
theorem dX10_claim_40 : decode cX10_claim 40 = .ok (.aload 4, 2) := by decide +kernel
theorem dX10_claim_42 : decode cX10_claim 42 = .ok (.aload_n 3, 1) := by decide +kernel
theorem dX10_claim_43 : decode cX10_claim 43 = .ok (.getfield 279, 3) := by decide +kernel
theorem dX10_claim_46 : decode cX10_claim 46 = .ok (.invokevirtual 280, 3) := by decide +kernel
theorem dX10_claim_49 : decode cX10_claim 49 = .ok (.invokestatic 82, 3) := by decide +kernel
theorem dX10_claim_52 : decode cX10_claim 52 = .ok (.aload_n 3, 1) := by decide +kernel
theorem dX10_claim_53 : decode cX10_claim 53 = .ok (.iconst 3, 1) := by decide +kernel
theorem dX10_claim_54 : decode cX10_claim 54 = .ok (.putfield 276, 3) := by decide +kernel
theorem dX10_claim_57 : decode cX10_claim 57 = .ok (.aload_n 3, 1) := by decide +kernel
theorem dX10_claim_58 : decode cX10_claim 58 = .ok (.aload 4, 2) := by decide +kernel
theorem dX10_claim_60 : decode cX10_claim 60 = .ok (.putfield 211, 3) := by decide +kernel
theorem dX10_claim_63 : decode cX10_claim 63 = .ok (.aload_n 0, 1) := by decide +kernel
theorem dX10_claim_64 : decode cX10_claim 64 = .ok (.aload_n 3, 1) := by decide +kernel
theorem dX10_claim_65 : decode cX10_claim 65 = .ok (.aload 4, 2) := by decide +kernel
theorem dX10_claim_67 : decode cX10_claim 67 = .ok (.invokevirtual 269, 3) := by decide +kernel
theorem dX10_claim_70 : decode cX10_claim 70 = .ok (.aload_n 0, 1) := by decide +kernel
theorem dX10_claim_71 : decode cX10_claim 71 = .ok (.aload_n 3, 1) := by decide +kernel
theorem dX10_claim_72 : decode cX10_claim 72 = .ok (.invokevirtual 283, 3) := by decide +kernel
theorem dX10_claim_75 : decode cX10_claim 75 = .ok (.lreturn, 1) := by decide +kernel
set_option maxRecDepth 20000 in
theorem ggX10_weigh_X10_tipAt : GoodIn wsX10_weigh wsX10_tipAt := goodIn_ca (goodIn_r _ [13, 14, 15, 16, 17, 18, 19, 20, 21, 22, 23, 12, 24, 25, 26, 27, 28, 29, 30, 31, 32, 33, 34, 35, 36, 37, 38, 39, 40, 41, 42, 43, 136, 137, 138, 139, 140, 141, 142, 143, 144, 145, 146, 147, 148, 149] (by decide +kernel) (by decide +kernel)) (goodIn_sub (fun _ h => List.mem_cons_of_mem _ (List.mem_append_left _ (List.mem_append_left _ (List.mem_append_right _ h)))) (by decide +kernel))
set_option maxRecDepth 20000 in
theorem gX10_weigh_X10_tipAt : GoodIn wsX10_weigh (wsV RX10 225 RX10 yX10_tipAt wsX10_tipAt) := goodIn_app (goodIn_of _ (by decide +kernel)) ggX10_weigh_X10_tipAt
set_option maxRecDepth 20000 in
theorem ggX10_weigh_X10_requireThere : GoodIn wsX10_weigh wsX10_requireThere := goodIn_ca (goodIn_r _ [46, 47, 48] (by decide +kernel) (by decide +kernel)) (goodIn_sub (fun _ h => List.mem_cons_of_mem _ (List.mem_append_left _ (List.mem_append_right _ h))) (by decide +kernel))
set_option maxRecDepth 20000 in
theorem gX10_weigh_X10_requireThere : GoodIn wsX10_weigh (va_wsS RX10 232 yX10_requireThere wsX10_requireThere) := goodIn_app (goodIn_of _ (by decide +kernel)) ggX10_weigh_X10_requireThere
set_option maxRecDepth 20000 in
theorem ggX10_weigh_X10_isWithin : GoodIn wsX10_weigh wsX10_isWithin := goodIn_r _ [51] (by decide +kernel) (by decide +kernel)
set_option maxRecDepth 20000 in
theorem gX10_weigh_X10_isWithin : GoodIn wsX10_weigh (va_wsS RX10 87 yX10_isWithin wsX10_isWithin) := goodIn_app (goodIn_of _ (by decide +kernel)) ggX10_weigh_X10_isWithin
set_option maxRecDepth 20000 in
theorem ggX10_weigh_X10_require : GoodIn wsX10_weigh wsX10_require := goodIn_ca (goodIn_r _ [54, 55, 56] (by decide +kernel) (by decide +kernel)) (goodIn_sub (fun _ h => List.mem_cons_of_mem _ (List.mem_append_right _ h)) (by decide +kernel))
set_option maxRecDepth 20000 in
theorem gX10_weigh_X10_require : GoodIn wsX10_weigh (va_wsS RX10 82 yX10_require wsX10_require) := goodIn_app (goodIn_of _ (by decide +kernel)) ggX10_weigh_X10_require
set_option maxRecDepth 20000 in
theorem ggX10_weigh_X10_addShares : GoodIn wsX10_weigh wsX10_addShares := goodIn_r _ [60, 61, 62, 63, 64, 65, 66, 67, 12, 68, 69, 70, 71, 72, 8, 73, 6, 74, 75, 76, 77, 78, 16, 17, 18, 19, 20, 21, 27, 28, 29, 30, 31, 32, 33, 34, 35, 36, 37, 38, 39, 40, 41, 42, 43, 79, 80, 81, 82, 83, 84, 85, 86, 87, 88, 89, 90, 91, 92, 93, 94, 95, 96, 97, 98, 99, 100, 101, 102, 103, 104, 105, 106, 107, 136, 137, 138, 139, 140, 141, 142, 143, 144, 145, 146, 150, 151, 152, 153, 154, 155, 156, 157, 158, 159, 117, 118, 119, 120, 121, 122, 123, 124, 125, 126, 127, 128, 129, 160, 161, 162, 163, 164, 165, 166, 147, 148, 149, 167, 168, 169, 170, 171] (by decide +kernel) (by decide +kernel)
set_option maxRecDepth 20000 in
theorem gX10_weigh_X10_addShares : GoodIn wsX10_weigh (wsV RX10 290 RX10 yX10_addShares wsX10_addShares) := goodIn_app (goodIn_of _ (by decide +kernel)) ggX10_weigh_X10_addShares
set_option maxRecDepth 20000 in
theorem ggX10_weigh_X10_payableLater : GoodIn wsX10_weigh wsX10_payableLater := goodIn_r _ [111, 112, 3, 14, 15, 4, 6, 8, 113, 114, 115, 116, 16, 17, 18, 19, 20, 21, 27, 28, 29, 30, 31, 32, 33, 34, 35, 36, 37, 38, 39, 40, 41, 42, 43, 117, 118, 119, 120, 121, 122, 123, 124, 125, 126, 127, 128, 129, 136, 137, 138, 139, 140, 141, 142, 143, 144, 145, 146, 147, 148, 149] (by decide +kernel) (by decide +kernel)
set_option maxRecDepth 20000 in
theorem gX10_weigh_X10_payableLater : GoodIn wsX10_weigh (wsV RX10 294 RX10 yX10_payableLater wsX10_payableLater) := goodIn_app (goodIn_of _ (by decide +kernel)) ggX10_weigh_X10_payableLater
theorem dX10_weigh_0 : decode cX10_weigh 0 = .ok (.aload_n 0, 1) := by decide +kernel
theorem dX10_weigh_1 : decode cX10_weigh 1 = .ok (.iload_n 1, 1) := by decide +kernel
theorem dX10_weigh_2 : decode cX10_weigh 2 = .ok (.invokevirtual 225, 3) := by decide +kernel
theorem dX10_weigh_5 : decode cX10_weigh 5 = .ok (.astore_n 3, 1) := by decide +kernel
theorem dX10_weigh_6 : decode cX10_weigh 6 = .ok (.aload_n 3, 1) := by decide +kernel
theorem dX10_weigh_7 : decode cX10_weigh 7 = .ok (.getfield 208, 3) := by decide +kernel
theorem dX10_weigh_10 : decode cX10_weigh 10 = .ok (.iconst 1, 1) := by decide +kernel
theorem dX10_weigh_11 : decode cX10_weigh 11 = .ok (.if_icmp .ne 7, 3) := by decide +kernel
theorem dX10_weigh_14 : decode cX10_weigh 14 = .ok (.iconst 1, 1) := by decide +kernel
theorem dX10_weigh_15 : decode cX10_weigh 15 = .ok (.goto 4, 3) := by decide +kernel
theorem dX10_weigh_18 : decode cX10_weigh 18 = .ok (.iconst 0, 1) := by decide +kernel
theorem dX10_weigh_19 : decode cX10_weigh 19 = .ok (.invokestatic 232, 3) := by decide +kernel
theorem dX10_weigh_22 : decode cX10_weigh 22 = .ok (.iload_n 2, 1) := by decide +kernel
theorem dX10_weigh_23 : decode cX10_weigh 23 = .ok (.i2l, 1) := by decide +kernel
theorem dX10_weigh_24 : decode cX10_weigh 24 = .ok (.lconst 0, 1) := by decide +kernel
theorem dX10_weigh_25 : decode cX10_weigh 25 = .ok (.ldc2_w 197, 3) := by decide +kernel
theorem dX10_weigh_28 : decode cX10_weigh 28 = .ok (.invokestatic 87, 3) := by decide +kernel
theorem dX10_weigh_31 : decode cX10_weigh 31 = .ok (.invokestatic 82, 3) := by decide +kernel
theorem dX10_weigh_34 : decode cX10_weigh 34 = .ok (.aload_n 3, 1) := by decide +kernel
theorem dX10_weigh_35 : decode cX10_weigh 35 = .ok (.iconst 2, 1) := by decide +kernel
theorem dX10_weigh_36 : decode cX10_weigh 36 = .ok (.putfield 208, 3) := by decide +kernel
theorem dX10_weigh_39 : decode cX10_weigh 39 = .ok (.aload_n 3, 1) := by decide +kernel
theorem dX10_weigh_40 : decode cX10_weigh 40 = .ok (.iload_n 2, 1) := by decide +kernel
theorem dX10_weigh_41 : decode cX10_weigh 41 = .ok (.sipush 500, 3) := by decide +kernel
theorem dX10_weigh_44 : decode cX10_weigh 44 = .ok (.idiv, 1) := by decide +kernel
theorem dX10_weigh_45 : decode cX10_weigh 45 = .ok (.putfield 219, 3) := by decide +kernel
theorem dX10_weigh_48 : decode cX10_weigh 48 = .ok (.aload_n 3, 1) := by decide +kernel
theorem dX10_weigh_49 : decode cX10_weigh 49 = .ok (.getfield 253, 3) := by decide +kernel
theorem dX10_weigh_52 : decode cX10_weigh 52 = .ok (.dup, 1) := by decide +kernel
theorem dX10_weigh_53 : decode cX10_weigh 53 = .ok (.getfield 287, 3) := by decide +kernel
theorem dX10_weigh_56 : decode cX10_weigh 56 = .ok (.iload_n 2, 1) := by decide +kernel
theorem dX10_weigh_57 : decode cX10_weigh 57 = .ok (.sipush 500, 3) := by decide +kernel
theorem dX10_weigh_60 : decode cX10_weigh 60 = .ok (.irem, 1) := by decide +kernel
theorem dX10_weigh_61 : decode cX10_weigh 61 = .ok (.iadd, 1) := by decide +kernel
theorem dX10_weigh_62 : decode cX10_weigh 62 = .ok (.putfield 287, 3) := by decide +kernel
theorem dX10_weigh_65 : decode cX10_weigh 65 = .ok (.aload_n 3, 1) := by decide +kernel
theorem dX10_weigh_66 : decode cX10_weigh 66 = .ok (.getfield 229, 3) := by decide +kernel
theorem dX10_weigh_69 : decode cX10_weigh 69 = .ok (.aload_n 0, 1) := by decide +kernel
theorem dX10_weigh_70 : decode cX10_weigh 70 = .ok (.getfield 49, 3) := by decide +kernel
theorem dX10_weigh_73 : decode cX10_weigh 73 = .ok (.if_icmp .ge 24, 3) := by decide +kernel
theorem dX10_weigh_76 : decode cX10_weigh 76 = .ok (.aload_n 0, 1) := by decide +kernel
theorem dX10_weigh_77 : decode cX10_weigh 77 = .ok (.aload_n 3, 1) := by decide +kernel
theorem dX10_weigh_78 : decode cX10_weigh 78 = .ok (.iconst (-1), 1) := by decide +kernel
theorem dX10_weigh_79 : decode cX10_weigh 79 = .ok (.invokevirtual 290, 3) := by decide +kernel
theorem dX10_weigh_82 : decode cX10_weigh 82 = .ok (.aload_n 3, 1) := by decide +kernel
theorem dX10_weigh_83 : decode cX10_weigh 83 = .ok (.aload_n 0, 1) := by decide +kernel
theorem dX10_weigh_84 : decode cX10_weigh 84 = .ok (.aload_n 3, 1) := by decide +kernel
theorem dX10_weigh_85 : decode cX10_weigh 85 = .ok (.invokevirtual 294, 3) := by decide +kernel
theorem dX10_weigh_88 : decode cX10_weigh 88 = .ok (.putfield 260, 3) := by decide +kernel
theorem dX10_weigh_91 : decode cX10_weigh 91 = .ok (.aload_n 0, 1) := by decide +kernel
theorem dX10_weigh_92 : decode cX10_weigh 92 = .ok (.aload_n 3, 1) := by decide +kernel
theorem dX10_weigh_93 : decode cX10_weigh 93 = .ok (.iconst 1, 1) := by decide +kernel
theorem dX10_weigh_94 : decode cX10_weigh 94 = .ok (.invokevirtual 290, 3) := by decide +kernel
theorem dX10_weigh_97 : decode cX10_weigh 97 = .ok (.aload_n 3, 1) := by decide +kernel
theorem dX10_weigh_98 : decode cX10_weigh 98 = .ok (.getfield 219, 3) := by decide +kernel
theorem dX10_weigh_101 : decode cX10_weigh 101 = .ok (.ireturn, 1) := by decide +kernel
set_option maxRecDepth 20000 in
theorem ggX10_look_X10_tipAt : GoodIn wsX10_look wsX10_tipAt := goodIn_ca (goodIn_r _ [18, 19, 20, 21, 22, 23, 24, 25, 26, 27, 28, 17, 29, 30, 31, 32, 33, 34, 35, 36, 37, 38, 39, 40, 41, 42, 43, 44, 45, 46, 47, 48, 83, 84, 85, 86, 87, 88, 89, 90, 91, 92, 93, 94, 95, 96] (by decide +kernel) (by decide +kernel)) (goodIn_sub (fun _ h => List.mem_cons_of_mem _ (List.mem_append_left _ (List.mem_append_right _ h))) (by decide +kernel))
set_option maxRecDepth 20000 in
theorem gX10_look_X10_tipAt : GoodIn wsX10_look (wsV RX10 225 RX10 yX10_tipAt wsX10_tipAt) := goodIn_app (goodIn_of _ (by decide +kernel)) ggX10_look_X10_tipAt
set_option maxRecDepth 20000 in
theorem ggX10_look_X10_isWithin : GoodIn wsX10_look wsX10_isWithin := goodIn_r _ [51] (by decide +kernel) (by decide +kernel)
set_option maxRecDepth 20000 in
theorem gX10_look_X10_isWithin : GoodIn wsX10_look (va_wsS RX10 87 yX10_isWithin wsX10_isWithin) := goodIn_app (goodIn_of _ (by decide +kernel)) ggX10_look_X10_isWithin
set_option maxRecDepth 20000 in
theorem ggX10_look_X10_requireThere : GoodIn wsX10_look wsX10_requireThere := goodIn_ca (goodIn_r _ [54, 55, 56] (by decide +kernel) (by decide +kernel)) (goodIn_sub (fun _ h => List.mem_cons_of_mem _ (List.mem_append_right _ h)) (by decide +kernel))
set_option maxRecDepth 20000 in
theorem gX10_look_X10_requireThere : GoodIn wsX10_look (va_wsS RX10 232 yX10_requireThere wsX10_requireThere) := goodIn_app (goodIn_of _ (by decide +kernel)) ggX10_look_X10_requireThere
theorem dX10_look_0 : decode cX10_look 0 = .ok (.aload_n 0, 1) := by decide +kernel
theorem dX10_look_1 : decode cX10_look 1 = .ok (.iload_n 1, 1) := by decide +kernel
theorem dX10_look_2 : decode cX10_look 2 = .ok (.invokevirtual 225, 3) := by decide +kernel
theorem dX10_look_5 : decode cX10_look 5 = .ok (.astore_n 3, 1) := by decide +kernel
theorem dX10_look_6 : decode cX10_look 6 = .ok (.iload_n 2, 1) := by decide +kernel
theorem dX10_look_7 : decode cX10_look 7 = .ok (.i2l, 1) := by decide +kernel
theorem dX10_look_8 : decode cX10_look 8 = .ok (.lconst 0, 1) := by decide +kernel
theorem dX10_look_9 : decode cX10_look 9 = .ok (.ldc2_w 298, 3) := by decide +kernel
theorem dX10_look_12 : decode cX10_look 12 = .ok (.invokestatic 87, 3) := by decide +kernel
theorem dX10_look_15 : decode cX10_look 15 = .ok (.invokestatic 232, 3) := by decide +kernel
theorem dX10_look_18 : decode cX10_look 18 = .ok (.iload_n 2, 1) := by decide +kernel
theorem dX10_look_19 : decode cX10_look 19 = .ok (.tableswitch 119 0 8 #[49, 54, 62, 67, 72, 91, 96, 101, 106], 49) := by decide +kernel
theorem dX10_look_68 : decode cX10_look 68 = .ok (.aload_n 3, 1) := by decide +kernel
theorem dX10_look_69 : decode cX10_look 69 = .ok (.getfield 229, 3) := by decide +kernel
theorem dX10_look_72 : decode cX10_look 72 = .ok (.ireturn, 1) := by decide +kernel
theorem dX10_look_73 : decode cX10_look 73 = .ok (.aload_n 3, 1) := by decide +kernel
theorem dX10_look_74 : decode cX10_look 74 = .ok (.getfield 253, 3) := by decide +kernel
theorem dX10_look_77 : decode cX10_look 77 = .ok (.getfield 181, 3) := by decide +kernel
theorem dX10_look_80 : decode cX10_look 80 = .ok (.ireturn, 1) := by decide +kernel
theorem dX10_look_81 : decode cX10_look 81 = .ok (.aload_n 3, 1) := by decide +kernel
theorem dX10_look_82 : decode cX10_look 82 = .ok (.getfield 279, 3) := by decide +kernel
theorem dX10_look_85 : decode cX10_look 85 = .ok (.ireturn, 1) := by decide +kernel
theorem dX10_look_86 : decode cX10_look 86 = .ok (.aload_n 3, 1) := by decide +kernel
theorem dX10_look_87 : decode cX10_look 87 = .ok (.getfield 219, 3) := by decide +kernel
theorem dX10_look_90 : decode cX10_look 90 = .ok (.ireturn, 1) := by decide +kernel
theorem dX10_look_91 : decode cX10_look 91 = .ok (.aload_n 3, 1) := by decide +kernel
theorem dX10_look_92 : decode cX10_look 92 = .ok (.getfield 211, 3) := by decide +kernel
theorem dX10_look_95 : decode cX10_look 95 = .ok (.ifnonnull 7, 3) := by decide +kernel
theorem dX10_look_98 : decode cX10_look 98 = .ok (.iconst (-1), 1) := by decide +kernel
theorem dX10_look_99 : decode cX10_look 99 = .ok (.goto 10, 3) := by decide +kernel
theorem dX10_look_102 : decode cX10_look 102 = .ok (.aload_n 3, 1) := by decide +kernel
theorem dX10_look_103 : decode cX10_look 103 = .ok (.getfield 211, 3) := by decide +kernel
theorem dX10_look_106 : decode cX10_look 106 = .ok (.getfield 133, 3) := by decide +kernel
theorem dX10_look_109 : decode cX10_look 109 = .ok (.ireturn, 1) := by decide +kernel
theorem dX10_look_110 : decode cX10_look 110 = .ok (.aload_n 3, 1) := by decide +kernel
theorem dX10_look_111 : decode cX10_look 111 = .ok (.getfield 276, 3) := by decide +kernel
theorem dX10_look_114 : decode cX10_look 114 = .ok (.ireturn, 1) := by decide +kernel
theorem dX10_look_115 : decode cX10_look 115 = .ok (.aload_n 3, 1) := by decide +kernel
theorem dX10_look_116 : decode cX10_look 116 = .ok (.getfield 208, 3) := by decide +kernel
theorem dX10_look_119 : decode cX10_look 119 = .ok (.ireturn, 1) := by decide +kernel
theorem dX10_look_120 : decode cX10_look 120 = .ok (.aload_n 3, 1) := by decide +kernel
theorem dX10_look_121 : decode cX10_look 121 = .ok (.getfield 260, 3) := by decide +kernel
theorem dX10_look_124 : decode cX10_look 124 = .ok (.ireturn, 1) := by decide +kernel
theorem dX10_look_125 : decode cX10_look 125 = .ok (.aload_n 3, 1) := by decide +kernel
theorem dX10_look_126 : decode cX10_look 126 = .ok (.getfield 300, 3) := by decide +kernel
theorem dX10_look_129 : decode cX10_look 129 = .ok (.ifCond .eq 7, 3) := by decide +kernel
theorem dX10_look_132 : decode cX10_look 132 = .ok (.iconst 1, 1) := by decide +kernel
theorem dX10_look_133 : decode cX10_look 133 = .ok (.goto 4, 3) := by decide +kernel
theorem dX10_look_136 : decode cX10_look 136 = .ok (.iconst 0, 1) := by decide +kernel
theorem dX10_look_137 : decode cX10_look 137 = .ok (.ireturn, 1) := by decide +kernel
theorem dX10_look_138 : decode cX10_look 138 = .ok (.aload_n 3, 1) := by decide +kernel
theorem dX10_look_139 : decode cX10_look 139 = .ok (.getfield 235, 3) := by decide +kernel
theorem dX10_look_142 : decode cX10_look 142 = .ok (.ifCond .eq 7, 3) := by decide +kernel
theorem dX10_look_145 : decode cX10_look 145 = .ok (.iconst 1, 1) := by decide +kernel
theorem dX10_look_146 : decode cX10_look 146 = .ok (.goto 4, 3) := by decide +kernel
theorem dX10_look_149 : decode cX10_look 149 = .ok (.iconst 0, 1) := by decide +kernel
theorem dX10_look_150 : decode cX10_look 150 = .ok (.ireturn, 1) := by decide +kernel
set_option maxRecDepth 20000 in
theorem ggX10_charge_X10_tipAt : GoodIn wsX10_charge wsX10_tipAt := goodIn_ca (goodIn_r _ [5, 6, 7, 8, 9, 10, 11, 12, 13, 14, 15, 4, 16, 17, 18, 19, 20, 21, 22, 23, 24, 25, 26, 27, 28, 29, 30, 31, 32, 33, 34, 35, 84, 85, 86, 87, 88, 89, 90, 91, 92, 93, 94, 95, 96, 97] (by decide +kernel) (by decide +kernel)) (goodIn_sub (fun _ h => List.mem_cons_of_mem _ (List.mem_append_right _ h)) (by decide +kernel))
set_option maxRecDepth 20000 in
theorem gX10_charge_X10_tipAt : GoodIn wsX10_charge (wsV RX10 225 RX10 yX10_tipAt wsX10_tipAt) := goodIn_app (goodIn_of _ (by decide +kernel)) ggX10_charge_X10_tipAt
set_option maxRecDepth 20000 in
theorem ggX10_charge_X10_splitCharge : GoodIn wsX10_charge wsX10_splitCharge := goodIn_r _ [39, 40, 41, 42, 43, 44, 45, 46, 47, 48, 49, 50, 4, 51, 52, 53, 54, 8, 9, 10, 11, 12, 13, 19, 20, 21, 22, 23, 24, 25, 26, 27, 28, 29, 30, 31, 32, 33, 34, 35, 55, 56, 57, 58, 59, 60, 61, 62, 63, 64, 65, 66, 67, 68, 69, 70, 71, 72, 73, 74, 75, 76, 77, 78, 79, 80, 81, 82, 83, 98, 99, 100, 101, 102, 103, 104, 105, 106, 107, 108, 109, 110, 111, 112, 113, 114, 115, 116, 117, 118, 119, 120, 121, 122, 123, 124, 125, 126, 127, 84, 85, 86, 87, 88, 89, 90, 91, 92, 93, 94, 95, 96, 97, 128, 129, 130, 131, 132] (by decide +kernel) (by decide +kernel)
set_option maxRecDepth 20000 in
theorem gX10_charge_X10_splitCharge : GoodIn wsX10_charge (wsV RX10 283 RX10 yX10_splitCharge wsX10_splitCharge) := goodIn_app (goodIn_of _ (by decide +kernel)) ggX10_charge_X10_splitCharge
theorem dX10_charge_0 : decode cX10_charge 0 = .ok (.aload_n 0, 1) := by decide +kernel
theorem dX10_charge_1 : decode cX10_charge 1 = .ok (.iload_n 1, 1) := by decide +kernel
theorem dX10_charge_2 : decode cX10_charge 2 = .ok (.invokevirtual 225, 3) := by decide +kernel
theorem dX10_charge_5 : decode cX10_charge 5 = .ok (.astore_n 2, 1) := by decide +kernel
theorem dX10_charge_6 : decode cX10_charge 6 = .ok (.aload_n 0, 1) := by decide +kernel
theorem dX10_charge_7 : decode cX10_charge 7 = .ok (.aload_n 2, 1) := by decide +kernel
theorem dX10_charge_8 : decode cX10_charge 8 = .ok (.invokevirtual 283, 3) := by decide +kernel
theorem dX10_charge_11 : decode cX10_charge 11 = .ok (.lreturn, 1) := by decide +kernel
set_option maxRecDepth 20000 in
theorem ggX10_share_X10_tipAt : GoodIn wsX10_share wsX10_tipAt := goodIn_ca (goodIn_r _ [6, 7, 8, 9, 10, 11, 12, 13, 14, 15, 16, 5, 17, 18, 19, 20, 21, 22, 23, 24, 25, 26, 27, 28, 29, 30, 31, 32, 33, 34, 35, 36, 98, 99, 100, 101, 102, 103, 104, 105, 106, 107, 108, 109, 110, 111] (by decide +kernel) (by decide +kernel)) (goodIn_sub (fun _ h => List.mem_cons_of_mem _ (List.mem_append_right _ h)) (by decide +kernel))
set_option maxRecDepth 20000 in
theorem gX10_share_X10_tipAt : GoodIn wsX10_share (wsV RX10 225 RX10 yX10_tipAt wsX10_tipAt) := goodIn_app (goodIn_of _ (by decide +kernel)) ggX10_share_X10_tipAt
set_option maxRecDepth 20000 in
theorem ggX10_share_X10_houseAt : GoodIn wsX10_share wsX10_houseAt := goodIn_ca (goodIn_r _ [40, 41, 42, 9, 10, 11, 12, 13, 14, 15, 16, 5, 17, 18, 19, 20, 21, 22, 23, 24, 25, 26, 27, 28, 29, 30, 31, 32, 33, 34, 35, 36, 98, 99, 100, 101, 102, 103, 104, 105, 106, 107, 108, 109, 110, 111] (by decide +kernel) (by decide +kernel)) (goodIn_sub (fun _ h => List.mem_cons_of_mem _ (List.mem_append_right _ h)) (by decide +kernel))
set_option maxRecDepth 20000 in
theorem gX10_share_X10_houseAt : GoodIn wsX10_share (wsV RX10 117 RX10 yX10_houseAt wsX10_houseAt) := goodIn_app (goodIn_of _ (by decide +kernel)) ggX10_share_X10_houseAt
set_option maxRecDepth 20000 in
theorem ggX10_share_X10_splitCharge : GoodIn wsX10_share wsX10_splitCharge := goodIn_r _ [46, 47, 48, 49, 50, 51, 52, 53, 1, 54, 55, 56, 5, 57, 41, 42, 58, 9, 10, 11, 12, 13, 14, 20, 21, 22, 23, 24, 25, 26, 27, 28, 29, 30, 31, 32, 33, 34, 35, 36, 59, 60, 61, 62, 63, 64, 65, 66, 67, 68, 69, 70, 71, 72, 73, 74, 75, 76, 77, 78, 79, 80, 81, 82, 83, 84, 85, 86, 87, 112, 113, 114, 115, 116, 117, 118, 119, 120, 121, 122, 123, 124, 125, 126, 127, 128, 129, 130, 131, 88, 89, 90, 91, 92, 93, 94, 95, 96, 97, 98, 99, 100, 101, 102, 103, 104, 105, 106, 107, 108, 109, 110, 111, 132, 133, 134, 135, 136] (by decide +kernel) (by decide +kernel)
set_option maxRecDepth 20000 in
theorem gX10_share_X10_splitCharge : GoodIn wsX10_share (wsV RX10 283 RX10 yX10_splitCharge wsX10_splitCharge) := goodIn_app (goodIn_of _ (by decide +kernel)) ggX10_share_X10_splitCharge
theorem dX10_share_0 : decode cX10_share 0 = .ok (.aload_n 0, 1) := by decide +kernel
theorem dX10_share_1 : decode cX10_share 1 = .ok (.iload_n 1, 1) := by decide +kernel
theorem dX10_share_2 : decode cX10_share 2 = .ok (.invokevirtual 225, 3) := by decide +kernel
theorem dX10_share_5 : decode cX10_share 5 = .ok (.astore_n 3, 1) := by decide +kernel
theorem dX10_share_6 : decode cX10_share 6 = .ok (.aload_n 0, 1) := by decide +kernel
theorem dX10_share_7 : decode cX10_share 7 = .ok (.iload_n 2, 1) := by decide +kernel
theorem dX10_share_8 : decode cX10_share 8 = .ok (.invokevirtual 117, 3) := by decide +kernel
theorem dX10_share_11 : decode cX10_share 11 = .ok (.astore 4, 2) := by decide +kernel
theorem dX10_share_13 : decode cX10_share 13 = .ok (.aload_n 0, 1) := by decide +kernel
theorem dX10_share_14 : decode cX10_share 14 = .ok (.aload_n 3, 1) := by decide +kernel
theorem dX10_share_15 : decode cX10_share 15 = .ok (.invokevirtual 283, 3) := by decide +kernel
theorem dX10_share_18 : decode cX10_share 18 = .ok (.pop2, 1) := by decide +kernel
theorem dX10_share_19 : decode cX10_share 19 = .ok (.aload 4, 2) := by decide +kernel
theorem dX10_share_21 : decode cX10_share 21 = .ok (.getfield 303, 3) := by decide +kernel
theorem dX10_share_24 : decode cX10_share 24 = .ok (.lreturn, 1) := by decide +kernel
set_option maxRecDepth 20000 in
theorem ggX10_charged_X10_houseAt : GoodIn wsX10_charged wsX10_houseAt := goodIn_ca (goodIn_r _ [5, 6, 7, 8, 9, 10, 11, 12, 13, 14, 15, 4, 16, 17, 18, 19, 20, 21, 22, 23, 24, 25, 26, 27, 28, 29, 30, 31, 32, 33, 34, 35, 43, 44, 45, 46, 47, 48, 49, 50, 51, 52, 53, 54, 55, 56] (by decide +kernel) (by decide +kernel)) (goodIn_sub (fun _ h => List.mem_cons_of_mem _ (List.mem_append_right _ h)) (by decide +kernel))
set_option maxRecDepth 20000 in
theorem gX10_charged_X10_houseAt : GoodIn wsX10_charged (wsV RX10 117 RX10 yX10_houseAt wsX10_houseAt) := goodIn_app (goodIn_of _ (by decide +kernel)) ggX10_charged_X10_houseAt
set_option maxRecDepth 20000 in
theorem ggX10_charged_X3_allCharged : GoodIn wsX10_charged wsX3_allCharged := goodIn_r _ [40, 41, 42, 57, 58, 59, 60, 61, 62, 63, 64, 65, 66] (by decide +kernel) (by decide +kernel)
set_option maxRecDepth 20000 in
theorem gX10_charged_X3_allCharged : GoodIn wsX10_charged (wsV RX10 306 RX3 yX3_allCharged wsX3_allCharged) := goodIn_app (goodIn_of _ (by decide +kernel)) ggX10_charged_X3_allCharged
theorem dX10_charged_0 : decode cX10_charged 0 = .ok (.aload_n 0, 1) := by decide +kernel
theorem dX10_charged_1 : decode cX10_charged 1 = .ok (.iload_n 1, 1) := by decide +kernel
theorem dX10_charged_2 : decode cX10_charged 2 = .ok (.invokevirtual 117, 3) := by decide +kernel
theorem dX10_charged_5 : decode cX10_charged 5 = .ok (.invokevirtual 306, 3) := by decide +kernel
theorem dX10_charged_8 : decode cX10_charged 8 = .ok (.lreturn, 1) := by decide +kernel
set_option maxRecDepth 20000 in
theorem ggX10_bill_X10_houseAt : GoodIn wsX10_bill wsX10_houseAt := goodIn_ca (goodIn_r _ [6, 7, 8, 9, 10, 11, 12, 13, 14, 15, 16, 5, 17, 18, 19, 20, 21, 22, 23, 24, 25, 26, 27, 28, 29, 30, 31, 32, 33, 34, 35, 36, 54, 55, 56, 57, 58, 59, 60, 61, 62, 63, 64, 65, 66, 67] (by decide +kernel) (by decide +kernel)) (goodIn_sub (fun _ h => List.mem_cons_of_mem _ (List.mem_append_right _ h)) (by decide +kernel))
set_option maxRecDepth 20000 in
theorem gX10_bill_X10_houseAt : GoodIn wsX10_bill (wsV RX10 117 RX10 yX10_houseAt wsX10_houseAt) := goodIn_app (goodIn_of _ (by decide +kernel)) ggX10_bill_X10_houseAt
set_option maxRecDepth 20000 in
theorem ggX10_bill_X3_allCharged : GoodIn wsX10_bill wsX3_allCharged := goodIn_r _ [41, 42, 43, 44, 45, 46, 47, 48, 49, 50, 51, 52, 53] (by decide +kernel) (by decide +kernel)
set_option maxRecDepth 20000 in
theorem gX10_bill_X3_allCharged : GoodIn wsX10_bill (wsV RX10 306 RX3 yX3_allCharged wsX3_allCharged) := goodIn_app (goodIn_of _ (by decide +kernel)) ggX10_bill_X3_allCharged
theorem dX10_bill_0 : decode cX10_bill 0 = .ok (.aload_n 0, 1) := by decide +kernel
theorem dX10_bill_1 : decode cX10_bill 1 = .ok (.iload_n 1, 1) := by decide +kernel
theorem dX10_bill_2 : decode cX10_bill 2 = .ok (.invokevirtual 117, 3) := by decide +kernel
theorem dX10_bill_5 : decode cX10_bill 5 = .ok (.astore_n 2, 1) := by decide +kernel
theorem dX10_bill_6 : decode cX10_bill 6 = .ok (.aload_n 2, 1) := by decide +kernel
theorem dX10_bill_7 : decode cX10_bill 7 = .ok (.invokevirtual 306, 3) := by decide +kernel
theorem dX10_bill_10 : decode cX10_bill 10 = .ok (.aload_n 2, 1) := by decide +kernel
theorem dX10_bill_11 : decode cX10_bill 11 = .ok (.getfield 310, 3) := by decide +kernel
theorem dX10_bill_14 : decode cX10_bill 14 = .ok (.lsub, 1) := by decide +kernel
theorem dX10_bill_15 : decode cX10_bill 15 = .ok (.lstore_n 3, 1) := by decide +kernel
theorem dX10_bill_16 : decode cX10_bill 16 = .ok (.aload_n 2, 1) := by decide +kernel
theorem dX10_bill_17 : decode cX10_bill 17 = .ok (.dup, 1) := by decide +kernel
theorem dX10_bill_18 : decode cX10_bill 18 = .ok (.getfield 310, 3) := by decide +kernel
theorem dX10_bill_21 : decode cX10_bill 21 = .ok (.lload_n 3, 1) := by decide +kernel
theorem dX10_bill_22 : decode cX10_bill 22 = .ok (.ladd, 1) := by decide +kernel
theorem dX10_bill_23 : decode cX10_bill 23 = .ok (.putfield 310, 3) := by decide +kernel
theorem dX10_bill_26 : decode cX10_bill 26 = .ok (.lload_n 3, 1) := by decide +kernel
theorem dX10_bill_27 : decode cX10_bill 27 = .ok (.lreturn, 1) := by decide +kernel
set_option maxRecDepth 20000 in
theorem ggX10_pay_X10_houseAt : GoodIn wsX10_pay wsX10_houseAt := goodIn_ca (goodIn_r _ [8, 9, 10, 11, 12, 13, 14, 15, 16, 17, 18, 7, 19, 20, 21, 22, 23, 24, 25, 26, 27, 28, 29, 30, 31, 32, 33, 34, 35, 36, 37, 38, 57, 58, 59, 60, 61, 62, 63, 64, 65, 66, 67, 68, 69, 70] (by decide +kernel) (by decide +kernel)) (goodIn_sub (fun _ h => List.mem_cons_of_mem _ (List.mem_append_left _ (List.mem_append_right _ h))) (by decide +kernel))
set_option maxRecDepth 20000 in
theorem gX10_pay_X10_houseAt : GoodIn wsX10_pay (wsV RX10 117 RX10 yX10_houseAt wsX10_houseAt) := goodIn_app (goodIn_of _ (by decide +kernel)) ggX10_pay_X10_houseAt
set_option maxRecDepth 20000 in
theorem ggX10_pay_X10_isWithin : GoodIn wsX10_pay wsX10_isWithin := goodIn_r _ [41] (by decide +kernel) (by decide +kernel)
set_option maxRecDepth 20000 in
theorem gX10_pay_X10_isWithin : GoodIn wsX10_pay (va_wsS RX10 87 yX10_isWithin wsX10_isWithin) := goodIn_app (goodIn_of _ (by decide +kernel)) ggX10_pay_X10_isWithin
set_option maxRecDepth 20000 in
theorem ggX10_pay_X10_require : GoodIn wsX10_pay wsX10_require := goodIn_ca (goodIn_r _ [44, 45, 46] (by decide +kernel) (by decide +kernel)) (goodIn_sub (fun _ h => List.mem_cons_of_mem _ (List.mem_append_right _ h)) (by decide +kernel))
set_option maxRecDepth 20000 in
theorem gX10_pay_X10_require : GoodIn wsX10_pay (va_wsS RX10 82 yX10_require wsX10_require) := goodIn_app (goodIn_of _ (by decide +kernel)) ggX10_pay_X10_require
theorem dX10_pay_0 : decode cX10_pay 0 = .ok (.aload_n 0, 1) := by decide +kernel
theorem dX10_pay_1 : decode cX10_pay 1 = .ok (.iload_n 1, 1) := by decide +kernel
theorem dX10_pay_2 : decode cX10_pay 2 = .ok (.invokevirtual 117, 3) := by decide +kernel
theorem dX10_pay_5 : decode cX10_pay 5 = .ok (.astore 4, 2) := by decide +kernel
theorem dX10_pay_7 : decode cX10_pay 7 = .ok (.lload_n 2, 1) := by decide +kernel
theorem dX10_pay_8 : decode cX10_pay 8 = .ok (.lconst 1, 1) := by decide +kernel
theorem dX10_pay_9 : decode cX10_pay 9 = .ok (.ldc2_w 313, 3) := by decide +kernel
theorem dX10_pay_12 : decode cX10_pay 12 = .ok (.invokestatic 87, 3) := by decide +kernel
theorem dX10_pay_15 : decode cX10_pay 15 = .ok (.invokestatic 82, 3) := by decide +kernel
theorem dX10_pay_18 : decode cX10_pay 18 = .ok (.aload 4, 2) := by decide +kernel
theorem dX10_pay_20 : decode cX10_pay 20 = .ok (.dup, 1) := by decide +kernel
theorem dX10_pay_21 : decode cX10_pay 21 = .ok (.getfield 315, 3) := by decide +kernel
theorem dX10_pay_24 : decode cX10_pay 24 = .ok (.lload_n 2, 1) := by decide +kernel
theorem dX10_pay_25 : decode cX10_pay 25 = .ok (.ladd, 1) := by decide +kernel
theorem dX10_pay_26 : decode cX10_pay 26 = .ok (.putfield 315, 3) := by decide +kernel
theorem dX10_pay_29 : decode cX10_pay 29 = .ok (.aload 4, 2) := by decide +kernel
theorem dX10_pay_31 : decode cX10_pay 31 = .ok (.getfield 310, 3) := by decide +kernel
theorem dX10_pay_34 : decode cX10_pay 34 = .ok (.aload 4, 2) := by decide +kernel
theorem dX10_pay_36 : decode cX10_pay 36 = .ok (.getfield 315, 3) := by decide +kernel
theorem dX10_pay_39 : decode cX10_pay 39 = .ok (.lsub, 1) := by decide +kernel
theorem dX10_pay_40 : decode cX10_pay 40 = .ok (.lreturn, 1) := by decide +kernel
set_option maxRecDepth 20000 in
theorem ggX10_middle_X10_binAt : GoodIn wsX10_middle wsX10_binAt := goodIn_ca (goodIn_r _ [5, 6, 7, 8, 9, 10, 11, 12, 13, 14, 15, 4, 16, 17, 18, 19, 20, 21, 22, 23, 24, 25, 26, 27, 28, 29, 30, 31, 32, 33, 34, 35, 66, 67, 68, 69, 70, 71, 72, 73, 74, 75, 76, 77, 78, 79] (by decide +kernel) (by decide +kernel)) (goodIn_sub (fun _ h => List.mem_cons_of_mem _ (List.mem_append_right _ h)) (by decide +kernel))
set_option maxRecDepth 20000 in
theorem gX10_middle_X10_binAt : GoodIn wsX10_middle (wsV RX10 134 RX10 yX10_binAt wsX10_binAt) := goodIn_app (goodIn_of _ (by decide +kernel)) ggX10_middle_X10_binAt
set_option maxRecDepth 20000 in
theorem ggX10_middle_X10_middleOf : GoodIn wsX10_middle wsX10_middleOf := goodIn_r _ [39, 40, 41, 42, 43, 44, 45, 46, 47, 48, 49, 50, 51, 8, 9, 10, 11, 12, 13, 52, 53, 54, 55, 56, 19, 20, 21, 22, 23, 24, 25, 26, 27, 28, 29, 30, 31, 32, 33, 34, 35, 57, 58, 59, 60, 61, 62, 63, 64, 65, 66, 67, 68, 69, 70, 71, 72, 73, 74, 75, 76, 80, 81, 82, 83, 84, 85, 86, 87, 88, 89, 90, 91, 92, 93, 94, 77, 78, 79] (by decide +kernel) (by decide +kernel)
set_option maxRecDepth 20000 in
theorem gX10_middle_X10_middleOf : GoodIn wsX10_middle (wsV RX10 215 RX10 yX10_middleOf wsX10_middleOf) := goodIn_app (goodIn_of _ (by decide +kernel)) ggX10_middle_X10_middleOf
theorem dX10_middle_0 : decode cX10_middle 0 = .ok (.aload_n 0, 1) := by decide +kernel
theorem dX10_middle_1 : decode cX10_middle 1 = .ok (.aload_n 0, 1) := by decide +kernel
theorem dX10_middle_2 : decode cX10_middle 2 = .ok (.iload_n 1, 1) := by decide +kernel
theorem dX10_middle_3 : decode cX10_middle 3 = .ok (.invokevirtual 134, 3) := by decide +kernel
theorem dX10_middle_6 : decode cX10_middle 6 = .ok (.invokevirtual 215, 3) := by decide +kernel
theorem dX10_middle_9 : decode cX10_middle 9 = .ok (.ireturn, 1) := by decide +kernel
set_option maxRecDepth 20000 in
theorem ggX10_fill_X10_cartAt : GoodIn wsX10_fill wsX10_cartAt := goodIn_ca (goodIn_r _ [9, 10, 11, 12, 13, 14, 15, 16, 17, 18, 19, 8, 20, 21, 22, 23, 24, 25, 26, 27, 28, 29, 30, 31, 32, 33, 34, 35, 36, 37, 38, 39, 121, 122, 123, 124, 125, 126, 127, 128, 129, 130, 131, 148, 149, 150] (by decide +kernel) (by decide +kernel)) (goodIn_sub (fun _ h => List.mem_cons_of_mem _ (List.mem_append_left _ (List.mem_append_right _ h))) (by decide +kernel))
set_option maxRecDepth 20000 in
theorem gX10_fill_X10_cartAt : GoodIn wsX10_fill (wsV RX10 191 RX10 yX10_cartAt wsX10_cartAt) := goodIn_app (goodIn_of _ (by decide +kernel)) ggX10_fill_X10_cartAt
set_option maxRecDepth 20000 in
theorem ggX10_fill_X10_streetAt : GoodIn wsX10_fill wsX10_streetAt := goodIn_ca (goodIn_r _ [43, 44, 45, 12, 13, 14, 15, 16, 17, 18, 19, 8, 20, 21, 22, 23, 24, 25, 26, 27, 28, 29, 30, 31, 32, 33, 34, 35, 36, 37, 38, 39, 121, 122, 123, 124, 125, 126, 127, 128, 129, 130, 131, 148, 149, 150] (by decide +kernel) (by decide +kernel)) (goodIn_sub (fun _ h => List.mem_cons_of_mem _ (List.mem_append_left _ (List.mem_append_right _ h))) (by decide +kernel))
set_option maxRecDepth 20000 in
theorem gX10_fill_X10_streetAt : GoodIn wsX10_fill (wsV RX10 74 RX10 yX10_streetAt wsX10_streetAt) := goodIn_app (goodIn_of _ (by decide +kernel)) ggX10_fill_X10_streetAt
set_option maxRecDepth 20000 in
theorem ggX10_fill_X10_isGroup : GoodIn wsX10_fill wsX10_isGroup := goodIn_r _ [48, 49, 50, 51, 8, 52] (by decide +kernel) (by decide +kernel)
set_option maxRecDepth 20000 in
theorem gX10_fill_X10_isGroup : GoodIn wsX10_fill (va_wsS RX10 78 yX10_isGroup wsX10_isGroup) := goodIn_app (goodIn_of _ (by decide +kernel)) ggX10_fill_X10_isGroup
set_option maxRecDepth 20000 in
theorem ggX10_fill_X10_require : GoodIn wsX10_fill wsX10_require := goodIn_ca (goodIn_r _ [55, 56, 57] (by decide +kernel) (by decide +kernel)) (goodIn_sub (fun _ h => List.mem_cons_of_mem _ (List.mem_append_right _ h)) (by decide +kernel))
set_option maxRecDepth 20000 in
theorem gX10_fill_X10_require : GoodIn wsX10_fill (va_wsS RX10 82 yX10_require wsX10_require) := goodIn_app (goodIn_of _ (by decide +kernel)) ggX10_fill_X10_require
set_option maxRecDepth 20000 in
theorem ggX10_fill_X10_halvesToday : GoodIn wsX10_fill wsX10_halvesToday := goodIn_r _ [61, 62, 63, 64, 65, 66, 67, 68, 8, 69, 70, 71, 12, 13, 14, 15, 16, 17, 23, 24, 25, 26, 27, 28, 29, 30, 31, 32, 33, 34, 35, 36, 37, 38, 39, 121, 122, 123, 124, 125, 126, 127, 128, 129, 130, 131, 151, 152, 153, 154, 155, 156, 157, 158, 159, 160, 161, 162, 163, 148, 149, 150] (by decide +kernel) (by decide +kernel)
set_option maxRecDepth 20000 in
theorem gX10_fill_X10_halvesToday : GoodIn wsX10_fill (wsV RX10 318 RX10 yX10_halvesToday wsX10_halvesToday) := goodIn_app (goodIn_of _ (by decide +kernel)) ggX10_fill_X10_halvesToday
set_option maxRecDepth 20000 in
theorem ggX10_fill_Jx4a65c_size_8abf5 : GoodIn wsX10_fill wsJx4a65c_size_8abf5 := goodIn_r _ [16, 17, 148, 149, 150] (by decide +kernel) (by decide +kernel)
set_option maxRecDepth 20000 in
theorem gX10_fill_Jx4a65c_size_8abf5 : GoodIn wsX10_fill (wsV RX10 59 RJx4a65c yJx4a65c_size_8abf5 wsJx4a65c_size_8abf5) := goodIn_app (goodIn_of _ (by decide +kernel)) ggX10_fill_Jx4a65c_size_8abf5
set_option maxRecDepth 20000 in
theorem ggX10_fill_Jx4a65c_get_915e3 : GoodIn wsX10_fill wsJx4a65c_get_915e3 := goodIn_r _ [26, 17, 27, 28, 29, 30, 31, 32, 33, 34, 35, 36, 37, 15, 38, 39, 148, 149, 150] (by decide +kernel) (by decide +kernel)
set_option maxRecDepth 20000 in
theorem gX10_fill_Jx4a65c_get_915e3 : GoodIn wsX10_fill (wsV RX10 249 RJx4a65c yJx4a65c_get_915e3 wsJx4a65c_get_915e3) := goodIn_app (goodIn_of _ (by decide +kernel)) ggX10_fill_Jx4a65c_get_915e3
set_option maxRecDepth 20000 in
theorem ggX10_fill_X10_middlesAt : GoodIn wsX10_fill wsX10_middlesAt := goodIn_r _ [75, 76, 77, 71, 12, 13, 14, 15, 16, 17, 23, 24, 25, 26, 27, 28, 29, 30, 31, 32, 33, 34, 35, 36, 37, 38, 39, 78, 79, 80, 81, 82, 83, 84, 85, 86, 87, 88, 89, 90, 91, 92, 93, 94, 95, 96, 8, 97, 98, 62, 63, 99, 100, 65, 101, 102, 103, 104, 105, 106, 107, 108, 109, 110, 111, 112, 113, 114, 115, 116, 117, 118, 119, 120, 121, 122, 123, 124, 125, 126, 127, 128, 129, 130, 131, 148, 149, 150, 164, 165, 166, 167, 168, 169, 170, 171, 172, 151, 152, 153, 154, 155, 156, 157, 158, 159, 160, 161, 162, 163, 173, 174] (by decide +kernel) (by decide +kernel)
set_option maxRecDepth 20000 in
theorem gX10_fill_X10_middlesAt : GoodIn wsX10_fill (wsV RX10 326 RX10 yX10_middlesAt wsX10_middlesAt) := goodIn_app (goodIn_of _ (by decide +kernel)) ggX10_fill_X10_middlesAt
theorem dX10_fill_0 : decode cX10_fill 0 = .ok (.aload_n 0, 1) := by decide +kernel
theorem dX10_fill_1 : decode cX10_fill 1 = .ok (.iload_n 1, 1) := by decide +kernel
theorem dX10_fill_2 : decode cX10_fill 2 = .ok (.invokevirtual 191, 3) := by decide +kernel
theorem dX10_fill_5 : decode cX10_fill 5 = .ok (.astore 4, 2) := by decide +kernel
theorem dX10_fill_7 : decode cX10_fill 7 = .ok (.aload_n 0, 1) := by decide +kernel
theorem dX10_fill_8 : decode cX10_fill 8 = .ok (.iload_n 2, 1) := by decide +kernel
theorem dX10_fill_9 : decode cX10_fill 9 = .ok (.invokevirtual 74, 3) := by decide +kernel
theorem dX10_fill_12 : decode cX10_fill 12 = .ok (.astore 5, 2) := by decide +kernel
theorem dX10_fill_14 : decode cX10_fill 14 = .ok (.iload_n 3, 1) := by decide +kernel
theorem dX10_fill_15 : decode cX10_fill 15 = .ok (.invokestatic 78, 3) := by decide +kernel
theorem dX10_fill_18 : decode cX10_fill 18 = .ok (.invokestatic 82, 3) := by decide +kernel
theorem dX10_fill_21 : decode cX10_fill 21 = .ok (.aload_n 0, 1) := by decide +kernel
theorem dX10_fill_22 : decode cX10_fill 22 = .ok (.aload 4, 2) := by decide +kernel
theorem dX10_fill_24 : decode cX10_fill 24 = .ok (.invokevirtual 318, 3) := by decide +kernel
theorem dX10_fill_27 : decode cX10_fill 27 = .ok (.i2l, 1) := by decide +kernel
theorem dX10_fill_28 : decode cX10_fill 28 = .ok (.lstore 6, 2) := by decide +kernel
theorem dX10_fill_30 : decode cX10_fill 30 = .ok (.iconst 0, 1) := by decide +kernel
theorem dX10_fill_31 : decode cX10_fill 31 = .ok (.istore 8, 2) := by decide +kernel
theorem dX10_fill_33 : decode cX10_fill 33 = .ok (.iload 8, 2) := by decide +kernel
theorem dX10_fill_35 : decode cX10_fill 35 = .ok (.aload_n 0, 1) := by decide +kernel
theorem dX10_fill_36 : decode cX10_fill 36 = .ok (.getfield 16, 3) := by decide +kernel
theorem dX10_fill_39 : decode cX10_fill 39 = .ok (.invokevirtual 59, 3) := by decide +kernel
theorem dX10_fill_42 : decode cX10_fill 42 = .ok (.if_icmp .ge 63, 3) := by decide +kernel
theorem dX10_fill_45 : decode cX10_fill 45 = .ok (.aload_n 0, 1) := by decide +kernel
theorem dX10_fill_46 : decode cX10_fill 46 = .ok (.getfield 16, 3) := by decide +kernel
theorem dX10_fill_49 : decode cX10_fill 49 = .ok (.iload 8, 2) := by decide +kernel
theorem dX10_fill_51 : decode cX10_fill 51 = .ok (.invokevirtual 249, 3) := by decide +kernel
theorem dX10_fill_54 : decode cX10_fill 54 = .ok (.checkcast 109, 3) := by decide +kernel
theorem dX10_fill_57 : decode cX10_fill 57 = .ok (.astore 9, 2) := by decide +kernel
theorem dX10_fill_59 : decode cX10_fill 59 = .ok (.aload 9, 2) := by decide +kernel
theorem dX10_fill_61 : decode cX10_fill 61 = .ok (.getfield 322, 3) := by decide +kernel
theorem dX10_fill_64 : decode cX10_fill 64 = .ok (.aload 5, 2) := by decide +kernel
theorem dX10_fill_66 : decode cX10_fill 66 = .ok (.if_acmp .eq 6, 3) := by decide +kernel
theorem dX10_fill_69 : decode cX10_fill 69 = .ok (.goto 30, 3) := by decide +kernel
theorem dX10_fill_72 : decode cX10_fill 72 = .ok (.lload 6, 2) := by decide +kernel
theorem dX10_fill_74 : decode cX10_fill 74 = .ok (.aload_n 0, 1) := by decide +kernel
theorem dX10_fill_75 : decode cX10_fill 75 = .ok (.aload 9, 2) := by decide +kernel
theorem dX10_fill_77 : decode cX10_fill 77 = .ok (.iload_n 3, 1) := by decide +kernel
theorem dX10_fill_78 : decode cX10_fill 78 = .ok (.invokevirtual 326, 3) := by decide +kernel
theorem dX10_fill_81 : decode cX10_fill 81 = .ok (.ladd, 1) := by decide +kernel
theorem dX10_fill_82 : decode cX10_fill 82 = .ok (.lstore 6, 2) := by decide +kernel
theorem dX10_fill_84 : decode cX10_fill 84 = .ok (.lload 6, 2) := by decide +kernel
theorem dX10_fill_86 : decode cX10_fill 86 = .ok (.aload 4, 2) := by decide +kernel
theorem dX10_fill_88 : decode cX10_fill 88 = .ok (.getfield 330, 3) := by decide +kernel
theorem dX10_fill_91 : decode cX10_fill 91 = .ok (.i2l, 1) := by decide +kernel
theorem dX10_fill_92 : decode cX10_fill 92 = .ok (.lcmp, 1) := by decide +kernel
theorem dX10_fill_93 : decode cX10_fill 93 = .ok (.ifCond .le 6, 3) := by decide +kernel
theorem dX10_fill_96 : decode cX10_fill 96 = .ok (.iload 8, 2) := by decide +kernel
theorem dX10_fill_98 : decode cX10_fill 98 = .ok (.ireturn, 1) := by decide +kernel
theorem dX10_fill_99 : decode cX10_fill 99 = .ok (.iinc 8 1, 3) := by decide +kernel
theorem dX10_fill_102 : decode cX10_fill 102 = .ok (.goto (-69), 3) := by decide +kernel
theorem dX10_fill_105 : decode cX10_fill 105 = .ok (.iconst (-1), 1) := by decide +kernel
theorem dX10_fill_106 : decode cX10_fill 106 = .ok (.ireturn, 1) := by decide +kernel
set_option maxRecDepth 20000 in
theorem ggX10_due_X10_binAt : GoodIn wsX10_due wsX10_binAt := goodIn_ca (goodIn_r _ [7, 8, 9, 10, 11, 12, 13, 14, 15, 16, 17, 6, 18, 19, 20, 21, 22, 23, 24, 25, 26, 27, 28, 29, 30, 31, 32, 33, 34, 35, 36, 37, 80, 81, 82, 83, 84, 85, 86, 87, 88, 89, 90, 101, 102, 103] (by decide +kernel) (by decide +kernel)) (goodIn_sub (fun _ h => List.mem_cons_of_mem _ (List.mem_append_right _ h)) (by decide +kernel))
set_option maxRecDepth 20000 in
theorem gX10_due_X10_binAt : GoodIn wsX10_due (wsV RX10 134 RX10 yX10_binAt wsX10_binAt) := goodIn_app (goodIn_of _ (by decide +kernel)) ggX10_due_X10_binAt
set_option maxRecDepth 20000 in
theorem ggX10_due_X0_ownerOn : GoodIn wsX10_due wsX0_ownerOn := goodIn_r _ [42, 43, 44, 45, 46, 47, 11, 12, 13, 14, 15, 48, 22, 23, 24, 25, 26, 27, 28, 29, 30, 31, 32, 33, 34, 35, 36, 37, 104, 105, 106, 107, 108, 109, 110, 111, 112, 101, 102, 103] (by decide +kernel) (by decide +kernel)
set_option maxRecDepth 20000 in
theorem gX10_due_X0_ownerOn : GoodIn wsX10_due (wsV RX10 333 RX0 yX0_ownerOn wsX0_ownerOn) := goodIn_app (goodIn_of _ (by decide +kernel)) ggX10_due_X0_ownerOn
set_option maxRecDepth 20000 in
theorem ggX10_due_X0_groupOfKind : GoodIn wsX10_due wsX0_groupOfKind := goodIn_r _ [52, 53, 104, 105, 106, 107, 108, 109, 110] (by decide +kernel) (by decide +kernel)
set_option maxRecDepth 20000 in
theorem gX10_due_X0_groupOfKind : GoodIn wsX10_due (wsV RX10 336 RX0 yX0_groupOfKind wsX0_groupOfKind) := goodIn_app (goodIn_of _ (by decide +kernel)) ggX10_due_X0_groupOfKind
set_option maxRecDepth 20000 in
theorem ggX10_due_X10_roundDay : GoodIn wsX10_due wsX10_roundDay := goodIn_r _ [57, 58, 59, 60, 61, 62, 63, 64, 65, 66, 67, 68, 69, 70, 71, 72, 73, 74, 75, 76, 77, 78, 79, 80, 81, 82, 83, 84, 85, 86, 87, 88, 89, 90, 113, 114, 115] (by decide +kernel) (by decide +kernel)
set_option maxRecDepth 20000 in
theorem gX10_due_X10_roundDay : GoodIn wsX10_due (wsV RX10 105 RX10 yX10_roundDay wsX10_roundDay) := goodIn_app (goodIn_of _ (by decide +kernel)) ggX10_due_X10_roundDay
theorem dX10_due_0 : decode cX10_due 0 = .ok (.aload_n 0, 1) := by decide +kernel
theorem dX10_due_1 : decode cX10_due 1 = .ok (.iload_n 1, 1) := by decide +kernel
theorem dX10_due_2 : decode cX10_due 2 = .ok (.invokevirtual 134, 3) := by decide +kernel
theorem dX10_due_5 : decode cX10_due 5 = .ok (.astore_n 2, 1) := by decide +kernel
theorem dX10_due_6 : decode cX10_due 6 = .ok (.aload_n 2, 1) := by decide +kernel
theorem dX10_due_7 : decode cX10_due 7 = .ok (.aload_n 0, 1) := by decide +kernel
theorem dX10_due_8 : decode cX10_due 8 = .ok (.getfield 49, 3) := by decide +kernel
theorem dX10_due_11 : decode cX10_due 11 = .ok (.invokevirtual 333, 3) := by decide +kernel
theorem dX10_due_14 : decode cX10_due 14 = .ok (.astore_n 3, 1) := by decide +kernel
theorem dX10_due_15 : decode cX10_due 15 = .ok (.aload_n 3, 1) := by decide +kernel
theorem dX10_due_16 : decode cX10_due 16 = .ok (.ifnonnull 5, 3) := by decide +kernel
theorem dX10_due_19 : decode cX10_due 19 = .ok (.iconst (-1), 1) := by decide +kernel
theorem dX10_due_20 : decode cX10_due 20 = .ok (.ireturn, 1) := by decide +kernel
theorem dX10_due_21 : decode cX10_due 21 = .ok (.aload_n 0, 1) := by decide +kernel
theorem dX10_due_22 : decode cX10_due 22 = .ok (.getfield 49, 3) := by decide +kernel
theorem dX10_due_25 : decode cX10_due 25 = .ok (.bipush 7, 2) := by decide +kernel
theorem dX10_due_27 : decode cX10_due 27 = .ok (.idiv, 1) := by decide +kernel
theorem dX10_due_28 : decode cX10_due 28 = .ok (.istore 4, 2) := by decide +kernel
theorem dX10_due_30 : decode cX10_due 30 = .ok (.iload 4, 2) := by decide +kernel
theorem dX10_due_32 : decode cX10_due 32 = .ok (.istore 5, 2) := by decide +kernel
theorem dX10_due_34 : decode cX10_due 34 = .ok (.iload 5, 2) := by decide +kernel
theorem dX10_due_36 : decode cX10_due 36 = .ok (.iload 4, 2) := by decide +kernel
theorem dX10_due_38 : decode cX10_due 38 = .ok (.iconst 3, 1) := by decide +kernel
theorem dX10_due_39 : decode cX10_due 39 = .ok (.iadd, 1) := by decide +kernel
theorem dX10_due_40 : decode cX10_due 40 = .ok (.if_icmp .gt 37, 3) := by decide +kernel
theorem dX10_due_43 : decode cX10_due 43 = .ok (.aload_n 0, 1) := by decide +kernel
theorem dX10_due_44 : decode cX10_due 44 = .ok (.aload_n 3, 1) := by decide +kernel
theorem dX10_due_45 : decode cX10_due 45 = .ok (.getfield 322, 3) := by decide +kernel
theorem dX10_due_48 : decode cX10_due 48 = .ok (.aload_n 2, 1) := by decide +kernel
theorem dX10_due_49 : decode cX10_due 49 = .ok (.invokevirtual 336, 3) := by decide +kernel
theorem dX10_due_52 : decode cX10_due 52 = .ok (.iload 5, 2) := by decide +kernel
theorem dX10_due_54 : decode cX10_due 54 = .ok (.invokevirtual 105, 3) := by decide +kernel
theorem dX10_due_57 : decode cX10_due 57 = .ok (.istore 6, 2) := by decide +kernel
theorem dX10_due_59 : decode cX10_due 59 = .ok (.iload 6, 2) := by decide +kernel
theorem dX10_due_61 : decode cX10_due 61 = .ok (.aload_n 0, 1) := by decide +kernel
theorem dX10_due_62 : decode cX10_due 62 = .ok (.getfield 49, 3) := by decide +kernel
theorem dX10_due_65 : decode cX10_due 65 = .ok (.if_icmp .lt 6, 3) := by decide +kernel
theorem dX10_due_68 : decode cX10_due 68 = .ok (.iload 6, 2) := by decide +kernel
theorem dX10_due_70 : decode cX10_due 70 = .ok (.ireturn, 1) := by decide +kernel
theorem dX10_due_71 : decode cX10_due 71 = .ok (.iinc 5 1, 3) := by decide +kernel
theorem dX10_due_74 : decode cX10_due 74 = .ok (.goto (-40), 3) := by decide +kernel
theorem dX10_due_77 : decode cX10_due 77 = .ok (.iconst (-1), 1) := by decide +kernel
theorem dX10_due_78 : decode cX10_due 78 = .ok (.ireturn, 1) := by decide +kernel
set_option maxRecDepth 20000 in
theorem ggX10_load_X10_cartAt : GoodIn wsX10_load wsX10_cartAt := goodIn_ca (goodIn_r _ [9, 10, 11, 12, 13, 14, 15, 16, 17, 18, 19, 8, 20, 21, 22, 23, 24, 25, 26, 27, 28, 29, 30, 31, 32, 33, 34, 35, 36, 37, 38, 39, 78, 79, 80, 81, 82, 83, 84, 85, 86, 87, 88, 89, 90, 91] (by decide +kernel) (by decide +kernel)) (goodIn_sub (fun _ h => List.mem_cons_of_mem _ (List.mem_append_left _ (List.mem_append_right _ h))) (by decide +kernel))
set_option maxRecDepth 20000 in
theorem gX10_load_X10_cartAt : GoodIn wsX10_load (wsV RX10 191 RX10 yX10_cartAt wsX10_cartAt) := goodIn_app (goodIn_of _ (by decide +kernel)) ggX10_load_X10_cartAt
set_option maxRecDepth 20000 in
theorem ggX10_load_X10_isWithin : GoodIn wsX10_load wsX10_isWithin := goodIn_r _ [42] (by decide +kernel) (by decide +kernel)
set_option maxRecDepth 20000 in
theorem gX10_load_X10_isWithin : GoodIn wsX10_load (va_wsS RX10 87 yX10_isWithin wsX10_isWithin) := goodIn_app (goodIn_of _ (by decide +kernel)) ggX10_load_X10_isWithin
set_option maxRecDepth 20000 in
theorem ggX10_load_X10_requireThere : GoodIn wsX10_load wsX10_requireThere := goodIn_ca (goodIn_r _ [45, 46, 47] (by decide +kernel) (by decide +kernel)) (goodIn_sub (fun _ h => List.mem_cons_of_mem _ (List.mem_append_right _ h)) (by decide +kernel))
set_option maxRecDepth 20000 in
theorem gX10_load_X10_requireThere : GoodIn wsX10_load (va_wsS RX10 232 yX10_requireThere wsX10_requireThere) := goodIn_app (goodIn_of _ (by decide +kernel)) ggX10_load_X10_requireThere
set_option maxRecDepth 20000 in
theorem ggX10_load_X10_halvesToday : GoodIn wsX10_load wsX10_halvesToday := goodIn_r _ [51, 52, 53, 54, 55, 56, 57, 58, 8, 59, 60, 61, 12, 13, 14, 15, 16, 17, 23, 24, 25, 26, 27, 28, 29, 30, 31, 32, 33, 34, 35, 36, 37, 38, 39, 78, 79, 80, 81, 82, 83, 84, 85, 86, 87, 88, 92, 93, 94, 95, 96, 97, 98, 99, 100, 101, 102, 103, 104, 89, 90, 91] (by decide +kernel) (by decide +kernel)
set_option maxRecDepth 20000 in
theorem gX10_load_X10_halvesToday : GoodIn wsX10_load (wsV RX10 318 RX10 yX10_halvesToday wsX10_halvesToday) := goodIn_app (goodIn_of _ (by decide +kernel)) ggX10_load_X10_halvesToday
set_option maxRecDepth 20000 in
theorem ggX10_load_X10_agrees : GoodIn wsX10_load wsX10_agrees := goodIn_r _ [65, 3, 66, 67, 68, 69, 70, 71, 48, 49, 50, 8, 51, 52, 53, 54, 55, 56, 57, 58, 59, 60, 61, 12, 13, 14, 15, 16, 17, 23, 24, 25, 26, 27, 28, 29, 30, 31, 32, 33, 34, 35, 36, 37, 38, 39, 72, 73, 74, 75, 76, 77, 78, 79, 80, 81, 82, 83, 84, 85, 86, 87, 88, 92, 93, 94, 95, 96, 97, 98, 99, 100, 101, 102, 103, 104, 89, 90, 91] (by decide +kernel) (by decide +kernel)
set_option maxRecDepth 20000 in
theorem gX10_load_X10_agrees : GoodIn wsX10_load (wsV RX10 339 RX10 yX10_agrees wsX10_agrees) := goodIn_app (goodIn_of _ (by decide +kernel)) ggX10_load_X10_agrees
theorem dX10_load_0 : decode cX10_load 0 = .ok (.aload_n 0, 1) := by decide +kernel
theorem dX10_load_1 : decode cX10_load 1 = .ok (.iload_n 1, 1) := by decide +kernel
theorem dX10_load_2 : decode cX10_load 2 = .ok (.invokevirtual 191, 3) := by decide +kernel
theorem dX10_load_5 : decode cX10_load 5 = .ok (.astore_n 3, 1) := by decide +kernel
theorem dX10_load_6 : decode cX10_load 6 = .ok (.iload_n 2, 1) := by decide +kernel
theorem dX10_load_7 : decode cX10_load 7 = .ok (.i2l, 1) := by decide +kernel
theorem dX10_load_8 : decode cX10_load 8 = .ok (.lconst 0, 1) := by decide +kernel
theorem dX10_load_9 : decode cX10_load 9 = .ok (.ldc2_w 85, 3) := by decide +kernel
theorem dX10_load_12 : decode cX10_load 12 = .ok (.invokestatic 87, 3) := by decide +kernel
theorem dX10_load_15 : decode cX10_load 15 = .ok (.invokestatic 232, 3) := by decide +kernel
theorem dX10_load_18 : decode cX10_load 18 = .ok (.iload_n 2, 1) := by decide +kernel
theorem dX10_load_19 : decode cX10_load 19 = .ok (.tableswitch 59 0 3 #[29, 34, 40, 45], 29) := by decide +kernel
theorem dX10_load_48 : decode cX10_load 48 = .ok (.aload_n 3, 1) := by decide +kernel
theorem dX10_load_49 : decode cX10_load 49 = .ok (.getfield 287, 3) := by decide +kernel
theorem dX10_load_52 : decode cX10_load 52 = .ok (.ireturn, 1) := by decide +kernel
theorem dX10_load_53 : decode cX10_load 53 = .ok (.aload_n 0, 1) := by decide +kernel
theorem dX10_load_54 : decode cX10_load 54 = .ok (.aload_n 3, 1) := by decide +kernel
theorem dX10_load_55 : decode cX10_load 55 = .ok (.invokevirtual 318, 3) := by decide +kernel
theorem dX10_load_58 : decode cX10_load 58 = .ok (.ireturn, 1) := by decide +kernel
theorem dX10_load_59 : decode cX10_load 59 = .ok (.aload_n 3, 1) := by decide +kernel
theorem dX10_load_60 : decode cX10_load 60 = .ok (.getfield 240, 3) := by decide +kernel
theorem dX10_load_63 : decode cX10_load 63 = .ok (.ireturn, 1) := by decide +kernel
theorem dX10_load_64 : decode cX10_load 64 = .ok (.aload_n 0, 1) := by decide +kernel
theorem dX10_load_65 : decode cX10_load 65 = .ok (.aload_n 3, 1) := by decide +kernel
theorem dX10_load_66 : decode cX10_load 66 = .ok (.invokevirtual 339, 3) := by decide +kernel
theorem dX10_load_69 : decode cX10_load 69 = .ok (.ifCond .eq 7, 3) := by decide +kernel
theorem dX10_load_72 : decode cX10_load 72 = .ok (.iconst 1, 1) := by decide +kernel
theorem dX10_load_73 : decode cX10_load 73 = .ok (.goto 4, 3) := by decide +kernel
theorem dX10_load_76 : decode cX10_load 76 = .ok (.iconst 0, 1) := by decide +kernel
theorem dX10_load_77 : decode cX10_load 77 = .ok (.ireturn, 1) := by decide +kernel
theorem dX10_load_78 : decode cX10_load 78 = .ok (.aload_n 3, 1) := by decide +kernel
theorem dX10_load_79 : decode cX10_load 79 = .ok (.getfield 330, 3) := by decide +kernel
theorem dX10_load_82 : decode cX10_load 82 = .ok (.ireturn, 1) := by decide +kernel
set_option maxRecDepth 20000 in
theorem ggX10_about_X10_houseAt : GoodIn wsX10_about wsX10_houseAt := goodIn_ca (goodIn_r _ [8, 9, 10, 11, 12, 13, 14, 15, 16, 17, 18, 7, 19, 20, 21, 22, 23, 24, 25, 26, 27, 28, 29, 30, 31, 32, 33, 34, 35, 36, 37, 38, 75, 76, 77, 78, 79, 80, 81, 82, 83, 84, 85, 86, 87, 88] (by decide +kernel) (by decide +kernel)) (goodIn_sub (fun _ h => List.mem_cons_of_mem _ (List.mem_append_left _ (List.mem_append_right _ h))) (by decide +kernel))
set_option maxRecDepth 20000 in
theorem gX10_about_X10_houseAt : GoodIn wsX10_about (wsV RX10 117 RX10 yX10_houseAt wsX10_houseAt) := goodIn_app (goodIn_of _ (by decide +kernel)) ggX10_about_X10_houseAt
set_option maxRecDepth 20000 in
theorem ggX10_about_X10_isWithin : GoodIn wsX10_about wsX10_isWithin := goodIn_r _ [41] (by decide +kernel) (by decide +kernel)
set_option maxRecDepth 20000 in
theorem gX10_about_X10_isWithin : GoodIn wsX10_about (va_wsS RX10 87 yX10_isWithin wsX10_isWithin) := goodIn_app (goodIn_of _ (by decide +kernel)) ggX10_about_X10_isWithin
set_option maxRecDepth 20000 in
theorem ggX10_about_X10_requireThere : GoodIn wsX10_about wsX10_requireThere := goodIn_ca (goodIn_r _ [44, 45, 46] (by decide +kernel) (by decide +kernel)) (goodIn_sub (fun _ h => List.mem_cons_of_mem _ (List.mem_append_right _ h)) (by decide +kernel))
set_option maxRecDepth 20000 in
theorem gX10_about_X10_requireThere : GoodIn wsX10_about (va_wsS RX10 232 yX10_requireThere wsX10_requireThere) := goodIn_app (goodIn_of _ (by decide +kernel)) ggX10_about_X10_requireThere
set_option maxRecDepth 20000 in
theorem ggX10_about_X10_countBinsAt : GoodIn wsX10_about wsX10_countBinsAt := goodIn_r _ [50, 51, 52, 53, 11, 12, 13, 14, 15, 16, 22, 23, 24, 25, 26, 27, 28, 29, 30, 31, 32, 33, 34, 35, 36, 37, 38, 54, 55, 56, 57, 58, 59, 60, 61, 62, 63, 64, 75, 76, 77, 78, 79, 80, 81, 82, 83, 84, 85, 86, 87, 88, 89, 90, 91, 92, 93, 94, 95, 96, 97] (by decide +kernel) (by decide +kernel)
set_option maxRecDepth 20000 in
theorem gX10_about_X10_countBinsAt : GoodIn wsX10_about (wsV RX10 348 RX10 yX10_countBinsAt wsX10_countBinsAt) := goodIn_app (goodIn_of _ (by decide +kernel)) ggX10_about_X10_countBinsAt
theorem dX10_about_0 : decode cX10_about 0 = .ok (.aload_n 0, 1) := by decide +kernel
theorem dX10_about_1 : decode cX10_about 1 = .ok (.iload_n 1, 1) := by decide +kernel
theorem dX10_about_2 : decode cX10_about 2 = .ok (.invokevirtual 117, 3) := by decide +kernel
theorem dX10_about_5 : decode cX10_about 5 = .ok (.astore_n 3, 1) := by decide +kernel
theorem dX10_about_6 : decode cX10_about 6 = .ok (.iload_n 2, 1) := by decide +kernel
theorem dX10_about_7 : decode cX10_about 7 = .ok (.i2l, 1) := by decide +kernel
theorem dX10_about_8 : decode cX10_about 8 = .ok (.lconst 0, 1) := by decide +kernel
theorem dX10_about_9 : decode cX10_about 9 = .ok (.ldc2_w 343, 3) := by decide +kernel
theorem dX10_about_12 : decode cX10_about 12 = .ok (.invokestatic 87, 3) := by decide +kernel
theorem dX10_about_15 : decode cX10_about 15 = .ok (.invokestatic 232, 3) := by decide +kernel
theorem dX10_about_18 : decode cX10_about 18 = .ok (.iload_n 2, 1) := by decide +kernel
theorem dX10_about_19 : decode cX10_about 19 = .ok (.lookupswitch 35 #[(0, 25), (1, 30)], 25) := by decide +kernel
theorem dX10_about_44 : decode cX10_about 44 = .ok (.aload_n 3, 1) := by decide +kernel
theorem dX10_about_45 : decode cX10_about 45 = .ok (.getfield 345, 3) := by decide +kernel
theorem dX10_about_48 : decode cX10_about 48 = .ok (.ireturn, 1) := by decide +kernel
theorem dX10_about_49 : decode cX10_about 49 = .ok (.aload_n 3, 1) := by decide +kernel
theorem dX10_about_50 : decode cX10_about 50 = .ok (.getfield 184, 3) := by decide +kernel
theorem dX10_about_53 : decode cX10_about 53 = .ok (.ireturn, 1) := by decide +kernel
theorem dX10_about_54 : decode cX10_about 54 = .ok (.aload_n 0, 1) := by decide +kernel
theorem dX10_about_55 : decode cX10_about 55 = .ok (.aload_n 3, 1) := by decide +kernel
theorem dX10_about_56 : decode cX10_about 56 = .ok (.invokevirtual 348, 3) := by decide +kernel
theorem dX10_about_59 : decode cX10_about 59 = .ok (.ireturn, 1) := by decide +kernel
set_option maxRecDepth 20000 in
theorem ggX10_state_X10_binAt : GoodIn wsX10_state wsX10_binAt := goodIn_ca (goodIn_r _ [13, 14, 15, 16, 17, 18, 19, 20, 21, 22, 23, 12, 24, 25, 26, 27, 28, 29, 30, 31, 32, 33, 34, 35, 36, 37, 38, 39, 40, 41, 42, 43, 74, 75, 76, 77, 78, 79, 80, 81, 82, 83, 84, 85, 86, 87] (by decide +kernel) (by decide +kernel)) (goodIn_sub (fun _ h => List.mem_cons_of_mem _ (List.mem_append_left _ (List.mem_append_right _ h))) (by decide +kernel))
set_option maxRecDepth 20000 in
theorem gX10_state_X10_binAt : GoodIn wsX10_state (wsV RX10 134 RX10 yX10_binAt wsX10_binAt) := goodIn_app (goodIn_of _ (by decide +kernel)) ggX10_state_X10_binAt
set_option maxRecDepth 20000 in
theorem ggX10_state_X10_isWithin : GoodIn wsX10_state wsX10_isWithin := goodIn_r _ [46] (by decide +kernel) (by decide +kernel)
set_option maxRecDepth 20000 in
theorem gX10_state_X10_isWithin : GoodIn wsX10_state (va_wsS RX10 87 yX10_isWithin wsX10_isWithin) := goodIn_app (goodIn_of _ (by decide +kernel)) ggX10_state_X10_isWithin
set_option maxRecDepth 20000 in
theorem ggX10_state_X10_requireThere : GoodIn wsX10_state wsX10_requireThere := goodIn_ca (goodIn_r _ [49, 50, 51] (by decide +kernel) (by decide +kernel)) (goodIn_sub (fun _ h => List.mem_cons_of_mem _ (List.mem_append_right _ h)) (by decide +kernel))
set_option maxRecDepth 20000 in
theorem gX10_state_X10_requireThere : GoodIn wsX10_state (va_wsS RX10 232 yX10_requireThere wsX10_requireThere) := goodIn_app (goodIn_of _ (by decide +kernel)) ggX10_state_X10_requireThere
set_option maxRecDepth 20000 in
theorem ggX10_state_X0_ownerOn : GoodIn wsX10_state wsX0_ownerOn := goodIn_r _ [56, 57, 58, 59, 60, 61, 17, 18, 19, 20, 21, 62, 28, 29, 30, 31, 32, 33, 34, 35, 36, 37, 38, 39, 40, 41, 42, 43, 67, 68, 69, 70, 71, 72, 73, 88, 89, 85, 86, 87] (by decide +kernel) (by decide +kernel)
set_option maxRecDepth 20000 in
theorem gX10_state_X0_ownerOn : GoodIn wsX10_state (wsV RX10 333 RX0 yX0_ownerOn wsX0_ownerOn) := goodIn_app (goodIn_of _ (by decide +kernel)) ggX10_state_X0_ownerOn
set_option maxRecDepth 20000 in
theorem ggX10_state_X10_numberOf : GoodIn wsX10_state wsX10_numberOf := goodIn_r _ [65, 66, 90, 91, 92, 93, 94, 95, 96, 97, 98, 99] (by decide +kernel) (by decide +kernel)
set_option maxRecDepth 20000 in
theorem gX10_state_X10_numberOf : GoodIn wsX10_state (va_wsS RX10 354 yX10_numberOf wsX10_numberOf) := goodIn_app (goodIn_of _ (by decide +kernel)) ggX10_state_X10_numberOf
set_option maxRecDepth 20000 in
theorem ggX10_state_Jx4a65c_size_8abf5 : GoodIn wsX10_state wsJx4a65c_size_8abf5 := goodIn_r _ [20, 21, 85, 86, 87] (by decide +kernel) (by decide +kernel)
set_option maxRecDepth 20000 in
theorem gX10_state_Jx4a65c_size_8abf5 : GoodIn wsX10_state (wsV RX10 59 RJx4a65c yJx4a65c_size_8abf5 wsJx4a65c_size_8abf5) := goodIn_app (goodIn_of _ (by decide +kernel)) ggX10_state_Jx4a65c_size_8abf5
theorem dX10_state_0 : decode cX10_state 0 = .ok (.aload_n 0, 1) := by decide +kernel
theorem dX10_state_1 : decode cX10_state 1 = .ok (.iload_n 1, 1) := by decide +kernel
theorem dX10_state_2 : decode cX10_state 2 = .ok (.invokevirtual 134, 3) := by decide +kernel
theorem dX10_state_5 : decode cX10_state 5 = .ok (.astore_n 3, 1) := by decide +kernel
theorem dX10_state_6 : decode cX10_state 6 = .ok (.iload_n 2, 1) := by decide +kernel
theorem dX10_state_7 : decode cX10_state 7 = .ok (.i2l, 1) := by decide +kernel
theorem dX10_state_8 : decode cX10_state 8 = .ok (.lconst 0, 1) := by decide +kernel
theorem dX10_state_9 : decode cX10_state 9 = .ok (.ldc2_w 352, 3) := by decide +kernel
theorem dX10_state_12 : decode cX10_state 12 = .ok (.invokestatic 87, 3) := by decide +kernel
theorem dX10_state_15 : decode cX10_state 15 = .ok (.invokestatic 232, 3) := by decide +kernel
theorem dX10_state_18 : decode cX10_state 18 = .ok (.iload_n 2, 1) := by decide +kernel
theorem dX10_state_19 : decode cX10_state 19 = .ok (.tableswitch 96 0 5 #[37, 42, 55, 71, 83, 88], 37) := by decide +kernel
theorem dX10_state_56 : decode cX10_state 56 = .ok (.aload_n 3, 1) := by decide +kernel
theorem dX10_state_57 : decode cX10_state 57 = .ok (.getfield 158, 3) := by decide +kernel
theorem dX10_state_60 : decode cX10_state 60 = .ok (.ireturn, 1) := by decide +kernel
theorem dX10_state_61 : decode cX10_state 61 = .ok (.aload_n 3, 1) := by decide +kernel
theorem dX10_state_62 : decode cX10_state 62 = .ok (.getfield 138, 3) := by decide +kernel
theorem dX10_state_65 : decode cX10_state 65 = .ok (.ifCond .eq 7, 3) := by decide +kernel
theorem dX10_state_68 : decode cX10_state 68 = .ok (.iconst 1, 1) := by decide +kernel
theorem dX10_state_69 : decode cX10_state 69 = .ok (.goto 4, 3) := by decide +kernel
theorem dX10_state_72 : decode cX10_state 72 = .ok (.iconst 0, 1) := by decide +kernel
theorem dX10_state_73 : decode cX10_state 73 = .ok (.ireturn, 1) := by decide +kernel
theorem dX10_state_74 : decode cX10_state 74 = .ok (.aload_n 3, 1) := by decide +kernel
theorem dX10_state_75 : decode cX10_state 75 = .ok (.getfield 138, 3) := by decide +kernel
theorem dX10_state_78 : decode cX10_state 78 = .ok (.ifCond .eq 10, 3) := by decide +kernel
theorem dX10_state_81 : decode cX10_state 81 = .ok (.aload_n 3, 1) := by decide +kernel
theorem dX10_state_82 : decode cX10_state 82 = .ok (.getfield 142, 3) := by decide +kernel
theorem dX10_state_85 : decode cX10_state 85 = .ok (.goto 4, 3) := by decide +kernel
theorem dX10_state_88 : decode cX10_state 88 = .ok (.iconst 0, 1) := by decide +kernel
theorem dX10_state_89 : decode cX10_state 89 = .ok (.ireturn, 1) := by decide +kernel
theorem dX10_state_90 : decode cX10_state 90 = .ok (.aload_n 3, 1) := by decide +kernel
theorem dX10_state_91 : decode cX10_state 91 = .ok (.aload_n 0, 1) := by decide +kernel
theorem dX10_state_92 : decode cX10_state 92 = .ok (.getfield 49, 3) := by decide +kernel
theorem dX10_state_95 : decode cX10_state 95 = .ok (.invokevirtual 333, 3) := by decide +kernel
theorem dX10_state_98 : decode cX10_state 98 = .ok (.invokestatic 354, 3) := by decide +kernel
theorem dX10_state_101 : decode cX10_state 101 = .ok (.ireturn, 1) := by decide +kernel
theorem dX10_state_102 : decode cX10_state 102 = .ok (.aload_n 3, 1) := by decide +kernel
theorem dX10_state_103 : decode cX10_state 103 = .ok (.getfield 357, 3) := by decide +kernel
theorem dX10_state_106 : decode cX10_state 106 = .ok (.ireturn, 1) := by decide +kernel
theorem dX10_state_107 : decode cX10_state 107 = .ok (.aload_n 3, 1) := by decide +kernel
theorem dX10_state_108 : decode cX10_state 108 = .ok (.getfield 125, 3) := by decide +kernel
theorem dX10_state_111 : decode cX10_state 111 = .ok (.invokevirtual 59, 3) := by decide +kernel
theorem dX10_state_114 : decode cX10_state 114 = .ok (.ireturn, 1) := by decide +kernel
theorem dX10_state_115 : decode cX10_state 115 = .ok (.aload_n 3, 1) := by decide +kernel
theorem dX10_state_116 : decode cX10_state 116 = .ok (.getfield 166, 3) := by decide +kernel
theorem dX10_state_119 : decode cX10_state 119 = .ok (.invokevirtual 59, 3) := by decide +kernel
theorem dX10_state_122 : decode cX10_state 122 = .ok (.ireturn, 1) := by decide +kernel
set_option maxRecDepth 20000 in
theorem ggX10_count_Jx4a65c_size_8abf5 : GoodIn wsX10_count wsJx4a65c_size_8abf5 := goodIn_r _ [12, 13, 59, 60, 61] (by decide +kernel) (by decide +kernel)
set_option maxRecDepth 20000 in
theorem gX10_count_Jx4a65c_size_8abf5 : GoodIn wsX10_count (wsV RX10 59 RJx4a65c yJx4a65c_size_8abf5 wsJx4a65c_size_8abf5) := goodIn_app (goodIn_of _ (by decide +kernel)) ggX10_count_Jx4a65c_size_8abf5
set_option maxRecDepth 20000 in
theorem ggX10_count_X10_sumFromTips : GoodIn wsX10_count wsX10_sumFromTips := goodIn_r _ [18, 3, 19, 20, 8, 9, 10, 11, 12, 13, 21, 22, 23, 24, 25, 26, 27, 28, 29, 30, 31, 32, 33, 34, 35, 36, 37, 48, 49, 50, 51, 52, 53, 54, 55, 56, 57, 58, 62, 63, 64, 65, 66, 67, 68, 69, 70, 71, 59, 60, 61] (by decide +kernel) (by decide +kernel)
set_option maxRecDepth 20000 in
theorem gX10_count_X10_sumFromTips : GoodIn wsX10_count (wsV RX10 360 RX10 yX10_sumFromTips wsX10_sumFromTips) := goodIn_app (goodIn_of _ (by decide +kernel)) ggX10_count_X10_sumFromTips
set_option maxRecDepth 20000 in
theorem ggX10_count_X10_sumFromBands : GoodIn wsX10_count wsX10_sumFromBands := goodIn_r _ [41, 3, 19, 42, 8, 9, 10, 11, 12, 13, 21, 22, 23, 24, 25, 26, 27, 28, 29, 30, 31, 32, 33, 34, 35, 36, 37, 48, 49, 50, 51, 52, 53, 54, 55, 56, 57, 58, 62, 63, 64, 65, 66, 67, 68, 69, 70, 71, 59, 60, 61] (by decide +kernel) (by decide +kernel)
set_option maxRecDepth 20000 in
theorem gX10_count_X10_sumFromBands : GoodIn wsX10_count (wsV RX10 363 RX10 yX10_sumFromBands wsX10_sumFromBands) := goodIn_app (goodIn_of _ (by decide +kernel)) ggX10_count_X10_sumFromBands
set_option maxRecDepth 20000 in
theorem ggX10_count_X10_sumPaid : GoodIn wsX10_count wsX10_sumPaid := goodIn_r _ [46, 3, 19, 47, 8, 9, 10, 11, 12, 13, 21, 22, 23, 24, 25, 26, 27, 28, 29, 30, 31, 32, 33, 34, 35, 36, 37, 48, 49, 50, 51, 52, 53, 54, 55, 56, 57, 58, 62, 63, 64, 65, 66, 67, 68, 69, 70, 71, 59, 60, 61] (by decide +kernel) (by decide +kernel)
set_option maxRecDepth 20000 in
theorem gX10_count_X10_sumPaid : GoodIn wsX10_count (wsV RX10 366 RX10 yX10_sumPaid wsX10_sumPaid) := goodIn_app (goodIn_of _ (by decide +kernel)) ggX10_count_X10_sumPaid
theorem dX10_count_0 : decode cX10_count 0 = .ok (.iload_n 1, 1) := by decide +kernel
theorem dX10_count_1 : decode cX10_count 1 = .ok (.tableswitch 131 0 9 #[55, 61, 70, 79, 88, 97, 106, 111, 116, 126], 55) := by decide +kernel
theorem dX10_count_56 : decode cX10_count 56 = .ok (.aload_n 0, 1) := by decide +kernel
theorem dX10_count_57 : decode cX10_count 57 = .ok (.getfield 49, 3) := by decide +kernel
theorem dX10_count_60 : decode cX10_count 60 = .ok (.i2l, 1) := by decide +kernel
theorem dX10_count_61 : decode cX10_count 61 = .ok (.lreturn, 1) := by decide +kernel
theorem dX10_count_62 : decode cX10_count 62 = .ok (.aload_n 0, 1) := by decide +kernel
theorem dX10_count_63 : decode cX10_count 63 = .ok (.getfield 10, 3) := by decide +kernel
theorem dX10_count_66 : decode cX10_count 66 = .ok (.invokevirtual 59, 3) := by decide +kernel
theorem dX10_count_69 : decode cX10_count 69 = .ok (.i2l, 1) := by decide +kernel
theorem dX10_count_70 : decode cX10_count 70 = .ok (.lreturn, 1) := by decide +kernel
theorem dX10_count_71 : decode cX10_count 71 = .ok (.aload_n 0, 1) := by decide +kernel
theorem dX10_count_72 : decode cX10_count 72 = .ok (.getfield 16, 3) := by decide +kernel
theorem dX10_count_75 : decode cX10_count 75 = .ok (.invokevirtual 59, 3) := by decide +kernel
theorem dX10_count_78 : decode cX10_count 78 = .ok (.i2l, 1) := by decide +kernel
theorem dX10_count_79 : decode cX10_count 79 = .ok (.lreturn, 1) := by decide +kernel
theorem dX10_count_80 : decode cX10_count 80 = .ok (.aload_n 0, 1) := by decide +kernel
theorem dX10_count_81 : decode cX10_count 81 = .ok (.getfield 19, 3) := by decide +kernel
theorem dX10_count_84 : decode cX10_count 84 = .ok (.invokevirtual 59, 3) := by decide +kernel
theorem dX10_count_87 : decode cX10_count 87 = .ok (.i2l, 1) := by decide +kernel
theorem dX10_count_88 : decode cX10_count 88 = .ok (.lreturn, 1) := by decide +kernel
theorem dX10_count_89 : decode cX10_count 89 = .ok (.aload_n 0, 1) := by decide +kernel
theorem dX10_count_90 : decode cX10_count 90 = .ok (.getfield 22, 3) := by decide +kernel
theorem dX10_count_93 : decode cX10_count 93 = .ok (.invokevirtual 59, 3) := by decide +kernel
theorem dX10_count_96 : decode cX10_count 96 = .ok (.i2l, 1) := by decide +kernel
theorem dX10_count_97 : decode cX10_count 97 = .ok (.lreturn, 1) := by decide +kernel
theorem dX10_count_98 : decode cX10_count 98 = .ok (.aload_n 0, 1) := by decide +kernel
theorem dX10_count_99 : decode cX10_count 99 = .ok (.getfield 25, 3) := by decide +kernel
theorem dX10_count_102 : decode cX10_count 102 = .ok (.invokevirtual 59, 3) := by decide +kernel
theorem dX10_count_105 : decode cX10_count 105 = .ok (.i2l, 1) := by decide +kernel
theorem dX10_count_106 : decode cX10_count 106 = .ok (.lreturn, 1) := by decide +kernel
theorem dX10_count_107 : decode cX10_count 107 = .ok (.aload_n 0, 1) := by decide +kernel
theorem dX10_count_108 : decode cX10_count 108 = .ok (.invokevirtual 360, 3) := by decide +kernel
theorem dX10_count_111 : decode cX10_count 111 = .ok (.lreturn, 1) := by decide +kernel
theorem dX10_count_112 : decode cX10_count 112 = .ok (.aload_n 0, 1) := by decide +kernel
theorem dX10_count_113 : decode cX10_count 113 = .ok (.invokevirtual 363, 3) := by decide +kernel
theorem dX10_count_116 : decode cX10_count 116 = .ok (.lreturn, 1) := by decide +kernel
theorem dX10_count_117 : decode cX10_count 117 = .ok (.aload_n 0, 1) := by decide +kernel
theorem dX10_count_118 : decode cX10_count 118 = .ok (.invokevirtual 360, 3) := by decide +kernel
theorem dX10_count_121 : decode cX10_count 121 = .ok (.aload_n 0, 1) := by decide +kernel
theorem dX10_count_122 : decode cX10_count 122 = .ok (.invokevirtual 363, 3) := by decide +kernel
theorem dX10_count_125 : decode cX10_count 125 = .ok (.ladd, 1) := by decide +kernel
theorem dX10_count_126 : decode cX10_count 126 = .ok (.lreturn, 1) := by decide +kernel
theorem dX10_count_127 : decode cX10_count 127 = .ok (.aload_n 0, 1) := by decide +kernel
theorem dX10_count_128 : decode cX10_count 128 = .ok (.invokevirtual 366, 3) := by decide +kernel
theorem dX10_count_131 : decode cX10_count 131 = .ok (.lreturn, 1) := by decide +kernel
theorem dX10_count_132 : decode cX10_count 132 = .ok (.ldc2_w 195, 3) := by decide +kernel
theorem dX10_count_135 : decode cX10_count 135 = .ok (.lreturn, 1) := by decide +kernel
theorem dX10_isWithin_0 : decode cX10_isWithin 0 = .ok (.lload_n 2, 1) := by decide +kernel
theorem dX10_isWithin_1 : decode cX10_isWithin 1 = .ok (.lload_n 0, 1) := by decide +kernel
theorem dX10_isWithin_2 : decode cX10_isWithin 2 = .ok (.lcmp, 1) := by decide +kernel
theorem dX10_isWithin_3 : decode cX10_isWithin 3 = .ok (.ifCond .gt 14, 3) := by decide +kernel
theorem dX10_isWithin_6 : decode cX10_isWithin 6 = .ok (.lload_n 0, 1) := by decide +kernel
theorem dX10_isWithin_7 : decode cX10_isWithin 7 = .ok (.lload 4, 2) := by decide +kernel
theorem dX10_isWithin_9 : decode cX10_isWithin 9 = .ok (.lcmp, 1) := by decide +kernel
theorem dX10_isWithin_10 : decode cX10_isWithin 10 = .ok (.ifCond .gt 7, 3) := by decide +kernel
theorem dX10_isWithin_13 : decode cX10_isWithin 13 = .ok (.iconst 1, 1) := by decide +kernel
theorem dX10_isWithin_14 : decode cX10_isWithin 14 = .ok (.goto 4, 3) := by decide +kernel
theorem dX10_isWithin_17 : decode cX10_isWithin 17 = .ok (.iconst 0, 1) := by decide +kernel
theorem dX10_isWithin_18 : decode cX10_isWithin 18 = .ok (.ireturn, 1) := by decide +kernel
set_option maxRecDepth 20000 in
theorem ggX10_isGroup_X10_isWithin : GoodIn wsX10_isGroup wsX10_isWithin := goodIn_r _ [5] (by decide +kernel) (by decide +kernel)
set_option maxRecDepth 20000 in
theorem gX10_isGroup_X10_isWithin : GoodIn wsX10_isGroup (va_wsS RX10 87 yX10_isWithin wsX10_isWithin) := goodIn_app (goodIn_of _ (by decide +kernel)) ggX10_isGroup_X10_isWithin
theorem dX10_isGroup_0 : decode cX10_isGroup 0 = .ok (.iload_n 0, 1) := by decide +kernel
theorem dX10_isGroup_1 : decode cX10_isGroup 1 = .ok (.i2l, 1) := by decide +kernel
theorem dX10_isGroup_2 : decode cX10_isGroup 2 = .ok (.lconst 0, 1) := by decide +kernel
theorem dX10_isGroup_3 : decode cX10_isGroup 3 = .ok (.ldc2_w 343, 3) := by decide +kernel
theorem dX10_isGroup_6 : decode cX10_isGroup 6 = .ok (.invokestatic 87, 3) := by decide +kernel
theorem dX10_isGroup_9 : decode cX10_isGroup 9 = .ok (.ireturn, 1) := by decide +kernel
theorem dX10_require_0 : decode cX10_require 0 = .ok (.iload_n 0, 1) := by decide +kernel
theorem dX10_require_1 : decode cX10_require 1 = .ok (.ifCond .ne 14, 3) := by decide +kernel
theorem dX10_require_4 : decode cX10_require 4 = .ok (.new 369, 3) := by decide +kernel
theorem dX10_require_7 : decode cX10_require 7 = .ok (.dup, 1) := by decide +kernel
theorem dX10_require_8 : decode cX10_require 8 = .ok (.ldc_w 371, 3) := by decide +kernel
theorem dX10_require_11 : decode cX10_require 11 = .ok (.invokespecial 373, 3) := by decide +kernel
theorem dX10_require_14 : decode cX10_require 14 = .ok (.athrow, 1) := by decide +kernel
theorem dX10_require_15 : decode cX10_require 15 = .ok (.return_, 1) := by decide +kernel
theorem dX10_requireRoom_0 : decode cX10_requireRoom 0 = .ok (.iload_n 0, 1) := by decide +kernel
theorem dX10_requireRoom_1 : decode cX10_requireRoom 1 = .ok (.ifCond .ne 14, 3) := by decide +kernel
theorem dX10_requireRoom_4 : decode cX10_requireRoom 4 = .ok (.new 376, 3) := by decide +kernel
theorem dX10_requireRoom_7 : decode cX10_requireRoom 7 = .ok (.dup, 1) := by decide +kernel
theorem dX10_requireRoom_8 : decode cX10_requireRoom 8 = .ok (.ldc_w 378, 3) := by decide +kernel
theorem dX10_requireRoom_11 : decode cX10_requireRoom 11 = .ok (.invokespecial 380, 3) := by decide +kernel
theorem dX10_requireRoom_14 : decode cX10_requireRoom 14 = .ok (.athrow, 1) := by decide +kernel
theorem dX10_requireRoom_15 : decode cX10_requireRoom 15 = .ok (.return_, 1) := by decide +kernel
theorem dX10_requireThere_0 : decode cX10_requireThere 0 = .ok (.iload_n 0, 1) := by decide +kernel
theorem dX10_requireThere_1 : decode cX10_requireThere 1 = .ok (.ifCond .ne 14, 3) := by decide +kernel
theorem dX10_requireThere_4 : decode cX10_requireThere 4 = .ok (.new 381, 3) := by decide +kernel
theorem dX10_requireThere_7 : decode cX10_requireThere 7 = .ok (.dup, 1) := by decide +kernel
theorem dX10_requireThere_8 : decode cX10_requireThere 8 = .ok (.ldc_w 383, 3) := by decide +kernel
theorem dX10_requireThere_11 : decode cX10_requireThere 11 = .ok (.invokespecial 385, 3) := by decide +kernel
theorem dX10_requireThere_14 : decode cX10_requireThere 14 = .ok (.athrow, 1) := by decide +kernel
theorem dX10_requireThere_15 : decode cX10_requireThere 15 = .ok (.return_, 1) := by decide +kernel
theorem dX10_requireIndex_0 : decode cX10_requireIndex 0 = .ok (.iload_n 0, 1) := by decide +kernel
theorem dX10_requireIndex_1 : decode cX10_requireIndex 1 = .ok (.ifCond .lt 8, 3) := by decide +kernel
theorem dX10_requireIndex_4 : decode cX10_requireIndex 4 = .ok (.iload_n 0, 1) := by decide +kernel
theorem dX10_requireIndex_5 : decode cX10_requireIndex 5 = .ok (.iload_n 1, 1) := by decide +kernel
theorem dX10_requireIndex_6 : decode cX10_requireIndex 6 = .ok (.if_icmp .lt 14, 3) := by decide +kernel
theorem dX10_requireIndex_9 : decode cX10_requireIndex 9 = .ok (.new 386, 3) := by decide +kernel
theorem dX10_requireIndex_12 : decode cX10_requireIndex 12 = .ok (.dup, 1) := by decide +kernel
theorem dX10_requireIndex_13 : decode cX10_requireIndex 13 = .ok (.ldc_w 388, 3) := by decide +kernel
theorem dX10_requireIndex_16 : decode cX10_requireIndex 16 = .ok (.invokespecial 390, 3) := by decide +kernel
theorem dX10_requireIndex_19 : decode cX10_requireIndex 19 = .ok (.athrow, 1) := by decide +kernel
theorem dX10_requireIndex_20 : decode cX10_requireIndex 20 = .ok (.return_, 1) := by decide +kernel
set_option maxRecDepth 20000 in
theorem ggX10_streetAt_Jx4a65c_size_8abf5 : GoodIn wsX10_streetAt wsJx4a65c_size_8abf5 := goodIn_r _ [7, 8, 43, 44, 45] (by decide +kernel) (by decide +kernel)
set_option maxRecDepth 20000 in
theorem gX10_streetAt_Jx4a65c_size_8abf5 : GoodIn wsX10_streetAt (wsV RX10 59 RJx4a65c yJx4a65c_size_8abf5 wsJx4a65c_size_8abf5) := goodIn_app (goodIn_of _ (by decide +kernel)) ggX10_streetAt_Jx4a65c_size_8abf5
set_option maxRecDepth 20000 in
theorem ggX10_streetAt_X10_requireIndex : GoodIn wsX10_streetAt wsX10_requireIndex := goodIn_ca (goodIn_r _ [12, 13, 14] (by decide +kernel) (by decide +kernel)) (goodIn_sub (fun _ h => List.mem_cons_of_mem _ (List.mem_append_right _ h)) (by decide +kernel))
set_option maxRecDepth 20000 in
theorem gX10_streetAt_X10_requireIndex : GoodIn wsX10_streetAt (va_wsS RX10 391 yX10_requireIndex wsX10_requireIndex) := goodIn_app (goodIn_of _ (by decide +kernel)) ggX10_streetAt_X10_requireIndex
set_option maxRecDepth 20000 in
theorem ggX10_streetAt_Jx4a65c_get_915e3 : GoodIn wsX10_streetAt wsJx4a65c_get_915e3 := goodIn_r _ [18, 8, 19, 20, 21, 22, 23, 24, 25, 26, 27, 28, 29, 6, 30, 31, 43, 44, 45] (by decide +kernel) (by decide +kernel)
set_option maxRecDepth 20000 in
theorem gX10_streetAt_Jx4a65c_get_915e3 : GoodIn wsX10_streetAt (wsV RX10 249 RJx4a65c yJx4a65c_get_915e3 wsJx4a65c_get_915e3) := goodIn_app (goodIn_of _ (by decide +kernel)) ggX10_streetAt_Jx4a65c_get_915e3
theorem dX10_streetAt_0 : decode cX10_streetAt 0 = .ok (.iload_n 1, 1) := by decide +kernel
theorem dX10_streetAt_1 : decode cX10_streetAt 1 = .ok (.aload_n 0, 1) := by decide +kernel
theorem dX10_streetAt_2 : decode cX10_streetAt 2 = .ok (.getfield 10, 3) := by decide +kernel
theorem dX10_streetAt_5 : decode cX10_streetAt 5 = .ok (.invokevirtual 59, 3) := by decide +kernel
theorem dX10_streetAt_8 : decode cX10_streetAt 8 = .ok (.invokestatic 391, 3) := by decide +kernel
theorem dX10_streetAt_11 : decode cX10_streetAt 11 = .ok (.aload_n 0, 1) := by decide +kernel
theorem dX10_streetAt_12 : decode cX10_streetAt 12 = .ok (.getfield 10, 3) := by decide +kernel
theorem dX10_streetAt_15 : decode cX10_streetAt 15 = .ok (.iload_n 1, 1) := by decide +kernel
theorem dX10_streetAt_16 : decode cX10_streetAt 16 = .ok (.invokevirtual 249, 3) := by decide +kernel
theorem dX10_streetAt_19 : decode cX10_streetAt 19 = .ok (.checkcast 67, 3) := by decide +kernel
theorem dX10_streetAt_22 : decode cX10_streetAt 22 = .ok (.areturn, 1) := by decide +kernel
set_option maxRecDepth 20000 in
theorem ggX10_houseAt_Jx4a65c_size_8abf5 : GoodIn wsX10_houseAt wsJx4a65c_size_8abf5 := goodIn_r _ [7, 8, 43, 44, 45] (by decide +kernel) (by decide +kernel)
set_option maxRecDepth 20000 in
theorem gX10_houseAt_Jx4a65c_size_8abf5 : GoodIn wsX10_houseAt (wsV RX10 59 RJx4a65c yJx4a65c_size_8abf5 wsJx4a65c_size_8abf5) := goodIn_app (goodIn_of _ (by decide +kernel)) ggX10_houseAt_Jx4a65c_size_8abf5
set_option maxRecDepth 20000 in
theorem ggX10_houseAt_X10_requireIndex : GoodIn wsX10_houseAt wsX10_requireIndex := goodIn_ca (goodIn_r _ [12, 13, 14] (by decide +kernel) (by decide +kernel)) (goodIn_sub (fun _ h => List.mem_cons_of_mem _ (List.mem_append_right _ h)) (by decide +kernel))
set_option maxRecDepth 20000 in
theorem gX10_houseAt_X10_requireIndex : GoodIn wsX10_houseAt (va_wsS RX10 391 yX10_requireIndex wsX10_requireIndex) := goodIn_app (goodIn_of _ (by decide +kernel)) ggX10_houseAt_X10_requireIndex
set_option maxRecDepth 20000 in
theorem ggX10_houseAt_Jx4a65c_get_915e3 : GoodIn wsX10_houseAt wsJx4a65c_get_915e3 := goodIn_r _ [18, 8, 19, 20, 21, 22, 23, 24, 25, 26, 27, 28, 29, 6, 30, 31, 43, 44, 45] (by decide +kernel) (by decide +kernel)
set_option maxRecDepth 20000 in
theorem gX10_houseAt_Jx4a65c_get_915e3 : GoodIn wsX10_houseAt (wsV RX10 249 RJx4a65c yJx4a65c_get_915e3 wsJx4a65c_get_915e3) := goodIn_app (goodIn_of _ (by decide +kernel)) ggX10_houseAt_Jx4a65c_get_915e3
theorem dX10_houseAt_0 : decode cX10_houseAt 0 = .ok (.iload_n 1, 1) := by decide +kernel
theorem dX10_houseAt_1 : decode cX10_houseAt 1 = .ok (.aload_n 0, 1) := by decide +kernel
theorem dX10_houseAt_2 : decode cX10_houseAt 2 = .ok (.getfield 16, 3) := by decide +kernel
theorem dX10_houseAt_5 : decode cX10_houseAt 5 = .ok (.invokevirtual 59, 3) := by decide +kernel
theorem dX10_houseAt_8 : decode cX10_houseAt 8 = .ok (.invokestatic 391, 3) := by decide +kernel
theorem dX10_houseAt_11 : decode cX10_houseAt 11 = .ok (.aload_n 0, 1) := by decide +kernel
theorem dX10_houseAt_12 : decode cX10_houseAt 12 = .ok (.getfield 16, 3) := by decide +kernel
theorem dX10_houseAt_15 : decode cX10_houseAt 15 = .ok (.iload_n 1, 1) := by decide +kernel
theorem dX10_houseAt_16 : decode cX10_houseAt 16 = .ok (.invokevirtual 249, 3) := by decide +kernel
theorem dX10_houseAt_19 : decode cX10_houseAt 19 = .ok (.checkcast 109, 3) := by decide +kernel
theorem dX10_houseAt_22 : decode cX10_houseAt 22 = .ok (.areturn, 1) := by decide +kernel
set_option maxRecDepth 20000 in
theorem ggX10_binAt_Jx4a65c_size_8abf5 : GoodIn wsX10_binAt wsJx4a65c_size_8abf5 := goodIn_r _ [7, 8, 43, 44, 45] (by decide +kernel) (by decide +kernel)
set_option maxRecDepth 20000 in
theorem gX10_binAt_Jx4a65c_size_8abf5 : GoodIn wsX10_binAt (wsV RX10 59 RJx4a65c yJx4a65c_size_8abf5 wsJx4a65c_size_8abf5) := goodIn_app (goodIn_of _ (by decide +kernel)) ggX10_binAt_Jx4a65c_size_8abf5
set_option maxRecDepth 20000 in
theorem ggX10_binAt_X10_requireIndex : GoodIn wsX10_binAt wsX10_requireIndex := goodIn_ca (goodIn_r _ [12, 13, 14] (by decide +kernel) (by decide +kernel)) (goodIn_sub (fun _ h => List.mem_cons_of_mem _ (List.mem_append_right _ h)) (by decide +kernel))
set_option maxRecDepth 20000 in
theorem gX10_binAt_X10_requireIndex : GoodIn wsX10_binAt (va_wsS RX10 391 yX10_requireIndex wsX10_requireIndex) := goodIn_app (goodIn_of _ (by decide +kernel)) ggX10_binAt_X10_requireIndex
set_option maxRecDepth 20000 in
theorem ggX10_binAt_Jx4a65c_get_915e3 : GoodIn wsX10_binAt wsJx4a65c_get_915e3 := goodIn_r _ [18, 8, 19, 20, 21, 22, 23, 24, 25, 26, 27, 28, 29, 6, 30, 31, 43, 44, 45] (by decide +kernel) (by decide +kernel)
set_option maxRecDepth 20000 in
theorem gX10_binAt_Jx4a65c_get_915e3 : GoodIn wsX10_binAt (wsV RX10 249 RJx4a65c yJx4a65c_get_915e3 wsJx4a65c_get_915e3) := goodIn_app (goodIn_of _ (by decide +kernel)) ggX10_binAt_Jx4a65c_get_915e3
theorem dX10_binAt_0 : decode cX10_binAt 0 = .ok (.iload_n 1, 1) := by decide +kernel
theorem dX10_binAt_1 : decode cX10_binAt 1 = .ok (.aload_n 0, 1) := by decide +kernel
theorem dX10_binAt_2 : decode cX10_binAt 2 = .ok (.getfield 19, 3) := by decide +kernel
theorem dX10_binAt_5 : decode cX10_binAt 5 = .ok (.invokevirtual 59, 3) := by decide +kernel
theorem dX10_binAt_8 : decode cX10_binAt 8 = .ok (.invokestatic 391, 3) := by decide +kernel
theorem dX10_binAt_11 : decode cX10_binAt 11 = .ok (.aload_n 0, 1) := by decide +kernel
theorem dX10_binAt_12 : decode cX10_binAt 12 = .ok (.getfield 19, 3) := by decide +kernel
theorem dX10_binAt_15 : decode cX10_binAt 15 = .ok (.iload_n 1, 1) := by decide +kernel
theorem dX10_binAt_16 : decode cX10_binAt 16 = .ok (.invokevirtual 249, 3) := by decide +kernel
theorem dX10_binAt_19 : decode cX10_binAt 19 = .ok (.checkcast 121, 3) := by decide +kernel
theorem dX10_binAt_22 : decode cX10_binAt 22 = .ok (.areturn, 1) := by decide +kernel
set_option maxRecDepth 20000 in
theorem ggX10_cartAt_Jx4a65c_size_8abf5 : GoodIn wsX10_cartAt wsJx4a65c_size_8abf5 := goodIn_r _ [7, 8, 43, 44, 45] (by decide +kernel) (by decide +kernel)
set_option maxRecDepth 20000 in
theorem gX10_cartAt_Jx4a65c_size_8abf5 : GoodIn wsX10_cartAt (wsV RX10 59 RJx4a65c yJx4a65c_size_8abf5 wsJx4a65c_size_8abf5) := goodIn_app (goodIn_of _ (by decide +kernel)) ggX10_cartAt_Jx4a65c_size_8abf5
set_option maxRecDepth 20000 in
theorem ggX10_cartAt_X10_requireIndex : GoodIn wsX10_cartAt wsX10_requireIndex := goodIn_ca (goodIn_r _ [12, 13, 14] (by decide +kernel) (by decide +kernel)) (goodIn_sub (fun _ h => List.mem_cons_of_mem _ (List.mem_append_right _ h)) (by decide +kernel))
set_option maxRecDepth 20000 in
theorem gX10_cartAt_X10_requireIndex : GoodIn wsX10_cartAt (va_wsS RX10 391 yX10_requireIndex wsX10_requireIndex) := goodIn_app (goodIn_of _ (by decide +kernel)) ggX10_cartAt_X10_requireIndex
set_option maxRecDepth 20000 in
theorem ggX10_cartAt_Jx4a65c_get_915e3 : GoodIn wsX10_cartAt wsJx4a65c_get_915e3 := goodIn_r _ [18, 8, 19, 20, 21, 22, 23, 24, 25, 26, 27, 28, 29, 6, 30, 31, 43, 44, 45] (by decide +kernel) (by decide +kernel)
set_option maxRecDepth 20000 in
theorem gX10_cartAt_Jx4a65c_get_915e3 : GoodIn wsX10_cartAt (wsV RX10 249 RJx4a65c yJx4a65c_get_915e3 wsJx4a65c_get_915e3) := goodIn_app (goodIn_of _ (by decide +kernel)) ggX10_cartAt_Jx4a65c_get_915e3
theorem dX10_cartAt_0 : decode cX10_cartAt 0 = .ok (.iload_n 1, 1) := by decide +kernel
theorem dX10_cartAt_1 : decode cX10_cartAt 1 = .ok (.aload_n 0, 1) := by decide +kernel
theorem dX10_cartAt_2 : decode cX10_cartAt 2 = .ok (.getfield 22, 3) := by decide +kernel
theorem dX10_cartAt_5 : decode cX10_cartAt 5 = .ok (.invokevirtual 59, 3) := by decide +kernel
theorem dX10_cartAt_8 : decode cX10_cartAt 8 = .ok (.invokestatic 391, 3) := by decide +kernel
theorem dX10_cartAt_11 : decode cX10_cartAt 11 = .ok (.aload_n 0, 1) := by decide +kernel
theorem dX10_cartAt_12 : decode cX10_cartAt 12 = .ok (.getfield 22, 3) := by decide +kernel
theorem dX10_cartAt_15 : decode cX10_cartAt 15 = .ok (.iload_n 1, 1) := by decide +kernel
theorem dX10_cartAt_16 : decode cX10_cartAt 16 = .ok (.invokevirtual 249, 3) := by decide +kernel
theorem dX10_cartAt_19 : decode cX10_cartAt 19 = .ok (.checkcast 176, 3) := by decide +kernel
theorem dX10_cartAt_22 : decode cX10_cartAt 22 = .ok (.areturn, 1) := by decide +kernel
set_option maxRecDepth 20000 in
theorem ggX10_tipAt_Jx4a65c_size_8abf5 : GoodIn wsX10_tipAt wsJx4a65c_size_8abf5 := goodIn_r _ [7, 8, 43, 44, 45] (by decide +kernel) (by decide +kernel)
set_option maxRecDepth 20000 in
theorem gX10_tipAt_Jx4a65c_size_8abf5 : GoodIn wsX10_tipAt (wsV RX10 59 RJx4a65c yJx4a65c_size_8abf5 wsJx4a65c_size_8abf5) := goodIn_app (goodIn_of _ (by decide +kernel)) ggX10_tipAt_Jx4a65c_size_8abf5
set_option maxRecDepth 20000 in
theorem ggX10_tipAt_X10_requireIndex : GoodIn wsX10_tipAt wsX10_requireIndex := goodIn_ca (goodIn_r _ [12, 13, 14] (by decide +kernel) (by decide +kernel)) (goodIn_sub (fun _ h => List.mem_cons_of_mem _ (List.mem_append_right _ h)) (by decide +kernel))
