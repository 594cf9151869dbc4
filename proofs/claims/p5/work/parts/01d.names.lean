theorem dX7_isEven_18 : decode cX7_isEven 18 = .ok (.aload_n 0, 1) := by decide +kernel
theorem dX7_isEven_19 : decode cX7_isEven 19 = .ok (.getfield 11, 3) := by decide +kernel
theorem dX7_isEven_22 : decode cX7_isEven 22 = .ok (.aload_n 0, 1) := by decide +kernel
theorem dX7_isEven_23 : decode cX7_isEven 23 = .ok (.getfield 17, 3) := by decide +kernel
theorem dX7_isEven_26 : decode cX7_isEven 26 = .ok (.iconst 1, 1) := by decide +kernel
theorem dX7_isEven_27 : decode cX7_isEven 27 = .ok (.isub, 1) := by decide +kernel
theorem dX7_isEven_28 : decode cX7_isEven 28 = .ok (.iload_n 1, 1) := by decide +kernel
theorem dX7_isEven_29 : decode cX7_isEven 29 = .ok (.isub, 1) := by decide +kernel
theorem dX7_isEven_30 : decode cX7_isEven 30 = .ok (.aaload, 1) := by decide +kernel
theorem dX7_isEven_31 : decode cX7_isEven 31 = .ok (.invokevirtual 42, 3) := by decide +kernel
theorem dX7_isEven_34 : decode cX7_isEven 34 = .ok (.ifCond .ne 5, 3) := by decide +kernel
theorem dX7_isEven_37 : decode cX7_isEven 37 = .ok (.iconst 0, 1) := by decide +kernel
theorem dX7_isEven_38 : decode cX7_isEven 38 = .ok (.ireturn, 1) := by decide +kernel
theorem dX7_isEven_39 : decode cX7_isEven 39 = .ok (.iinc 1 1, 3) := by decide +kernel
theorem dX7_isEven_42 : decode cX7_isEven 42 = .ok (.goto (-40), 3) := by decide +kernel
theorem dX7_isEven_45 : decode cX7_isEven 45 = .ok (.iconst 1, 1) := by decide +kernel
theorem dX7_isEven_46 : decode cX7_isEven 46 = .ok (.ireturn, 1) := by decide +kernel
theorem dX7_giveWay_0 : decode cX7_giveWay 0 = .ok (.iload_n 1, 1) := by decide +kernel
theorem dX7_giveWay_1 : decode cX7_giveWay 1 = .ok (.bipush 10, 2) := by decide +kernel
theorem dX7_giveWay_3 : decode cX7_giveWay 3 = .ok (.idiv, 1) := by decide +kernel
theorem dX7_giveWay_4 : decode cX7_giveWay 4 = .ok (.istore_n 2, 1) := by decide +kernel
theorem dX7_giveWay_5 : decode cX7_giveWay 5 = .ok (.iload_n 2, 1) := by decide +kernel
theorem dX7_giveWay_6 : decode cX7_giveWay 6 = .ok (.ifCond .lt 33, 3) := by decide +kernel
theorem dX7_giveWay_9 : decode cX7_giveWay 9 = .ok (.iload_n 2, 1) := by decide +kernel
theorem dX7_giveWay_10 : decode cX7_giveWay 10 = .ok (.aload_n 0, 1) := by decide +kernel
theorem dX7_giveWay_11 : decode cX7_giveWay 11 = .ok (.getfield 17, 3) := by decide +kernel
theorem dX7_giveWay_14 : decode cX7_giveWay 14 = .ok (.if_icmp .ge 25, 3) := by decide +kernel
theorem dX7_giveWay_17 : decode cX7_giveWay 17 = .ok (.aload_n 0, 1) := by decide +kernel
theorem dX7_giveWay_18 : decode cX7_giveWay 18 = .ok (.getfield 11, 3) := by decide +kernel
theorem dX7_giveWay_21 : decode cX7_giveWay 21 = .ok (.iload_n 2, 1) := by decide +kernel
theorem dX7_giveWay_22 : decode cX7_giveWay 22 = .ok (.aaload, 1) := by decide +kernel
theorem dX7_giveWay_23 : decode cX7_giveWay 23 = .ok (.iload_n 1, 1) := by decide +kernel
theorem dX7_giveWay_24 : decode cX7_giveWay 24 = .ok (.bipush 10, 2) := by decide +kernel
theorem dX7_giveWay_26 : decode cX7_giveWay 26 = .ok (.irem, 1) := by decide +kernel
theorem dX7_giveWay_27 : decode cX7_giveWay 27 = .ok (.iconst 1, 1) := by decide +kernel
theorem dX7_giveWay_28 : decode cX7_giveWay 28 = .ok (.if_icmp .gt 7, 3) := by decide +kernel
theorem dX7_giveWay_31 : decode cX7_giveWay 31 = .ok (.iconst 2, 1) := by decide +kernel
theorem dX7_giveWay_32 : decode cX7_giveWay 32 = .ok (.goto 4, 3) := by decide +kernel
theorem dX7_giveWay_35 : decode cX7_giveWay 35 = .ok (.iconst 1, 1) := by decide +kernel
theorem dX7_giveWay_36 : decode cX7_giveWay 36 = .ok (.putfield 39, 3) := by decide +kernel
theorem dX7_giveWay_39 : decode cX7_giveWay 39 = .ok (.return_, 1) := by decide +kernel
set_option maxRecDepth 20000 in
theorem ggX7_leftOver_X5_isLike : GoodIn wsX7_leftOver wsX5_isLike := goodIn_r _ [7, 8, 9, 10, 11, 14, 15, 16, 17] (by decide +kernel) (by decide +kernel)
set_option maxRecDepth 20000 in
theorem gX7_leftOver_X5_isLike : GoodIn wsX7_leftOver (wsV RX7 42 RX5 yX5_isLike wsX5_isLike) := goodIn_app (goodIn_of _ (by decide +kernel)) ggX7_leftOver_X5_isLike
theorem dX7_leftOver_0 : decode cX7_leftOver 0 = .ok (.iconst 0, 1) := by decide +kernel
theorem dX7_leftOver_1 : decode cX7_leftOver 1 = .ok (.istore_n 2, 1) := by decide +kernel
theorem dX7_leftOver_2 : decode cX7_leftOver 2 = .ok (.iconst 0, 1) := by decide +kernel
theorem dX7_leftOver_3 : decode cX7_leftOver 3 = .ok (.istore_n 3, 1) := by decide +kernel
theorem dX7_leftOver_4 : decode cX7_leftOver 4 = .ok (.iconst 0, 1) := by decide +kernel
theorem dX7_leftOver_5 : decode cX7_leftOver 5 = .ok (.istore 4, 2) := by decide +kernel
theorem dX7_leftOver_7 : decode cX7_leftOver 7 = .ok (.iload 4, 2) := by decide +kernel
theorem dX7_leftOver_9 : decode cX7_leftOver 9 = .ok (.aload_n 0, 1) := by decide +kernel
theorem dX7_leftOver_10 : decode cX7_leftOver 10 = .ok (.getfield 17, 3) := by decide +kernel
theorem dX7_leftOver_13 : decode cX7_leftOver 13 = .ok (.if_icmp .ge 49, 3) := by decide +kernel
theorem dX7_leftOver_16 : decode cX7_leftOver 16 = .ok (.iload_n 3, 1) := by decide +kernel
theorem dX7_leftOver_17 : decode cX7_leftOver 17 = .ok (.aload_n 1, 1) := by decide +kernel
theorem dX7_leftOver_18 : decode cX7_leftOver 18 = .ok (.getfield 17, 3) := by decide +kernel
theorem dX7_leftOver_21 : decode cX7_leftOver 21 = .ok (.if_icmp .ge 28, 3) := by decide +kernel
theorem dX7_leftOver_24 : decode cX7_leftOver 24 = .ok (.aload_n 0, 1) := by decide +kernel
theorem dX7_leftOver_25 : decode cX7_leftOver 25 = .ok (.getfield 11, 3) := by decide +kernel
theorem dX7_leftOver_28 : decode cX7_leftOver 28 = .ok (.iload 4, 2) := by decide +kernel
theorem dX7_leftOver_30 : decode cX7_leftOver 30 = .ok (.aaload, 1) := by decide +kernel
theorem dX7_leftOver_31 : decode cX7_leftOver 31 = .ok (.aload_n 1, 1) := by decide +kernel
theorem dX7_leftOver_32 : decode cX7_leftOver 32 = .ok (.getfield 11, 3) := by decide +kernel
theorem dX7_leftOver_35 : decode cX7_leftOver 35 = .ok (.iload_n 3, 1) := by decide +kernel
theorem dX7_leftOver_36 : decode cX7_leftOver 36 = .ok (.aaload, 1) := by decide +kernel
theorem dX7_leftOver_37 : decode cX7_leftOver 37 = .ok (.invokevirtual 42, 3) := by decide +kernel
theorem dX7_leftOver_40 : decode cX7_leftOver 40 = .ok (.ifCond .eq 9, 3) := by decide +kernel
theorem dX7_leftOver_43 : decode cX7_leftOver 43 = .ok (.iinc 3 1, 3) := by decide +kernel
theorem dX7_leftOver_46 : decode cX7_leftOver 46 = .ok (.goto 10, 3) := by decide +kernel
theorem dX7_leftOver_49 : decode cX7_leftOver 49 = .ok (.iload_n 2, 1) := by decide +kernel
theorem dX7_leftOver_50 : decode cX7_leftOver 50 = .ok (.iconst 1, 1) := by decide +kernel
theorem dX7_leftOver_51 : decode cX7_leftOver 51 = .ok (.iload 4, 2) := by decide +kernel
theorem dX7_leftOver_53 : decode cX7_leftOver 53 = .ok (.ishl, 1) := by decide +kernel
theorem dX7_leftOver_54 : decode cX7_leftOver 54 = .ok (.ior, 1) := by decide +kernel
theorem dX7_leftOver_55 : decode cX7_leftOver 55 = .ok (.istore_n 2, 1) := by decide +kernel
theorem dX7_leftOver_56 : decode cX7_leftOver 56 = .ok (.iinc 4 1, 3) := by decide +kernel
theorem dX7_leftOver_59 : decode cX7_leftOver 59 = .ok (.goto (-52), 3) := by decide +kernel
theorem dX7_leftOver_62 : decode cX7_leftOver 62 = .ok (.iload_n 3, 1) := by decide +kernel
theorem dX7_leftOver_63 : decode cX7_leftOver 63 = .ok (.aload_n 1, 1) := by decide +kernel
theorem dX7_leftOver_64 : decode cX7_leftOver 64 = .ok (.getfield 17, 3) := by decide +kernel
theorem dX7_leftOver_67 : decode cX7_leftOver 67 = .ok (.if_icmp .ne 7, 3) := by decide +kernel
theorem dX7_leftOver_70 : decode cX7_leftOver 70 = .ok (.iload_n 2, 1) := by decide +kernel
theorem dX7_leftOver_71 : decode cX7_leftOver 71 = .ok (.goto 4, 3) := by decide +kernel
theorem dX7_leftOver_74 : decode cX7_leftOver 74 = .ok (.iconst (-1), 1) := by decide +kernel
theorem dX7_leftOver_75 : decode cX7_leftOver 75 = .ok (.ireturn, 1) := by decide +kernel
set_option maxRecDepth 20000 in
theorem ggX8_init_X7_init : GoodIn wsX8_init wsX7_init := goodIn_r _ [17, 18, 2, 3, 19, 20, 21, 22, 23, 24, 25, 26, 27, 28, 29, 30, 31, 32, 40, 41, 42, 43] (by decide +kernel) (by decide +kernel)
set_option maxRecDepth 20000 in
theorem gX8_init_X7_init : GoodIn wsX8_init (wsX7_init) := ggX8_init_X7_init
theorem dX8_init_0 : decode cX8_init 0 = .ok (.aload_n 0, 1) := by decide +kernel
theorem dX8_init_1 : decode cX8_init 1 = .ok (.invokespecial 3, 3) := by decide +kernel
theorem dX8_init_4 : decode cX8_init 4 = .ok (.aload_n 0, 1) := by decide +kernel
theorem dX8_init_5 : decode cX8_init 5 = .ok (.new 9, 3) := by decide +kernel
theorem dX8_init_8 : decode cX8_init 8 = .ok (.dup, 1) := by decide +kernel
theorem dX8_init_9 : decode cX8_init 9 = .ok (.invokespecial 11, 3) := by decide +kernel
theorem dX8_init_12 : decode cX8_init 12 = .ok (.putfield 12, 3) := by decide +kernel
theorem dX8_init_15 : decode cX8_init 15 = .ok (.aload_n 0, 1) := by decide +kernel
theorem dX8_init_16 : decode cX8_init 16 = .ok (.new 9, 3) := by decide +kernel
theorem dX8_init_19 : decode cX8_init 19 = .ok (.dup, 1) := by decide +kernel
theorem dX8_init_20 : decode cX8_init 20 = .ok (.invokespecial 11, 3) := by decide +kernel
theorem dX8_init_23 : decode cX8_init 23 = .ok (.putfield 18, 3) := by decide +kernel
theorem dX8_init_26 : decode cX8_init 26 = .ok (.aload_n 0, 1) := by decide +kernel
theorem dX8_init_27 : decode cX8_init 27 = .ok (.iconst 4, 1) := by decide +kernel
theorem dX8_init_28 : decode cX8_init 28 = .ok (.newarray .int, 2) := by decide +kernel
theorem dX8_init_30 : decode cX8_init 30 = .ok (.putfield 21, 3) := by decide +kernel
theorem dX8_init_33 : decode cX8_init 33 = .ok (.aload_n 0, 1) := by decide +kernel
theorem dX8_init_34 : decode cX8_init 34 = .ok (.sipush 216, 3) := by decide +kernel
theorem dX8_init_37 : decode cX8_init 37 = .ok (.newarray .int, 2) := by decide +kernel
theorem dX8_init_39 : decode cX8_init 39 = .ok (.putfield 25, 3) := by decide +kernel
theorem dX8_init_42 : decode cX8_init 42 = .ok (.aload_n 0, 1) := by decide +kernel
theorem dX8_init_43 : decode cX8_init 43 = .ok (.aload_n 1, 1) := by decide +kernel
theorem dX8_init_44 : decode cX8_init 44 = .ok (.putfield 28, 3) := by decide +kernel
theorem dX8_init_47 : decode cX8_init 47 = .ok (.aload_n 0, 1) := by decide +kernel
theorem dX8_init_48 : decode cX8_init 48 = .ok (.aload_n 2, 1) := by decide +kernel
theorem dX8_init_49 : decode cX8_init 49 = .ok (.putfield 32, 3) := by decide +kernel
theorem dX8_init_52 : decode cX8_init 52 = .ok (.aload_n 0, 1) := by decide +kernel
theorem dX8_init_53 : decode cX8_init 53 = .ok (.aload_n 3, 1) := by decide +kernel
theorem dX8_init_54 : decode cX8_init 54 = .ok (.putfield 36, 3) := by decide +kernel
theorem dX8_init_57 : decode cX8_init 57 = .ok (.return_, 1) := by decide +kernel
set_option maxRecDepth 20000 in
theorem ggX8_find_J7_fill_53178 : GoodIn wsX8_find wsJ7_fill_53178 := goodIn_r _ [5] (by decide +kernel) (by decide +kernel)
set_option maxRecDepth 20000 in
theorem gX8_find_J7_fill_53178 : GoodIn wsX8_find (va_wsS RX8 40 yJ7_fill_53178 wsJ7_fill_53178) := goodIn_app (goodIn_of _ (by decide +kernel)) ggX8_find_J7_fill_53178
set_option maxRecDepth 20000 in
theorem ggX8_find_X8_holdsCases : GoodIn wsX8_find wsX8_holdsCases := goodIn_r _ [10, 11, 1, 2, 3, 4, 5, 12, 13, 9, 14, 15, 16, 17, 18, 19, 20, 21, 22, 23, 24, 25, 26, 27, 28, 29, 30, 31, 32, 33, 34, 35, 36, 37, 38, 39, 40, 41, 42, 43, 44, 45, 46, 47, 48, 49, 50, 51, 52, 53, 54, 55, 56, 57, 58, 59, 60, 61, 62, 63, 64, 65, 66, 67, 68, 69, 70, 71, 72, 73, 74, 75, 76, 77, 78, 79, 80, 81, 82, 83, 84, 85, 86, 87, 88, 89, 90, 91, 92, 93, 94, 95, 96, 97, 98, 99, 100, 101, 102, 103, 104, 105, 106, 107, 108, 109, 110, 111, 112, 113, 114, 115, 116, 117, 118, 119, 120, 121, 122, 123, 124, 125, 126, 127, 128, 129, 130, 131, 132, 133, 134, 135, 136, 137, 138, 139, 140, 141, 142, 143, 144, 145, 146, 147, 148, 178, 179, 180, 181, 182, 183, 184, 185, 186, 187, 188, 189, 190, 191, 192, 193, 194, 195, 196, 197, 198, 199, 200, 201, 202, 203, 204, 205, 206, 207, 208, 209, 210, 211, 212, 213, 214, 215, 216] (by decide +kernel) (by decide +kernel)
set_option maxRecDepth 20000 in
theorem gX8_find_X8_holdsCases : GoodIn wsX8_find (wsV RX8 46 RX8 yX8_holdsCases wsX8_holdsCases) := goodIn_app (goodIn_of _ (by decide +kernel)) ggX8_find_X8_holdsCases
set_option maxRecDepth 20000 in
theorem ggX8_find_X8_keepsRules : GoodIn wsX8_find wsX8_keepsRules := goodIn_r _ [152, 153, 20, 154, 12, 13, 9, 14, 25, 26, 27, 28, 29, 30, 31, 32, 33, 34, 35, 36, 37, 38, 39, 40, 41, 42, 43, 44, 155, 156, 157, 158, 159, 160, 161, 162, 163, 164, 165, 166, 167, 168, 169, 170, 171, 172, 173, 174, 175, 176, 177, 178, 179, 180, 181, 182, 183, 184, 185, 186, 189, 190, 191, 192, 217, 218, 219] (by decide +kernel) (by decide +kernel)
set_option maxRecDepth 20000 in
theorem gX8_find_X8_keepsRules : GoodIn wsX8_find (wsV RX8 50 RX8 yX8_keepsRules wsX8_keepsRules) := goodIn_app (goodIn_of _ (by decide +kernel)) ggX8_find_X8_keepsRules
theorem dX8_find_0 : decode cX8_find 0 = .ok (.iconst 1, 1) := by decide +kernel
theorem dX8_find_1 : decode cX8_find 1 = .ok (.istore_n 2, 1) := by decide +kernel
theorem dX8_find_2 : decode cX8_find 2 = .ok (.iload_n 2, 1) := by decide +kernel
theorem dX8_find_3 : decode cX8_find 3 = .ok (.iconst 5, 1) := by decide +kernel
theorem dX8_find_4 : decode cX8_find 4 = .ok (.if_icmp .gt 62, 3) := by decide +kernel
theorem dX8_find_7 : decode cX8_find 7 = .ok (.aload_n 0, 1) := by decide +kernel
theorem dX8_find_8 : decode cX8_find 8 = .ok (.getfield 25, 3) := by decide +kernel
theorem dX8_find_11 : decode cX8_find 11 = .ok (.iconst 0, 1) := by decide +kernel
theorem dX8_find_12 : decode cX8_find 12 = .ok (.invokestatic 40, 3) := by decide +kernel
theorem dX8_find_15 : decode cX8_find 15 = .ok (.iconst 1, 1) := by decide +kernel
theorem dX8_find_16 : decode cX8_find 16 = .ok (.iconst 2, 1) := by decide +kernel
theorem dX8_find_17 : decode cX8_find 17 = .ok (.iload_n 2, 1) := by decide +kernel
theorem dX8_find_18 : decode cX8_find 18 = .ok (.imul, 1) := by decide +kernel
theorem dX8_find_19 : decode cX8_find 19 = .ok (.ishl, 1) := by decide +kernel
theorem dX8_find_20 : decode cX8_find 20 = .ok (.istore_n 3, 1) := by decide +kernel
theorem dX8_find_21 : decode cX8_find 21 = .ok (.iconst 0, 1) := by decide +kernel
theorem dX8_find_22 : decode cX8_find 22 = .ok (.istore 4, 2) := by decide +kernel
theorem dX8_find_24 : decode cX8_find 24 = .ok (.iload 4, 2) := by decide +kernel
theorem dX8_find_26 : decode cX8_find 26 = .ok (.iload_n 3, 1) := by decide +kernel
theorem dX8_find_27 : decode cX8_find 27 = .ok (.if_icmp .ge 33, 3) := by decide +kernel
theorem dX8_find_30 : decode cX8_find 30 = .ok (.aload_n 0, 1) := by decide +kernel
theorem dX8_find_31 : decode cX8_find 31 = .ok (.iload_n 1, 1) := by decide +kernel
theorem dX8_find_32 : decode cX8_find 32 = .ok (.iload 4, 2) := by decide +kernel
theorem dX8_find_34 : decode cX8_find 34 = .ok (.iload_n 2, 1) := by decide +kernel
theorem dX8_find_35 : decode cX8_find 35 = .ok (.invokevirtual 46, 3) := by decide +kernel
theorem dX8_find_38 : decode cX8_find 38 = .ok (.ifCond .eq 16, 3) := by decide +kernel
theorem dX8_find_41 : decode cX8_find 41 = .ok (.aload_n 0, 1) := by decide +kernel
theorem dX8_find_42 : decode cX8_find 42 = .ok (.iload_n 1, 1) := by decide +kernel
theorem dX8_find_43 : decode cX8_find 43 = .ok (.iload 4, 2) := by decide +kernel
theorem dX8_find_45 : decode cX8_find 45 = .ok (.iload_n 2, 1) := by decide +kernel
theorem dX8_find_46 : decode cX8_find 46 = .ok (.invokevirtual 50, 3) := by decide +kernel
theorem dX8_find_49 : decode cX8_find 49 = .ok (.ifCond .eq 5, 3) := by decide +kernel
theorem dX8_find_52 : decode cX8_find 52 = .ok (.iconst 1, 1) := by decide +kernel
theorem dX8_find_53 : decode cX8_find 53 = .ok (.ireturn, 1) := by decide +kernel
theorem dX8_find_54 : decode cX8_find 54 = .ok (.iinc 4 1, 3) := by decide +kernel
theorem dX8_find_57 : decode cX8_find 57 = .ok (.goto (-33), 3) := by decide +kernel
theorem dX8_find_60 : decode cX8_find 60 = .ok (.iinc 2 1, 3) := by decide +kernel
theorem dX8_find_63 : decode cX8_find 63 = .ok (.goto (-61), 3) := by decide +kernel
theorem dX8_find_66 : decode cX8_find 66 = .ok (.iconst 0, 1) := by decide +kernel
theorem dX8_find_67 : decode cX8_find 67 = .ok (.ireturn, 1) := by decide +kernel
theorem dX8_wayAt_0 : decode cX8_wayAt 0 = .ok (.iload_n 0, 1) := by decide +kernel
theorem dX8_wayAt_1 : decode cX8_wayAt 1 = .ok (.iconst 2, 1) := by decide +kernel
theorem dX8_wayAt_2 : decode cX8_wayAt 2 = .ok (.iload_n 1, 1) := by decide +kernel
theorem dX8_wayAt_3 : decode cX8_wayAt 3 = .ok (.iconst 1, 1) := by decide +kernel
theorem dX8_wayAt_4 : decode cX8_wayAt 4 = .ok (.isub, 1) := by decide +kernel
theorem dX8_wayAt_5 : decode cX8_wayAt 5 = .ok (.iload_n 2, 1) := by decide +kernel
theorem dX8_wayAt_6 : decode cX8_wayAt 6 = .ok (.isub, 1) := by decide +kernel
theorem dX8_wayAt_7 : decode cX8_wayAt 7 = .ok (.imul, 1) := by decide +kernel
theorem dX8_wayAt_8 : decode cX8_wayAt 8 = .ok (.ishr, 1) := by decide +kernel
theorem dX8_wayAt_9 : decode cX8_wayAt 9 = .ok (.iconst 3, 1) := by decide +kernel
theorem dX8_wayAt_10 : decode cX8_wayAt 10 = .ok (.iand, 1) := by decide +kernel
theorem dX8_wayAt_11 : decode cX8_wayAt 11 = .ok (.ireturn, 1) := by decide +kernel
set_option maxRecDepth 20000 in
theorem ggX8_keepsRules_X8_wayAt : GoodIn wsX8_keepsRules wsX8_wayAt := goodIn_r _ [7] (by decide +kernel) (by decide +kernel)
set_option maxRecDepth 20000 in
theorem gX8_keepsRules_X8_wayAt : GoodIn wsX8_keepsRules (va_wsS RX8 57 yX8_wayAt wsX8_wayAt) := goodIn_app (goodIn_of _ (by decide +kernel)) ggX8_keepsRules_X8_wayAt
set_option maxRecDepth 20000 in
theorem ggX8_keepsRules_X7_put : GoodIn wsX8_keepsRules wsX7_put := goodIn_r _ [12, 13, 14, 15, 16, 17, 11, 18, 19, 20, 21, 22, 23, 24, 25, 26, 27, 58, 59, 60, 61, 62, 63] (by decide +kernel) (by decide +kernel)
set_option maxRecDepth 20000 in
theorem gX8_keepsRules_X7_put : GoodIn wsX8_keepsRules (wsV RX8 61 RX7 yX7_put wsX7_put) := goodIn_app (goodIn_of _ (by decide +kernel)) ggX8_keepsRules_X7_put
set_option maxRecDepth 20000 in
theorem ggX8_keepsRules_X4_firstUnkept : GoodIn wsX8_keepsRules wsX4_firstUnkept := goodIn_r _ [32, 33, 34, 35, 36, 31, 37, 38, 39, 40, 41, 42, 43, 44, 45, 46, 47, 48, 49, 50, 64, 65, 66, 58, 59, 60, 61, 62, 63] (by decide +kernel) (by decide +kernel)
set_option maxRecDepth 20000 in
theorem gX8_keepsRules_X4_firstUnkept : GoodIn wsX8_keepsRules (wsV RX8 65 RX4 yX4_firstUnkept wsX4_firstUnkept) := goodIn_app (goodIn_of _ (by decide +kernel)) ggX8_keepsRules_X4_firstUnkept
theorem dX8_keepsRules_0 : decode cX8_keepsRules 0 = .ok (.aload_n 0, 1) := by decide +kernel
theorem dX8_keepsRules_1 : decode cX8_keepsRules 1 = .ok (.getfield 12, 3) := by decide +kernel
theorem dX8_keepsRules_4 : decode cX8_keepsRules 4 = .ok (.iconst 0, 1) := by decide +kernel
theorem dX8_keepsRules_5 : decode cX8_keepsRules 5 = .ok (.putfield 53, 3) := by decide +kernel
theorem dX8_keepsRules_8 : decode cX8_keepsRules 8 = .ok (.iconst 0, 1) := by decide +kernel
theorem dX8_keepsRules_9 : decode cX8_keepsRules 9 = .ok (.istore 4, 2) := by decide +kernel
theorem dX8_keepsRules_11 : decode cX8_keepsRules 11 = .ok (.iload 4, 2) := by decide +kernel
theorem dX8_keepsRules_13 : decode cX8_keepsRules 13 = .ok (.iload_n 3, 1) := by decide +kernel
theorem dX8_keepsRules_14 : decode cX8_keepsRules 14 = .ok (.if_icmp .ge 25, 3) := by decide +kernel
theorem dX8_keepsRules_17 : decode cX8_keepsRules 17 = .ok (.aload_n 0, 1) := by decide +kernel
theorem dX8_keepsRules_18 : decode cX8_keepsRules 18 = .ok (.getfield 12, 3) := by decide +kernel
theorem dX8_keepsRules_21 : decode cX8_keepsRules 21 = .ok (.iload_n 1, 1) := by decide +kernel
theorem dX8_keepsRules_22 : decode cX8_keepsRules 22 = .ok (.iload_n 2, 1) := by decide +kernel
theorem dX8_keepsRules_23 : decode cX8_keepsRules 23 = .ok (.iload_n 3, 1) := by decide +kernel
theorem dX8_keepsRules_24 : decode cX8_keepsRules 24 = .ok (.iload 4, 2) := by decide +kernel
theorem dX8_keepsRules_26 : decode cX8_keepsRules 26 = .ok (.invokestatic 57, 3) := by decide +kernel
theorem dX8_keepsRules_29 : decode cX8_keepsRules 29 = .ok (.iconst 1, 1) := by decide +kernel
theorem dX8_keepsRules_30 : decode cX8_keepsRules 30 = .ok (.invokevirtual 61, 3) := by decide +kernel
theorem dX8_keepsRules_33 : decode cX8_keepsRules 33 = .ok (.iinc 4 1, 3) := by decide +kernel
theorem dX8_keepsRules_36 : decode cX8_keepsRules 36 = .ok (.goto (-25), 3) := by decide +kernel
theorem dX8_keepsRules_39 : decode cX8_keepsRules 39 = .ok (.iload_n 3, 1) := by decide +kernel
theorem dX8_keepsRules_40 : decode cX8_keepsRules 40 = .ok (.iconst 1, 1) := by decide +kernel
theorem dX8_keepsRules_41 : decode cX8_keepsRules 41 = .ok (.isub, 1) := by decide +kernel
theorem dX8_keepsRules_42 : decode cX8_keepsRules 42 = .ok (.istore 4, 2) := by decide +kernel
theorem dX8_keepsRules_44 : decode cX8_keepsRules 44 = .ok (.iload 4, 2) := by decide +kernel
theorem dX8_keepsRules_46 : decode cX8_keepsRules 46 = .ok (.ifCond .lt 25, 3) := by decide +kernel
theorem dX8_keepsRules_49 : decode cX8_keepsRules 49 = .ok (.aload_n 0, 1) := by decide +kernel
theorem dX8_keepsRules_50 : decode cX8_keepsRules 50 = .ok (.getfield 12, 3) := by decide +kernel
theorem dX8_keepsRules_53 : decode cX8_keepsRules 53 = .ok (.iload_n 1, 1) := by decide +kernel
theorem dX8_keepsRules_54 : decode cX8_keepsRules 54 = .ok (.iload_n 2, 1) := by decide +kernel
theorem dX8_keepsRules_55 : decode cX8_keepsRules 55 = .ok (.iload_n 3, 1) := by decide +kernel
theorem dX8_keepsRules_56 : decode cX8_keepsRules 56 = .ok (.iload 4, 2) := by decide +kernel
theorem dX8_keepsRules_58 : decode cX8_keepsRules 58 = .ok (.invokestatic 57, 3) := by decide +kernel
theorem dX8_keepsRules_61 : decode cX8_keepsRules 61 = .ok (.iconst 1, 1) := by decide +kernel
theorem dX8_keepsRules_62 : decode cX8_keepsRules 62 = .ok (.invokevirtual 61, 3) := by decide +kernel
theorem dX8_keepsRules_65 : decode cX8_keepsRules 65 = .ok (.iinc 4 (-1), 3) := by decide +kernel
theorem dX8_keepsRules_68 : decode cX8_keepsRules 68 = .ok (.goto (-24), 3) := by decide +kernel
theorem dX8_keepsRules_71 : decode cX8_keepsRules 71 = .ok (.aload_n 0, 1) := by decide +kernel
theorem dX8_keepsRules_72 : decode cX8_keepsRules 72 = .ok (.getfield 32, 3) := by decide +kernel
theorem dX8_keepsRules_75 : decode cX8_keepsRules 75 = .ok (.aload_n 0, 1) := by decide +kernel
theorem dX8_keepsRules_76 : decode cX8_keepsRules 76 = .ok (.getfield 12, 3) := by decide +kernel
theorem dX8_keepsRules_79 : decode cX8_keepsRules 79 = .ok (.invokevirtual 65, 3) := by decide +kernel
theorem dX8_keepsRules_82 : decode cX8_keepsRules 82 = .ok (.ifCond .ne 7, 3) := by decide +kernel
theorem dX8_keepsRules_85 : decode cX8_keepsRules 85 = .ok (.iconst 1, 1) := by decide +kernel
theorem dX8_keepsRules_86 : decode cX8_keepsRules 86 = .ok (.goto 4, 3) := by decide +kernel
theorem dX8_keepsRules_89 : decode cX8_keepsRules 89 = .ok (.iconst 0, 1) := by decide +kernel
theorem dX8_keepsRules_90 : decode cX8_keepsRules 90 = .ok (.ireturn, 1) := by decide +kernel
set_option maxRecDepth 20000 in
theorem ggX8_holdsCases_J7_fill_53178 : GoodIn wsX8_holdsCases wsJ7_fill_53178 := goodIn_r _ [6] (by decide +kernel) (by decide +kernel)
set_option maxRecDepth 20000 in
theorem gX8_holdsCases_J7_fill_53178 : GoodIn wsX8_holdsCases (va_wsS RX8 40 yJ7_fill_53178 wsJ7_fill_53178) := goodIn_app (goodIn_of _ (by decide +kernel)) ggX8_holdsCases_J7_fill_53178
set_option maxRecDepth 20000 in
theorem ggX8_holdsCases_X8_wayAt : GoodIn wsX8_holdsCases wsX8_wayAt := goodIn_r _ [10] (by decide +kernel) (by decide +kernel)
set_option maxRecDepth 20000 in
theorem gX8_holdsCases_X8_wayAt : GoodIn wsX8_holdsCases (va_wsS RX8 57 yX8_wayAt wsX8_wayAt) := goodIn_app (goodIn_of _ (by decide +kernel)) ggX8_holdsCases_X8_wayAt
set_option maxRecDepth 20000 in
theorem ggX8_holdsCases_X8_doesLotHold : GoodIn wsX8_holdsCases wsX8_doesLotHold := goodIn_r _ [14, 15, 16, 1, 17, 18, 19, 20, 21, 22, 23, 24, 25, 26, 27, 28, 29, 30, 31, 32, 33, 34, 35, 36, 37, 38, 39, 40, 41, 42, 43, 44, 45, 46, 47, 48, 49, 50, 51, 52, 53, 54, 55, 56, 57, 58, 59, 5, 60, 61, 62, 63, 64, 65, 66, 67, 68, 69, 70, 71, 72, 73, 74, 75, 76, 77, 78, 79, 80, 81, 82, 83, 84, 85, 86, 87, 88, 89, 90, 91, 92, 93, 94, 95, 96, 97, 98, 99, 100, 101, 102, 103, 104, 105, 106, 107, 108, 109, 110, 111, 112, 113, 114, 115, 116, 117, 118, 119, 120, 121, 122, 123, 124, 125, 126, 127, 128, 129, 130, 131, 132, 133, 134, 135, 136, 137, 138, 139, 140, 141, 142, 143, 144, 145, 146, 147, 148, 149, 150, 151, 152, 153, 154, 155, 156, 157, 158, 159, 160, 161, 162, 163, 164, 165, 166, 167, 168, 169, 170, 171, 172, 173, 174, 175, 176, 177, 178, 179, 180, 181, 182, 183] (by decide +kernel) (by decide +kernel)
set_option maxRecDepth 20000 in
theorem gX8_holdsCases_X8_doesLotHold : GoodIn wsX8_holdsCases (wsV RX8 71 RX8 yX8_doesLotHold wsX8_doesLotHold) := goodIn_app (goodIn_of _ (by decide +kernel)) ggX8_holdsCases_X8_doesLotHold
theorem dX8_holdsCases_0 : decode cX8_holdsCases 0 = .ok (.aload_n 0, 1) := by decide +kernel
theorem dX8_holdsCases_1 : decode cX8_holdsCases 1 = .ok (.getfield 21, 3) := by decide +kernel
theorem dX8_holdsCases_4 : decode cX8_holdsCases 4 = .ok (.iconst 0, 1) := by decide +kernel
theorem dX8_holdsCases_5 : decode cX8_holdsCases 5 = .ok (.invokestatic 40, 3) := by decide +kernel
theorem dX8_holdsCases_8 : decode cX8_holdsCases 8 = .ok (.iconst 0, 1) := by decide +kernel
theorem dX8_holdsCases_9 : decode cX8_holdsCases 9 = .ok (.istore 4, 2) := by decide +kernel
theorem dX8_holdsCases_11 : decode cX8_holdsCases 11 = .ok (.iload 4, 2) := by decide +kernel
theorem dX8_holdsCases_13 : decode cX8_holdsCases 13 = .ok (.iload_n 3, 1) := by decide +kernel
theorem dX8_holdsCases_14 : decode cX8_holdsCases 14 = .ok (.if_icmp .ge 25, 3) := by decide +kernel
theorem dX8_holdsCases_17 : decode cX8_holdsCases 17 = .ok (.aload_n 0, 1) := by decide +kernel
theorem dX8_holdsCases_18 : decode cX8_holdsCases 18 = .ok (.getfield 21, 3) := by decide +kernel
theorem dX8_holdsCases_21 : decode cX8_holdsCases 21 = .ok (.iload_n 2, 1) := by decide +kernel
theorem dX8_holdsCases_22 : decode cX8_holdsCases 22 = .ok (.iload_n 3, 1) := by decide +kernel
theorem dX8_holdsCases_23 : decode cX8_holdsCases 23 = .ok (.iload 4, 2) := by decide +kernel
theorem dX8_holdsCases_25 : decode cX8_holdsCases 25 = .ok (.invokestatic 57, 3) := by decide +kernel
theorem dX8_holdsCases_28 : decode cX8_holdsCases 28 = .ok (.dup2, 1) := by decide +kernel
theorem dX8_holdsCases_29 : decode cX8_holdsCases 29 = .ok (.iaload, 1) := by decide +kernel
theorem dX8_holdsCases_30 : decode cX8_holdsCases 30 = .ok (.iconst 1, 1) := by decide +kernel
theorem dX8_holdsCases_31 : decode cX8_holdsCases 31 = .ok (.iadd, 1) := by decide +kernel
theorem dX8_holdsCases_32 : decode cX8_holdsCases 32 = .ok (.iastore, 1) := by decide +kernel
theorem dX8_holdsCases_33 : decode cX8_holdsCases 33 = .ok (.iinc 4 1, 3) := by decide +kernel
theorem dX8_holdsCases_36 : decode cX8_holdsCases 36 = .ok (.goto (-25), 3) := by decide +kernel
theorem dX8_holdsCases_39 : decode cX8_holdsCases 39 = .ok (.aload_n 0, 1) := by decide +kernel
theorem dX8_holdsCases_40 : decode cX8_holdsCases 40 = .ok (.getfield 21, 3) := by decide +kernel
theorem dX8_holdsCases_43 : decode cX8_holdsCases 43 = .ok (.iconst 0, 1) := by decide +kernel
theorem dX8_holdsCases_44 : decode cX8_holdsCases 44 = .ok (.iaload, 1) := by decide +kernel
theorem dX8_holdsCases_45 : decode cX8_holdsCases 45 = .ok (.bipush 6, 2) := by decide +kernel
theorem dX8_holdsCases_47 : decode cX8_holdsCases 47 = .ok (.imul, 1) := by decide +kernel
theorem dX8_holdsCases_48 : decode cX8_holdsCases 48 = .ok (.aload_n 0, 1) := by decide +kernel
theorem dX8_holdsCases_49 : decode cX8_holdsCases 49 = .ok (.getfield 21, 3) := by decide +kernel
theorem dX8_holdsCases_52 : decode cX8_holdsCases 52 = .ok (.iconst 1, 1) := by decide +kernel
theorem dX8_holdsCases_53 : decode cX8_holdsCases 53 = .ok (.iaload, 1) := by decide +kernel
theorem dX8_holdsCases_54 : decode cX8_holdsCases 54 = .ok (.iadd, 1) := by decide +kernel
theorem dX8_holdsCases_55 : decode cX8_holdsCases 55 = .ok (.bipush 6, 2) := by decide +kernel
theorem dX8_holdsCases_57 : decode cX8_holdsCases 57 = .ok (.imul, 1) := by decide +kernel
theorem dX8_holdsCases_58 : decode cX8_holdsCases 58 = .ok (.aload_n 0, 1) := by decide +kernel
theorem dX8_holdsCases_59 : decode cX8_holdsCases 59 = .ok (.getfield 21, 3) := by decide +kernel
theorem dX8_holdsCases_62 : decode cX8_holdsCases 62 = .ok (.iconst 2, 1) := by decide +kernel
theorem dX8_holdsCases_63 : decode cX8_holdsCases 63 = .ok (.iaload, 1) := by decide +kernel
theorem dX8_holdsCases_64 : decode cX8_holdsCases 64 = .ok (.iadd, 1) := by decide +kernel
theorem dX8_holdsCases_65 : decode cX8_holdsCases 65 = .ok (.istore 4, 2) := by decide +kernel
theorem dX8_holdsCases_67 : decode cX8_holdsCases 67 = .ok (.iload 4, 2) := by decide +kernel
theorem dX8_holdsCases_69 : decode cX8_holdsCases 69 = .ok (.ifCond .lt 13, 3) := by decide +kernel
theorem dX8_holdsCases_72 : decode cX8_holdsCases 72 = .ok (.iload 4, 2) := by decide +kernel
theorem dX8_holdsCases_74 : decode cX8_holdsCases 74 = .ok (.aload_n 0, 1) := by decide +kernel
theorem dX8_holdsCases_75 : decode cX8_holdsCases 75 = .ok (.getfield 25, 3) := by decide +kernel
theorem dX8_holdsCases_78 : decode cX8_holdsCases 78 = .ok (.arraylength, 1) := by decide +kernel
theorem dX8_holdsCases_79 : decode cX8_holdsCases 79 = .ok (.if_icmp .lt 5, 3) := by decide +kernel
theorem dX8_holdsCases_82 : decode cX8_holdsCases 82 = .ok (.iconst 0, 1) := by decide +kernel
theorem dX8_holdsCases_83 : decode cX8_holdsCases 83 = .ok (.ireturn, 1) := by decide +kernel
theorem dX8_holdsCases_84 : decode cX8_holdsCases 84 = .ok (.aload_n 0, 1) := by decide +kernel
theorem dX8_holdsCases_85 : decode cX8_holdsCases 85 = .ok (.getfield 25, 3) := by decide +kernel
theorem dX8_holdsCases_88 : decode cX8_holdsCases 88 = .ok (.iload 4, 2) := by decide +kernel
theorem dX8_holdsCases_90 : decode cX8_holdsCases 90 = .ok (.iaload, 1) := by decide +kernel
theorem dX8_holdsCases_91 : decode cX8_holdsCases 91 = .ok (.ifCond .ne 23, 3) := by decide +kernel
theorem dX8_holdsCases_94 : decode cX8_holdsCases 94 = .ok (.aload_n 0, 1) := by decide +kernel
theorem dX8_holdsCases_95 : decode cX8_holdsCases 95 = .ok (.getfield 25, 3) := by decide +kernel
theorem dX8_holdsCases_98 : decode cX8_holdsCases 98 = .ok (.iload 4, 2) := by decide +kernel
theorem dX8_holdsCases_100 : decode cX8_holdsCases 100 = .ok (.aload_n 0, 1) := by decide +kernel
theorem dX8_holdsCases_101 : decode cX8_holdsCases 101 = .ok (.iload_n 1, 1) := by decide +kernel
theorem dX8_holdsCases_102 : decode cX8_holdsCases 102 = .ok (.invokevirtual 71, 3) := by decide +kernel
theorem dX8_holdsCases_105 : decode cX8_holdsCases 105 = .ok (.ifCond .eq 7, 3) := by decide +kernel
theorem dX8_holdsCases_108 : decode cX8_holdsCases 108 = .ok (.iconst 1, 1) := by decide +kernel
theorem dX8_holdsCases_109 : decode cX8_holdsCases 109 = .ok (.goto 4, 3) := by decide +kernel
theorem dX8_holdsCases_112 : decode cX8_holdsCases 112 = .ok (.iconst 2, 1) := by decide +kernel
theorem dX8_holdsCases_113 : decode cX8_holdsCases 113 = .ok (.iastore, 1) := by decide +kernel
theorem dX8_holdsCases_114 : decode cX8_holdsCases 114 = .ok (.aload_n 0, 1) := by decide +kernel
theorem dX8_holdsCases_115 : decode cX8_holdsCases 115 = .ok (.getfield 25, 3) := by decide +kernel
theorem dX8_holdsCases_118 : decode cX8_holdsCases 118 = .ok (.iload 4, 2) := by decide +kernel
theorem dX8_holdsCases_120 : decode cX8_holdsCases 120 = .ok (.iaload, 1) := by decide +kernel
theorem dX8_holdsCases_121 : decode cX8_holdsCases 121 = .ok (.iconst 1, 1) := by decide +kernel
theorem dX8_holdsCases_122 : decode cX8_holdsCases 122 = .ok (.if_icmp .ne 7, 3) := by decide +kernel
theorem dX8_holdsCases_125 : decode cX8_holdsCases 125 = .ok (.iconst 1, 1) := by decide +kernel
theorem dX8_holdsCases_126 : decode cX8_holdsCases 126 = .ok (.goto 4, 3) := by decide +kernel
theorem dX8_holdsCases_129 : decode cX8_holdsCases 129 = .ok (.iconst 0, 1) := by decide +kernel
theorem dX8_holdsCases_130 : decode cX8_holdsCases 130 = .ok (.ireturn, 1) := by decide +kernel
set_option maxRecDepth 20000 in
theorem ggX8_doesLotHold_X7_put : GoodIn wsX8_doesLotHold wsX7_put := goodIn_r _ [12, 13, 14, 15, 16, 17, 11, 18, 19, 20, 21, 22, 23, 24, 25, 26, 27, 140, 141, 144, 145, 146, 147] (by decide +kernel) (by decide +kernel)
set_option maxRecDepth 20000 in
theorem gX8_doesLotHold_X7_put : GoodIn wsX8_doesLotHold (wsV RX8 61 RX7 yX7_put wsX7_put) := goodIn_app (goodIn_of _ (by decide +kernel)) ggX8_doesLotHold_X7_put
set_option maxRecDepth 20000 in
theorem ggX8_doesLotHold_X2_prepare : GoodIn wsX8_doesLotHold wsX2_prepare := goodIn_r _ [32, 33, 34, 35, 36, 37, 38, 31, 39, 40, 41, 42, 43, 44, 45, 46, 47, 48, 49, 50, 51, 11, 52, 14, 13, 53, 54, 55, 56, 57, 58, 59, 60, 61, 62, 63, 64, 65, 66, 67, 68, 69, 70, 71, 72, 73, 74, 75, 76, 77, 78, 79, 80, 81, 82, 148, 149, 150, 151, 152, 153, 154, 155, 156, 157, 158, 159, 160, 140, 141, 144, 145, 146, 147, 161, 162, 163, 164, 165, 166, 167, 168, 169, 170, 171] (by decide +kernel) (by decide +kernel)
set_option maxRecDepth 20000 in
theorem gX8_doesLotHold_X2_prepare : GoodIn wsX8_doesLotHold (wsV RX8 75 RX2 yX2_prepare wsX2_prepare) := goodIn_app (goodIn_of _ (by decide +kernel)) ggX8_doesLotHold_X2_prepare
set_option maxRecDepth 20000 in
theorem ggX8_doesLotHold_X2_isHeld : GoodIn wsX8_doesLotHold wsX2_isHeld := goodIn_r _ [86, 35, 87, 88, 89, 90, 31, 91, 92, 93, 40, 41, 59, 60, 94, 95, 96, 97, 98, 99, 100, 101, 102, 103, 104, 105, 106, 107, 108, 109, 110, 111, 34, 112, 113, 114, 115, 58, 61, 62, 42, 116, 63, 64, 65, 66, 67, 68, 69, 70, 71, 72, 73, 74, 75, 117, 118, 119, 120, 121, 122, 123, 124, 125, 126, 127, 128, 129, 130, 131, 132, 148, 149, 150, 151, 152, 153, 154, 155, 156, 157, 158, 159, 160, 140, 141, 144, 145, 146, 147, 161, 162, 163, 164, 165, 166, 167, 168, 169, 170, 171] (by decide +kernel) (by decide +kernel)
set_option maxRecDepth 20000 in
theorem gX8_doesLotHold_X2_isHeld : GoodIn wsX8_doesLotHold (wsV RX8 88 RX2 yX2_isHeld wsX2_isHeld) := goodIn_app (goodIn_of _ (by decide +kernel)) ggX8_doesLotHold_X2_isHeld
theorem dX8_doesLotHold_0 : decode cX8_doesLotHold 0 = .ok (.aload_n 0, 1) := by decide +kernel
theorem dX8_doesLotHold_1 : decode cX8_doesLotHold 1 = .ok (.getfield 18, 3) := by decide +kernel
theorem dX8_doesLotHold_4 : decode cX8_doesLotHold 4 = .ok (.iconst 0, 1) := by decide +kernel
theorem dX8_doesLotHold_5 : decode cX8_doesLotHold 5 = .ok (.putfield 53, 3) := by decide +kernel
theorem dX8_doesLotHold_8 : decode cX8_doesLotHold 8 = .ok (.iconst 0, 1) := by decide +kernel
theorem dX8_doesLotHold_9 : decode cX8_doesLotHold 9 = .ok (.istore_n 2, 1) := by decide +kernel
theorem dX8_doesLotHold_10 : decode cX8_doesLotHold 10 = .ok (.iload_n 2, 1) := by decide +kernel
theorem dX8_doesLotHold_11 : decode cX8_doesLotHold 11 = .ok (.iconst 4, 1) := by decide +kernel
theorem dX8_doesLotHold_12 : decode cX8_doesLotHold 12 = .ok (.if_icmp .ge 35, 3) := by decide +kernel
theorem dX8_doesLotHold_15 : decode cX8_doesLotHold 15 = .ok (.aload_n 0, 1) := by decide +kernel
theorem dX8_doesLotHold_16 : decode cX8_doesLotHold 16 = .ok (.getfield 21, 3) := by decide +kernel
theorem dX8_doesLotHold_19 : decode cX8_doesLotHold 19 = .ok (.iload_n 2, 1) := by decide +kernel
theorem dX8_doesLotHold_20 : decode cX8_doesLotHold 20 = .ok (.iaload, 1) := by decide +kernel
theorem dX8_doesLotHold_21 : decode cX8_doesLotHold 21 = .ok (.ifCond .le 20, 3) := by decide +kernel
theorem dX8_doesLotHold_24 : decode cX8_doesLotHold 24 = .ok (.aload_n 0, 1) := by decide +kernel
theorem dX8_doesLotHold_25 : decode cX8_doesLotHold 25 = .ok (.getfield 18, 3) := by decide +kernel
theorem dX8_doesLotHold_28 : decode cX8_doesLotHold 28 = .ok (.iload_n 1, 1) := by decide +kernel
theorem dX8_doesLotHold_29 : decode cX8_doesLotHold 29 = .ok (.iload_n 2, 1) := by decide +kernel
theorem dX8_doesLotHold_30 : decode cX8_doesLotHold 30 = .ok (.iconst 2, 1) := by decide +kernel
theorem dX8_doesLotHold_31 : decode cX8_doesLotHold 31 = .ok (.aload_n 0, 1) := by decide +kernel
theorem dX8_doesLotHold_32 : decode cX8_doesLotHold 32 = .ok (.getfield 21, 3) := by decide +kernel
theorem dX8_doesLotHold_35 : decode cX8_doesLotHold 35 = .ok (.iload_n 2, 1) := by decide +kernel
theorem dX8_doesLotHold_36 : decode cX8_doesLotHold 36 = .ok (.iaload, 1) := by decide +kernel
theorem dX8_doesLotHold_37 : decode cX8_doesLotHold 37 = .ok (.imul, 1) := by decide +kernel
theorem dX8_doesLotHold_38 : decode cX8_doesLotHold 38 = .ok (.invokevirtual 61, 3) := by decide +kernel
theorem dX8_doesLotHold_41 : decode cX8_doesLotHold 41 = .ok (.iinc 2 1, 3) := by decide +kernel
theorem dX8_doesLotHold_44 : decode cX8_doesLotHold 44 = .ok (.goto (-34), 3) := by decide +kernel
theorem dX8_doesLotHold_47 : decode cX8_doesLotHold 47 = .ok (.aload_n 0, 1) := by decide +kernel
theorem dX8_doesLotHold_48 : decode cX8_doesLotHold 48 = .ok (.getfield 28, 3) := by decide +kernel
theorem dX8_doesLotHold_51 : decode cX8_doesLotHold 51 = .ok (.aload_n 0, 1) := by decide +kernel
theorem dX8_doesLotHold_52 : decode cX8_doesLotHold 52 = .ok (.getfield 18, 3) := by decide +kernel
theorem dX8_doesLotHold_55 : decode cX8_doesLotHold 55 = .ok (.invokevirtual 75, 3) := by decide +kernel
theorem dX8_doesLotHold_58 : decode cX8_doesLotHold 58 = .ok (.iconst 0, 1) := by decide +kernel
theorem dX8_doesLotHold_59 : decode cX8_doesLotHold 59 = .ok (.istore_n 2, 1) := by decide +kernel
theorem dX8_doesLotHold_60 : decode cX8_doesLotHold 60 = .ok (.iload_n 2, 1) := by decide +kernel
theorem dX8_doesLotHold_61 : decode cX8_doesLotHold 61 = .ok (.aload_n 0, 1) := by decide +kernel
theorem dX8_doesLotHold_62 : decode cX8_doesLotHold 62 = .ok (.getfield 36, 3) := by decide +kernel
theorem dX8_doesLotHold_65 : decode cX8_doesLotHold 65 = .ok (.getfield 81, 3) := by decide +kernel
theorem dX8_doesLotHold_68 : decode cX8_doesLotHold 68 = .ok (.if_icmp .ge 44, 3) := by decide +kernel
theorem dX8_doesLotHold_71 : decode cX8_doesLotHold 71 = .ok (.aload_n 0, 1) := by decide +kernel
theorem dX8_doesLotHold_72 : decode cX8_doesLotHold 72 = .ok (.getfield 36, 3) := by decide +kernel
theorem dX8_doesLotHold_75 : decode cX8_doesLotHold 75 = .ok (.getfield 84, 3) := by decide +kernel
theorem dX8_doesLotHold_78 : decode cX8_doesLotHold 78 = .ok (.iload_n 2, 1) := by decide +kernel
theorem dX8_doesLotHold_79 : decode cX8_doesLotHold 79 = .ok (.aaload, 1) := by decide +kernel
theorem dX8_doesLotHold_80 : decode cX8_doesLotHold 80 = .ok (.astore_n 3, 1) := by decide +kernel
theorem dX8_doesLotHold_81 : decode cX8_doesLotHold 81 = .ok (.aload_n 0, 1) := by decide +kernel
theorem dX8_doesLotHold_82 : decode cX8_doesLotHold 82 = .ok (.getfield 28, 3) := by decide +kernel
theorem dX8_doesLotHold_85 : decode cX8_doesLotHold 85 = .ok (.aload_n 0, 1) := by decide +kernel
theorem dX8_doesLotHold_86 : decode cX8_doesLotHold 86 = .ok (.getfield 18, 3) := by decide +kernel
theorem dX8_doesLotHold_89 : decode cX8_doesLotHold 89 = .ok (.aload_n 3, 1) := by decide +kernel
theorem dX8_doesLotHold_90 : decode cX8_doesLotHold 90 = .ok (.iconst 0, 1) := by decide +kernel
theorem dX8_doesLotHold_91 : decode cX8_doesLotHold 91 = .ok (.iaload, 1) := by decide +kernel
theorem dX8_doesLotHold_92 : decode cX8_doesLotHold 92 = .ok (.aload_n 3, 1) := by decide +kernel
theorem dX8_doesLotHold_93 : decode cX8_doesLotHold 93 = .ok (.iconst 1, 1) := by decide +kernel
theorem dX8_doesLotHold_94 : decode cX8_doesLotHold 94 = .ok (.iaload, 1) := by decide +kernel
theorem dX8_doesLotHold_95 : decode cX8_doesLotHold 95 = .ok (.aload_n 3, 1) := by decide +kernel
theorem dX8_doesLotHold_96 : decode cX8_doesLotHold 96 = .ok (.iconst 2, 1) := by decide +kernel
theorem dX8_doesLotHold_97 : decode cX8_doesLotHold 97 = .ok (.iaload, 1) := by decide +kernel
theorem dX8_doesLotHold_98 : decode cX8_doesLotHold 98 = .ok (.invokevirtual 88, 3) := by decide +kernel
theorem dX8_doesLotHold_101 : decode cX8_doesLotHold 101 = .ok (.ifCond .ne 5, 3) := by decide +kernel
theorem dX8_doesLotHold_104 : decode cX8_doesLotHold 104 = .ok (.iconst 0, 1) := by decide +kernel
theorem dX8_doesLotHold_105 : decode cX8_doesLotHold 105 = .ok (.ireturn, 1) := by decide +kernel
theorem dX8_doesLotHold_106 : decode cX8_doesLotHold 106 = .ok (.iinc 2 1, 3) := by decide +kernel
theorem dX8_doesLotHold_109 : decode cX8_doesLotHold 109 = .ok (.goto (-49), 3) := by decide +kernel
theorem dX8_doesLotHold_112 : decode cX8_doesLotHold 112 = .ok (.iconst 1, 1) := by decide +kernel
theorem dX8_doesLotHold_113 : decode cX8_doesLotHold 113 = .ok (.ireturn, 1) := by decide +kernel
theorem dX9_init_0 : decode cX9_init 0 = .ok (.aload_n 0, 1) := by decide +kernel
theorem dX9_init_1 : decode cX9_init 1 = .ok (.invokespecial 3, 3) := by decide +kernel
theorem dX9_init_4 : decode cX9_init 4 = .ok (.aload_n 0, 1) := by decide +kernel
theorem dX9_init_5 : decode cX9_init 5 = .ok (.iconst 1, 1) := by decide +kernel
theorem dX9_init_6 : decode cX9_init 6 = .ok (.putfield 9, 3) := by decide +kernel
theorem dX9_init_9 : decode cX9_init 9 = .ok (.aload_n 0, 1) := by decide +kernel
theorem dX9_init_10 : decode cX9_init 10 = .ok (.iconst 1, 1) := by decide +kernel
theorem dX9_init_11 : decode cX9_init 11 = .ok (.putfield 15, 3) := by decide +kernel
theorem dX9_init_14 : decode cX9_init 14 = .ok (.aload_n 0, 1) := by decide +kernel
theorem dX9_init_15 : decode cX9_init 15 = .ok (.iconst 0, 1) := by decide +kernel
theorem dX9_init_16 : decode cX9_init 16 = .ok (.putfield 18, 3) := by decide +kernel
theorem dX9_init_19 : decode cX9_init 19 = .ok (.aload_n 0, 1) := by decide +kernel
theorem dX9_init_20 : decode cX9_init 20 = .ok (.iconst 1, 1) := by decide +kernel
theorem dX9_init_21 : decode cX9_init 21 = .ok (.putfield 21, 3) := by decide +kernel
theorem dX9_init_24 : decode cX9_init 24 = .ok (.aload_n 0, 1) := by decide +kernel
theorem dX9_init_25 : decode cX9_init 25 = .ok (.iconst 0, 1) := by decide +kernel
theorem dX9_init_26 : decode cX9_init 26 = .ok (.putfield 24, 3) := by decide +kernel
theorem dX9_init_29 : decode cX9_init 29 = .ok (.aload_n 0, 1) := by decide +kernel
theorem dX9_init_30 : decode cX9_init 30 = .ok (.iconst 0, 1) := by decide +kernel
theorem dX9_init_31 : decode cX9_init 31 = .ok (.putfield 27, 3) := by decide +kernel
theorem dX9_init_34 : decode cX9_init 34 = .ok (.aload_n 0, 1) := by decide +kernel
theorem dX9_init_35 : decode cX9_init 35 = .ok (.iconst 5, 1) := by decide +kernel
theorem dX9_init_36 : decode cX9_init 36 = .ok (.newarray .int, 2) := by decide +kernel
theorem dX9_init_38 : decode cX9_init 38 = .ok (.putfield 30, 3) := by decide +kernel
theorem dX9_init_41 : decode cX9_init 41 = .ok (.return_, 1) := by decide +kernel
set_option maxRecDepth 20000 in
theorem ggX9_become_J7_fill_53178 : GoodIn wsX9_become wsJ7_fill_53178 := goodIn_r _ [9] (by decide +kernel) (by decide +kernel)
set_option maxRecDepth 20000 in
theorem gX9_become_J7_fill_53178 : GoodIn wsX9_become (va_wsS RX9 34 yJ7_fill_53178 wsJ7_fill_53178) := goodIn_app (goodIn_of _ (by decide +kernel)) ggX9_become_J7_fill_53178
theorem dX9_become_0 : decode cX9_become 0 = .ok (.aload_n 0, 1) := by decide +kernel
theorem dX9_become_1 : decode cX9_become 1 = .ok (.iload_n 1, 1) := by decide +kernel
theorem dX9_become_2 : decode cX9_become 2 = .ok (.putfield 9, 3) := by decide +kernel
theorem dX9_become_5 : decode cX9_become 5 = .ok (.aload_n 0, 1) := by decide +kernel
theorem dX9_become_6 : decode cX9_become 6 = .ok (.iload_n 2, 1) := by decide +kernel
theorem dX9_become_7 : decode cX9_become 7 = .ok (.putfield 15, 3) := by decide +kernel
theorem dX9_become_10 : decode cX9_become 10 = .ok (.aload_n 0, 1) := by decide +kernel
theorem dX9_become_11 : decode cX9_become 11 = .ok (.iload_n 3, 1) := by decide +kernel
theorem dX9_become_12 : decode cX9_become 12 = .ok (.putfield 18, 3) := by decide +kernel
theorem dX9_become_15 : decode cX9_become 15 = .ok (.aload_n 0, 1) := by decide +kernel
theorem dX9_become_16 : decode cX9_become 16 = .ok (.iload 4, 2) := by decide +kernel
theorem dX9_become_18 : decode cX9_become 18 = .ok (.putfield 21, 3) := by decide +kernel
theorem dX9_become_21 : decode cX9_become 21 = .ok (.aload_n 0, 1) := by decide +kernel
theorem dX9_become_22 : decode cX9_become 22 = .ok (.getfield 30, 3) := by decide +kernel
theorem dX9_become_25 : decode cX9_become 25 = .ok (.bipush 100, 2) := by decide +kernel
theorem dX9_become_27 : decode cX9_become 27 = .ok (.invokestatic 34, 3) := by decide +kernel
theorem dX9_become_30 : decode cX9_become 30 = .ok (.return_, 1) := by decide +kernel
set_option maxRecDepth 20000 in
theorem ggX10_init_X1_init : GoodIn wsX10_init wsX1_init := goodIn_r _ [40, 41, 2, 3, 42, 43, 44, 45, 142, 143] (by decide +kernel) (by decide +kernel)
set_option maxRecDepth 20000 in
theorem gX10_init_X1_init_n25 : GoodIn wsX10_init (wsX1_init) := ggX10_init_X1_init
set_option maxRecDepth 20000 in
theorem ggX10_init_X4_init : GoodIn wsX10_init wsX4_init := goodIn_r _ [47, 48, 2, 3, 49, 50, 51, 144, 145, 146] (by decide +kernel) (by decide +kernel)
set_option maxRecDepth 20000 in
theorem gX10_init_X4_init_n32 : GoodIn wsX10_init (wsX4_init) := ggX10_init_X4_init
set_option maxRecDepth 20000 in
theorem ggX10_init_X0_init : GoodIn wsX10_init wsX0_init := goodIn_r _ [53, 54, 2, 3, 43, 55, 56, 57, 58, 59, 147, 148, 149, 150] (by decide +kernel) (by decide +kernel)
set_option maxRecDepth 20000 in
theorem gX10_init_X0_init_n39 : GoodIn wsX10_init (wsX0_init) := ggX10_init_X0_init
set_option maxRecDepth 20000 in
theorem ggX10_init_X7_init : GoodIn wsX10_init wsX7_init := goodIn_r _ [62, 63, 2, 3, 64, 65, 66, 67, 68, 69, 70, 71, 72, 73, 74, 75, 151, 152, 182, 183, 184, 185] (by decide +kernel) (by decide +kernel)
set_option maxRecDepth 20000 in
theorem gX10_init_X7_init : GoodIn wsX10_init (wsX7_init) := ggX10_init_X7_init
set_option maxRecDepth 20000 in
theorem ggX10_init_X3_init : GoodIn wsX10_init wsX3_init := goodIn_r _ [77, 78, 2, 3, 79, 80, 153, 154] (by decide +kernel) (by decide +kernel)
set_option maxRecDepth 20000 in
theorem gX10_init_X3_init_n51 : GoodIn wsX10_init (wsX3_init) := ggX10_init_X3_init
set_option maxRecDepth 20000 in
theorem ggX10_init_X9_init : GoodIn wsX10_init wsX9_init := goodIn_r _ [82, 83, 2, 3, 84, 85, 86, 87, 88, 89, 43, 90, 155, 156, 157, 158, 159, 160, 161] (by decide +kernel) (by decide +kernel)
set_option maxRecDepth 20000 in
theorem gX10_init_X9_init_n63 : GoodIn wsX10_init (wsX9_init) := ggX10_init_X9_init
set_option maxRecDepth 20000 in
theorem ggX10_init_X2_init : GoodIn wsX10_init wsX2_init := goodIn_r _ [93, 94, 2, 3, 95, 96, 97, 98, 43, 99, 56, 100, 101, 102, 103, 104, 105, 106, 107, 108, 109, 110, 111, 112, 113, 114, 115, 116, 117, 186, 187, 188, 189, 162, 163, 164, 165, 166, 167, 168, 169, 170, 171, 172, 173, 174] (by decide +kernel) (by decide +kernel)
set_option maxRecDepth 20000 in
theorem gX10_init_X2_init : GoodIn wsX10_init (wsX2_init) := ggX10_init_X2_init
set_option maxRecDepth 20000 in
theorem ggX10_init_X8_init : GoodIn wsX10_init wsX8_init := goodIn_r _ [120, 121, 2, 3, 122, 20, 21, 123, 124, 43, 125, 126, 127, 128, 129, 130, 61, 62, 63, 64, 65, 66, 67, 68, 69, 70, 71, 72, 73, 74, 75, 151, 152, 175, 176, 177, 178, 179, 180, 181, 182, 183, 184, 185] (by decide +kernel) (by decide +kernel)
set_option maxRecDepth 20000 in
theorem gX10_init_X8_init : GoodIn wsX10_init (wsX8_init) := ggX10_init_X8_init
theorem dX10_init_0 : decode cX10_init 0 = .ok (.aload_n 0, 1) := by decide +kernel
theorem dX10_init_1 : decode cX10_init 1 = .ok (.invokespecial 5, 3) := by decide +kernel
theorem dX10_init_4 : decode cX10_init 4 = .ok (.aload_n 0, 1) := by decide +kernel
theorem dX10_init_5 : decode cX10_init 5 = .ok (.iconst 3, 1) := by decide +kernel
theorem dX10_init_6 : decode cX10_init 6 = .ok (.anewarray 11, 3) := by decide +kernel
theorem dX10_init_9 : decode cX10_init 9 = .ok (.putfield 13, 3) := by decide +kernel
theorem dX10_init_12 : decode cX10_init 12 = .ok (.aload_n 0, 1) := by decide +kernel
theorem dX10_init_13 : decode cX10_init 13 = .ok (.iconst 4, 1) := by decide +kernel
theorem dX10_init_14 : decode cX10_init 14 = .ok (.anewarray 17, 3) := by decide +kernel
theorem dX10_init_17 : decode cX10_init 17 = .ok (.putfield 19, 3) := by decide +kernel
theorem dX10_init_20 : decode cX10_init 20 = .ok (.aload_n 0, 1) := by decide +kernel
theorem dX10_init_21 : decode cX10_init 21 = .ok (.new 23, 3) := by decide +kernel
theorem dX10_init_24 : decode cX10_init 24 = .ok (.dup, 1) := by decide +kernel
theorem dX10_init_25 : decode cX10_init 25 = .ok (.invokespecial 25, 3) := by decide +kernel
theorem dX10_init_28 : decode cX10_init 28 = .ok (.putfield 26, 3) := by decide +kernel
theorem dX10_init_31 : decode cX10_init 31 = .ok (.aload_n 0, 1) := by decide +kernel
theorem dX10_init_32 : decode cX10_init 32 = .ok (.new 30, 3) := by decide +kernel
theorem dX10_init_35 : decode cX10_init 35 = .ok (.dup, 1) := by decide +kernel
theorem dX10_init_36 : decode cX10_init 36 = .ok (.invokespecial 32, 3) := by decide +kernel
theorem dX10_init_39 : decode cX10_init 39 = .ok (.putfield 33, 3) := by decide +kernel
theorem dX10_init_42 : decode cX10_init 42 = .ok (.aload_n 0, 1) := by decide +kernel
theorem dX10_init_43 : decode cX10_init 43 = .ok (.new 37, 3) := by decide +kernel
theorem dX10_init_46 : decode cX10_init 46 = .ok (.dup, 1) := by decide +kernel
theorem dX10_init_47 : decode cX10_init 47 = .ok (.invokespecial 39, 3) := by decide +kernel
theorem dX10_init_50 : decode cX10_init 50 = .ok (.putfield 40, 3) := by decide +kernel
theorem dX10_init_53 : decode cX10_init 53 = .ok (.aload_n 0, 1) := by decide +kernel
theorem dX10_init_54 : decode cX10_init 54 = .ok (.new 17, 3) := by decide +kernel
theorem dX10_init_57 : decode cX10_init 57 = .ok (.dup, 1) := by decide +kernel
theorem dX10_init_58 : decode cX10_init 58 = .ok (.invokespecial 44, 3) := by decide +kernel
theorem dX10_init_61 : decode cX10_init 61 = .ok (.putfield 45, 3) := by decide +kernel
theorem dX10_init_64 : decode cX10_init 64 = .ok (.aload_n 0, 1) := by decide +kernel
theorem dX10_init_65 : decode cX10_init 65 = .ok (.new 49, 3) := by decide +kernel
theorem dX10_init_68 : decode cX10_init 68 = .ok (.dup, 1) := by decide +kernel
theorem dX10_init_69 : decode cX10_init 69 = .ok (.invokespecial 51, 3) := by decide +kernel
theorem dX10_init_72 : decode cX10_init 72 = .ok (.putfield 52, 3) := by decide +kernel
theorem dX10_init_75 : decode cX10_init 75 = .ok (.aload_n 0, 1) := by decide +kernel
theorem dX10_init_76 : decode cX10_init 76 = .ok (.iconst 0, 1) := by decide +kernel
theorem dX10_init_77 : decode cX10_init 77 = .ok (.putfield 56, 3) := by decide +kernel
theorem dX10_init_80 : decode cX10_init 80 = .ok (.aload_n 0, 1) := by decide +kernel
theorem dX10_init_81 : decode cX10_init 81 = .ok (.iconst 0, 1) := by decide +kernel
theorem dX10_init_82 : decode cX10_init 82 = .ok (.putfield 60, 3) := by decide +kernel
theorem dX10_init_85 : decode cX10_init 85 = .ok (.iconst 0, 1) := by decide +kernel
theorem dX10_init_86 : decode cX10_init 86 = .ok (.istore_n 1, 1) := by decide +kernel
theorem dX10_init_87 : decode cX10_init 87 = .ok (.iload_n 1, 1) := by decide +kernel
theorem dX10_init_88 : decode cX10_init 88 = .ok (.iconst 3, 1) := by decide +kernel
theorem dX10_init_89 : decode cX10_init 89 = .ok (.if_icmp .ge 22, 3) := by decide +kernel
theorem dX10_init_92 : decode cX10_init 92 = .ok (.aload_n 0, 1) := by decide +kernel
theorem dX10_init_93 : decode cX10_init 93 = .ok (.getfield 13, 3) := by decide +kernel
theorem dX10_init_96 : decode cX10_init 96 = .ok (.iload_n 1, 1) := by decide +kernel
theorem dX10_init_97 : decode cX10_init 97 = .ok (.new 11, 3) := by decide +kernel
theorem dX10_init_100 : decode cX10_init 100 = .ok (.dup, 1) := by decide +kernel
theorem dX10_init_101 : decode cX10_init 101 = .ok (.invokespecial 63, 3) := by decide +kernel
theorem dX10_init_104 : decode cX10_init 104 = .ok (.aastore, 1) := by decide +kernel
theorem dX10_init_105 : decode cX10_init 105 = .ok (.iinc 1 1, 3) := by decide +kernel
theorem dX10_init_108 : decode cX10_init 108 = .ok (.goto (-21), 3) := by decide +kernel
theorem dX10_init_111 : decode cX10_init 111 = .ok (.iconst 0, 1) := by decide +kernel
theorem dX10_init_112 : decode cX10_init 112 = .ok (.istore_n 1, 1) := by decide +kernel
theorem dX10_init_113 : decode cX10_init 113 = .ok (.iload_n 1, 1) := by decide +kernel
theorem dX10_init_114 : decode cX10_init 114 = .ok (.iconst 4, 1) := by decide +kernel
theorem dX10_init_115 : decode cX10_init 115 = .ok (.if_icmp .ge 22, 3) := by decide +kernel
theorem dX10_init_118 : decode cX10_init 118 = .ok (.aload_n 0, 1) := by decide +kernel
theorem dX10_init_119 : decode cX10_init 119 = .ok (.getfield 19, 3) := by decide +kernel
theorem dX10_init_122 : decode cX10_init 122 = .ok (.iload_n 1, 1) := by decide +kernel
theorem dX10_init_123 : decode cX10_init 123 = .ok (.new 17, 3) := by decide +kernel
theorem dX10_init_126 : decode cX10_init 126 = .ok (.dup, 1) := by decide +kernel
theorem dX10_init_127 : decode cX10_init 127 = .ok (.invokespecial 44, 3) := by decide +kernel
theorem dX10_init_130 : decode cX10_init 130 = .ok (.aastore, 1) := by decide +kernel
theorem dX10_init_131 : decode cX10_init 131 = .ok (.iinc 1 1, 3) := by decide +kernel
theorem dX10_init_134 : decode cX10_init 134 = .ok (.goto (-21), 3) := by decide +kernel
theorem dX10_init_137 : decode cX10_init 137 = .ok (.aload_n 0, 1) := by decide +kernel
theorem dX10_init_138 : decode cX10_init 138 = .ok (.new 64, 3) := by decide +kernel
theorem dX10_init_141 : decode cX10_init 141 = .ok (.dup, 1) := by decide +kernel
theorem dX10_init_142 : decode cX10_init 142 = .ok (.aload_n 0, 1) := by decide +kernel
theorem dX10_init_143 : decode cX10_init 143 = .ok (.getfield 13, 3) := by decide +kernel
theorem dX10_init_146 : decode cX10_init 146 = .ok (.invokespecial 66, 3) := by decide +kernel
theorem dX10_init_149 : decode cX10_init 149 = .ok (.putfield 69, 3) := by decide +kernel
theorem dX10_init_152 : decode cX10_init 152 = .ok (.aload_n 0, 1) := by decide +kernel
theorem dX10_init_153 : decode cX10_init 153 = .ok (.new 73, 3) := by decide +kernel
theorem dX10_init_156 : decode cX10_init 156 = .ok (.dup, 1) := by decide +kernel
theorem dX10_init_157 : decode cX10_init 157 = .ok (.aload_n 0, 1) := by decide +kernel
theorem dX10_init_158 : decode cX10_init 158 = .ok (.getfield 69, 3) := by decide +kernel
theorem dX10_init_161 : decode cX10_init 161 = .ok (.aload_n 0, 1) := by decide +kernel
theorem dX10_init_162 : decode cX10_init 162 = .ok (.getfield 33, 3) := by decide +kernel
theorem dX10_init_165 : decode cX10_init 165 = .ok (.aload_n 0, 1) := by decide +kernel
theorem dX10_init_166 : decode cX10_init 166 = .ok (.getfield 26, 3) := by decide +kernel
theorem dX10_init_169 : decode cX10_init 169 = .ok (.invokespecial 75, 3) := by decide +kernel
theorem dX10_init_172 : decode cX10_init 172 = .ok (.putfield 78, 3) := by decide +kernel
theorem dX10_init_175 : decode cX10_init 175 = .ok (.return_, 1) := by decide +kernel
set_option maxRecDepth 20000 in
theorem ggX10_stuff_X10_isStiffness : GoodIn wsX10_stuff wsX10_isStiffness := goodIn_r _ [6, 7, 8, 5, 9] (by decide +kernel) (by decide +kernel)
set_option maxRecDepth 20000 in
theorem gX10_stuff_X10_isStiffness : GoodIn wsX10_stuff (va_wsS RX10 82 yX10_isStiffness wsX10_isStiffness) := goodIn_app (goodIn_of _ (by decide +kernel)) ggX10_stuff_X10_isStiffness
set_option maxRecDepth 20000 in
theorem ggX10_stuff_X9_become : GoodIn wsX10_stuff wsX9_become := goodIn_r _ [14, 15, 16, 17, 18, 19, 20, 21, 22, 23, 35, 36, 37, 38, 39, 40, 41] (by decide +kernel) (by decide +kernel)
set_option maxRecDepth 20000 in
theorem gX10_stuff_X9_become : GoodIn wsX10_stuff (wsV RX10 86 RX9 yX9_become wsX9_become) := goodIn_app (goodIn_of _ (by decide +kernel)) ggX10_stuff_X9_become
theorem dX10_stuff_0 : decode cX10_stuff 0 = .ok (.iload_n 1, 1) := by decide +kernel
theorem dX10_stuff_1 : decode cX10_stuff 1 = .ok (.iload_n 2, 1) := by decide +kernel
theorem dX10_stuff_2 : decode cX10_stuff 2 = .ok (.iload_n 3, 1) := by decide +kernel
theorem dX10_stuff_3 : decode cX10_stuff 3 = .ok (.iload 4, 2) := by decide +kernel
theorem dX10_stuff_5 : decode cX10_stuff 5 = .ok (.invokestatic 82, 3) := by decide +kernel
theorem dX10_stuff_8 : decode cX10_stuff 8 = .ok (.ifCond .ne 6, 3) := by decide +kernel
theorem dX10_stuff_11 : decode cX10_stuff 11 = .ok (.bipush (-2), 2) := by decide +kernel
theorem dX10_stuff_13 : decode cX10_stuff 13 = .ok (.ireturn, 1) := by decide +kernel
theorem dX10_stuff_14 : decode cX10_stuff 14 = .ok (.aload_n 0, 1) := by decide +kernel
theorem dX10_stuff_15 : decode cX10_stuff 15 = .ok (.getfield 56, 3) := by decide +kernel
theorem dX10_stuff_18 : decode cX10_stuff 18 = .ok (.iconst 3, 1) := by decide +kernel
theorem dX10_stuff_19 : decode cX10_stuff 19 = .ok (.if_icmp .lt 6, 3) := by decide +kernel
theorem dX10_stuff_22 : decode cX10_stuff 22 = .ok (.bipush (-4), 2) := by decide +kernel
theorem dX10_stuff_24 : decode cX10_stuff 24 = .ok (.ireturn, 1) := by decide +kernel
theorem dX10_stuff_25 : decode cX10_stuff 25 = .ok (.aload_n 0, 1) := by decide +kernel
theorem dX10_stuff_26 : decode cX10_stuff 26 = .ok (.getfield 13, 3) := by decide +kernel
theorem dX10_stuff_29 : decode cX10_stuff 29 = .ok (.aload_n 0, 1) := by decide +kernel
theorem dX10_stuff_30 : decode cX10_stuff 30 = .ok (.getfield 56, 3) := by decide +kernel
theorem dX10_stuff_33 : decode cX10_stuff 33 = .ok (.aaload, 1) := by decide +kernel
theorem dX10_stuff_34 : decode cX10_stuff 34 = .ok (.iload_n 1, 1) := by decide +kernel
theorem dX10_stuff_35 : decode cX10_stuff 35 = .ok (.iload_n 2, 1) := by decide +kernel
theorem dX10_stuff_36 : decode cX10_stuff 36 = .ok (.iload_n 3, 1) := by decide +kernel
theorem dX10_stuff_37 : decode cX10_stuff 37 = .ok (.iload 4, 2) := by decide +kernel
theorem dX10_stuff_39 : decode cX10_stuff 39 = .ok (.invokevirtual 86, 3) := by decide +kernel
theorem dX10_stuff_42 : decode cX10_stuff 42 = .ok (.aload_n 0, 1) := by decide +kernel
theorem dX10_stuff_43 : decode cX10_stuff 43 = .ok (.dup, 1) := by decide +kernel
theorem dX10_stuff_44 : decode cX10_stuff 44 = .ok (.getfield 56, 3) := by decide +kernel
theorem dX10_stuff_47 : decode cX10_stuff 47 = .ok (.iconst 1, 1) := by decide +kernel
theorem dX10_stuff_48 : decode cX10_stuff 48 = .ok (.iadd, 1) := by decide +kernel
theorem dX10_stuff_49 : decode cX10_stuff 49 = .ok (.putfield 56, 3) := by decide +kernel
theorem dX10_stuff_52 : decode cX10_stuff 52 = .ok (.aload_n 0, 1) := by decide +kernel
theorem dX10_stuff_53 : decode cX10_stuff 53 = .ok (.getfield 56, 3) := by decide +kernel
theorem dX10_stuff_56 : decode cX10_stuff 56 = .ok (.iconst 1, 1) := by decide +kernel
theorem dX10_stuff_57 : decode cX10_stuff 57 = .ok (.isub, 1) := by decide +kernel
theorem dX10_stuff_58 : decode cX10_stuff 58 = .ok (.ireturn, 1) := by decide +kernel
set_option maxRecDepth 20000 in
theorem ggX10_strength_X10_isStuff : GoodIn wsX10_strength wsX10_isStuff := goodIn_r _ [7, 8, 9, 10, 6, 11, 12, 13, 14, 15, 16, 17, 18, 19, 20, 21, 22] (by decide +kernel) (by decide +kernel)
set_option maxRecDepth 20000 in
theorem gX10_strength_X10_isStuff : GoodIn wsX10_strength (wsV RX10 90 RX10 yX10_isStuff wsX10_isStuff) := goodIn_app (goodIn_of _ (by decide +kernel)) ggX10_strength_X10_isStuff
set_option maxRecDepth 20000 in
theorem ggX10_strength_X10_isWithin : GoodIn wsX10_strength wsX10_isWithin := goodIn_r _ [11] (by decide +kernel) (by decide +kernel)
set_option maxRecDepth 20000 in
theorem gX10_strength_X10_isWithin : GoodIn wsX10_strength (va_wsS RX10 94 yX10_isWithin wsX10_isWithin) := goodIn_app (goodIn_of _ (by decide +kernel)) ggX10_strength_X10_isWithin
theorem dX10_strength_0 : decode cX10_strength 0 = .ok (.aload_n 0, 1) := by decide +kernel
theorem dX10_strength_1 : decode cX10_strength 1 = .ok (.iload_n 1, 1) := by decide +kernel
theorem dX10_strength_2 : decode cX10_strength 2 = .ok (.invokevirtual 90, 3) := by decide +kernel
theorem dX10_strength_5 : decode cX10_strength 5 = .ok (.ifCond .ne 5, 3) := by decide +kernel
theorem dX10_strength_8 : decode cX10_strength 8 = .ok (.iconst (-1), 1) := by decide +kernel
theorem dX10_strength_9 : decode cX10_strength 9 = .ok (.ireturn, 1) := by decide +kernel
theorem dX10_strength_10 : decode cX10_strength 10 = .ok (.iload_n 2, 1) := by decide +kernel
theorem dX10_strength_11 : decode cX10_strength 11 = .ok (.iconst 0, 1) := by decide +kernel
theorem dX10_strength_12 : decode cX10_strength 12 = .ok (.iconst 4, 1) := by decide +kernel
theorem dX10_strength_13 : decode cX10_strength 13 = .ok (.invokestatic 94, 3) := by decide +kernel
theorem dX10_strength_16 : decode cX10_strength 16 = .ok (.ifCond .eq 14, 3) := by decide +kernel
theorem dX10_strength_19 : decode cX10_strength 19 = .ok (.iload_n 3, 1) := by decide +kernel
theorem dX10_strength_20 : decode cX10_strength 20 = .ok (.iconst 1, 1) := by decide +kernel
theorem dX10_strength_21 : decode cX10_strength 21 = .ok (.sipush 1000, 3) := by decide +kernel
theorem dX10_strength_24 : decode cX10_strength 24 = .ok (.invokestatic 94, 3) := by decide +kernel
theorem dX10_strength_27 : decode cX10_strength 27 = .ok (.ifCond .ne 6, 3) := by decide +kernel
theorem dX10_strength_30 : decode cX10_strength 30 = .ok (.bipush (-2), 2) := by decide +kernel
theorem dX10_strength_32 : decode cX10_strength 32 = .ok (.ireturn, 1) := by decide +kernel
theorem dX10_strength_33 : decode cX10_strength 33 = .ok (.aload_n 0, 1) := by decide +kernel
theorem dX10_strength_34 : decode cX10_strength 34 = .ok (.getfield 13, 3) := by decide +kernel
theorem dX10_strength_37 : decode cX10_strength 37 = .ok (.iload_n 1, 1) := by decide +kernel
theorem dX10_strength_38 : decode cX10_strength 38 = .ok (.aaload, 1) := by decide +kernel
theorem dX10_strength_39 : decode cX10_strength 39 = .ok (.getfield 98, 3) := by decide +kernel
theorem dX10_strength_42 : decode cX10_strength 42 = .ok (.astore 4, 2) := by decide +kernel
theorem dX10_strength_44 : decode cX10_strength 44 = .ok (.aload 4, 2) := by decide +kernel
theorem dX10_strength_46 : decode cX10_strength 46 = .ok (.iload_n 2, 1) := by decide +kernel
theorem dX10_strength_47 : decode cX10_strength 47 = .ok (.iaload, 1) := by decide +kernel
theorem dX10_strength_48 : decode cX10_strength 48 = .ok (.istore 5, 2) := by decide +kernel
theorem dX10_strength_50 : decode cX10_strength 50 = .ok (.aload 4, 2) := by decide +kernel
theorem dX10_strength_52 : decode cX10_strength 52 = .ok (.iload_n 2, 1) := by decide +kernel
theorem dX10_strength_53 : decode cX10_strength 53 = .ok (.iload_n 3, 1) := by decide +kernel
theorem dX10_strength_54 : decode cX10_strength 54 = .ok (.iastore, 1) := by decide +kernel
theorem dX10_strength_55 : decode cX10_strength 55 = .ok (.iload 5, 2) := by decide +kernel
theorem dX10_strength_57 : decode cX10_strength 57 = .ok (.ireturn, 1) := by decide +kernel
set_option maxRecDepth 20000 in
theorem ggX10_growth_X10_isStuff : GoodIn wsX10_growth wsX10_isStuff := goodIn_r _ [8, 9, 10, 11, 7, 12, 13, 14, 15, 16, 17, 18, 19, 20, 21, 22, 23] (by decide +kernel) (by decide +kernel)
set_option maxRecDepth 20000 in
theorem gX10_growth_X10_isStuff : GoodIn wsX10_growth (wsV RX10 90 RX10 yX10_isStuff wsX10_isStuff) := goodIn_app (goodIn_of _ (by decide +kernel)) ggX10_growth_X10_isStuff
set_option maxRecDepth 20000 in
theorem ggX10_growth_X10_isWithin : GoodIn wsX10_growth wsX10_isWithin := goodIn_r _ [12] (by decide +kernel) (by decide +kernel)
set_option maxRecDepth 20000 in
theorem gX10_growth_X10_isWithin : GoodIn wsX10_growth (va_wsS RX10 94 yX10_isWithin wsX10_isWithin) := goodIn_app (goodIn_of _ (by decide +kernel)) ggX10_growth_X10_isWithin
theorem dX10_growth_0 : decode cX10_growth 0 = .ok (.aload_n 0, 1) := by decide +kernel
theorem dX10_growth_1 : decode cX10_growth 1 = .ok (.iload_n 1, 1) := by decide +kernel
theorem dX10_growth_2 : decode cX10_growth 2 = .ok (.invokevirtual 90, 3) := by decide +kernel
theorem dX10_growth_5 : decode cX10_growth 5 = .ok (.ifCond .ne 5, 3) := by decide +kernel
theorem dX10_growth_8 : decode cX10_growth 8 = .ok (.iconst (-1), 1) := by decide +kernel
theorem dX10_growth_9 : decode cX10_growth 9 = .ok (.ireturn, 1) := by decide +kernel
theorem dX10_growth_10 : decode cX10_growth 10 = .ok (.iload_n 2, 1) := by decide +kernel
theorem dX10_growth_11 : decode cX10_growth 11 = .ok (.bipush (-20), 2) := by decide +kernel
theorem dX10_growth_13 : decode cX10_growth 13 = .ok (.bipush 20, 2) := by decide +kernel
theorem dX10_growth_15 : decode cX10_growth 15 = .ok (.invokestatic 94, 3) := by decide +kernel
theorem dX10_growth_18 : decode cX10_growth 18 = .ok (.ifCond .eq 14, 3) := by decide +kernel
theorem dX10_growth_21 : decode cX10_growth 21 = .ok (.iload_n 3, 1) := by decide +kernel
theorem dX10_growth_22 : decode cX10_growth 22 = .ok (.bipush (-20), 2) := by decide +kernel
theorem dX10_growth_24 : decode cX10_growth 24 = .ok (.bipush 20, 2) := by decide +kernel
theorem dX10_growth_26 : decode cX10_growth 26 = .ok (.invokestatic 94, 3) := by decide +kernel
theorem dX10_growth_29 : decode cX10_growth 29 = .ok (.ifCond .ne 6, 3) := by decide +kernel
theorem dX10_growth_32 : decode cX10_growth 32 = .ok (.bipush (-2), 2) := by decide +kernel
theorem dX10_growth_34 : decode cX10_growth 34 = .ok (.ireturn, 1) := by decide +kernel
theorem dX10_growth_35 : decode cX10_growth 35 = .ok (.aload_n 0, 1) := by decide +kernel
theorem dX10_growth_36 : decode cX10_growth 36 = .ok (.getfield 13, 3) := by decide +kernel
theorem dX10_growth_39 : decode cX10_growth 39 = .ok (.iload_n 1, 1) := by decide +kernel
theorem dX10_growth_40 : decode cX10_growth 40 = .ok (.aaload, 1) := by decide +kernel
theorem dX10_growth_41 : decode cX10_growth 41 = .ok (.iload_n 2, 1) := by decide +kernel
theorem dX10_growth_42 : decode cX10_growth 42 = .ok (.putfield 102, 3) := by decide +kernel
theorem dX10_growth_45 : decode cX10_growth 45 = .ok (.aload_n 0, 1) := by decide +kernel
theorem dX10_growth_46 : decode cX10_growth 46 = .ok (.getfield 13, 3) := by decide +kernel
theorem dX10_growth_49 : decode cX10_growth 49 = .ok (.iload_n 1, 1) := by decide +kernel
theorem dX10_growth_50 : decode cX10_growth 50 = .ok (.aaload, 1) := by decide +kernel
theorem dX10_growth_51 : decode cX10_growth 51 = .ok (.iload_n 3, 1) := by decide +kernel
theorem dX10_growth_52 : decode cX10_growth 52 = .ok (.putfield 105, 3) := by decide +kernel
theorem dX10_growth_55 : decode cX10_growth 55 = .ok (.iconst 0, 1) := by decide +kernel
theorem dX10_growth_56 : decode cX10_growth 56 = .ok (.ireturn, 1) := by decide +kernel
theorem dX10_plate_0 : decode cX10_plate 0 = .ok (.aload_n 0, 1) := by decide +kernel
theorem dX10_plate_1 : decode cX10_plate 1 = .ok (.getfield 60, 3) := by decide +kernel
theorem dX10_plate_4 : decode cX10_plate 4 = .ok (.iconst 4, 1) := by decide +kernel
theorem dX10_plate_5 : decode cX10_plate 5 = .ok (.if_icmp .lt 6, 3) := by decide +kernel
theorem dX10_plate_8 : decode cX10_plate 8 = .ok (.bipush (-4), 2) := by decide +kernel
theorem dX10_plate_10 : decode cX10_plate 10 = .ok (.ireturn, 1) := by decide +kernel
theorem dX10_plate_11 : decode cX10_plate 11 = .ok (.aload_n 0, 1) := by decide +kernel
theorem dX10_plate_12 : decode cX10_plate 12 = .ok (.dup, 1) := by decide +kernel
theorem dX10_plate_13 : decode cX10_plate 13 = .ok (.getfield 60, 3) := by decide +kernel
theorem dX10_plate_16 : decode cX10_plate 16 = .ok (.iconst 1, 1) := by decide +kernel
theorem dX10_plate_17 : decode cX10_plate 17 = .ok (.iadd, 1) := by decide +kernel
theorem dX10_plate_18 : decode cX10_plate 18 = .ok (.putfield 60, 3) := by decide +kernel
theorem dX10_plate_21 : decode cX10_plate 21 = .ok (.aload_n 0, 1) := by decide +kernel
theorem dX10_plate_22 : decode cX10_plate 22 = .ok (.getfield 60, 3) := by decide +kernel
theorem dX10_plate_25 : decode cX10_plate 25 = .ok (.iconst 1, 1) := by decide +kernel
theorem dX10_plate_26 : decode cX10_plate 26 = .ok (.isub, 1) := by decide +kernel
theorem dX10_plate_27 : decode cX10_plate 27 = .ok (.ireturn, 1) := by decide +kernel
set_option maxRecDepth 20000 in
theorem ggX10_lay_X10_isPlate : GoodIn wsX10_lay wsX10_isPlate := goodIn_r _ [7, 8, 9, 10, 6, 11, 38, 39, 40, 41, 42, 43, 44, 45, 46, 47, 48] (by decide +kernel) (by decide +kernel)
set_option maxRecDepth 20000 in
theorem gX10_lay_X10_isPlate : GoodIn wsX10_lay (wsV RX10 108 RX10 yX10_isPlate wsX10_isPlate) := goodIn_app (goodIn_of _ (by decide +kernel)) ggX10_lay_X10_isPlate
set_option maxRecDepth 20000 in
theorem ggX10_lay_X10_isStuff : GoodIn wsX10_lay wsX10_isStuff := goodIn_r _ [15, 16, 9, 10, 6, 11, 38, 39, 40, 41, 42, 43, 44, 45, 46, 47, 48] (by decide +kernel) (by decide +kernel)
set_option maxRecDepth 20000 in
theorem gX10_lay_X10_isStuff : GoodIn wsX10_lay (wsV RX10 90 RX10 yX10_isStuff wsX10_isStuff) := goodIn_app (goodIn_of _ (by decide +kernel)) ggX10_lay_X10_isStuff
set_option maxRecDepth 20000 in
theorem ggX10_lay_X10_isWithin : GoodIn wsX10_lay wsX10_isWithin := goodIn_r _ [11] (by decide +kernel) (by decide +kernel)
set_option maxRecDepth 20000 in
theorem gX10_lay_X10_isWithin : GoodIn wsX10_lay (va_wsS RX10 94 yX10_isWithin wsX10_isWithin) := goodIn_app (goodIn_of _ (by decide +kernel)) ggX10_lay_X10_isWithin
set_option maxRecDepth 20000 in
theorem ggX10_lay_X7_isFull : GoodIn wsX10_lay wsX7_isFull := goodIn_r _ [21, 22, 49, 50] (by decide +kernel) (by decide +kernel)
set_option maxRecDepth 20000 in
theorem gX10_lay_X7_isFull : GoodIn wsX10_lay (wsV RX10 111 RX7 yX7_isFull wsX7_isFull) := goodIn_app (goodIn_of _ (by decide +kernel)) ggX10_lay_X7_isFull
set_option maxRecDepth 20000 in
theorem ggX10_lay_X7_put : GoodIn wsX10_lay wsX7_put := goodIn_r _ [26, 27, 22, 28, 18, 19, 20, 21, 29, 30, 31, 32, 33, 34, 35, 36, 37, 49, 50, 51, 52, 53, 54] (by decide +kernel) (by decide +kernel)
set_option maxRecDepth 20000 in
theorem gX10_lay_X7_put : GoodIn wsX10_lay (wsV RX10 115 RX7 yX7_put wsX7_put) := goodIn_app (goodIn_of _ (by decide +kernel)) ggX10_lay_X7_put
theorem dX10_lay_0 : decode cX10_lay 0 = .ok (.aload_n 0, 1) := by decide +kernel
theorem dX10_lay_1 : decode cX10_lay 1 = .ok (.iload_n 1, 1) := by decide +kernel
theorem dX10_lay_2 : decode cX10_lay 2 = .ok (.invokevirtual 108, 3) := by decide +kernel
theorem dX10_lay_5 : decode cX10_lay 5 = .ok (.ifCond .eq 20, 3) := by decide +kernel
theorem dX10_lay_8 : decode cX10_lay 8 = .ok (.aload_n 0, 1) := by decide +kernel
theorem dX10_lay_9 : decode cX10_lay 9 = .ok (.iload_n 2, 1) := by decide +kernel
theorem dX10_lay_10 : decode cX10_lay 10 = .ok (.invokevirtual 90, 3) := by decide +kernel
theorem dX10_lay_13 : decode cX10_lay 13 = .ok (.ifCond .eq 12, 3) := by decide +kernel
theorem dX10_lay_16 : decode cX10_lay 16 = .ok (.iload_n 3, 1) := by decide +kernel
theorem dX10_lay_17 : decode cX10_lay 17 = .ok (.iconst 0, 1) := by decide +kernel
theorem dX10_lay_18 : decode cX10_lay 18 = .ok (.iconst 3, 1) := by decide +kernel
theorem dX10_lay_19 : decode cX10_lay 19 = .ok (.invokestatic 94, 3) := by decide +kernel
theorem dX10_lay_22 : decode cX10_lay 22 = .ok (.ifCond .ne 5, 3) := by decide +kernel
theorem dX10_lay_25 : decode cX10_lay 25 = .ok (.iconst (-1), 1) := by decide +kernel
theorem dX10_lay_26 : decode cX10_lay 26 = .ok (.ireturn, 1) := by decide +kernel
theorem dX10_lay_27 : decode cX10_lay 27 = .ok (.iload 4, 2) := by decide +kernel
theorem dX10_lay_29 : decode cX10_lay 29 = .ok (.iconst 1, 1) := by decide +kernel
theorem dX10_lay_30 : decode cX10_lay 30 = .ok (.iconst 3, 1) := by decide +kernel
theorem dX10_lay_31 : decode cX10_lay 31 = .ok (.invokestatic 94, 3) := by decide +kernel
theorem dX10_lay_34 : decode cX10_lay 34 = .ok (.ifCond .ne 6, 3) := by decide +kernel
theorem dX10_lay_37 : decode cX10_lay 37 = .ok (.bipush (-2), 2) := by decide +kernel
theorem dX10_lay_39 : decode cX10_lay 39 = .ok (.ireturn, 1) := by decide +kernel
theorem dX10_lay_40 : decode cX10_lay 40 = .ok (.aload_n 0, 1) := by decide +kernel
theorem dX10_lay_41 : decode cX10_lay 41 = .ok (.getfield 19, 3) := by decide +kernel
theorem dX10_lay_44 : decode cX10_lay 44 = .ok (.iload_n 1, 1) := by decide +kernel
theorem dX10_lay_45 : decode cX10_lay 45 = .ok (.aaload, 1) := by decide +kernel
theorem dX10_lay_46 : decode cX10_lay 46 = .ok (.invokevirtual 111, 3) := by decide +kernel
theorem dX10_lay_49 : decode cX10_lay 49 = .ok (.ifCond .eq 6, 3) := by decide +kernel
theorem dX10_lay_52 : decode cX10_lay 52 = .ok (.bipush (-4), 2) := by decide +kernel
theorem dX10_lay_54 : decode cX10_lay 54 = .ok (.ireturn, 1) := by decide +kernel
theorem dX10_lay_55 : decode cX10_lay 55 = .ok (.aload_n 0, 1) := by decide +kernel
theorem dX10_lay_56 : decode cX10_lay 56 = .ok (.getfield 19, 3) := by decide +kernel
theorem dX10_lay_59 : decode cX10_lay 59 = .ok (.iload_n 1, 1) := by decide +kernel
theorem dX10_lay_60 : decode cX10_lay 60 = .ok (.aaload, 1) := by decide +kernel
theorem dX10_lay_61 : decode cX10_lay 61 = .ok (.iload_n 2, 1) := by decide +kernel
theorem dX10_lay_62 : decode cX10_lay 62 = .ok (.iload_n 3, 1) := by decide +kernel
theorem dX10_lay_63 : decode cX10_lay 63 = .ok (.iload 4, 2) := by decide +kernel
theorem dX10_lay_65 : decode cX10_lay 65 = .ok (.invokevirtual 115, 3) := by decide +kernel
theorem dX10_lay_68 : decode cX10_lay 68 = .ok (.aload_n 0, 1) := by decide +kernel
theorem dX10_lay_69 : decode cX10_lay 69 = .ok (.getfield 19, 3) := by decide +kernel
theorem dX10_lay_72 : decode cX10_lay 72 = .ok (.iload_n 1, 1) := by decide +kernel
theorem dX10_lay_73 : decode cX10_lay 73 = .ok (.aaload, 1) := by decide +kernel
theorem dX10_lay_74 : decode cX10_lay 74 = .ok (.getfield 119, 3) := by decide +kernel
theorem dX10_lay_77 : decode cX10_lay 77 = .ok (.iconst 1, 1) := by decide +kernel
theorem dX10_lay_78 : decode cX10_lay 78 = .ok (.isub, 1) := by decide +kernel
theorem dX10_lay_79 : decode cX10_lay 79 = .ok (.ireturn, 1) := by decide +kernel
set_option maxRecDepth 20000 in
theorem ggX10_peel_X10_isPlate : GoodIn wsX10_peel wsX10_isPlate := goodIn_r _ [7, 8, 9, 10, 6, 11, 12, 13, 14, 15, 16, 17, 18, 19, 20, 21, 22] (by decide +kernel) (by decide +kernel)
set_option maxRecDepth 20000 in
theorem gX10_peel_X10_isPlate : GoodIn wsX10_peel (wsV RX10 108 RX10 yX10_isPlate wsX10_isPlate) := goodIn_app (goodIn_of _ (by decide +kernel)) ggX10_peel_X10_isPlate
theorem dX10_peel_0 : decode cX10_peel 0 = .ok (.aload_n 0, 1) := by decide +kernel
theorem dX10_peel_1 : decode cX10_peel 1 = .ok (.iload_n 1, 1) := by decide +kernel
theorem dX10_peel_2 : decode cX10_peel 2 = .ok (.invokevirtual 108, 3) := by decide +kernel
theorem dX10_peel_5 : decode cX10_peel 5 = .ok (.ifCond .ne 5, 3) := by decide +kernel
theorem dX10_peel_8 : decode cX10_peel 8 = .ok (.iconst (-1), 1) := by decide +kernel
theorem dX10_peel_9 : decode cX10_peel 9 = .ok (.ireturn, 1) := by decide +kernel
theorem dX10_peel_10 : decode cX10_peel 10 = .ok (.aload_n 0, 1) := by decide +kernel
theorem dX10_peel_11 : decode cX10_peel 11 = .ok (.getfield 19, 3) := by decide +kernel
theorem dX10_peel_14 : decode cX10_peel 14 = .ok (.iload_n 1, 1) := by decide +kernel
theorem dX10_peel_15 : decode cX10_peel 15 = .ok (.aaload, 1) := by decide +kernel
theorem dX10_peel_16 : decode cX10_peel 16 = .ok (.getfield 119, 3) := by decide +kernel
theorem dX10_peel_19 : decode cX10_peel 19 = .ok (.ifCond .ne 6, 3) := by decide +kernel
theorem dX10_peel_22 : decode cX10_peel 22 = .ok (.bipush (-3), 2) := by decide +kernel
theorem dX10_peel_24 : decode cX10_peel 24 = .ok (.ireturn, 1) := by decide +kernel
theorem dX10_peel_25 : decode cX10_peel 25 = .ok (.aload_n 0, 1) := by decide +kernel
theorem dX10_peel_26 : decode cX10_peel 26 = .ok (.getfield 19, 3) := by decide +kernel
theorem dX10_peel_29 : decode cX10_peel 29 = .ok (.iload_n 1, 1) := by decide +kernel
theorem dX10_peel_30 : decode cX10_peel 30 = .ok (.aaload, 1) := by decide +kernel
theorem dX10_peel_31 : decode cX10_peel 31 = .ok (.dup, 1) := by decide +kernel
theorem dX10_peel_32 : decode cX10_peel 32 = .ok (.getfield 119, 3) := by decide +kernel
theorem dX10_peel_35 : decode cX10_peel 35 = .ok (.iconst 1, 1) := by decide +kernel
theorem dX10_peel_36 : decode cX10_peel 36 = .ok (.isub, 1) := by decide +kernel
theorem dX10_peel_37 : decode cX10_peel 37 = .ok (.putfield 119, 3) := by decide +kernel
theorem dX10_peel_40 : decode cX10_peel 40 = .ok (.aload_n 0, 1) := by decide +kernel
theorem dX10_peel_41 : decode cX10_peel 41 = .ok (.getfield 19, 3) := by decide +kernel
theorem dX10_peel_44 : decode cX10_peel 44 = .ok (.iload_n 1, 1) := by decide +kernel
theorem dX10_peel_45 : decode cX10_peel 45 = .ok (.aaload, 1) := by decide +kernel
theorem dX10_peel_46 : decode cX10_peel 46 = .ok (.getfield 119, 3) := by decide +kernel
theorem dX10_peel_49 : decode cX10_peel 49 = .ok (.ireturn, 1) := by decide +kernel
set_option maxRecDepth 20000 in
theorem ggX10_hurt_X10_isLayer : GoodIn wsX10_hurt wsX10_isLayer := goodIn_r _ [8, 1, 9, 10, 11, 12, 7, 13, 14, 15, 16, 17, 18, 19, 20, 21, 22, 23, 24, 25, 26, 27, 28, 29, 30] (by decide +kernel) (by decide +kernel)
set_option maxRecDepth 20000 in
theorem gX10_hurt_X10_isLayer : GoodIn wsX10_hurt (wsV RX10 122 RX10 yX10_isLayer wsX10_isLayer) := goodIn_app (goodIn_of _ (by decide +kernel)) ggX10_hurt_X10_isLayer
set_option maxRecDepth 20000 in
theorem ggX10_hurt_X10_isWithin : GoodIn wsX10_hurt wsX10_isWithin := goodIn_r _ [17] (by decide +kernel) (by decide +kernel)
set_option maxRecDepth 20000 in
theorem gX10_hurt_X10_isWithin : GoodIn wsX10_hurt (va_wsS RX10 94 yX10_isWithin wsX10_isWithin) := goodIn_app (goodIn_of _ (by decide +kernel)) ggX10_hurt_X10_isWithin
theorem dX10_hurt_0 : decode cX10_hurt 0 = .ok (.aload_n 0, 1) := by decide +kernel
theorem dX10_hurt_1 : decode cX10_hurt 1 = .ok (.iload_n 1, 1) := by decide +kernel
theorem dX10_hurt_2 : decode cX10_hurt 2 = .ok (.iload_n 2, 1) := by decide +kernel
theorem dX10_hurt_3 : decode cX10_hurt 3 = .ok (.invokevirtual 122, 3) := by decide +kernel
theorem dX10_hurt_6 : decode cX10_hurt 6 = .ok (.ifCond .ne 5, 3) := by decide +kernel
theorem dX10_hurt_9 : decode cX10_hurt 9 = .ok (.iconst (-1), 1) := by decide +kernel
theorem dX10_hurt_10 : decode cX10_hurt 10 = .ok (.ireturn, 1) := by decide +kernel
theorem dX10_hurt_11 : decode cX10_hurt 11 = .ok (.iload_n 3, 1) := by decide +kernel
theorem dX10_hurt_12 : decode cX10_hurt 12 = .ok (.iconst 0, 1) := by decide +kernel
theorem dX10_hurt_13 : decode cX10_hurt 13 = .ok (.iconst 2, 1) := by decide +kernel
theorem dX10_hurt_14 : decode cX10_hurt 14 = .ok (.invokestatic 94, 3) := by decide +kernel
theorem dX10_hurt_17 : decode cX10_hurt 17 = .ok (.ifCond .ne 6, 3) := by decide +kernel
theorem dX10_hurt_20 : decode cX10_hurt 20 = .ok (.bipush (-2), 2) := by decide +kernel
theorem dX10_hurt_22 : decode cX10_hurt 22 = .ok (.ireturn, 1) := by decide +kernel
theorem dX10_hurt_23 : decode cX10_hurt 23 = .ok (.aload_n 0, 1) := by decide +kernel
theorem dX10_hurt_24 : decode cX10_hurt 24 = .ok (.getfield 19, 3) := by decide +kernel
theorem dX10_hurt_27 : decode cX10_hurt 27 = .ok (.iload_n 1, 1) := by decide +kernel
theorem dX10_hurt_28 : decode cX10_hurt 28 = .ok (.aaload, 1) := by decide +kernel
theorem dX10_hurt_29 : decode cX10_hurt 29 = .ok (.getfield 126, 3) := by decide +kernel
theorem dX10_hurt_32 : decode cX10_hurt 32 = .ok (.iload_n 2, 1) := by decide +kernel
theorem dX10_hurt_33 : decode cX10_hurt 33 = .ok (.aaload, 1) := by decide +kernel
theorem dX10_hurt_34 : decode cX10_hurt 34 = .ok (.astore 4, 2) := by decide +kernel
theorem dX10_hurt_36 : decode cX10_hurt 36 = .ok (.aload 4, 2) := by decide +kernel
theorem dX10_hurt_38 : decode cX10_hurt 38 = .ok (.getfield 130, 3) := by decide +kernel
theorem dX10_hurt_41 : decode cX10_hurt 41 = .ok (.istore 5, 2) := by decide +kernel
theorem dX10_hurt_43 : decode cX10_hurt 43 = .ok (.aload 4, 2) := by decide +kernel
theorem dX10_hurt_45 : decode cX10_hurt 45 = .ok (.iload_n 3, 1) := by decide +kernel
theorem dX10_hurt_46 : decode cX10_hurt 46 = .ok (.putfield 130, 3) := by decide +kernel
theorem dX10_hurt_49 : decode cX10_hurt 49 = .ok (.iload 5, 2) := by decide +kernel
theorem dX10_hurt_51 : decode cX10_hurt 51 = .ok (.ireturn, 1) := by decide +kernel
set_option maxRecDepth 20000 in
theorem ggX10_layer_X10_isLayer : GoodIn wsX10_layer wsX10_isLayer := goodIn_r _ [12, 1, 13, 14, 15, 16, 11, 17, 18, 19, 20, 21, 54, 55, 56, 57, 58, 59, 60, 61, 62, 63, 64, 65, 66] (by decide +kernel) (by decide +kernel)
set_option maxRecDepth 20000 in
theorem gX10_layer_X10_isLayer : GoodIn wsX10_layer (wsV RX10 122 RX10 yX10_isLayer wsX10_isLayer) := goodIn_app (goodIn_of _ (by decide +kernel)) ggX10_layer_X10_isLayer
set_option maxRecDepth 20000 in
theorem ggX10_layer_X10_isWithin : GoodIn wsX10_layer wsX10_isWithin := goodIn_r _ [21] (by decide +kernel) (by decide +kernel)
set_option maxRecDepth 20000 in
theorem gX10_layer_X10_isWithin : GoodIn wsX10_layer (va_wsS RX10 94 yX10_isWithin wsX10_isWithin) := goodIn_app (goodIn_of _ (by decide +kernel)) ggX10_layer_X10_isWithin
set_option maxRecDepth 20000 in
theorem ggX10_layer_X2_turnedNumber : GoodIn wsX10_layer wsX2_turnedNumber := goodIn_r _ [26, 27, 28, 29, 30, 25, 31, 32, 33, 34, 35, 36, 37, 38, 39, 40, 41, 42, 43, 44, 45, 46, 47, 48, 49, 50, 51, 52, 53, 71, 72, 73, 74, 75, 76, 77, 78, 79, 80, 81, 82, 83, 67, 68, 69, 70, 84, 85, 86, 87, 88, 89, 90, 91, 92, 93, 94] (by decide +kernel) (by decide +kernel)
set_option maxRecDepth 20000 in
theorem gX10_layer_X2_turnedNumber : GoodIn wsX10_layer (wsV RX10 144 RX2 yX2_turnedNumber wsX2_turnedNumber) := goodIn_app (goodIn_of _ (by decide +kernel)) ggX10_layer_X2_turnedNumber
theorem dX10_layer_0 : decode cX10_layer 0 = .ok (.aload_n 0, 1) := by decide +kernel
theorem dX10_layer_1 : decode cX10_layer 1 = .ok (.iload_n 1, 1) := by decide +kernel
theorem dX10_layer_2 : decode cX10_layer 2 = .ok (.iload_n 2, 1) := by decide +kernel
theorem dX10_layer_3 : decode cX10_layer 3 = .ok (.invokevirtual 122, 3) := by decide +kernel
theorem dX10_layer_6 : decode cX10_layer 6 = .ok (.ifCond .ne 5, 3) := by decide +kernel
theorem dX10_layer_9 : decode cX10_layer 9 = .ok (.iconst (-1), 1) := by decide +kernel
theorem dX10_layer_10 : decode cX10_layer 10 = .ok (.ireturn, 1) := by decide +kernel
theorem dX10_layer_11 : decode cX10_layer 11 = .ok (.aload_n 0, 1) := by decide +kernel
theorem dX10_layer_12 : decode cX10_layer 12 = .ok (.getfield 19, 3) := by decide +kernel
theorem dX10_layer_15 : decode cX10_layer 15 = .ok (.iload_n 1, 1) := by decide +kernel
theorem dX10_layer_16 : decode cX10_layer 16 = .ok (.aaload, 1) := by decide +kernel
theorem dX10_layer_17 : decode cX10_layer 17 = .ok (.getfield 126, 3) := by decide +kernel
theorem dX10_layer_20 : decode cX10_layer 20 = .ok (.iload_n 2, 1) := by decide +kernel
theorem dX10_layer_21 : decode cX10_layer 21 = .ok (.aaload, 1) := by decide +kernel
theorem dX10_layer_22 : decode cX10_layer 22 = .ok (.astore 4, 2) := by decide +kernel
theorem dX10_layer_24 : decode cX10_layer 24 = .ok (.iload_n 3, 1) := by decide +kernel
theorem dX10_layer_25 : decode cX10_layer 25 = .ok (.tableswitch 55 0 3 #[31, 37, 43, 49], 31) := by decide +kernel
theorem dX10_layer_56 : decode cX10_layer 56 = .ok (.aload 4, 2) := by decide +kernel
theorem dX10_layer_58 : decode cX10_layer 58 = .ok (.getfield 135, 3) := by decide +kernel
theorem dX10_layer_61 : decode cX10_layer 61 = .ok (.ireturn, 1) := by decide +kernel
theorem dX10_layer_62 : decode cX10_layer 62 = .ok (.aload 4, 2) := by decide +kernel
theorem dX10_layer_64 : decode cX10_layer 64 = .ok (.getfield 138, 3) := by decide +kernel
theorem dX10_layer_67 : decode cX10_layer 67 = .ok (.ireturn, 1) := by decide +kernel
theorem dX10_layer_68 : decode cX10_layer 68 = .ok (.aload 4, 2) := by decide +kernel
theorem dX10_layer_70 : decode cX10_layer 70 = .ok (.getfield 141, 3) := by decide +kernel
theorem dX10_layer_73 : decode cX10_layer 73 = .ok (.ireturn, 1) := by decide +kernel
theorem dX10_layer_74 : decode cX10_layer 74 = .ok (.aload 4, 2) := by decide +kernel
theorem dX10_layer_76 : decode cX10_layer 76 = .ok (.getfield 130, 3) := by decide +kernel
theorem dX10_layer_79 : decode cX10_layer 79 = .ok (.ireturn, 1) := by decide +kernel
theorem dX10_layer_80 : decode cX10_layer 80 = .ok (.iload_n 3, 1) := by decide +kernel
theorem dX10_layer_81 : decode cX10_layer 81 = .ok (.iconst 4, 1) := by decide +kernel
theorem dX10_layer_82 : decode cX10_layer 82 = .ok (.bipush 9, 2) := by decide +kernel
theorem dX10_layer_84 : decode cX10_layer 84 = .ok (.invokestatic 94, 3) := by decide +kernel
theorem dX10_layer_87 : decode cX10_layer 87 = .ok (.ifCond .eq 18, 3) := by decide +kernel
theorem dX10_layer_90 : decode cX10_layer 90 = .ok (.aload_n 0, 1) := by decide +kernel
theorem dX10_layer_91 : decode cX10_layer 91 = .ok (.getfield 69, 3) := by decide +kernel
theorem dX10_layer_94 : decode cX10_layer 94 = .ok (.aload 4, 2) := by decide +kernel
theorem dX10_layer_96 : decode cX10_layer 96 = .ok (.iload_n 3, 1) := by decide +kernel
theorem dX10_layer_97 : decode cX10_layer 97 = .ok (.iconst 4, 1) := by decide +kernel
theorem dX10_layer_98 : decode cX10_layer 98 = .ok (.isub, 1) := by decide +kernel
theorem dX10_layer_99 : decode cX10_layer 99 = .ok (.invokevirtual 144, 3) := by decide +kernel
theorem dX10_layer_102 : decode cX10_layer 102 = .ok (.goto 4, 3) := by decide +kernel
theorem dX10_layer_105 : decode cX10_layer 105 = .ok (.iconst (-1), 1) := by decide +kernel
theorem dX10_layer_106 : decode cX10_layer 106 = .ok (.ireturn, 1) := by decide +kernel
set_option maxRecDepth 20000 in
theorem ggX10_table_X10_isPlate : GoodIn wsX10_table wsX10_isPlate := goodIn_r _ [9, 10, 11, 12, 8, 13, 66, 67, 68, 69, 70, 71, 72, 73, 74, 75, 76] (by decide +kernel) (by decide +kernel)
set_option maxRecDepth 20000 in
theorem gX10_table_X10_isPlate : GoodIn wsX10_table (wsV RX10 108 RX10 yX10_isPlate wsX10_isPlate) := goodIn_app (goodIn_of _ (by decide +kernel)) ggX10_table_X10_isPlate
set_option maxRecDepth 20000 in
theorem ggX10_table_X10_isWithin : GoodIn wsX10_table wsX10_isWithin := goodIn_r _ [13] (by decide +kernel) (by decide +kernel)
set_option maxRecDepth 20000 in
theorem gX10_table_X10_isWithin : GoodIn wsX10_table (va_wsS RX10 94 yX10_isWithin wsX10_isWithin) := goodIn_app (goodIn_of _ (by decide +kernel)) ggX10_table_X10_isWithin
set_option maxRecDepth 20000 in
theorem ggX10_table_X2_sum : GoodIn wsX10_table wsX2_sum := goodIn_r _ [18, 19, 20, 21, 22, 23, 24, 25, 26, 27, 28, 29, 30, 31, 32, 33, 34, 35, 36, 37, 38, 39, 17, 40, 41, 42, 43, 44, 45, 46, 47, 48, 49, 50, 51, 52, 53, 54, 55, 56, 57, 58, 59, 60, 61, 62, 63, 64, 65, 77, 78, 79, 80, 81, 82, 83, 84, 85, 86, 87, 88, 89, 90, 91, 92, 93, 94, 95, 96, 97, 98, 99, 100, 101, 102, 103, 104, 105, 106] (by decide +kernel) (by decide +kernel)
set_option maxRecDepth 20000 in
theorem gX10_table_X2_sum : GoodIn wsX10_table (wsV RX10 150 RX2 yX2_sum wsX2_sum) := goodIn_app (goodIn_of _ (by decide +kernel)) ggX10_table_X2_sum
theorem dX10_table_0 : decode cX10_table 0 = .ok (.aload_n 0, 1) := by decide +kernel
theorem dX10_table_1 : decode cX10_table 1 = .ok (.iload_n 1, 1) := by decide +kernel
theorem dX10_table_2 : decode cX10_table 2 = .ok (.invokevirtual 108, 3) := by decide +kernel
theorem dX10_table_5 : decode cX10_table 5 = .ok (.ifCond .eq 21, 3) := by decide +kernel
theorem dX10_table_8 : decode cX10_table 8 = .ok (.iload_n 2, 1) := by decide +kernel
theorem dX10_table_9 : decode cX10_table 9 = .ok (.iconst 0, 1) := by decide +kernel
theorem dX10_table_10 : decode cX10_table 10 = .ok (.iconst 2, 1) := by decide +kernel
theorem dX10_table_11 : decode cX10_table 11 = .ok (.invokestatic 94, 3) := by decide +kernel
theorem dX10_table_14 : decode cX10_table 14 = .ok (.ifCond .eq 12, 3) := by decide +kernel
theorem dX10_table_17 : decode cX10_table 17 = .ok (.iload_n 3, 1) := by decide +kernel
theorem dX10_table_18 : decode cX10_table 18 = .ok (.iconst 0, 1) := by decide +kernel
theorem dX10_table_19 : decode cX10_table 19 = .ok (.iconst 5, 1) := by decide +kernel
theorem dX10_table_20 : decode cX10_table 20 = .ok (.invokestatic 94, 3) := by decide +kernel
theorem dX10_table_23 : decode cX10_table 23 = .ok (.ifCond .ne 7, 3) := by decide +kernel
theorem dX10_table_26 : decode cX10_table 26 = .ok (.ldc2_w 148, 3) := by decide +kernel
theorem dX10_table_29 : decode cX10_table 29 = .ok (.lreturn, 1) := by decide +kernel
theorem dX10_table_30 : decode cX10_table 30 = .ok (.aload_n 0, 1) := by decide +kernel
theorem dX10_table_31 : decode cX10_table 31 = .ok (.getfield 69, 3) := by decide +kernel
theorem dX10_table_34 : decode cX10_table 34 = .ok (.aload_n 0, 1) := by decide +kernel
theorem dX10_table_35 : decode cX10_table 35 = .ok (.getfield 19, 3) := by decide +kernel
theorem dX10_table_38 : decode cX10_table 38 = .ok (.iload_n 1, 1) := by decide +kernel
theorem dX10_table_39 : decode cX10_table 39 = .ok (.aaload, 1) := by decide +kernel
theorem dX10_table_40 : decode cX10_table 40 = .ok (.iload_n 2, 1) := by decide +kernel
theorem dX10_table_41 : decode cX10_table 41 = .ok (.invokevirtual 150, 3) := by decide +kernel
theorem dX10_table_44 : decode cX10_table 44 = .ok (.aload_n 0, 1) := by decide +kernel
theorem dX10_table_45 : decode cX10_table 45 = .ok (.getfield 69, 3) := by decide +kernel
theorem dX10_table_48 : decode cX10_table 48 = .ok (.getfield 154, 3) := by decide +kernel
theorem dX10_table_51 : decode cX10_table 51 = .ok (.iload_n 3, 1) := by decide +kernel
theorem dX10_table_52 : decode cX10_table 52 = .ok (.laload, 1) := by decide +kernel
theorem dX10_table_53 : decode cX10_table 53 = .ok (.lreturn, 1) := by decide +kernel
set_option maxRecDepth 20000 in
theorem ggX10_tied_X10_isPlate : GoodIn wsX10_tied wsX10_isPlate := goodIn_r _ [8, 9, 10, 11, 7, 12, 72, 73, 74, 75, 76, 77, 78, 79, 80, 81, 82] (by decide +kernel) (by decide +kernel)
set_option maxRecDepth 20000 in
theorem gX10_tied_X10_isPlate : GoodIn wsX10_tied (wsV RX10 108 RX10 yX10_isPlate wsX10_isPlate) := goodIn_app (goodIn_of _ (by decide +kernel)) ggX10_tied_X10_isPlate
set_option maxRecDepth 20000 in
theorem ggX10_tied_X2_sum : GoodIn wsX10_tied wsX2_sum := goodIn_r _ [17, 18, 19, 20, 21, 22, 23, 24, 25, 26, 27, 28, 29, 30, 31, 32, 33, 34, 35, 36, 37, 38, 16, 39, 40, 41, 42, 43, 44, 45, 46, 47, 48, 49, 50, 51, 52, 53, 54, 55, 56, 57, 58, 59, 60, 61, 62, 63, 64, 83, 84, 85, 86, 87, 88, 89, 90, 91, 92, 93, 94, 95, 96, 97, 98, 99, 100, 101, 102, 103, 104, 105, 106, 107, 108, 109, 110, 111, 112] (by decide +kernel) (by decide +kernel)
set_option maxRecDepth 20000 in
theorem gX10_tied_X2_sum : GoodIn wsX10_tied (wsV RX10 150 RX2 yX2_sum wsX2_sum) := goodIn_app (goodIn_of _ (by decide +kernel)) ggX10_tied_X2_sum
set_option maxRecDepth 20000 in
theorem ggX10_tied_X10_bitIf : GoodIn wsX10_tied wsX10_bitIf := goodIn_r _ [67] (by decide +kernel) (by decide +kernel)
set_option maxRecDepth 20000 in
theorem gX10_tied_X10_bitIf : GoodIn wsX10_tied (va_wsS RX10 158 yX10_bitIf wsX10_bitIf) := goodIn_app (goodIn_of _ (by decide +kernel)) ggX10_tied_X10_bitIf
set_option maxRecDepth 20000 in
theorem ggX10_tied_X2_isAnySumLeft : GoodIn wsX10_tied wsX2_isAnySumLeft := goodIn_r _ [71, 18, 83, 84, 85, 86, 87, 88, 89, 90, 91, 92, 93, 94, 95] (by decide +kernel) (by decide +kernel)
set_option maxRecDepth 20000 in
theorem gX10_tied_X2_isAnySumLeft : GoodIn wsX10_tied (wsV RX10 162 RX2 yX2_isAnySumLeft wsX2_isAnySumLeft) := goodIn_app (goodIn_of _ (by decide +kernel)) ggX10_tied_X2_isAnySumLeft
theorem dX10_tied_0 : decode cX10_tied 0 = .ok (.aload_n 0, 1) := by decide +kernel
theorem dX10_tied_1 : decode cX10_tied 1 = .ok (.iload_n 1, 1) := by decide +kernel
theorem dX10_tied_2 : decode cX10_tied 2 = .ok (.invokevirtual 108, 3) := by decide +kernel
theorem dX10_tied_5 : decode cX10_tied 5 = .ok (.ifCond .ne 5, 3) := by decide +kernel
theorem dX10_tied_8 : decode cX10_tied 8 = .ok (.iconst (-1), 1) := by decide +kernel
theorem dX10_tied_9 : decode cX10_tied 9 = .ok (.ireturn, 1) := by decide +kernel
theorem dX10_tied_10 : decode cX10_tied 10 = .ok (.aload_n 0, 1) := by decide +kernel
theorem dX10_tied_11 : decode cX10_tied 11 = .ok (.getfield 69, 3) := by decide +kernel
theorem dX10_tied_14 : decode cX10_tied 14 = .ok (.aload_n 0, 1) := by decide +kernel
theorem dX10_tied_15 : decode cX10_tied 15 = .ok (.getfield 19, 3) := by decide +kernel
theorem dX10_tied_18 : decode cX10_tied 18 = .ok (.iload_n 1, 1) := by decide +kernel
theorem dX10_tied_19 : decode cX10_tied 19 = .ok (.aaload, 1) := by decide +kernel
theorem dX10_tied_20 : decode cX10_tied 20 = .ok (.iconst 0, 1) := by decide +kernel
theorem dX10_tied_21 : decode cX10_tied 21 = .ok (.invokevirtual 150, 3) := by decide +kernel
theorem dX10_tied_24 : decode cX10_tied 24 = .ok (.aload_n 0, 1) := by decide +kernel
theorem dX10_tied_25 : decode cX10_tied 25 = .ok (.getfield 69, 3) := by decide +kernel
theorem dX10_tied_28 : decode cX10_tied 28 = .ok (.getfield 154, 3) := by decide +kernel
theorem dX10_tied_31 : decode cX10_tied 31 = .ok (.iconst 4, 1) := by decide +kernel
theorem dX10_tied_32 : decode cX10_tied 32 = .ok (.laload, 1) := by decide +kernel
theorem dX10_tied_33 : decode cX10_tied 33 = .ok (.lconst 0, 1) := by decide +kernel
theorem dX10_tied_34 : decode cX10_tied 34 = .ok (.lcmp, 1) := by decide +kernel
theorem dX10_tied_35 : decode cX10_tied 35 = .ok (.ifCond .eq 7, 3) := by decide +kernel
theorem dX10_tied_38 : decode cX10_tied 38 = .ok (.iconst 1, 1) := by decide +kernel
theorem dX10_tied_39 : decode cX10_tied 39 = .ok (.goto 4, 3) := by decide +kernel
theorem dX10_tied_42 : decode cX10_tied 42 = .ok (.iconst 0, 1) := by decide +kernel
theorem dX10_tied_43 : decode cX10_tied 43 = .ok (.iconst 0, 1) := by decide +kernel
theorem dX10_tied_44 : decode cX10_tied 44 = .ok (.invokestatic 158, 3) := by decide +kernel
theorem dX10_tied_47 : decode cX10_tied 47 = .ok (.aload_n 0, 1) := by decide +kernel
theorem dX10_tied_48 : decode cX10_tied 48 = .ok (.getfield 69, 3) := by decide +kernel
theorem dX10_tied_51 : decode cX10_tied 51 = .ok (.getfield 154, 3) := by decide +kernel
theorem dX10_tied_54 : decode cX10_tied 54 = .ok (.iconst 5, 1) := by decide +kernel
theorem dX10_tied_55 : decode cX10_tied 55 = .ok (.laload, 1) := by decide +kernel
theorem dX10_tied_56 : decode cX10_tied 56 = .ok (.lconst 0, 1) := by decide +kernel
theorem dX10_tied_57 : decode cX10_tied 57 = .ok (.lcmp, 1) := by decide +kernel
theorem dX10_tied_58 : decode cX10_tied 58 = .ok (.ifCond .eq 7, 3) := by decide +kernel
theorem dX10_tied_61 : decode cX10_tied 61 = .ok (.iconst 1, 1) := by decide +kernel
theorem dX10_tied_62 : decode cX10_tied 62 = .ok (.goto 4, 3) := by decide +kernel
theorem dX10_tied_65 : decode cX10_tied 65 = .ok (.iconst 0, 1) := by decide +kernel
theorem dX10_tied_66 : decode cX10_tied 66 = .ok (.iconst 1, 1) := by decide +kernel
theorem dX10_tied_67 : decode cX10_tied 67 = .ok (.invokestatic 158, 3) := by decide +kernel
theorem dX10_tied_70 : decode cX10_tied 70 = .ok (.ior, 1) := by decide +kernel
theorem dX10_tied_71 : decode cX10_tied 71 = .ok (.istore_n 2, 1) := by decide +kernel
theorem dX10_tied_72 : decode cX10_tied 72 = .ok (.aload_n 0, 1) := by decide +kernel
theorem dX10_tied_73 : decode cX10_tied 73 = .ok (.getfield 69, 3) := by decide +kernel
theorem dX10_tied_76 : decode cX10_tied 76 = .ok (.aload_n 0, 1) := by decide +kernel
theorem dX10_tied_77 : decode cX10_tied 77 = .ok (.getfield 19, 3) := by decide +kernel
theorem dX10_tied_80 : decode cX10_tied 80 = .ok (.iload_n 1, 1) := by decide +kernel
theorem dX10_tied_81 : decode cX10_tied 81 = .ok (.aaload, 1) := by decide +kernel
theorem dX10_tied_82 : decode cX10_tied 82 = .ok (.iconst 2, 1) := by decide +kernel
theorem dX10_tied_83 : decode cX10_tied 83 = .ok (.invokevirtual 150, 3) := by decide +kernel
theorem dX10_tied_86 : decode cX10_tied 86 = .ok (.iload_n 2, 1) := by decide +kernel
theorem dX10_tied_87 : decode cX10_tied 87 = .ok (.aload_n 0, 1) := by decide +kernel
theorem dX10_tied_88 : decode cX10_tied 88 = .ok (.getfield 69, 3) := by decide +kernel
theorem dX10_tied_91 : decode cX10_tied 91 = .ok (.getfield 154, 3) := by decide +kernel
theorem dX10_tied_94 : decode cX10_tied 94 = .ok (.iconst 4, 1) := by decide +kernel
theorem dX10_tied_95 : decode cX10_tied 95 = .ok (.laload, 1) := by decide +kernel
theorem dX10_tied_96 : decode cX10_tied 96 = .ok (.lconst 0, 1) := by decide +kernel
theorem dX10_tied_97 : decode cX10_tied 97 = .ok (.lcmp, 1) := by decide +kernel
theorem dX10_tied_98 : decode cX10_tied 98 = .ok (.ifCond .eq 7, 3) := by decide +kernel
theorem dX10_tied_101 : decode cX10_tied 101 = .ok (.iconst 1, 1) := by decide +kernel
theorem dX10_tied_102 : decode cX10_tied 102 = .ok (.goto 4, 3) := by decide +kernel
theorem dX10_tied_105 : decode cX10_tied 105 = .ok (.iconst 0, 1) := by decide +kernel
theorem dX10_tied_106 : decode cX10_tied 106 = .ok (.iconst 2, 1) := by decide +kernel
theorem dX10_tied_107 : decode cX10_tied 107 = .ok (.invokestatic 158, 3) := by decide +kernel
theorem dX10_tied_110 : decode cX10_tied 110 = .ok (.aload_n 0, 1) := by decide +kernel
theorem dX10_tied_111 : decode cX10_tied 111 = .ok (.getfield 69, 3) := by decide +kernel
theorem dX10_tied_114 : decode cX10_tied 114 = .ok (.getfield 154, 3) := by decide +kernel
theorem dX10_tied_117 : decode cX10_tied 117 = .ok (.iconst 5, 1) := by decide +kernel
theorem dX10_tied_118 : decode cX10_tied 118 = .ok (.laload, 1) := by decide +kernel
theorem dX10_tied_119 : decode cX10_tied 119 = .ok (.lconst 0, 1) := by decide +kernel
theorem dX10_tied_120 : decode cX10_tied 120 = .ok (.lcmp, 1) := by decide +kernel
theorem dX10_tied_121 : decode cX10_tied 121 = .ok (.ifCond .eq 7, 3) := by decide +kernel
theorem dX10_tied_124 : decode cX10_tied 124 = .ok (.iconst 1, 1) := by decide +kernel
theorem dX10_tied_125 : decode cX10_tied 125 = .ok (.goto 4, 3) := by decide +kernel
theorem dX10_tied_128 : decode cX10_tied 128 = .ok (.iconst 0, 1) := by decide +kernel
theorem dX10_tied_129 : decode cX10_tied 129 = .ok (.iconst 3, 1) := by decide +kernel
theorem dX10_tied_130 : decode cX10_tied 130 = .ok (.invokestatic 158, 3) := by decide +kernel
theorem dX10_tied_133 : decode cX10_tied 133 = .ok (.ior, 1) := by decide +kernel
theorem dX10_tied_134 : decode cX10_tied 134 = .ok (.ior, 1) := by decide +kernel
theorem dX10_tied_135 : decode cX10_tied 135 = .ok (.istore_n 2, 1) := by decide +kernel
theorem dX10_tied_136 : decode cX10_tied 136 = .ok (.aload_n 0, 1) := by decide +kernel
theorem dX10_tied_137 : decode cX10_tied 137 = .ok (.getfield 69, 3) := by decide +kernel
theorem dX10_tied_140 : decode cX10_tied 140 = .ok (.aload_n 0, 1) := by decide +kernel
theorem dX10_tied_141 : decode cX10_tied 141 = .ok (.getfield 19, 3) := by decide +kernel
theorem dX10_tied_144 : decode cX10_tied 144 = .ok (.iload_n 1, 1) := by decide +kernel
theorem dX10_tied_145 : decode cX10_tied 145 = .ok (.aaload, 1) := by decide +kernel
theorem dX10_tied_146 : decode cX10_tied 146 = .ok (.iconst 1, 1) := by decide +kernel
theorem dX10_tied_147 : decode cX10_tied 147 = .ok (.invokevirtual 150, 3) := by decide +kernel
theorem dX10_tied_150 : decode cX10_tied 150 = .ok (.iload_n 2, 1) := by decide +kernel
theorem dX10_tied_151 : decode cX10_tied 151 = .ok (.aload_n 0, 1) := by decide +kernel
theorem dX10_tied_152 : decode cX10_tied 152 = .ok (.getfield 69, 3) := by decide +kernel
theorem dX10_tied_155 : decode cX10_tied 155 = .ok (.invokevirtual 162, 3) := by decide +kernel
theorem dX10_tied_158 : decode cX10_tied 158 = .ok (.iconst 4, 1) := by decide +kernel
theorem dX10_tied_159 : decode cX10_tied 159 = .ok (.invokestatic 158, 3) := by decide +kernel
theorem dX10_tied_162 : decode cX10_tied 162 = .ok (.ior, 1) := by decide +kernel
theorem dX10_tied_163 : decode cX10_tied 163 = .ok (.ireturn, 1) := by decide +kernel
set_option maxRecDepth 20000 in
theorem ggX10_even_X10_isPlate : GoodIn wsX10_even wsX10_isPlate := goodIn_r _ [6, 7, 8, 9, 5, 10, 27, 28, 29, 30, 31, 32, 33, 34, 35, 36, 37] (by decide +kernel) (by decide +kernel)
set_option maxRecDepth 20000 in
theorem gX10_even_X10_isPlate : GoodIn wsX10_even (wsV RX10 108 RX10 yX10_isPlate wsX10_isPlate) := goodIn_app (goodIn_of _ (by decide +kernel)) ggX10_even_X10_isPlate
set_option maxRecDepth 20000 in
theorem ggX10_even_X7_isEven : GoodIn wsX10_even wsX7_isEven := goodIn_r _ [15, 16, 17, 18, 19, 20, 21, 22, 23, 24, 25, 26, 38, 39, 40, 41, 42, 43] (by decide +kernel) (by decide +kernel)
set_option maxRecDepth 20000 in
theorem gX10_even_X7_isEven : GoodIn wsX10_even (wsV RX10 165 RX7 yX7_isEven wsX7_isEven) := goodIn_app (goodIn_of _ (by decide +kernel)) ggX10_even_X7_isEven
theorem dX10_even_0 : decode cX10_even 0 = .ok (.aload_n 0, 1) := by decide +kernel
theorem dX10_even_1 : decode cX10_even 1 = .ok (.iload_n 1, 1) := by decide +kernel
theorem dX10_even_2 : decode cX10_even 2 = .ok (.invokevirtual 108, 3) := by decide +kernel
theorem dX10_even_5 : decode cX10_even 5 = .ok (.ifCond .ne 5, 3) := by decide +kernel
theorem dX10_even_8 : decode cX10_even 8 = .ok (.iconst (-1), 1) := by decide +kernel
theorem dX10_even_9 : decode cX10_even 9 = .ok (.ireturn, 1) := by decide +kernel
theorem dX10_even_10 : decode cX10_even 10 = .ok (.aload_n 0, 1) := by decide +kernel
theorem dX10_even_11 : decode cX10_even 11 = .ok (.getfield 19, 3) := by decide +kernel
theorem dX10_even_14 : decode cX10_even 14 = .ok (.iload_n 1, 1) := by decide +kernel
theorem dX10_even_15 : decode cX10_even 15 = .ok (.aaload, 1) := by decide +kernel
theorem dX10_even_16 : decode cX10_even 16 = .ok (.invokevirtual 165, 3) := by decide +kernel
theorem dX10_even_19 : decode cX10_even 19 = .ok (.ifCond .eq 7, 3) := by decide +kernel
theorem dX10_even_22 : decode cX10_even 22 = .ok (.iconst 1, 1) := by decide +kernel
theorem dX10_even_23 : decode cX10_even 23 = .ok (.goto 4, 3) := by decide +kernel
theorem dX10_even_26 : decode cX10_even 26 = .ok (.iconst 0, 1) := by decide +kernel
theorem dX10_even_27 : decode cX10_even 27 = .ok (.ireturn, 1) := by decide +kernel
set_option maxRecDepth 20000 in
theorem ggX10_determinant_X10_isPlate : GoodIn wsX10_determinant wsX10_isPlate := goodIn_r _ [9, 10, 11, 12, 8, 13, 72, 73, 74, 75, 76, 77, 78, 79, 80, 81, 82] (by decide +kernel) (by decide +kernel)
set_option maxRecDepth 20000 in
theorem gX10_determinant_X10_isPlate : GoodIn wsX10_determinant (wsV RX10 108 RX10 yX10_isPlate wsX10_isPlate) := goodIn_app (goodIn_of _ (by decide +kernel)) ggX10_determinant_X10_isPlate
set_option maxRecDepth 20000 in
theorem ggX10_determinant_X2_prepare : GoodIn wsX10_determinant wsX2_prepare := goodIn_r _ [18, 19, 20, 21, 22, 23, 24, 17, 25, 26, 27, 28, 29, 30, 31, 32, 33, 34, 35, 36, 37, 38, 39, 40, 41, 42, 43, 44, 45, 46, 47, 48, 49, 50, 51, 52, 53, 54, 55, 56, 57, 58, 59, 60, 61, 62, 63, 64, 65, 66, 67, 68, 69, 70, 71, 83, 84, 85, 86, 87, 88, 89, 90, 91, 92, 93, 94, 95, 96, 97, 98, 99, 100, 101, 102, 103, 104, 105, 106, 107, 108, 109, 110, 111, 112] (by decide +kernel) (by decide +kernel)
set_option maxRecDepth 20000 in
theorem gX10_determinant_X2_prepare : GoodIn wsX10_determinant (wsV RX10 168 RX2 yX2_prepare wsX2_prepare) := goodIn_app (goodIn_of _ (by decide +kernel)) ggX10_determinant_X2_prepare
theorem dX10_determinant_0 : decode cX10_determinant 0 = .ok (.aload_n 0, 1) := by decide +kernel
theorem dX10_determinant_1 : decode cX10_determinant 1 = .ok (.iload_n 1, 1) := by decide +kernel
theorem dX10_determinant_2 : decode cX10_determinant 2 = .ok (.invokevirtual 108, 3) := by decide +kernel
theorem dX10_determinant_5 : decode cX10_determinant 5 = .ok (.ifCond .ne 7, 3) := by decide +kernel
theorem dX10_determinant_8 : decode cX10_determinant 8 = .ok (.ldc2_w 148, 3) := by decide +kernel
theorem dX10_determinant_11 : decode cX10_determinant 11 = .ok (.lreturn, 1) := by decide +kernel
theorem dX10_determinant_12 : decode cX10_determinant 12 = .ok (.aload_n 0, 1) := by decide +kernel
theorem dX10_determinant_13 : decode cX10_determinant 13 = .ok (.getfield 69, 3) := by decide +kernel
theorem dX10_determinant_16 : decode cX10_determinant 16 = .ok (.aload_n 0, 1) := by decide +kernel
theorem dX10_determinant_17 : decode cX10_determinant 17 = .ok (.getfield 19, 3) := by decide +kernel
theorem dX10_determinant_20 : decode cX10_determinant 20 = .ok (.iload_n 1, 1) := by decide +kernel
theorem dX10_determinant_21 : decode cX10_determinant 21 = .ok (.aaload, 1) := by decide +kernel
theorem dX10_determinant_22 : decode cX10_determinant 22 = .ok (.invokevirtual 168, 3) := by decide +kernel
theorem dX10_determinant_25 : decode cX10_determinant 25 = .ok (.aload_n 0, 1) := by decide +kernel
theorem dX10_determinant_26 : decode cX10_determinant 26 = .ok (.getfield 69, 3) := by decide +kernel
theorem dX10_determinant_29 : decode cX10_determinant 29 = .ok (.getfield 172, 3) := by decide +kernel
theorem dX10_determinant_32 : decode cX10_determinant 32 = .ok (.lreturn, 1) := by decide +kernel
set_option maxRecDepth 20000 in
theorem ggX10_stretch_X10_isPlate : GoodIn wsX10_stretch wsX10_isPlate := goodIn_r _ [8, 9, 10, 11, 7, 12, 110, 111, 112, 113, 114, 115, 116, 117, 118, 119, 120] (by decide +kernel) (by decide +kernel)
set_option maxRecDepth 20000 in
theorem gX10_stretch_X10_isPlate : GoodIn wsX10_stretch (wsV RX10 108 RX10 yX10_isPlate wsX10_isPlate) := goodIn_app (goodIn_of _ (by decide +kernel)) ggX10_stretch_X10_isPlate
set_option maxRecDepth 20000 in
theorem ggX10_stretch_X10_isLoad : GoodIn wsX10_stretch wsX10_isLoad := goodIn_r _ [15, 10, 11, 7, 12] (by decide +kernel) (by decide +kernel)
set_option maxRecDepth 20000 in
theorem gX10_stretch_X10_isLoad : GoodIn wsX10_stretch (va_wsS RX10 176 yX10_isLoad wsX10_isLoad) := goodIn_app (goodIn_of _ (by decide +kernel)) ggX10_stretch_X10_isLoad
set_option maxRecDepth 20000 in
theorem ggX10_stretch_X2_prepare : GoodIn wsX10_stretch wsX2_prepare := goodIn_r _ [20, 21, 22, 23, 24, 25, 26, 19, 27, 28, 29, 30, 31, 32, 33, 34, 35, 36, 37, 38, 39, 40, 41, 42, 43, 44, 45, 46, 47, 48, 49, 50, 51, 52, 53, 54, 55, 56, 57, 58, 59, 60, 61, 62, 63, 64, 65, 66, 67, 68, 69, 70, 71, 72, 73, 121, 122, 123, 124, 125, 126, 127, 128, 129, 130, 131, 132, 133, 134, 135, 136, 137, 138, 139, 140, 141, 142, 143, 144, 145, 146, 147, 148, 149, 150] (by decide +kernel) (by decide +kernel)
set_option maxRecDepth 20000 in
theorem gX10_stretch_X2_prepare : GoodIn wsX10_stretch (wsV RX10 168 RX2 yX2_prepare wsX2_prepare) := goodIn_app (goodIn_of _ (by decide +kernel)) ggX10_stretch_X2_prepare
set_option maxRecDepth 20000 in
theorem ggX10_stretch_X2_pull : GoodIn wsX10_stretch wsX2_pull := goodIn_r _ [77, 78, 79, 80, 81, 19, 82, 83, 22, 121, 122, 123, 124, 125, 126, 127, 128, 129, 130, 131, 132, 133] (by decide +kernel) (by decide +kernel)
set_option maxRecDepth 20000 in
theorem gX10_stretch_X2_pull : GoodIn wsX10_stretch (wsV RX10 179 RX2 yX2_pull wsX2_pull) := goodIn_app (goodIn_of _ (by decide +kernel)) ggX10_stretch_X2_pull
set_option maxRecDepth 20000 in
theorem ggX10_stretch_X10_stretchPart : GoodIn wsX10_stretch wsX10_stretchPart := goodIn_r _ [87, 2, 88, 1, 89, 90, 10, 11, 7, 12, 91, 92, 93, 94, 95, 96, 97, 98, 99, 100, 101, 102, 103, 104, 105, 106, 107, 108, 109, 110, 111, 112, 113, 114, 115, 116, 117, 118, 119, 120, 121, 122, 123, 124, 125, 126, 127, 128, 129, 130, 131, 132, 133, 151, 152] (by decide +kernel) (by decide +kernel)
set_option maxRecDepth 20000 in
theorem gX10_stretch_X10_stretchPart : GoodIn wsX10_stretch (wsV RX10 182 RX10 yX10_stretchPart wsX10_stretchPart) := goodIn_app (goodIn_of _ (by decide +kernel)) ggX10_stretch_X10_stretchPart
theorem dX10_stretch_0 : decode cX10_stretch 0 = .ok (.aload_n 0, 1) := by decide +kernel
theorem dX10_stretch_1 : decode cX10_stretch 1 = .ok (.iload_n 1, 1) := by decide +kernel
theorem dX10_stretch_2 : decode cX10_stretch 2 = .ok (.invokevirtual 108, 3) := by decide +kernel
theorem dX10_stretch_5 : decode cX10_stretch 5 = .ok (.ifCond .eq 13, 3) := by decide +kernel
theorem dX10_stretch_8 : decode cX10_stretch 8 = .ok (.iload_n 2, 1) := by decide +kernel
theorem dX10_stretch_9 : decode cX10_stretch 9 = .ok (.iload_n 3, 1) := by decide +kernel
theorem dX10_stretch_10 : decode cX10_stretch 10 = .ok (.iload 4, 2) := by decide +kernel
theorem dX10_stretch_12 : decode cX10_stretch 12 = .ok (.invokestatic 176, 3) := by decide +kernel
theorem dX10_stretch_15 : decode cX10_stretch 15 = .ok (.ifCond .ne 7, 3) := by decide +kernel
theorem dX10_stretch_18 : decode cX10_stretch 18 = .ok (.ldc2_w 148, 3) := by decide +kernel
theorem dX10_stretch_21 : decode cX10_stretch 21 = .ok (.lreturn, 1) := by decide +kernel
theorem dX10_stretch_22 : decode cX10_stretch 22 = .ok (.aload_n 0, 1) := by decide +kernel
theorem dX10_stretch_23 : decode cX10_stretch 23 = .ok (.getfield 69, 3) := by decide +kernel
theorem dX10_stretch_26 : decode cX10_stretch 26 = .ok (.aload_n 0, 1) := by decide +kernel
theorem dX10_stretch_27 : decode cX10_stretch 27 = .ok (.getfield 19, 3) := by decide +kernel
theorem dX10_stretch_30 : decode cX10_stretch 30 = .ok (.iload_n 1, 1) := by decide +kernel
theorem dX10_stretch_31 : decode cX10_stretch 31 = .ok (.aaload, 1) := by decide +kernel
theorem dX10_stretch_32 : decode cX10_stretch 32 = .ok (.invokevirtual 168, 3) := by decide +kernel
theorem dX10_stretch_35 : decode cX10_stretch 35 = .ok (.aload_n 0, 1) := by decide +kernel
theorem dX10_stretch_36 : decode cX10_stretch 36 = .ok (.getfield 69, 3) := by decide +kernel
theorem dX10_stretch_39 : decode cX10_stretch 39 = .ok (.iload_n 2, 1) := by decide +kernel
theorem dX10_stretch_40 : decode cX10_stretch 40 = .ok (.iload_n 3, 1) := by decide +kernel
theorem dX10_stretch_41 : decode cX10_stretch 41 = .ok (.iload 4, 2) := by decide +kernel
theorem dX10_stretch_43 : decode cX10_stretch 43 = .ok (.invokevirtual 179, 3) := by decide +kernel
theorem dX10_stretch_46 : decode cX10_stretch 46 = .ok (.aload_n 0, 1) := by decide +kernel
theorem dX10_stretch_47 : decode cX10_stretch 47 = .ok (.iload 5, 2) := by decide +kernel
theorem dX10_stretch_49 : decode cX10_stretch 49 = .ok (.iload 6, 2) := by decide +kernel
theorem dX10_stretch_51 : decode cX10_stretch 51 = .ok (.invokevirtual 182, 3) := by decide +kernel
theorem dX10_stretch_54 : decode cX10_stretch 54 = .ok (.lreturn, 1) := by decide +kernel
set_option maxRecDepth 20000 in
theorem ggX10_warm_X10_isPlate : GoodIn wsX10_warm wsX10_isPlate := goodIn_r _ [8, 9, 10, 11, 7, 12, 112, 113, 114, 115, 116, 117, 118, 119, 120, 121, 122] (by decide +kernel) (by decide +kernel)
set_option maxRecDepth 20000 in
theorem gX10_warm_X10_isPlate : GoodIn wsX10_warm (wsV RX10 108 RX10 yX10_isPlate wsX10_isPlate) := goodIn_app (goodIn_of _ (by decide +kernel)) ggX10_warm_X10_isPlate
set_option maxRecDepth 20000 in
theorem ggX10_warm_X10_isWithin : GoodIn wsX10_warm wsX10_isWithin := goodIn_r _ [12] (by decide +kernel) (by decide +kernel)
set_option maxRecDepth 20000 in
theorem gX10_warm_X10_isWithin : GoodIn wsX10_warm (va_wsS RX10 94 yX10_isWithin wsX10_isWithin) := goodIn_app (goodIn_of _ (by decide +kernel)) ggX10_warm_X10_isWithin
set_option maxRecDepth 20000 in
theorem ggX10_warm_X2_prepare : GoodIn wsX10_warm wsX2_prepare := goodIn_r _ [17, 18, 19, 20, 21, 22, 23, 16, 24, 25, 26, 27, 28, 29, 30, 31, 32, 33, 34, 35, 36, 37, 38, 39, 40, 41, 42, 43, 44, 45, 46, 47, 48, 49, 50, 51, 52, 53, 54, 55, 56, 57, 58, 59, 60, 61, 62, 63, 64, 65, 66, 67, 68, 69, 70, 123, 124, 125, 126, 127, 128, 129, 130, 131, 132, 133, 134, 135, 136, 137, 138, 139, 140, 141, 142, 143, 144, 145, 146, 147, 148, 149, 150, 151, 152] (by decide +kernel) (by decide +kernel)
set_option maxRecDepth 20000 in
theorem gX10_warm_X2_prepare : GoodIn wsX10_warm (wsV RX10 168 RX2 yX2_prepare wsX2_prepare) := goodIn_app (goodIn_of _ (by decide +kernel)) ggX10_warm_X2_prepare
set_option maxRecDepth 20000 in
theorem ggX10_warm_X2_warmUp : GoodIn wsX10_warm wsX2_warmUp := goodIn_r _ [74, 25, 26, 47, 48, 46, 49, 28, 75, 76, 77, 78, 79, 50, 80, 27, 51, 52, 53, 54, 55, 56, 57, 58, 59, 60, 61, 62, 63, 81, 82, 83, 16, 84, 85, 19, 136, 137, 123, 124, 125, 126, 127, 128, 129, 130, 131, 132, 133, 134, 135, 138, 139, 140, 141, 149, 150, 151, 152, 142, 143, 144, 145, 146, 147, 148] (by decide +kernel) (by decide +kernel)
set_option maxRecDepth 20000 in
theorem gX10_warm_X2_warmUp : GoodIn wsX10_warm (wsV RX10 186 RX2 yX2_warmUp wsX2_warmUp) := goodIn_app (goodIn_of _ (by decide +kernel)) ggX10_warm_X2_warmUp
set_option maxRecDepth 20000 in
theorem ggX10_warm_X10_stretchPart : GoodIn wsX10_warm wsX10_stretchPart := goodIn_r _ [89, 2, 90, 1, 91, 92, 10, 11, 7, 12, 93, 94, 95, 96, 97, 98, 99, 100, 101, 102, 103, 104, 105, 106, 107, 108, 109, 110, 111, 112, 113, 114, 115, 116, 117, 118, 119, 120, 121, 122, 123, 124, 125, 126, 127, 128, 129, 130, 131, 132, 133, 134, 135, 153, 154] (by decide +kernel) (by decide +kernel)
set_option maxRecDepth 20000 in
theorem gX10_warm_X10_stretchPart : GoodIn wsX10_warm (wsV RX10 182 RX10 yX10_stretchPart wsX10_stretchPart) := goodIn_app (goodIn_of _ (by decide +kernel)) ggX10_warm_X10_stretchPart
theorem dX10_warm_0 : decode cX10_warm 0 = .ok (.aload_n 0, 1) := by decide +kernel
theorem dX10_warm_1 : decode cX10_warm 1 = .ok (.iload_n 1, 1) := by decide +kernel
theorem dX10_warm_2 : decode cX10_warm 2 = .ok (.invokevirtual 108, 3) := by decide +kernel
theorem dX10_warm_5 : decode cX10_warm 5 = .ok (.ifCond .eq 14, 3) := by decide +kernel
theorem dX10_warm_8 : decode cX10_warm 8 = .ok (.iload_n 2, 1) := by decide +kernel
theorem dX10_warm_9 : decode cX10_warm 9 = .ok (.bipush (-100), 2) := by decide +kernel
theorem dX10_warm_11 : decode cX10_warm 11 = .ok (.bipush 100, 2) := by decide +kernel
theorem dX10_warm_13 : decode cX10_warm 13 = .ok (.invokestatic 94, 3) := by decide +kernel
theorem dX10_warm_16 : decode cX10_warm 16 = .ok (.ifCond .ne 7, 3) := by decide +kernel
theorem dX10_warm_19 : decode cX10_warm 19 = .ok (.ldc2_w 148, 3) := by decide +kernel
theorem dX10_warm_22 : decode cX10_warm 22 = .ok (.lreturn, 1) := by decide +kernel
theorem dX10_warm_23 : decode cX10_warm 23 = .ok (.aload_n 0, 1) := by decide +kernel
theorem dX10_warm_24 : decode cX10_warm 24 = .ok (.getfield 69, 3) := by decide +kernel
theorem dX10_warm_27 : decode cX10_warm 27 = .ok (.aload_n 0, 1) := by decide +kernel
theorem dX10_warm_28 : decode cX10_warm 28 = .ok (.getfield 19, 3) := by decide +kernel
theorem dX10_warm_31 : decode cX10_warm 31 = .ok (.iload_n 1, 1) := by decide +kernel
theorem dX10_warm_32 : decode cX10_warm 32 = .ok (.aaload, 1) := by decide +kernel
theorem dX10_warm_33 : decode cX10_warm 33 = .ok (.invokevirtual 168, 3) := by decide +kernel
theorem dX10_warm_36 : decode cX10_warm 36 = .ok (.aload_n 0, 1) := by decide +kernel
theorem dX10_warm_37 : decode cX10_warm 37 = .ok (.getfield 69, 3) := by decide +kernel
theorem dX10_warm_40 : decode cX10_warm 40 = .ok (.aload_n 0, 1) := by decide +kernel
theorem dX10_warm_41 : decode cX10_warm 41 = .ok (.getfield 19, 3) := by decide +kernel
theorem dX10_warm_44 : decode cX10_warm 44 = .ok (.iload_n 1, 1) := by decide +kernel
theorem dX10_warm_45 : decode cX10_warm 45 = .ok (.aaload, 1) := by decide +kernel
theorem dX10_warm_46 : decode cX10_warm 46 = .ok (.iload_n 2, 1) := by decide +kernel
theorem dX10_warm_47 : decode cX10_warm 47 = .ok (.invokevirtual 186, 3) := by decide +kernel
theorem dX10_warm_50 : decode cX10_warm 50 = .ok (.aload_n 0, 1) := by decide +kernel
theorem dX10_warm_51 : decode cX10_warm 51 = .ok (.iload_n 3, 1) := by decide +kernel
theorem dX10_warm_52 : decode cX10_warm 52 = .ok (.iload 4, 2) := by decide +kernel
theorem dX10_warm_54 : decode cX10_warm 54 = .ok (.invokevirtual 182, 3) := by decide +kernel
theorem dX10_warm_57 : decode cX10_warm 57 = .ok (.lreturn, 1) := by decide +kernel
set_option maxRecDepth 20000 in
theorem ggX10_holds_X10_isPlate : GoodIn wsX10_holds wsX10_isPlate := goodIn_r _ [7, 8, 9, 10, 6, 11, 123, 124, 125, 126, 127, 128, 129, 130, 131, 132, 133] (by decide +kernel) (by decide +kernel)
set_option maxRecDepth 20000 in
theorem gX10_holds_X10_isPlate : GoodIn wsX10_holds (wsV RX10 108 RX10 yX10_isPlate wsX10_isPlate) := goodIn_app (goodIn_of _ (by decide +kernel)) ggX10_holds_X10_isPlate
set_option maxRecDepth 20000 in
theorem ggX10_holds_X10_isLoad : GoodIn wsX10_holds wsX10_isLoad := goodIn_r _ [14, 9, 10, 6, 11] (by decide +kernel) (by decide +kernel)
set_option maxRecDepth 20000 in
theorem gX10_holds_X10_isLoad : GoodIn wsX10_holds (va_wsS RX10 176 yX10_isLoad wsX10_isLoad) := goodIn_app (goodIn_of _ (by decide +kernel)) ggX10_holds_X10_isLoad
set_option maxRecDepth 20000 in
theorem ggX10_holds_X2_prepare : GoodIn wsX10_holds wsX2_prepare := goodIn_r _ [19, 20, 21, 22, 23, 24, 25, 18, 26, 27, 28, 29, 30, 31, 32, 33, 34, 35, 36, 37, 38, 39, 40, 41, 42, 43, 44, 45, 46, 47, 48, 49, 50, 51, 52, 53, 54, 55, 56, 57, 58, 59, 60, 61, 62, 63, 64, 65, 66, 67, 68, 69, 70, 71, 72, 134, 135, 136, 137, 138, 139, 140, 141, 142, 143, 144, 145, 146, 147, 148, 149, 150, 151, 152, 153, 154, 155, 156, 157, 158, 159, 160, 161, 162, 163] (by decide +kernel) (by decide +kernel)
set_option maxRecDepth 20000 in
theorem gX10_holds_X2_prepare : GoodIn wsX10_holds (wsV RX10 168 RX2 yX2_prepare wsX2_prepare) := goodIn_app (goodIn_of _ (by decide +kernel)) ggX10_holds_X2_prepare
set_option maxRecDepth 20000 in
theorem ggX10_holds_X2_isHeld : GoodIn wsX10_holds wsX2_isHeld := goodIn_r _ [76, 22, 77, 78, 79, 80, 18, 81, 82, 83, 27, 28, 49, 50, 84, 85, 86, 87, 88, 89, 90, 91, 92, 93, 94, 95, 96, 97, 98, 99, 100, 101, 21, 102, 103, 104, 105, 48, 51, 52, 29, 106, 53, 54, 55, 56, 57, 58, 59, 60, 61, 62, 63, 64, 65, 107, 108, 109, 110, 111, 112, 113, 114, 115, 116, 117, 118, 119, 120, 121, 122, 134, 135, 136, 137, 138, 139, 140, 141, 142, 143, 144, 145, 146, 147, 148, 149, 150, 151, 152, 153, 154, 155, 156, 157, 158, 159, 160, 161, 162, 163] (by decide +kernel) (by decide +kernel)
set_option maxRecDepth 20000 in
theorem gX10_holds_X2_isHeld : GoodIn wsX10_holds (wsV RX10 189 RX2 yX2_isHeld wsX2_isHeld) := goodIn_app (goodIn_of _ (by decide +kernel)) ggX10_holds_X2_isHeld
theorem dX10_holds_0 : decode cX10_holds 0 = .ok (.aload_n 0, 1) := by decide +kernel
theorem dX10_holds_1 : decode cX10_holds 1 = .ok (.iload_n 1, 1) := by decide +kernel
theorem dX10_holds_2 : decode cX10_holds 2 = .ok (.invokevirtual 108, 3) := by decide +kernel
theorem dX10_holds_5 : decode cX10_holds 5 = .ok (.ifCond .ne 5, 3) := by decide +kernel
theorem dX10_holds_8 : decode cX10_holds 8 = .ok (.iconst (-1), 1) := by decide +kernel
theorem dX10_holds_9 : decode cX10_holds 9 = .ok (.ireturn, 1) := by decide +kernel
theorem dX10_holds_10 : decode cX10_holds 10 = .ok (.iload_n 2, 1) := by decide +kernel
theorem dX10_holds_11 : decode cX10_holds 11 = .ok (.iload_n 3, 1) := by decide +kernel
theorem dX10_holds_12 : decode cX10_holds 12 = .ok (.iload 4, 2) := by decide +kernel
theorem dX10_holds_14 : decode cX10_holds 14 = .ok (.invokestatic 176, 3) := by decide +kernel
theorem dX10_holds_17 : decode cX10_holds 17 = .ok (.ifCond .ne 6, 3) := by decide +kernel
theorem dX10_holds_20 : decode cX10_holds 20 = .ok (.bipush (-2), 2) := by decide +kernel
theorem dX10_holds_22 : decode cX10_holds 22 = .ok (.ireturn, 1) := by decide +kernel
theorem dX10_holds_23 : decode cX10_holds 23 = .ok (.aload_n 0, 1) := by decide +kernel
theorem dX10_holds_24 : decode cX10_holds 24 = .ok (.getfield 69, 3) := by decide +kernel
theorem dX10_holds_27 : decode cX10_holds 27 = .ok (.aload_n 0, 1) := by decide +kernel
theorem dX10_holds_28 : decode cX10_holds 28 = .ok (.getfield 19, 3) := by decide +kernel
theorem dX10_holds_31 : decode cX10_holds 31 = .ok (.iload_n 1, 1) := by decide +kernel
theorem dX10_holds_32 : decode cX10_holds 32 = .ok (.aaload, 1) := by decide +kernel
theorem dX10_holds_33 : decode cX10_holds 33 = .ok (.invokevirtual 168, 3) := by decide +kernel
theorem dX10_holds_36 : decode cX10_holds 36 = .ok (.aload_n 0, 1) := by decide +kernel
theorem dX10_holds_37 : decode cX10_holds 37 = .ok (.getfield 69, 3) := by decide +kernel
theorem dX10_holds_40 : decode cX10_holds 40 = .ok (.aload_n 0, 1) := by decide +kernel
theorem dX10_holds_41 : decode cX10_holds 41 = .ok (.getfield 19, 3) := by decide +kernel
theorem dX10_holds_44 : decode cX10_holds 44 = .ok (.iload_n 1, 1) := by decide +kernel
theorem dX10_holds_45 : decode cX10_holds 45 = .ok (.aaload, 1) := by decide +kernel
theorem dX10_holds_46 : decode cX10_holds 46 = .ok (.iload_n 2, 1) := by decide +kernel
theorem dX10_holds_47 : decode cX10_holds 47 = .ok (.iload_n 3, 1) := by decide +kernel
theorem dX10_holds_48 : decode cX10_holds 48 = .ok (.iload 4, 2) := by decide +kernel
theorem dX10_holds_50 : decode cX10_holds 50 = .ok (.invokevirtual 189, 3) := by decide +kernel
theorem dX10_holds_53 : decode cX10_holds 53 = .ok (.ifCond .eq 7, 3) := by decide +kernel
theorem dX10_holds_56 : decode cX10_holds 56 = .ok (.iconst 1, 1) := by decide +kernel
theorem dX10_holds_57 : decode cX10_holds 57 = .ok (.goto 4, 3) := by decide +kernel
theorem dX10_holds_60 : decode cX10_holds 60 = .ok (.iconst 0, 1) := by decide +kernel
theorem dX10_holds_61 : decode cX10_holds 61 = .ok (.ireturn, 1) := by decide +kernel
set_option maxRecDepth 20000 in
theorem ggX10_first_X10_isPlate : GoodIn wsX10_first wsX10_isPlate := goodIn_r _ [9, 10, 11, 12, 8, 13, 117, 118, 119, 120, 121, 122, 123, 124, 125, 126, 127] (by decide +kernel) (by decide +kernel)
set_option maxRecDepth 20000 in
theorem gX10_first_X10_isPlate : GoodIn wsX10_first (wsV RX10 108 RX10 yX10_isPlate wsX10_isPlate) := goodIn_app (goodIn_of _ (by decide +kernel)) ggX10_first_X10_isPlate
set_option maxRecDepth 20000 in
theorem ggX10_first_X2_prepare : GoodIn wsX10_first wsX2_prepare := goodIn_r _ [18, 19, 20, 21, 22, 23, 24, 17, 25, 26, 27, 28, 29, 30, 31, 32, 33, 34, 35, 36, 37, 38, 39, 40, 41, 42, 43, 44, 45, 46, 47, 48, 49, 50, 51, 52, 53, 54, 55, 56, 57, 58, 59, 60, 61, 62, 63, 64, 65, 66, 67, 68, 69, 70, 71, 128, 129, 130, 131, 132, 133, 134, 135, 136, 137, 138, 139, 140, 141, 142, 143, 144, 145, 146, 147, 148, 149, 150, 151, 152, 153, 154, 155, 156, 157] (by decide +kernel) (by decide +kernel)
set_option maxRecDepth 20000 in
theorem gX10_first_X2_prepare : GoodIn wsX10_first (wsV RX10 168 RX2 yX2_prepare wsX2_prepare) := goodIn_app (goodIn_of _ (by decide +kernel)) ggX10_first_X2_prepare
set_option maxRecDepth 20000 in
theorem ggX10_first_X10_isLoad : GoodIn wsX10_first wsX10_isLoad := goodIn_r _ [74, 11, 12, 8, 13] (by decide +kernel) (by decide +kernel)
set_option maxRecDepth 20000 in
theorem gX10_first_X10_isLoad : GoodIn wsX10_first (va_wsS RX10 176 yX10_isLoad wsX10_isLoad) := goodIn_app (goodIn_of _ (by decide +kernel)) ggX10_first_X10_isLoad
set_option maxRecDepth 20000 in
theorem ggX10_first_X2_findWorst : GoodIn wsX10_first wsX2_findWorst := goodIn_r _ [78, 79, 80, 81, 21, 26, 27, 48, 49, 82, 83, 84, 85, 86, 87, 88, 89, 90, 91, 92, 17, 93, 94, 95, 96, 97, 98, 99, 20, 100, 101, 102, 103, 47, 50, 51, 28, 104, 52, 53, 54, 55, 56, 57, 58, 59, 60, 61, 62, 63, 64, 105, 106, 107, 108, 109, 110, 111, 112, 113, 114, 115, 116, 128, 129, 130, 131, 132, 133, 134, 135, 136, 137, 138, 139, 140, 141, 142, 143, 144, 145, 146, 147, 148, 149, 150, 151, 152, 153, 154, 155, 156, 157] (by decide +kernel) (by decide +kernel)
set_option maxRecDepth 20000 in
theorem gX10_first_X2_findWorst : GoodIn wsX10_first (wsV RX10 193 RX2 yX2_findWorst wsX2_findWorst) := goodIn_app (goodIn_of _ (by decide +kernel)) ggX10_first_X2_findWorst
theorem dX10_first_0 : decode cX10_first 0 = .ok (.aload_n 0, 1) := by decide +kernel
theorem dX10_first_1 : decode cX10_first 1 = .ok (.iload_n 1, 1) := by decide +kernel
theorem dX10_first_2 : decode cX10_first 2 = .ok (.invokevirtual 108, 3) := by decide +kernel
theorem dX10_first_5 : decode cX10_first 5 = .ok (.ifCond .ne 5, 3) := by decide +kernel
theorem dX10_first_8 : decode cX10_first 8 = .ok (.iconst (-1), 1) := by decide +kernel
theorem dX10_first_9 : decode cX10_first 9 = .ok (.ireturn, 1) := by decide +kernel
theorem dX10_first_10 : decode cX10_first 10 = .ok (.aload_n 0, 1) := by decide +kernel
theorem dX10_first_11 : decode cX10_first 11 = .ok (.getfield 69, 3) := by decide +kernel
theorem dX10_first_14 : decode cX10_first 14 = .ok (.aload_n 0, 1) := by decide +kernel
theorem dX10_first_15 : decode cX10_first 15 = .ok (.getfield 19, 3) := by decide +kernel
theorem dX10_first_18 : decode cX10_first 18 = .ok (.iload_n 1, 1) := by decide +kernel
theorem dX10_first_19 : decode cX10_first 19 = .ok (.aaload, 1) := by decide +kernel
theorem dX10_first_20 : decode cX10_first 20 = .ok (.invokevirtual 168, 3) := by decide +kernel
theorem dX10_first_23 : decode cX10_first 23 = .ok (.aload_n 0, 1) := by decide +kernel
theorem dX10_first_24 : decode cX10_first 24 = .ok (.getfield 69, 3) := by decide +kernel
theorem dX10_first_27 : decode cX10_first 27 = .ok (.getfield 172, 3) := by decide +kernel
theorem dX10_first_30 : decode cX10_first 30 = .ok (.lconst 0, 1) := by decide +kernel
theorem dX10_first_31 : decode cX10_first 31 = .ok (.lcmp, 1) := by decide +kernel
theorem dX10_first_32 : decode cX10_first 32 = .ok (.ifCond .ne 5, 3) := by decide +kernel
theorem dX10_first_35 : decode cX10_first 35 = .ok (.iconst (-1), 1) := by decide +kernel
theorem dX10_first_36 : decode cX10_first 36 = .ok (.ireturn, 1) := by decide +kernel
theorem dX10_first_37 : decode cX10_first 37 = .ok (.iload_n 2, 1) := by decide +kernel
theorem dX10_first_38 : decode cX10_first 38 = .ok (.iload_n 3, 1) := by decide +kernel
theorem dX10_first_39 : decode cX10_first 39 = .ok (.iload 4, 2) := by decide +kernel
theorem dX10_first_41 : decode cX10_first 41 = .ok (.invokestatic 176, 3) := by decide +kernel
theorem dX10_first_44 : decode cX10_first 44 = .ok (.ifCond .ne 6, 3) := by decide +kernel
theorem dX10_first_47 : decode cX10_first 47 = .ok (.bipush (-2), 2) := by decide +kernel
theorem dX10_first_49 : decode cX10_first 49 = .ok (.ireturn, 1) := by decide +kernel
theorem dX10_first_50 : decode cX10_first 50 = .ok (.aload_n 0, 1) := by decide +kernel
theorem dX10_first_51 : decode cX10_first 51 = .ok (.getfield 69, 3) := by decide +kernel
theorem dX10_first_54 : decode cX10_first 54 = .ok (.aload_n 0, 1) := by decide +kernel
theorem dX10_first_55 : decode cX10_first 55 = .ok (.getfield 19, 3) := by decide +kernel
theorem dX10_first_58 : decode cX10_first 58 = .ok (.iload_n 1, 1) := by decide +kernel
theorem dX10_first_59 : decode cX10_first 59 = .ok (.aaload, 1) := by decide +kernel
theorem dX10_first_60 : decode cX10_first 60 = .ok (.iload_n 2, 1) := by decide +kernel
theorem dX10_first_61 : decode cX10_first 61 = .ok (.iload_n 3, 1) := by decide +kernel
theorem dX10_first_62 : decode cX10_first 62 = .ok (.iload 4, 2) := by decide +kernel
theorem dX10_first_64 : decode cX10_first 64 = .ok (.invokevirtual 193, 3) := by decide +kernel
theorem dX10_first_67 : decode cX10_first 67 = .ok (.aload_n 0, 1) := by decide +kernel
theorem dX10_first_68 : decode cX10_first 68 = .ok (.getfield 69, 3) := by decide +kernel
theorem dX10_first_71 : decode cX10_first 71 = .ok (.getfield 197, 3) := by decide +kernel
theorem dX10_first_74 : decode cX10_first 74 = .ok (.ireturn, 1) := by decide +kernel
set_option maxRecDepth 20000 in
theorem ggX10_factor_X10_isPlate : GoodIn wsX10_factor wsX10_isPlate := goodIn_r _ [11, 12, 13, 14, 10, 15, 139, 140, 141, 142, 143, 144, 145, 146, 147, 148, 149] (by decide +kernel) (by decide +kernel)
set_option maxRecDepth 20000 in
theorem gX10_factor_X10_isPlate : GoodIn wsX10_factor (wsV RX10 108 RX10 yX10_isPlate wsX10_isPlate) := goodIn_app (goodIn_of _ (by decide +kernel)) ggX10_factor_X10_isPlate
set_option maxRecDepth 20000 in
theorem ggX10_factor_X10_isLoad : GoodIn wsX10_factor wsX10_isLoad := goodIn_r _ [18, 13, 14, 10, 15] (by decide +kernel) (by decide +kernel)
set_option maxRecDepth 20000 in
theorem gX10_factor_X10_isLoad : GoodIn wsX10_factor (va_wsS RX10 176 yX10_isLoad wsX10_isLoad) := goodIn_app (goodIn_of _ (by decide +kernel)) ggX10_factor_X10_isLoad
set_option maxRecDepth 20000 in
theorem ggX10_factor_X2_prepare : GoodIn wsX10_factor wsX2_prepare := goodIn_r _ [23, 24, 25, 26, 27, 28, 29, 22, 30, 31, 32, 33, 34, 35, 36, 37, 38, 39, 40, 41, 42, 43, 44, 45, 46, 47, 48, 49, 50, 51, 52, 53, 54, 55, 56, 57, 58, 59, 60, 61, 62, 63, 64, 65, 66, 67, 68, 69, 70, 71, 72, 73, 74, 75, 76, 150, 151, 152, 153, 154, 155, 156, 157, 158, 159, 160, 161, 162, 163, 164, 165, 166, 167, 168, 169, 170, 171, 172, 173, 174, 175, 176, 177, 178, 179] (by decide +kernel) (by decide +kernel)
set_option maxRecDepth 20000 in
theorem gX10_factor_X2_prepare : GoodIn wsX10_factor (wsV RX10 168 RX2 yX2_prepare wsX2_prepare) := goodIn_app (goodIn_of _ (by decide +kernel)) ggX10_factor_X2_prepare
set_option maxRecDepth 20000 in
theorem ggX10_factor_X2_findWorst : GoodIn wsX10_factor wsX2_findWorst := goodIn_r _ [80, 81, 82, 83, 26, 31, 32, 53, 54, 84, 85, 86, 87, 88, 89, 90, 91, 92, 93, 94, 22, 95, 96, 97, 98, 99, 100, 101, 25, 102, 103, 104, 105, 52, 55, 56, 33, 106, 57, 58, 59, 60, 61, 62, 63, 64, 65, 66, 67, 68, 69, 107, 108, 109, 110, 111, 112, 113, 114, 115, 116, 117, 118, 150, 151, 152, 153, 154, 155, 156, 157, 158, 159, 160, 161, 162, 163, 164, 165, 166, 167, 168, 169, 170, 171, 172, 173, 174, 175, 176, 177, 178, 179] (by decide +kernel) (by decide +kernel)
set_option maxRecDepth 20000 in
theorem gX10_factor_X2_findWorst : GoodIn wsX10_factor (wsV RX10 193 RX2 yX2_findWorst wsX2_findWorst) := goodIn_app (goodIn_of _ (by decide +kernel)) ggX10_factor_X2_findWorst
set_option maxRecDepth 20000 in
theorem ggX10_factor_X2_worstLimit : GoodIn wsX10_factor wsX2_worstLimit := goodIn_r _ [122, 33, 26, 83, 150, 151, 152, 153, 154, 155, 156, 157, 158, 159, 160, 161, 162] (by decide +kernel) (by decide +kernel)
set_option maxRecDepth 20000 in
theorem gX10_factor_X2_worstLimit : GoodIn wsX10_factor (wsV RX10 200 RX2 yX2_worstLimit wsX2_worstLimit) := goodIn_app (goodIn_of _ (by decide +kernel)) ggX10_factor_X2_worstLimit
set_option maxRecDepth 20000 in
theorem ggX10_factor_X3_become : GoodIn wsX10_factor wsX3_become := goodIn_r _ [127, 128, 87, 88, 89, 129, 130, 131, 132, 126, 133, 180, 181] (by decide +kernel) (by decide +kernel)
set_option maxRecDepth 20000 in
theorem gX10_factor_X3_become : GoodIn wsX10_factor (wsV RX10 207 RX3 yX3_become wsX3_become) := goodIn_app (goodIn_of _ (by decide +kernel)) ggX10_factor_X3_become
set_option maxRecDepth 20000 in
theorem ggX10_factor_X3_partOf : GoodIn wsX10_factor wsX3_partOf := goodIn_r _ [137, 129, 130, 138, 180, 181] (by decide +kernel) (by decide +kernel)
set_option maxRecDepth 20000 in
theorem gX10_factor_X3_partOf : GoodIn wsX10_factor (wsV RX10 210 RX3 yX3_partOf wsX3_partOf) := goodIn_app (goodIn_of _ (by decide +kernel)) ggX10_factor_X3_partOf
theorem dX10_factor_0 : decode cX10_factor 0 = .ok (.aload_n 0, 1) := by decide +kernel
theorem dX10_factor_1 : decode cX10_factor 1 = .ok (.iload_n 1, 1) := by decide +kernel
theorem dX10_factor_2 : decode cX10_factor 2 = .ok (.invokevirtual 108, 3) := by decide +kernel
