set_option maxRecDepth 20000 in
theorem ggX4_heavy_X4_isNear : GoodIn wsX4_heavy wsX4_isNear := goodIn_r _ [9] (by decide +kernel) (by decide +kernel)
set_option maxRecDepth 20000 in
theorem gX4_heavy_X4_isNear : GoodIn wsX4_heavy (va_wsS RX4 172 yX4_isNear wsX4_isNear) := goodIn_app (goodIn_of _ (by decide +kernel)) ggX4_heavy_X4_isNear
set_option maxRecDepth 20000 in
theorem ggX4_heavy_X4_tell : GoodIn wsX4_heavy wsX4_tell := goodIn_r _ [13, 1, 14, 112, 113, 114, 115, 116, 117, 118] (by decide +kernel) (by decide +kernel)
set_option maxRecDepth 20000 in
theorem gX4_heavy_X4_tell : GoodIn wsX4_heavy (wsV RX4 48 RX4 yX4_tell wsX4_tell) := goodIn_app (goodIn_of _ (by decide +kernel)) ggX4_heavy_X4_tell
set_option maxRecDepth 20000 in
theorem ggX4_heavy_X0_flingsOfAll : GoodIn wsX4_heavy wsX0_flingsOfAll := goodIn_r _ [19, 20, 21, 119, 120, 121, 122, 123, 124, 125, 126, 127, 128, 129, 130, 131, 132] (by decide +kernel) (by decide +kernel)
set_option maxRecDepth 20000 in
theorem gX4_heavy_X0_flingsOfAll : GoodIn wsX4_heavy (wsV RX4 179 RX0 yX0_flingsOfAll wsX0_flingsOfAll) := goodIn_app (goodIn_of _ (by decide +kernel)) ggX4_heavy_X0_flingsOfAll
set_option maxRecDepth 20000 in
theorem ggX4_heavy_X0_become : GoodIn wsX4_heavy wsX0_become := goodIn_r _ [25, 26, 27, 28, 29, 30, 31, 32, 33, 34, 35, 36, 37, 38, 39, 20, 40, 41, 21, 119, 120, 121, 122, 123, 124, 125, 126, 127, 128, 129, 130, 131, 132] (by decide +kernel) (by decide +kernel)
set_option maxRecDepth 20000 in
theorem gX4_heavy_X0_become : GoodIn wsX4_heavy (wsV RX4 164 RX0 yX0_become wsX0_become) := goodIn_app (goodIn_of _ (by decide +kernel)) ggX4_heavy_X0_become
set_option maxRecDepth 20000 in
theorem ggX4_heavy_X0_passMinutes : GoodIn wsX4_heavy wsX0_passMinutes := goodIn_r _ [45, 46, 47, 48, 18, 49, 29, 50, 51, 52, 53, 54, 55, 56, 57, 30, 26, 58, 59, 60, 61, 31, 37, 62, 63, 64, 65, 27, 66, 67, 68, 69, 70, 71, 72, 73, 74, 75, 76, 77, 78, 79, 80, 81, 32, 38, 39, 82, 83, 84, 85, 86, 87, 88, 89, 28, 90, 91, 92, 93, 20, 41, 94, 95, 96, 97, 40, 21, 98, 99, 100, 101, 102, 103, 104, 105, 106, 107, 108, 109, 110, 111, 119, 120, 121, 122, 123, 124, 125, 126, 127, 128, 129, 130, 131, 132] (by decide +kernel) (by decide +kernel)
set_option maxRecDepth 20000 in
theorem gX4_heavy_X0_passMinutes : GoodIn wsX4_heavy (wsV RX4 160 RX0 yX0_passMinutes wsX0_passMinutes) := goodIn_app (goodIn_of _ (by decide +kernel)) ggX4_heavy_X0_passMinutes
theorem dX4_heavy_0 : decode cX4_heavy 0 = .ok (.iload_n 1, 1) := by decide +kernel
theorem dX4_heavy_1 : decode cX4_heavy 1 = .ok (.invokestatic 172, 3) := by decide +kernel
theorem dX4_heavy_4 : decode cX4_heavy 4 = .ok (.ifCond .ne 10, 3) := by decide +kernel
theorem dX4_heavy_7 : decode cX4_heavy 7 = .ok (.aload_n 0, 1) := by decide +kernel
theorem dX4_heavy_8 : decode cX4_heavy 8 = .ok (.ldc 47, 2) := by decide +kernel
theorem dX4_heavy_10 : decode cX4_heavy 10 = .ok (.invokevirtual 48, 3) := by decide +kernel
theorem dX4_heavy_13 : decode cX4_heavy 13 = .ok (.ireturn, 1) := by decide +kernel
theorem dX4_heavy_14 : decode cX4_heavy 14 = .ok (.aload_n 0, 1) := by decide +kernel
theorem dX4_heavy_15 : decode cX4_heavy 15 = .ok (.getfield 10, 3) := by decide +kernel
theorem dX4_heavy_18 : decode cX4_heavy 18 = .ok (.invokevirtual 179, 3) := by decide +kernel
theorem dX4_heavy_21 : decode cX4_heavy 21 = .ok (.istore_n 2, 1) := by decide +kernel
theorem dX4_heavy_22 : decode cX4_heavy 22 = .ok (.iconst 1, 1) := by decide +kernel
theorem dX4_heavy_23 : decode cX4_heavy 23 = .ok (.istore_n 3, 1) := by decide +kernel
theorem dX4_heavy_24 : decode cX4_heavy 24 = .ok (.iload_n 3, 1) := by decide +kernel
theorem dX4_heavy_25 : decode cX4_heavy 25 = .ok (.bipush 50, 2) := by decide +kernel
theorem dX4_heavy_27 : decode cX4_heavy 27 = .ok (.if_icmp .gt 49, 3) := by decide +kernel
theorem dX4_heavy_30 : decode cX4_heavy 30 = .ok (.aload_n 0, 1) := by decide +kernel
theorem dX4_heavy_31 : decode cX4_heavy 31 = .ok (.getfield 16, 3) := by decide +kernel
theorem dX4_heavy_34 : decode cX4_heavy 34 = .ok (.aload_n 0, 1) := by decide +kernel
theorem dX4_heavy_35 : decode cX4_heavy 35 = .ok (.getfield 10, 3) := by decide +kernel
theorem dX4_heavy_38 : decode cX4_heavy 38 = .ok (.invokevirtual 164, 3) := by decide +kernel
theorem dX4_heavy_41 : decode cX4_heavy 41 = .ok (.aload_n 0, 1) := by decide +kernel
theorem dX4_heavy_42 : decode cX4_heavy 42 = .ok (.getfield 16, 3) := by decide +kernel
theorem dX4_heavy_45 : decode cX4_heavy 45 = .ok (.iload_n 3, 1) := by decide +kernel
theorem dX4_heavy_46 : decode cX4_heavy 46 = .ok (.putfield 40, 3) := by decide +kernel
theorem dX4_heavy_49 : decode cX4_heavy 49 = .ok (.aload_n 0, 1) := by decide +kernel
theorem dX4_heavy_50 : decode cX4_heavy 50 = .ok (.getfield 16, 3) := by decide +kernel
theorem dX4_heavy_53 : decode cX4_heavy 53 = .ok (.iload_n 1, 1) := by decide +kernel
theorem dX4_heavy_54 : decode cX4_heavy 54 = .ok (.invokevirtual 160, 3) := by decide +kernel
theorem dX4_heavy_57 : decode cX4_heavy 57 = .ok (.aload_n 0, 1) := by decide +kernel
theorem dX4_heavy_58 : decode cX4_heavy 58 = .ok (.getfield 16, 3) := by decide +kernel
theorem dX4_heavy_61 : decode cX4_heavy 61 = .ok (.invokevirtual 179, 3) := by decide +kernel
theorem dX4_heavy_64 : decode cX4_heavy 64 = .ok (.iload_n 2, 1) := by decide +kernel
theorem dX4_heavy_65 : decode cX4_heavy 65 = .ok (.if_icmp .gt 5, 3) := by decide +kernel
theorem dX4_heavy_68 : decode cX4_heavy 68 = .ok (.iload_n 3, 1) := by decide +kernel
theorem dX4_heavy_69 : decode cX4_heavy 69 = .ok (.ireturn, 1) := by decide +kernel
theorem dX4_heavy_70 : decode cX4_heavy 70 = .ok (.iinc 3 1, 3) := by decide +kernel
theorem dX4_heavy_73 : decode cX4_heavy 73 = .ok (.goto (-49), 3) := by decide +kernel
theorem dX4_heavy_76 : decode cX4_heavy 76 = .ok (.aload_n 0, 1) := by decide +kernel
theorem dX4_heavy_77 : decode cX4_heavy 77 = .ok (.ldc 171, 2) := by decide +kernel
theorem dX4_heavy_79 : decode cX4_heavy 79 = .ok (.invokevirtual 48, 3) := by decide +kernel
theorem dX4_heavy_82 : decode cX4_heavy 82 = .ok (.ireturn, 1) := by decide +kernel
set_option maxRecDepth 20000 in
theorem ggX4_fewest_X4_tell : GoodIn wsX4_fewest wsX4_tell := goodIn_r _ [9, 1, 10, 82, 83, 84, 85, 86, 87, 88] (by decide +kernel) (by decide +kernel)
set_option maxRecDepth 20000 in
theorem gX4_fewest_X4_tell : GoodIn wsX4_fewest (wsV RX4 48 RX4 yX4_tell wsX4_tell) := goodIn_app (goodIn_of _ (by decide +kernel)) ggX4_fewest_X4_tell
set_option maxRecDepth 20000 in
theorem ggX4_fewest_X0_outSet : GoodIn wsX4_fewest wsX0_outSet := goodIn_r _ [15, 16, 17, 89, 90, 91, 92, 93, 94, 95, 96, 97, 98, 99, 100, 101, 102] (by decide +kernel) (by decide +kernel)
set_option maxRecDepth 20000 in
theorem gX4_fewest_X0_outSet : GoodIn wsX4_fewest (wsV RX4 78 RX0 yX0_outSet wsX0_outSet) := goodIn_app (goodIn_of _ (by decide +kernel)) ggX4_fewest_X0_outSet
set_option maxRecDepth 20000 in
theorem ggX4_fewest_J6_bitCount_0f7a4 : GoodIn wsX4_fewest wsJ6_bitCount_0f7a4 := goodIn_r _ [21, 22, 23, 24] (by decide +kernel) (by decide +kernel)
set_option maxRecDepth 20000 in
theorem gX4_fewest_J6_bitCount_0f7a4 : GoodIn wsX4_fewest (va_wsS RX4 182 yJ6_bitCount_0f7a4 wsJ6_bitCount_0f7a4) := goodIn_app (goodIn_of _ (by decide +kernel)) ggX4_fewest_J6_bitCount_0f7a4
set_option maxRecDepth 20000 in
theorem ggX4_fewest_X4_pushWith : GoodIn wsX4_fewest wsX4_pushWith := goodIn_r _ [28, 29, 2, 3, 30, 31, 32, 14, 33, 34, 35, 36, 37, 38, 16, 39, 40, 41, 42, 43, 17, 44, 45, 46, 47, 48, 49, 50, 51, 52, 53, 54, 55, 56, 57, 58, 59, 60, 61, 62, 63, 64, 65, 66, 67, 68, 69, 70, 71, 72, 73, 74, 75, 76, 77, 78, 79, 80, 81, 82, 83, 84, 85, 86, 87, 88, 89, 90, 91, 92, 93, 94, 95, 96, 97, 98, 99, 100, 101, 102] (by decide +kernel) (by decide +kernel)
set_option maxRecDepth 20000 in
theorem gX4_fewest_X4_pushWith : GoodIn wsX4_fewest (wsV RX4 187 RX4 yX4_pushWith wsX4_pushWith) := goodIn_app (goodIn_of _ (by decide +kernel)) ggX4_fewest_X4_pushWith
theorem dX4_fewest_0 : decode cX4_fewest 0 = .ok (.iload_n 1, 1) := by decide +kernel
theorem dX4_fewest_1 : decode cX4_fewest 1 = .ok (.ifCond .lt 10, 3) := by decide +kernel
theorem dX4_fewest_4 : decode cX4_fewest 4 = .ok (.iload_n 1, 1) := by decide +kernel
theorem dX4_fewest_5 : decode cX4_fewest 5 = .ok (.sipush 9999, 3) := by decide +kernel
theorem dX4_fewest_8 : decode cX4_fewest 8 = .ok (.if_icmp .le 10, 3) := by decide +kernel
theorem dX4_fewest_11 : decode cX4_fewest 11 = .ok (.aload_n 0, 1) := by decide +kernel
theorem dX4_fewest_12 : decode cX4_fewest 12 = .ok (.ldc 47, 2) := by decide +kernel
theorem dX4_fewest_14 : decode cX4_fewest 14 = .ok (.invokevirtual 48, 3) := by decide +kernel
theorem dX4_fewest_17 : decode cX4_fewest 17 = .ok (.ireturn, 1) := by decide +kernel
theorem dX4_fewest_18 : decode cX4_fewest 18 = .ok (.iconst 1, 1) := by decide +kernel
theorem dX4_fewest_19 : decode cX4_fewest 19 = .ok (.aload_n 0, 1) := by decide +kernel
theorem dX4_fewest_20 : decode cX4_fewest 20 = .ok (.getfield 10, 3) := by decide +kernel
theorem dX4_fewest_23 : decode cX4_fewest 23 = .ok (.getfield 90, 3) := by decide +kernel
theorem dX4_fewest_26 : decode cX4_fewest 26 = .ok (.ishl, 1) := by decide +kernel
theorem dX4_fewest_27 : decode cX4_fewest 27 = .ok (.istore_n 2, 1) := by decide +kernel
theorem dX4_fewest_28 : decode cX4_fewest 28 = .ok (.aload_n 0, 1) := by decide +kernel
theorem dX4_fewest_29 : decode cX4_fewest 29 = .ok (.getfield 10, 3) := by decide +kernel
theorem dX4_fewest_32 : decode cX4_fewest 32 = .ok (.invokevirtual 78, 3) := by decide +kernel
theorem dX4_fewest_35 : decode cX4_fewest 35 = .ok (.istore_n 3, 1) := by decide +kernel
theorem dX4_fewest_36 : decode cX4_fewest 36 = .ok (.iconst (-1), 1) := by decide +kernel
theorem dX4_fewest_37 : decode cX4_fewest 37 = .ok (.istore 4, 2) := by decide +kernel
theorem dX4_fewest_39 : decode cX4_fewest 39 = .ok (.bipush 9, 2) := by decide +kernel
theorem dX4_fewest_41 : decode cX4_fewest 41 = .ok (.istore 5, 2) := by decide +kernel
theorem dX4_fewest_43 : decode cX4_fewest 43 = .ok (.iconst 0, 1) := by decide +kernel
theorem dX4_fewest_44 : decode cX4_fewest 44 = .ok (.istore 6, 2) := by decide +kernel
theorem dX4_fewest_46 : decode cX4_fewest 46 = .ok (.iload 6, 2) := by decide +kernel
theorem dX4_fewest_48 : decode cX4_fewest 48 = .ok (.iload_n 2, 1) := by decide +kernel
theorem dX4_fewest_49 : decode cX4_fewest 49 = .ok (.if_icmp .ge 48, 3) := by decide +kernel
theorem dX4_fewest_52 : decode cX4_fewest 52 = .ok (.iload 6, 2) := by decide +kernel
theorem dX4_fewest_54 : decode cX4_fewest 54 = .ok (.invokestatic 182, 3) := by decide +kernel
theorem dX4_fewest_57 : decode cX4_fewest 57 = .ok (.istore 7, 2) := by decide +kernel
theorem dX4_fewest_59 : decode cX4_fewest 59 = .ok (.iload 7, 2) := by decide +kernel
theorem dX4_fewest_61 : decode cX4_fewest 61 = .ok (.iload 5, 2) := by decide +kernel
theorem dX4_fewest_63 : decode cX4_fewest 63 = .ok (.if_icmp .ge 28, 3) := by decide +kernel
theorem dX4_fewest_66 : decode cX4_fewest 66 = .ok (.iload 6, 2) := by decide +kernel
theorem dX4_fewest_68 : decode cX4_fewest 68 = .ok (.iload_n 3, 1) := by decide +kernel
theorem dX4_fewest_69 : decode cX4_fewest 69 = .ok (.iand, 1) := by decide +kernel
theorem dX4_fewest_70 : decode cX4_fewest 70 = .ok (.ifCond .ne 21, 3) := by decide +kernel
theorem dX4_fewest_73 : decode cX4_fewest 73 = .ok (.aload_n 0, 1) := by decide +kernel
theorem dX4_fewest_74 : decode cX4_fewest 74 = .ok (.iload 6, 2) := by decide +kernel
theorem dX4_fewest_76 : decode cX4_fewest 76 = .ok (.invokevirtual 187, 3) := by decide +kernel
theorem dX4_fewest_79 : decode cX4_fewest 79 = .ok (.iload_n 1, 1) := by decide +kernel
theorem dX4_fewest_80 : decode cX4_fewest 80 = .ok (.if_icmp .lt 11, 3) := by decide +kernel
theorem dX4_fewest_83 : decode cX4_fewest 83 = .ok (.iload 6, 2) := by decide +kernel
theorem dX4_fewest_85 : decode cX4_fewest 85 = .ok (.istore 4, 2) := by decide +kernel
theorem dX4_fewest_87 : decode cX4_fewest 87 = .ok (.iload 7, 2) := by decide +kernel
theorem dX4_fewest_89 : decode cX4_fewest 89 = .ok (.istore 5, 2) := by decide +kernel
theorem dX4_fewest_91 : decode cX4_fewest 91 = .ok (.iinc 6 1, 3) := by decide +kernel
theorem dX4_fewest_94 : decode cX4_fewest 94 = .ok (.goto (-48), 3) := by decide +kernel
theorem dX4_fewest_97 : decode cX4_fewest 97 = .ok (.iload 4, 2) := by decide +kernel
theorem dX4_fewest_99 : decode cX4_fewest 99 = .ok (.ifCond .ge 12, 3) := by decide +kernel
theorem dX4_fewest_102 : decode cX4_fewest 102 = .ok (.aload_n 0, 1) := by decide +kernel
theorem dX4_fewest_103 : decode cX4_fewest 103 = .ok (.ldc 171, 2) := by decide +kernel
theorem dX4_fewest_105 : decode cX4_fewest 105 = .ok (.invokevirtual 48, 3) := by decide +kernel
theorem dX4_fewest_108 : decode cX4_fewest 108 = .ok (.goto 5, 3) := by decide +kernel
theorem dX4_fewest_111 : decode cX4_fewest 111 = .ok (.iload 4, 2) := by decide +kernel
theorem dX4_fewest_113 : decode cX4_fewest 113 = .ok (.ireturn, 1) := by decide +kernel
set_option maxRecDepth 20000 in
theorem ggX4_weather_X4_isNear : GoodIn wsX4_weather wsX4_isNear := goodIn_r _ [13] (by decide +kernel) (by decide +kernel)
set_option maxRecDepth 20000 in
theorem gX4_weather_X4_isNear : GoodIn wsX4_weather (va_wsS RX4 172 yX4_isNear wsX4_isNear) := goodIn_app (goodIn_of _ (by decide +kernel)) ggX4_weather_X4_isNear
set_option maxRecDepth 20000 in
theorem ggX4_weather_X4_tell : GoodIn wsX4_weather wsX4_tell := goodIn_r _ [17, 1, 18, 111, 112, 113, 114, 115, 116, 117] (by decide +kernel) (by decide +kernel)
set_option maxRecDepth 20000 in
theorem gX4_weather_X4_tell : GoodIn wsX4_weather (wsV RX4 48 RX4 yX4_tell wsX4_tell) := goodIn_app (goodIn_of _ (by decide +kernel)) ggX4_weather_X4_tell
set_option maxRecDepth 20000 in
theorem ggX4_weather_X0_become : GoodIn wsX4_weather wsX0_become := goodIn_r _ [23, 24, 25, 26, 27, 28, 29, 30, 31, 32, 33, 34, 35, 36, 37, 38, 39, 40, 41, 118, 119, 120, 121, 122, 123, 124, 125, 126, 127, 128, 129, 130, 131] (by decide +kernel) (by decide +kernel)
set_option maxRecDepth 20000 in
theorem gX4_weather_X0_become : GoodIn wsX4_weather (wsV RX4 164 RX0 yX0_become wsX0_become) := goodIn_app (goodIn_of _ (by decide +kernel)) ggX4_weather_X0_become
set_option maxRecDepth 20000 in
theorem ggX4_weather_X0_passMinutes : GoodIn wsX4_weather wsX0_passMinutes := goodIn_r _ [45, 46, 47, 48, 22, 49, 27, 50, 51, 8, 52, 53, 54, 55, 56, 28, 24, 57, 58, 59, 60, 29, 35, 61, 62, 63, 64, 25, 65, 66, 67, 68, 69, 70, 71, 72, 73, 74, 75, 76, 77, 78, 79, 80, 30, 36, 37, 81, 82, 83, 84, 85, 86, 87, 88, 26, 89, 90, 91, 92, 38, 40, 93, 94, 95, 96, 39, 41, 97, 98, 99, 100, 101, 102, 103, 104, 105, 106, 107, 108, 109, 110, 118, 119, 120, 121, 122, 123, 124, 125, 126, 127, 128, 129, 130, 131] (by decide +kernel) (by decide +kernel)
set_option maxRecDepth 20000 in
theorem gX4_weather_X0_passMinutes : GoodIn wsX4_weather (wsV RX4 160 RX0 yX0_passMinutes wsX0_passMinutes) := goodIn_app (goodIn_of _ (by decide +kernel)) ggX4_weather_X0_passMinutes
theorem dX4_weather_0 : decode cX4_weather 0 = .ok (.iload_n 1, 1) := by decide +kernel
theorem dX4_weather_1 : decode cX4_weather 1 = .ok (.invokestatic 172, 3) := by decide +kernel
theorem dX4_weather_4 : decode cX4_weather 4 = .ok (.ifCond .ne 10, 3) := by decide +kernel
theorem dX4_weather_7 : decode cX4_weather 7 = .ok (.aload_n 0, 1) := by decide +kernel
theorem dX4_weather_8 : decode cX4_weather 8 = .ok (.ldc 47, 2) := by decide +kernel
theorem dX4_weather_10 : decode cX4_weather 10 = .ok (.invokevirtual 48, 3) := by decide +kernel
theorem dX4_weather_13 : decode cX4_weather 13 = .ok (.ireturn, 1) := by decide +kernel
theorem dX4_weather_14 : decode cX4_weather 14 = .ok (.aload_n 0, 1) := by decide +kernel
theorem dX4_weather_15 : decode cX4_weather 15 = .ok (.getfield 16, 3) := by decide +kernel
theorem dX4_weather_18 : decode cX4_weather 18 = .ok (.aload_n 0, 1) := by decide +kernel
theorem dX4_weather_19 : decode cX4_weather 19 = .ok (.getfield 10, 3) := by decide +kernel
theorem dX4_weather_22 : decode cX4_weather 22 = .ok (.invokevirtual 164, 3) := by decide +kernel
theorem dX4_weather_25 : decode cX4_weather 25 = .ok (.aload_n 0, 1) := by decide +kernel
theorem dX4_weather_26 : decode cX4_weather 26 = .ok (.getfield 16, 3) := by decide +kernel
theorem dX4_weather_29 : decode cX4_weather 29 = .ok (.iload_n 1, 1) := by decide +kernel
theorem dX4_weather_30 : decode cX4_weather 30 = .ok (.invokevirtual 160, 3) := by decide +kernel
theorem dX4_weather_33 : decode cX4_weather 33 = .ok (.aload_n 0, 1) := by decide +kernel
theorem dX4_weather_34 : decode cX4_weather 34 = .ok (.getfield 16, 3) := by decide +kernel
theorem dX4_weather_37 : decode cX4_weather 37 = .ok (.getfield 69, 3) := by decide +kernel
theorem dX4_weather_40 : decode cX4_weather 40 = .ok (.istore_n 2, 1) := by decide +kernel
theorem dX4_weather_41 : decode cX4_weather 41 = .ok (.iconst 0, 1) := by decide +kernel
theorem dX4_weather_42 : decode cX4_weather 42 = .ok (.istore_n 3, 1) := by decide +kernel
theorem dX4_weather_43 : decode cX4_weather 43 = .ok (.iconst (-1), 1) := by decide +kernel
theorem dX4_weather_44 : decode cX4_weather 44 = .ok (.istore 4, 2) := by decide +kernel
theorem dX4_weather_46 : decode cX4_weather 46 = .ok (.iconst 0, 1) := by decide +kernel
theorem dX4_weather_47 : decode cX4_weather 47 = .ok (.istore 5, 2) := by decide +kernel
theorem dX4_weather_49 : decode cX4_weather 49 = .ok (.iload 5, 2) := by decide +kernel
theorem dX4_weather_51 : decode cX4_weather 51 = .ok (.iconst 5, 1) := by decide +kernel
theorem dX4_weather_52 : decode cX4_weather 52 = .ok (.if_icmp .ge 75, 3) := by decide +kernel
theorem dX4_weather_55 : decode cX4_weather 55 = .ok (.aload_n 0, 1) := by decide +kernel
theorem dX4_weather_56 : decode cX4_weather 56 = .ok (.getfield 16, 3) := by decide +kernel
theorem dX4_weather_59 : decode cX4_weather 59 = .ok (.aload_n 0, 1) := by decide +kernel
theorem dX4_weather_60 : decode cX4_weather 60 = .ok (.getfield 10, 3) := by decide +kernel
theorem dX4_weather_63 : decode cX4_weather 63 = .ok (.invokevirtual 164, 3) := by decide +kernel
theorem dX4_weather_66 : decode cX4_weather 66 = .ok (.aload_n 0, 1) := by decide +kernel
theorem dX4_weather_67 : decode cX4_weather 67 = .ok (.getfield 16, 3) := by decide +kernel
theorem dX4_weather_70 : decode cX4_weather 70 = .ok (.aload_n 0, 1) := by decide +kernel
theorem dX4_weather_71 : decode cX4_weather 71 = .ok (.getfield 10, 3) := by decide +kernel
theorem dX4_weather_74 : decode cX4_weather 74 = .ok (.getfield 52, 3) := by decide +kernel
theorem dX4_weather_77 : decode cX4_weather 77 = .ok (.iconst 1, 1) := by decide +kernel
theorem dX4_weather_78 : decode cX4_weather 78 = .ok (.iload 5, 2) := by decide +kernel
theorem dX4_weather_80 : decode cX4_weather 80 = .ok (.ishl, 1) := by decide +kernel
theorem dX4_weather_81 : decode cX4_weather 81 = .ok (.ixor, 1) := by decide +kernel
theorem dX4_weather_82 : decode cX4_weather 82 = .ok (.putfield 52, 3) := by decide +kernel
theorem dX4_weather_85 : decode cX4_weather 85 = .ok (.aload_n 0, 1) := by decide +kernel
theorem dX4_weather_86 : decode cX4_weather 86 = .ok (.getfield 16, 3) := by decide +kernel
theorem dX4_weather_89 : decode cX4_weather 89 = .ok (.iload_n 1, 1) := by decide +kernel
theorem dX4_weather_90 : decode cX4_weather 90 = .ok (.invokevirtual 160, 3) := by decide +kernel
theorem dX4_weather_93 : decode cX4_weather 93 = .ok (.aload_n 0, 1) := by decide +kernel
theorem dX4_weather_94 : decode cX4_weather 94 = .ok (.getfield 16, 3) := by decide +kernel
theorem dX4_weather_97 : decode cX4_weather 97 = .ok (.getfield 69, 3) := by decide +kernel
theorem dX4_weather_100 : decode cX4_weather 100 = .ok (.iload_n 2, 1) := by decide +kernel
theorem dX4_weather_101 : decode cX4_weather 101 = .ok (.isub, 1) := by decide +kernel
theorem dX4_weather_102 : decode cX4_weather 102 = .ok (.invokestatic 190, 3) := by decide +kernel
theorem dX4_weather_105 : decode cX4_weather 105 = .ok (.istore 6, 2) := by decide +kernel
theorem dX4_weather_107 : decode cX4_weather 107 = .ok (.iload 6, 2) := by decide +kernel
theorem dX4_weather_109 : decode cX4_weather 109 = .ok (.iload 4, 2) := by decide +kernel
theorem dX4_weather_111 : decode cX4_weather 111 = .ok (.if_icmp .le 10, 3) := by decide +kernel
theorem dX4_weather_114 : decode cX4_weather 114 = .ok (.iload 5, 2) := by decide +kernel
theorem dX4_weather_116 : decode cX4_weather 116 = .ok (.istore_n 3, 1) := by decide +kernel
theorem dX4_weather_117 : decode cX4_weather 117 = .ok (.iload 6, 2) := by decide +kernel
theorem dX4_weather_119 : decode cX4_weather 119 = .ok (.istore 4, 2) := by decide +kernel
theorem dX4_weather_121 : decode cX4_weather 121 = .ok (.iinc 5 1, 3) := by decide +kernel
theorem dX4_weather_124 : decode cX4_weather 124 = .ok (.goto (-75), 3) := by decide +kernel
theorem dX4_weather_127 : decode cX4_weather 127 = .ok (.iload_n 3, 1) := by decide +kernel
theorem dX4_weather_128 : decode cX4_weather 128 = .ok (.ireturn, 1) := by decide +kernel
set_option maxRecDepth 20000 in
theorem ggX4_deepest_X4_tell : GoodIn wsX4_deepest wsX4_tell := goodIn_r _ [11, 1, 12, 109, 110, 111, 112, 113, 114, 115] (by decide +kernel) (by decide +kernel)
set_option maxRecDepth 20000 in
theorem gX4_deepest_X4_tell : GoodIn wsX4_deepest (wsV RX4 48 RX4 yX4_tell wsX4_tell) := goodIn_app (goodIn_of _ (by decide +kernel)) ggX4_deepest_X4_tell
set_option maxRecDepth 20000 in
theorem ggX4_deepest_X0_become : GoodIn wsX4_deepest wsX0_become := goodIn_r _ [17, 18, 19, 20, 21, 22, 23, 24, 25, 26, 27, 28, 29, 30, 31, 32, 33, 34, 35, 116, 117, 118, 119, 120, 121, 122, 123, 124, 125, 126, 127, 128, 129] (by decide +kernel) (by decide +kernel)
set_option maxRecDepth 20000 in
theorem gX4_deepest_X0_become : GoodIn wsX4_deepest (wsV RX4 164 RX0 yX0_become wsX0_become) := goodIn_app (goodIn_of _ (by decide +kernel)) ggX4_deepest_X0_become
set_option maxRecDepth 20000 in
theorem ggX4_deepest_X0_passMinutes : GoodIn wsX4_deepest wsX0_passMinutes := goodIn_r _ [39, 40, 41, 42, 16, 43, 21, 44, 45, 46, 47, 48, 49, 50, 51, 22, 18, 52, 53, 54, 55, 23, 29, 56, 57, 58, 59, 19, 60, 61, 62, 63, 64, 65, 66, 67, 68, 69, 70, 71, 72, 73, 74, 75, 24, 30, 31, 76, 77, 78, 79, 80, 81, 82, 83, 20, 84, 85, 86, 87, 32, 34, 88, 89, 90, 91, 33, 35, 92, 93, 94, 95, 96, 97, 98, 99, 100, 101, 102, 103, 104, 105, 116, 117, 118, 119, 120, 121, 122, 123, 124, 125, 126, 127, 128, 129] (by decide +kernel) (by decide +kernel)
set_option maxRecDepth 20000 in
theorem gX4_deepest_X0_passMinutes : GoodIn wsX4_deepest (wsV RX4 160 RX0 yX0_passMinutes wsX0_passMinutes) := goodIn_app (goodIn_of _ (by decide +kernel)) ggX4_deepest_X0_passMinutes
set_option maxRecDepth 20000 in
theorem ggX4_deepest_X0_outCount : GoodIn wsX4_deepest wsX0_outCount := goodIn_r _ [67, 23, 29, 116, 117, 118, 119, 120, 121, 122, 123, 124, 125, 126, 127, 128, 129] (by decide +kernel) (by decide +kernel)
set_option maxRecDepth 20000 in
theorem gX4_deepest_X0_outCount : GoodIn wsX4_deepest (wsV RX4 113 RX0 yX0_outCount wsX0_outCount) := goodIn_app (goodIn_of _ (by decide +kernel)) ggX4_deepest_X0_outCount
set_option maxRecDepth 20000 in
theorem ggX4_deepest_X0_isNight : GoodIn wsX4_deepest wsX0_isNight := goodIn_r _ [71, 60, 61, 62, 16, 63, 18, 116, 117, 118, 119, 120, 121, 122, 123, 124, 125, 126, 127, 128, 129] (by decide +kernel) (by decide +kernel)
set_option maxRecDepth 20000 in
theorem gX4_deepest_X0_isNight : GoodIn wsX4_deepest (wsV RX4 62 RX0 yX0_isNight wsX0_isNight) := goodIn_app (goodIn_of _ (by decide +kernel)) ggX4_deepest_X0_isNight
set_option maxRecDepth 20000 in
theorem ggX4_deepest_X0_keepsNow : GoodIn wsX4_deepest wsX0_keepsNow := goodIn_r _ [75, 24, 30, 31, 29, 76, 77, 78, 79, 116, 117, 118, 119, 120, 121, 122, 123, 124, 125, 126, 127, 128, 129] (by decide +kernel) (by decide +kernel)
set_option maxRecDepth 20000 in
theorem gX4_deepest_X0_keepsNow : GoodIn wsX4_deepest (wsV RX4 116 RX0 yX0_keepsNow wsX0_keepsNow) := goodIn_app (goodIn_of _ (by decide +kernel)) ggX4_deepest_X0_keepsNow
theorem dX4_deepest_0 : decode cX4_deepest 0 = .ok (.iload_n 1, 1) := by decide +kernel
theorem dX4_deepest_1 : decode cX4_deepest 1 = .ok (.ifCond .lt 10, 3) := by decide +kernel
theorem dX4_deepest_4 : decode cX4_deepest 4 = .ok (.iload_n 1, 1) := by decide +kernel
theorem dX4_deepest_5 : decode cX4_deepest 5 = .ok (.sipush 200, 3) := by decide +kernel
theorem dX4_deepest_8 : decode cX4_deepest 8 = .ok (.if_icmp .le 10, 3) := by decide +kernel
theorem dX4_deepest_11 : decode cX4_deepest 11 = .ok (.aload_n 0, 1) := by decide +kernel
theorem dX4_deepest_12 : decode cX4_deepest 12 = .ok (.ldc 47, 2) := by decide +kernel
theorem dX4_deepest_14 : decode cX4_deepest 14 = .ok (.invokevirtual 48, 3) := by decide +kernel
theorem dX4_deepest_17 : decode cX4_deepest 17 = .ok (.ireturn, 1) := by decide +kernel
theorem dX4_deepest_18 : decode cX4_deepest 18 = .ok (.aload_n 0, 1) := by decide +kernel
theorem dX4_deepest_19 : decode cX4_deepest 19 = .ok (.getfield 16, 3) := by decide +kernel
theorem dX4_deepest_22 : decode cX4_deepest 22 = .ok (.aload_n 0, 1) := by decide +kernel
theorem dX4_deepest_23 : decode cX4_deepest 23 = .ok (.getfield 10, 3) := by decide +kernel
theorem dX4_deepest_26 : decode cX4_deepest 26 = .ok (.invokevirtual 164, 3) := by decide +kernel
theorem dX4_deepest_29 : decode cX4_deepest 29 = .ok (.aload_n 0, 1) := by decide +kernel
theorem dX4_deepest_30 : decode cX4_deepest 30 = .ok (.getfield 16, 3) := by decide +kernel
theorem dX4_deepest_33 : decode cX4_deepest 33 = .ok (.iload_n 1, 1) := by decide +kernel
theorem dX4_deepest_34 : decode cX4_deepest 34 = .ok (.invokevirtual 160, 3) := by decide +kernel
theorem dX4_deepest_37 : decode cX4_deepest 37 = .ok (.aload_n 0, 1) := by decide +kernel
theorem dX4_deepest_38 : decode cX4_deepest 38 = .ok (.getfield 16, 3) := by decide +kernel
theorem dX4_deepest_41 : decode cX4_deepest 41 = .ok (.invokevirtual 113, 3) := by decide +kernel
theorem dX4_deepest_44 : decode cX4_deepest 44 = .ok (.istore_n 2, 1) := by decide +kernel
theorem dX4_deepest_45 : decode cX4_deepest 45 = .ok (.aload_n 0, 1) := by decide +kernel
theorem dX4_deepest_46 : decode cX4_deepest 46 = .ok (.getfield 16, 3) := by decide +kernel
theorem dX4_deepest_49 : decode cX4_deepest 49 = .ok (.invokevirtual 62, 3) := by decide +kernel
theorem dX4_deepest_52 : decode cX4_deepest 52 = .ok (.istore_n 3, 1) := by decide +kernel
theorem dX4_deepest_53 : decode cX4_deepest 53 = .ok (.iconst (-1), 1) := by decide +kernel
theorem dX4_deepest_54 : decode cX4_deepest 54 = .ok (.istore 4, 2) := by decide +kernel
theorem dX4_deepest_56 : decode cX4_deepest 56 = .ok (.iconst (-1), 1) := by decide +kernel
theorem dX4_deepest_57 : decode cX4_deepest 57 = .ok (.istore 5, 2) := by decide +kernel
theorem dX4_deepest_59 : decode cX4_deepest 59 = .ok (.iconst 0, 1) := by decide +kernel
theorem dX4_deepest_60 : decode cX4_deepest 60 = .ok (.istore 6, 2) := by decide +kernel
theorem dX4_deepest_62 : decode cX4_deepest 62 = .ok (.iload 6, 2) := by decide +kernel
theorem dX4_deepest_64 : decode cX4_deepest 64 = .ok (.aload_n 0, 1) := by decide +kernel
theorem dX4_deepest_65 : decode cX4_deepest 65 = .ok (.getfield 16, 3) := by decide +kernel
theorem dX4_deepest_68 : decode cX4_deepest 68 = .ok (.getfield 90, 3) := by decide +kernel
theorem dX4_deepest_71 : decode cX4_deepest 71 = .ok (.if_icmp .ge 51, 3) := by decide +kernel
theorem dX4_deepest_74 : decode cX4_deepest 74 = .ok (.aload_n 0, 1) := by decide +kernel
theorem dX4_deepest_75 : decode cX4_deepest 75 = .ok (.getfield 16, 3) := by decide +kernel
theorem dX4_deepest_78 : decode cX4_deepest 78 = .ok (.getfield 104, 3) := by decide +kernel
theorem dX4_deepest_81 : decode cX4_deepest 81 = .ok (.iload 6, 2) := by decide +kernel
theorem dX4_deepest_83 : decode cX4_deepest 83 = .ok (.iaload, 1) := by decide +kernel
theorem dX4_deepest_84 : decode cX4_deepest 84 = .ok (.iconst 1, 1) := by decide +kernel
theorem dX4_deepest_85 : decode cX4_deepest 85 = .ok (.if_icmp .ne 31, 3) := by decide +kernel
theorem dX4_deepest_88 : decode cX4_deepest 88 = .ok (.aload_n 0, 1) := by decide +kernel
theorem dX4_deepest_89 : decode cX4_deepest 89 = .ok (.getfield 16, 3) := by decide +kernel
theorem dX4_deepest_92 : decode cX4_deepest 92 = .ok (.iload 6, 2) := by decide +kernel
theorem dX4_deepest_94 : decode cX4_deepest 94 = .ok (.iload_n 2, 1) := by decide +kernel
theorem dX4_deepest_95 : decode cX4_deepest 95 = .ok (.iload_n 3, 1) := by decide +kernel
theorem dX4_deepest_96 : decode cX4_deepest 96 = .ok (.invokevirtual 116, 3) := by decide +kernel
theorem dX4_deepest_99 : decode cX4_deepest 99 = .ok (.istore 7, 2) := by decide +kernel
theorem dX4_deepest_101 : decode cX4_deepest 101 = .ok (.iload 7, 2) := by decide +kernel
theorem dX4_deepest_103 : decode cX4_deepest 103 = .ok (.iload 5, 2) := by decide +kernel
theorem dX4_deepest_105 : decode cX4_deepest 105 = .ok (.if_icmp .le 11, 3) := by decide +kernel
theorem dX4_deepest_108 : decode cX4_deepest 108 = .ok (.iload 6, 2) := by decide +kernel
theorem dX4_deepest_110 : decode cX4_deepest 110 = .ok (.istore 4, 2) := by decide +kernel
theorem dX4_deepest_112 : decode cX4_deepest 112 = .ok (.iload 7, 2) := by decide +kernel
theorem dX4_deepest_114 : decode cX4_deepest 114 = .ok (.istore 5, 2) := by decide +kernel
theorem dX4_deepest_116 : decode cX4_deepest 116 = .ok (.iinc 6 1, 3) := by decide +kernel
theorem dX4_deepest_119 : decode cX4_deepest 119 = .ok (.goto (-57), 3) := by decide +kernel
theorem dX4_deepest_122 : decode cX4_deepest 122 = .ok (.iload 4, 2) := by decide +kernel
theorem dX4_deepest_124 : decode cX4_deepest 124 = .ok (.ifCond .ge 12, 3) := by decide +kernel
theorem dX4_deepest_127 : decode cX4_deepest 127 = .ok (.aload_n 0, 1) := by decide +kernel
theorem dX4_deepest_128 : decode cX4_deepest 128 = .ok (.ldc 171, 2) := by decide +kernel
theorem dX4_deepest_130 : decode cX4_deepest 130 = .ok (.invokevirtual 48, 3) := by decide +kernel
theorem dX4_deepest_133 : decode cX4_deepest 133 = .ok (.goto 5, 3) := by decide +kernel
theorem dX4_deepest_136 : decode cX4_deepest 136 = .ok (.iload 4, 2) := by decide +kernel
theorem dX4_deepest_138 : decode cX4_deepest 138 = .ok (.ireturn, 1) := by decide +kernel
set_option maxRecDepth 20000 in
theorem ggX4_feed_X4_tell : GoodIn wsX4_feed wsX4_tell := goodIn_r _ [10, 1, 11, 12, 13, 14, 15, 16, 17, 18] (by decide +kernel) (by decide +kernel)
set_option maxRecDepth 20000 in
theorem gX4_feed_X4_tell : GoodIn wsX4_feed (wsV RX4 48 RX4 yX4_tell wsX4_tell) := goodIn_app (goodIn_of _ (by decide +kernel)) ggX4_feed_X4_tell
theorem dX4_feed_0 : decode cX4_feed 0 = .ok (.iload_n 2, 1) := by decide +kernel
theorem dX4_feed_1 : decode cX4_feed 1 = .ok (.iconst 1, 1) := by decide +kernel
theorem dX4_feed_2 : decode cX4_feed 2 = .ok (.if_icmp .lt 8, 3) := by decide +kernel
theorem dX4_feed_5 : decode cX4_feed 5 = .ok (.iload_n 2, 1) := by decide +kernel
theorem dX4_feed_6 : decode cX4_feed 6 = .ok (.iconst 4, 1) := by decide +kernel
theorem dX4_feed_7 : decode cX4_feed 7 = .ok (.if_icmp .le 10, 3) := by decide +kernel
theorem dX4_feed_10 : decode cX4_feed 10 = .ok (.aload_n 0, 1) := by decide +kernel
theorem dX4_feed_11 : decode cX4_feed 11 = .ok (.ldc 47, 2) := by decide +kernel
theorem dX4_feed_13 : decode cX4_feed 13 = .ok (.invokevirtual 48, 3) := by decide +kernel
theorem dX4_feed_16 : decode cX4_feed 16 = .ok (.ireturn, 1) := by decide +kernel
theorem dX4_feed_17 : decode cX4_feed 17 = .ok (.aload_n 0, 1) := by decide +kernel
theorem dX4_feed_18 : decode cX4_feed 18 = .ok (.getfield 25, 3) := by decide +kernel
theorem dX4_feed_21 : decode cX4_feed 21 = .ok (.getfield 195, 3) := by decide +kernel
theorem dX4_feed_24 : decode cX4_feed 24 = .ok (.iload_n 2, 1) := by decide +kernel
theorem dX4_feed_25 : decode cX4_feed 25 = .ok (.iadd, 1) := by decide +kernel
theorem dX4_feed_26 : decode cX4_feed 26 = .ok (.bipush 120, 2) := by decide +kernel
theorem dX4_feed_28 : decode cX4_feed 28 = .ok (.if_icmp .le 10, 3) := by decide +kernel
theorem dX4_feed_31 : decode cX4_feed 31 = .ok (.aload_n 0, 1) := by decide +kernel
theorem dX4_feed_32 : decode cX4_feed 32 = .ok (.ldc 93, 2) := by decide +kernel
theorem dX4_feed_34 : decode cX4_feed 34 = .ok (.invokevirtual 48, 3) := by decide +kernel
theorem dX4_feed_37 : decode cX4_feed 37 = .ok (.ireturn, 1) := by decide +kernel
theorem dX4_feed_38 : decode cX4_feed 38 = .ok (.iload_n 2, 1) := by decide +kernel
theorem dX4_feed_39 : decode cX4_feed 39 = .ok (.iconst 1, 1) := by decide +kernel
theorem dX4_feed_40 : decode cX4_feed 40 = .ok (.isub, 1) := by decide +kernel
theorem dX4_feed_41 : decode cX4_feed 41 = .ok (.istore_n 3, 1) := by decide +kernel
theorem dX4_feed_42 : decode cX4_feed 42 = .ok (.iload_n 3, 1) := by decide +kernel
theorem dX4_feed_43 : decode cX4_feed 43 = .ok (.ifCond .lt 47, 3) := by decide +kernel
theorem dX4_feed_46 : decode cX4_feed 46 = .ok (.aload_n 0, 1) := by decide +kernel
theorem dX4_feed_47 : decode cX4_feed 47 = .ok (.getfield 25, 3) := by decide +kernel
theorem dX4_feed_50 : decode cX4_feed 50 = .ok (.getfield 198, 3) := by decide +kernel
theorem dX4_feed_53 : decode cX4_feed 53 = .ok (.aload_n 0, 1) := by decide +kernel
theorem dX4_feed_54 : decode cX4_feed 54 = .ok (.getfield 25, 3) := by decide +kernel
theorem dX4_feed_57 : decode cX4_feed 57 = .ok (.getfield 195, 3) := by decide +kernel
theorem dX4_feed_60 : decode cX4_feed 60 = .ok (.iload_n 1, 1) := by decide +kernel
theorem dX4_feed_61 : decode cX4_feed 61 = .ok (.bipush 8, 2) := by decide +kernel
theorem dX4_feed_63 : decode cX4_feed 63 = .ok (.iload_n 3, 1) := by decide +kernel
theorem dX4_feed_64 : decode cX4_feed 64 = .ok (.imul, 1) := by decide +kernel
theorem dX4_feed_65 : decode cX4_feed 65 = .ok (.ishr, 1) := by decide +kernel
theorem dX4_feed_66 : decode cX4_feed 66 = .ok (.sipush 255, 3) := by decide +kernel
theorem dX4_feed_69 : decode cX4_feed 69 = .ok (.iand, 1) := by decide +kernel
theorem dX4_feed_70 : decode cX4_feed 70 = .ok (.iastore, 1) := by decide +kernel
theorem dX4_feed_71 : decode cX4_feed 71 = .ok (.aload_n 0, 1) := by decide +kernel
theorem dX4_feed_72 : decode cX4_feed 72 = .ok (.getfield 25, 3) := by decide +kernel
theorem dX4_feed_75 : decode cX4_feed 75 = .ok (.dup, 1) := by decide +kernel
theorem dX4_feed_76 : decode cX4_feed 76 = .ok (.getfield 195, 3) := by decide +kernel
theorem dX4_feed_79 : decode cX4_feed 79 = .ok (.iconst 1, 1) := by decide +kernel
theorem dX4_feed_80 : decode cX4_feed 80 = .ok (.iadd, 1) := by decide +kernel
theorem dX4_feed_81 : decode cX4_feed 81 = .ok (.putfield 195, 3) := by decide +kernel
theorem dX4_feed_84 : decode cX4_feed 84 = .ok (.iinc 3 (-1), 3) := by decide +kernel
theorem dX4_feed_87 : decode cX4_feed 87 = .ok (.goto (-45), 3) := by decide +kernel
theorem dX4_feed_90 : decode cX4_feed 90 = .ok (.aload_n 0, 1) := by decide +kernel
theorem dX4_feed_91 : decode cX4_feed 91 = .ok (.getfield 25, 3) := by decide +kernel
theorem dX4_feed_94 : decode cX4_feed 94 = .ok (.getfield 195, 3) := by decide +kernel
theorem dX4_feed_97 : decode cX4_feed 97 = .ok (.ireturn, 1) := by decide +kernel
theorem dX4_wipe_0 : decode cX4_wipe 0 = .ok (.aload_n 0, 1) := by decide +kernel
theorem dX4_wipe_1 : decode cX4_wipe 1 = .ok (.getfield 25, 3) := by decide +kernel
theorem dX4_wipe_4 : decode cX4_wipe 4 = .ok (.getfield 195, 3) := by decide +kernel
theorem dX4_wipe_7 : decode cX4_wipe 7 = .ok (.istore_n 1, 1) := by decide +kernel
theorem dX4_wipe_8 : decode cX4_wipe 8 = .ok (.aload_n 0, 1) := by decide +kernel
theorem dX4_wipe_9 : decode cX4_wipe 9 = .ok (.getfield 25, 3) := by decide +kernel
theorem dX4_wipe_12 : decode cX4_wipe 12 = .ok (.iconst 0, 1) := by decide +kernel
theorem dX4_wipe_13 : decode cX4_wipe 13 = .ok (.putfield 195, 3) := by decide +kernel
theorem dX4_wipe_16 : decode cX4_wipe 16 = .ok (.iload_n 1, 1) := by decide +kernel
theorem dX4_wipe_17 : decode cX4_wipe 17 = .ok (.ireturn, 1) := by decide +kernel
set_option maxRecDepth 20000 in
theorem ggX4_green_X0_become : GoodIn wsX4_green wsX0_become := goodIn_r _ [9, 10, 11, 12, 13, 14, 15, 16, 17, 18, 19, 20, 21, 22, 23, 24, 25, 26, 27, 164, 165, 166, 167, 168, 169, 170, 171, 172, 173, 174, 175, 176, 177] (by decide +kernel) (by decide +kernel)
set_option maxRecDepth 20000 in
theorem gX4_green_X0_become : GoodIn wsX4_green (wsV RX4 164 RX0 yX0_become wsX0_become) := goodIn_app (goodIn_of _ (by decide +kernel)) ggX4_green_X0_become
set_option maxRecDepth 20000 in
theorem ggX4_green_X3_addItems : GoodIn wsX4_green wsX3_addItems := goodIn_r _ [32, 33, 34, 35, 36, 37, 38, 31, 39, 40, 41, 42, 43, 44, 45, 46, 47, 48, 49, 50, 51, 52, 53, 54, 55, 56, 57, 58, 59, 60, 61, 62, 63, 64, 65, 66, 67, 68, 69, 70, 71, 72, 73, 74, 75, 76, 77, 78, 79, 80, 81, 82, 83, 84, 85, 86, 87, 88, 89, 90, 91, 92, 93, 94, 95, 96, 97, 98, 99, 100, 101, 102, 103, 104, 105, 106, 107, 108, 109, 110, 111, 112, 113, 114, 115, 116, 117, 118, 119, 120, 121, 122, 123, 124, 125, 126, 8, 127, 15, 16, 21, 22, 23, 128, 129, 130, 131, 132, 133, 134, 135, 136, 24, 25, 26, 27, 137, 138, 139, 140, 141, 142, 143, 144, 145, 146, 147, 148, 149, 150, 158, 159, 160, 161, 162, 163, 164, 165, 166, 167, 168, 169, 170, 171, 172, 173, 174, 175, 176, 177] (by decide +kernel) (by decide +kernel)
set_option maxRecDepth 20000 in
theorem gX4_green_X3_addItems : GoodIn wsX4_green (wsV RX4 201 RX3 yX3_addItems wsX3_addItems) := goodIn_app (goodIn_of _ (by decide +kernel)) ggX4_green_X3_addItems
theorem dX4_green_0 : decode cX4_green 0 = .ok (.aload_n 0, 1) := by decide +kernel
theorem dX4_green_1 : decode cX4_green 1 = .ok (.getfield 16, 3) := by decide +kernel
theorem dX4_green_4 : decode cX4_green 4 = .ok (.aload_n 0, 1) := by decide +kernel
theorem dX4_green_5 : decode cX4_green 5 = .ok (.getfield 10, 3) := by decide +kernel
theorem dX4_green_8 : decode cX4_green 8 = .ok (.invokevirtual 164, 3) := by decide +kernel
theorem dX4_green_11 : decode cX4_green 11 = .ok (.aload_n 0, 1) := by decide +kernel
theorem dX4_green_12 : decode cX4_green 12 = .ok (.getfield 25, 3) := by decide +kernel
theorem dX4_green_15 : decode cX4_green 15 = .ok (.aload_n 0, 1) := by decide +kernel
theorem dX4_green_16 : decode cX4_green 16 = .ok (.getfield 16, 3) := by decide +kernel
theorem dX4_green_19 : decode cX4_green 19 = .ok (.invokevirtual 201, 3) := by decide +kernel
theorem dX4_green_22 : decode cX4_green 22 = .ok (.istore_n 1, 1) := by decide +kernel
theorem dX4_green_23 : decode cX4_green 23 = .ok (.aload_n 0, 1) := by decide +kernel
theorem dX4_green_24 : decode cX4_green 24 = .ok (.getfield 25, 3) := by decide +kernel
theorem dX4_green_27 : decode cX4_green 27 = .ok (.iconst 0, 1) := by decide +kernel
theorem dX4_green_28 : decode cX4_green 28 = .ok (.putfield 195, 3) := by decide +kernel
theorem dX4_green_31 : decode cX4_green 31 = .ok (.iload_n 1, 1) := by decide +kernel
theorem dX4_green_32 : decode cX4_green 32 = .ok (.ifCond .lt 14, 3) := by decide +kernel
theorem dX4_green_35 : decode cX4_green 35 = .ok (.aload_n 0, 1) := by decide +kernel
theorem dX4_green_36 : decode cX4_green 36 = .ok (.getfield 10, 3) := by decide +kernel
theorem dX4_green_39 : decode cX4_green 39 = .ok (.aload_n 0, 1) := by decide +kernel
theorem dX4_green_40 : decode cX4_green 40 = .ok (.getfield 16, 3) := by decide +kernel
theorem dX4_green_43 : decode cX4_green 43 = .ok (.invokevirtual 164, 3) := by decide +kernel
theorem dX4_green_46 : decode cX4_green 46 = .ok (.iload_n 1, 1) := by decide +kernel
theorem dX4_green_47 : decode cX4_green 47 = .ok (.ireturn, 1) := by decide +kernel
set_option maxRecDepth 20000 in
theorem ggX4_sheet_X2_isSheet : GoodIn wsX4_sheet wsX2_isSheet := goodIn_r _ [8] (by decide +kernel) (by decide +kernel)
set_option maxRecDepth 20000 in
theorem gX4_sheet_X2_isSheet : GoodIn wsX4_sheet (wsV RX4 205 RX2 yX2_isSheet wsX2_isSheet) := goodIn_app (goodIn_of _ (by decide +kernel)) ggX4_sheet_X2_isSheet
set_option maxRecDepth 20000 in
theorem ggX4_sheet_X4_tell : GoodIn wsX4_sheet wsX4_tell := goodIn_r _ [13, 2, 14, 22, 23, 24, 25, 26, 27, 28] (by decide +kernel) (by decide +kernel)
set_option maxRecDepth 20000 in
theorem gX4_sheet_X4_tell : GoodIn wsX4_sheet (wsV RX4 48 RX4 yX4_tell wsX4_tell) := goodIn_app (goodIn_of _ (by decide +kernel)) ggX4_sheet_X4_tell
set_option maxRecDepth 20000 in
theorem ggX4_sheet_X2_lay : GoodIn wsX4_sheet wsX2_lay := goodIn_r _ [18, 19, 20, 21, 29, 30, 31] (by decide +kernel) (by decide +kernel)
set_option maxRecDepth 20000 in
theorem gX4_sheet_X2_lay : GoodIn wsX4_sheet (wsV RX4 209 RX2 yX2_lay wsX2_lay) := goodIn_app (goodIn_of _ (by decide +kernel)) ggX4_sheet_X2_lay
theorem dX4_sheet_0 : decode cX4_sheet 0 = .ok (.aload_n 0, 1) := by decide +kernel
theorem dX4_sheet_1 : decode cX4_sheet 1 = .ok (.getfield 32, 3) := by decide +kernel
theorem dX4_sheet_4 : decode cX4_sheet 4 = .ok (.iload_n 1, 1) := by decide +kernel
theorem dX4_sheet_5 : decode cX4_sheet 5 = .ok (.invokevirtual 205, 3) := by decide +kernel
theorem dX4_sheet_8 : decode cX4_sheet 8 = .ok (.ifCond .eq 25, 3) := by decide +kernel
theorem dX4_sheet_11 : decode cX4_sheet 11 = .ok (.iload_n 2, 1) := by decide +kernel
theorem dX4_sheet_12 : decode cX4_sheet 12 = .ok (.ifCond .eq 28, 3) := by decide +kernel
theorem dX4_sheet_15 : decode cX4_sheet 15 = .ok (.iload_n 2, 1) := by decide +kernel
theorem dX4_sheet_16 : decode cX4_sheet 16 = .ok (.bipush 8, 2) := by decide +kernel
theorem dX4_sheet_18 : decode cX4_sheet 18 = .ok (.if_icmp .eq 22, 3) := by decide +kernel
theorem dX4_sheet_21 : decode cX4_sheet 21 = .ok (.iload_n 2, 1) := by decide +kernel
theorem dX4_sheet_22 : decode cX4_sheet 22 = .ok (.bipush 16, 2) := by decide +kernel
theorem dX4_sheet_24 : decode cX4_sheet 24 = .ok (.if_icmp .eq 16, 3) := by decide +kernel
theorem dX4_sheet_27 : decode cX4_sheet 27 = .ok (.iload_n 2, 1) := by decide +kernel
theorem dX4_sheet_28 : decode cX4_sheet 28 = .ok (.bipush 64, 2) := by decide +kernel
theorem dX4_sheet_30 : decode cX4_sheet 30 = .ok (.if_icmp .eq 10, 3) := by decide +kernel
theorem dX4_sheet_33 : decode cX4_sheet 33 = .ok (.aload_n 0, 1) := by decide +kernel
theorem dX4_sheet_34 : decode cX4_sheet 34 = .ok (.ldc 47, 2) := by decide +kernel
theorem dX4_sheet_36 : decode cX4_sheet 36 = .ok (.invokevirtual 48, 3) := by decide +kernel
theorem dX4_sheet_39 : decode cX4_sheet 39 = .ok (.ireturn, 1) := by decide +kernel
theorem dX4_sheet_40 : decode cX4_sheet 40 = .ok (.iload_n 3, 1) := by decide +kernel
theorem dX4_sheet_41 : decode cX4_sheet 41 = .ok (.ifCond .ge 10, 3) := by decide +kernel
theorem dX4_sheet_44 : decode cX4_sheet 44 = .ok (.aload_n 0, 1) := by decide +kernel
theorem dX4_sheet_45 : decode cX4_sheet 45 = .ok (.ldc 208, 2) := by decide +kernel
theorem dX4_sheet_47 : decode cX4_sheet 47 = .ok (.invokevirtual 48, 3) := by decide +kernel
theorem dX4_sheet_50 : decode cX4_sheet 50 = .ok (.ireturn, 1) := by decide +kernel
theorem dX4_sheet_51 : decode cX4_sheet 51 = .ok (.iload_n 3, 1) := by decide +kernel
theorem dX4_sheet_52 : decode cX4_sheet 52 = .ok (.bipush 40, 2) := by decide +kernel
theorem dX4_sheet_54 : decode cX4_sheet 54 = .ok (.if_icmp .le 10, 3) := by decide +kernel
theorem dX4_sheet_57 : decode cX4_sheet 57 = .ok (.aload_n 0, 1) := by decide +kernel
theorem dX4_sheet_58 : decode cX4_sheet 58 = .ok (.ldc 47, 2) := by decide +kernel
theorem dX4_sheet_60 : decode cX4_sheet 60 = .ok (.invokevirtual 48, 3) := by decide +kernel
theorem dX4_sheet_63 : decode cX4_sheet 63 = .ok (.ireturn, 1) := by decide +kernel
theorem dX4_sheet_64 : decode cX4_sheet 64 = .ok (.aload_n 0, 1) := by decide +kernel
theorem dX4_sheet_65 : decode cX4_sheet 65 = .ok (.getfield 32, 3) := by decide +kernel
theorem dX4_sheet_68 : decode cX4_sheet 68 = .ok (.iload_n 1, 1) := by decide +kernel
theorem dX4_sheet_69 : decode cX4_sheet 69 = .ok (.iload_n 2, 1) := by decide +kernel
theorem dX4_sheet_70 : decode cX4_sheet 70 = .ok (.iload_n 2, 1) := by decide +kernel
theorem dX4_sheet_71 : decode cX4_sheet 71 = .ok (.ifCond .ne 7, 3) := by decide +kernel
theorem dX4_sheet_74 : decode cX4_sheet 74 = .ok (.iconst 0, 1) := by decide +kernel
theorem dX4_sheet_75 : decode cX4_sheet 75 = .ok (.goto 4, 3) := by decide +kernel
theorem dX4_sheet_78 : decode cX4_sheet 78 = .ok (.iload_n 3, 1) := by decide +kernel
theorem dX4_sheet_79 : decode cX4_sheet 79 = .ok (.invokevirtual 209, 3) := by decide +kernel
theorem dX4_sheet_82 : decode cX4_sheet 82 = .ok (.ireturn, 1) := by decide +kernel
set_option maxRecDepth 20000 in
theorem ggX4_write_X2_isSheet : GoodIn wsX4_write wsX2_isSheet := goodIn_r _ [9] (by decide +kernel) (by decide +kernel)
set_option maxRecDepth 20000 in
theorem gX4_write_X2_isSheet : GoodIn wsX4_write (wsV RX4 205 RX2 yX2_isSheet wsX2_isSheet) := goodIn_app (goodIn_of _ (by decide +kernel)) ggX4_write_X2_isSheet
set_option maxRecDepth 20000 in
theorem ggX4_write_X4_tell : GoodIn wsX4_write wsX4_tell := goodIn_r _ [14, 2, 15, 30, 31, 32, 33, 34, 35, 36] (by decide +kernel) (by decide +kernel)
set_option maxRecDepth 20000 in
theorem gX4_write_X4_tell : GoodIn wsX4_write (wsV RX4 48 RX4 yX4_tell wsX4_tell) := goodIn_app (goodIn_of _ (by decide +kernel)) ggX4_write_X4_tell
set_option maxRecDepth 20000 in
theorem ggX4_write_X2_isMissing : GoodIn wsX4_write wsX2_isMissing := goodIn_r _ [19, 20, 37, 38, 39] (by decide +kernel) (by decide +kernel)
set_option maxRecDepth 20000 in
theorem gX4_write_X2_isMissing : GoodIn wsX4_write (wsV RX4 212 RX2 yX2_isMissing wsX2_isMissing) := goodIn_app (goodIn_of _ (by decide +kernel)) ggX4_write_X2_isMissing
set_option maxRecDepth 20000 in
theorem ggX4_write_X2_numberAt : GoodIn wsX4_write wsX2_numberAt := goodIn_r _ [24, 25, 37, 38, 39] (by decide +kernel) (by decide +kernel)
set_option maxRecDepth 20000 in
theorem gX4_write_X2_numberAt : GoodIn wsX4_write (wsV RX4 219 RX2 yX2_numberAt wsX2_numberAt) := goodIn_app (goodIn_of _ (by decide +kernel)) ggX4_write_X2_numberAt
set_option maxRecDepth 20000 in
theorem ggX4_write_X2_put : GoodIn wsX4_write wsX2_put := goodIn_r _ [29, 20, 25, 37, 38, 39] (by decide +kernel) (by decide +kernel)
set_option maxRecDepth 20000 in
theorem gX4_write_X2_put : GoodIn wsX4_write (wsV RX4 223 RX2 yX2_put wsX2_put) := goodIn_app (goodIn_of _ (by decide +kernel)) ggX4_write_X2_put
theorem dX4_write_0 : decode cX4_write 0 = .ok (.aload_n 0, 1) := by decide +kernel
theorem dX4_write_1 : decode cX4_write 1 = .ok (.getfield 32, 3) := by decide +kernel
theorem dX4_write_4 : decode cX4_write 4 = .ok (.iload_n 1, 1) := by decide +kernel
theorem dX4_write_5 : decode cX4_write 5 = .ok (.invokevirtual 205, 3) := by decide +kernel
theorem dX4_write_8 : decode cX4_write 8 = .ok (.ifCond .ne 11, 3) := by decide +kernel
theorem dX4_write_11 : decode cX4_write 11 = .ok (.aload_n 0, 1) := by decide +kernel
theorem dX4_write_12 : decode cX4_write 12 = .ok (.ldc 47, 2) := by decide +kernel
theorem dX4_write_14 : decode cX4_write 14 = .ok (.invokevirtual 48, 3) := by decide +kernel
theorem dX4_write_17 : decode cX4_write 17 = .ok (.i2l, 1) := by decide +kernel
theorem dX4_write_18 : decode cX4_write 18 = .ok (.lreturn, 1) := by decide +kernel
theorem dX4_write_19 : decode cX4_write 19 = .ok (.aload_n 0, 1) := by decide +kernel
theorem dX4_write_20 : decode cX4_write 20 = .ok (.getfield 32, 3) := by decide +kernel
theorem dX4_write_23 : decode cX4_write 23 = .ok (.iload_n 1, 1) := by decide +kernel
theorem dX4_write_24 : decode cX4_write 24 = .ok (.invokevirtual 212, 3) := by decide +kernel
theorem dX4_write_27 : decode cX4_write 27 = .ok (.ifCond .eq 11, 3) := by decide +kernel
theorem dX4_write_30 : decode cX4_write 30 = .ok (.aload_n 0, 1) := by decide +kernel
theorem dX4_write_31 : decode cX4_write 31 = .ok (.ldc 215, 2) := by decide +kernel
theorem dX4_write_33 : decode cX4_write 33 = .ok (.invokevirtual 48, 3) := by decide +kernel
theorem dX4_write_36 : decode cX4_write 36 = .ok (.i2l, 1) := by decide +kernel
theorem dX4_write_37 : decode cX4_write 37 = .ok (.lreturn, 1) := by decide +kernel
theorem dX4_write_38 : decode cX4_write 38 = .ok (.iload_n 2, 1) := by decide +kernel
theorem dX4_write_39 : decode cX4_write 39 = .ok (.ifCond .lt 16, 3) := by decide +kernel
theorem dX4_write_42 : decode cX4_write 42 = .ok (.iload_n 2, 1) := by decide +kernel
theorem dX4_write_43 : decode cX4_write 43 = .ok (.aload_n 0, 1) := by decide +kernel
theorem dX4_write_44 : decode cX4_write 44 = .ok (.getfield 32, 3) := by decide +kernel
theorem dX4_write_47 : decode cX4_write 47 = .ok (.getfield 216, 3) := by decide +kernel
theorem dX4_write_50 : decode cX4_write 50 = .ok (.iload_n 1, 1) := by decide +kernel
theorem dX4_write_51 : decode cX4_write 51 = .ok (.iaload, 1) := by decide +kernel
theorem dX4_write_52 : decode cX4_write 52 = .ok (.if_icmp .lt 11, 3) := by decide +kernel
theorem dX4_write_55 : decode cX4_write 55 = .ok (.aload_n 0, 1) := by decide +kernel
theorem dX4_write_56 : decode cX4_write 56 = .ok (.ldc 47, 2) := by decide +kernel
theorem dX4_write_58 : decode cX4_write 58 = .ok (.invokevirtual 48, 3) := by decide +kernel
theorem dX4_write_61 : decode cX4_write 61 = .ok (.i2l, 1) := by decide +kernel
theorem dX4_write_62 : decode cX4_write 62 = .ok (.lreturn, 1) := by decide +kernel
theorem dX4_write_63 : decode cX4_write 63 = .ok (.aload_n 0, 1) := by decide +kernel
theorem dX4_write_64 : decode cX4_write 64 = .ok (.getfield 32, 3) := by decide +kernel
theorem dX4_write_67 : decode cX4_write 67 = .ok (.iload_n 1, 1) := by decide +kernel
theorem dX4_write_68 : decode cX4_write 68 = .ok (.iload_n 2, 1) := by decide +kernel
theorem dX4_write_69 : decode cX4_write 69 = .ok (.invokevirtual 219, 3) := by decide +kernel
theorem dX4_write_72 : decode cX4_write 72 = .ok (.lstore 5, 2) := by decide +kernel
theorem dX4_write_74 : decode cX4_write 74 = .ok (.aload_n 0, 1) := by decide +kernel
theorem dX4_write_75 : decode cX4_write 75 = .ok (.getfield 32, 3) := by decide +kernel
theorem dX4_write_78 : decode cX4_write 78 = .ok (.iload_n 1, 1) := by decide +kernel
theorem dX4_write_79 : decode cX4_write 79 = .ok (.iload_n 2, 1) := by decide +kernel
theorem dX4_write_80 : decode cX4_write 80 = .ok (.lload_n 3, 1) := by decide +kernel
theorem dX4_write_81 : decode cX4_write 81 = .ok (.invokevirtual 223, 3) := by decide +kernel
theorem dX4_write_84 : decode cX4_write 84 = .ok (.lload 5, 2) := by decide +kernel
theorem dX4_write_86 : decode cX4_write 86 = .ok (.lreturn, 1) := by decide +kernel
set_option maxRecDepth 20000 in
theorem ggX4_copy_X2_isSheet : GoodIn wsX4_copy wsX2_isSheet := goodIn_r _ [10] (by decide +kernel) (by decide +kernel)
set_option maxRecDepth 20000 in
theorem gX4_copy_X2_isSheet : GoodIn wsX4_copy (wsV RX4 205 RX2 yX2_isSheet wsX2_isSheet) := goodIn_app (goodIn_of _ (by decide +kernel)) ggX4_copy_X2_isSheet
set_option maxRecDepth 20000 in
theorem ggX4_copy_X4_tell : GoodIn wsX4_copy wsX4_tell := goodIn_r _ [15, 2, 16, 36, 37, 38, 39, 40, 41, 42] (by decide +kernel) (by decide +kernel)
set_option maxRecDepth 20000 in
theorem gX4_copy_X4_tell : GoodIn wsX4_copy (wsV RX4 48 RX4 yX4_tell wsX4_tell) := goodIn_app (goodIn_of _ (by decide +kernel)) ggX4_copy_X4_tell
set_option maxRecDepth 20000 in
theorem ggX4_copy_X2_isMissing : GoodIn wsX4_copy wsX2_isMissing := goodIn_r _ [20, 21, 43, 44, 45] (by decide +kernel) (by decide +kernel)
set_option maxRecDepth 20000 in
theorem gX4_copy_X2_isMissing : GoodIn wsX4_copy (wsV RX4 212 RX2 yX2_isMissing wsX2_isMissing) := goodIn_app (goodIn_of _ (by decide +kernel)) ggX4_copy_X2_isMissing
set_option maxRecDepth 20000 in
theorem ggX4_copy_X2_hasRange : GoodIn wsX4_copy wsX2_hasRange := goodIn_r _ [25, 26, 43, 44, 45] (by decide +kernel) (by decide +kernel)
set_option maxRecDepth 20000 in
theorem gX4_copy_X2_hasRange : GoodIn wsX4_copy (wsV RX4 230 RX2 yX2_hasRange wsX2_hasRange) := goodIn_app (goodIn_of _ (by decide +kernel)) ggX4_copy_X2_hasRange
set_option maxRecDepth 20000 in
theorem ggX4_copy_X2_move : GoodIn wsX4_copy wsX2_move := goodIn_r _ [30, 31, 32, 33, 34, 35, 43, 44, 45] (by decide +kernel) (by decide +kernel)
set_option maxRecDepth 20000 in
theorem gX4_copy_X2_move : GoodIn wsX4_copy (wsV RX4 233 RX2 yX2_move wsX2_move) := goodIn_app (goodIn_of _ (by decide +kernel)) ggX4_copy_X2_move
theorem dX4_copy_0 : decode cX4_copy 0 = .ok (.aload_n 0, 1) := by decide +kernel
theorem dX4_copy_1 : decode cX4_copy 1 = .ok (.getfield 32, 3) := by decide +kernel
theorem dX4_copy_4 : decode cX4_copy 4 = .ok (.iload_n 1, 1) := by decide +kernel
theorem dX4_copy_5 : decode cX4_copy 5 = .ok (.invokevirtual 205, 3) := by decide +kernel
theorem dX4_copy_8 : decode cX4_copy 8 = .ok (.ifCond .eq 14, 3) := by decide +kernel
theorem dX4_copy_11 : decode cX4_copy 11 = .ok (.aload_n 0, 1) := by decide +kernel
theorem dX4_copy_12 : decode cX4_copy 12 = .ok (.getfield 32, 3) := by decide +kernel
theorem dX4_copy_15 : decode cX4_copy 15 = .ok (.iload_n 3, 1) := by decide +kernel
theorem dX4_copy_16 : decode cX4_copy 16 = .ok (.invokevirtual 205, 3) := by decide +kernel
theorem dX4_copy_19 : decode cX4_copy 19 = .ok (.ifCond .ne 10, 3) := by decide +kernel
theorem dX4_copy_22 : decode cX4_copy 22 = .ok (.aload_n 0, 1) := by decide +kernel
theorem dX4_copy_23 : decode cX4_copy 23 = .ok (.ldc 47, 2) := by decide +kernel
theorem dX4_copy_25 : decode cX4_copy 25 = .ok (.invokevirtual 48, 3) := by decide +kernel
theorem dX4_copy_28 : decode cX4_copy 28 = .ok (.ireturn, 1) := by decide +kernel
theorem dX4_copy_29 : decode cX4_copy 29 = .ok (.aload_n 0, 1) := by decide +kernel
theorem dX4_copy_30 : decode cX4_copy 30 = .ok (.getfield 32, 3) := by decide +kernel
theorem dX4_copy_33 : decode cX4_copy 33 = .ok (.iload_n 1, 1) := by decide +kernel
theorem dX4_copy_34 : decode cX4_copy 34 = .ok (.invokevirtual 212, 3) := by decide +kernel
theorem dX4_copy_37 : decode cX4_copy 37 = .ok (.ifCond .ne 14, 3) := by decide +kernel
theorem dX4_copy_40 : decode cX4_copy 40 = .ok (.aload_n 0, 1) := by decide +kernel
theorem dX4_copy_41 : decode cX4_copy 41 = .ok (.getfield 32, 3) := by decide +kernel
theorem dX4_copy_44 : decode cX4_copy 44 = .ok (.iload_n 3, 1) := by decide +kernel
theorem dX4_copy_45 : decode cX4_copy 45 = .ok (.invokevirtual 212, 3) := by decide +kernel
theorem dX4_copy_48 : decode cX4_copy 48 = .ok (.ifCond .eq 10, 3) := by decide +kernel
theorem dX4_copy_51 : decode cX4_copy 51 = .ok (.aload_n 0, 1) := by decide +kernel
theorem dX4_copy_52 : decode cX4_copy 52 = .ok (.ldc 215, 2) := by decide +kernel
theorem dX4_copy_54 : decode cX4_copy 54 = .ok (.invokevirtual 48, 3) := by decide +kernel
theorem dX4_copy_57 : decode cX4_copy 57 = .ok (.ireturn, 1) := by decide +kernel
theorem dX4_copy_58 : decode cX4_copy 58 = .ok (.aload_n 0, 1) := by decide +kernel
theorem dX4_copy_59 : decode cX4_copy 59 = .ok (.getfield 32, 3) := by decide +kernel
theorem dX4_copy_62 : decode cX4_copy 62 = .ok (.getfield 227, 3) := by decide +kernel
theorem dX4_copy_65 : decode cX4_copy 65 = .ok (.iload_n 1, 1) := by decide +kernel
theorem dX4_copy_66 : decode cX4_copy 66 = .ok (.iaload, 1) := by decide +kernel
theorem dX4_copy_67 : decode cX4_copy 67 = .ok (.aload_n 0, 1) := by decide +kernel
theorem dX4_copy_68 : decode cX4_copy 68 = .ok (.getfield 32, 3) := by decide +kernel
theorem dX4_copy_71 : decode cX4_copy 71 = .ok (.getfield 227, 3) := by decide +kernel
theorem dX4_copy_74 : decode cX4_copy 74 = .ok (.iload_n 3, 1) := by decide +kernel
theorem dX4_copy_75 : decode cX4_copy 75 = .ok (.iaload, 1) := by decide +kernel
theorem dX4_copy_76 : decode cX4_copy 76 = .ok (.if_icmp .eq 10, 3) := by decide +kernel
theorem dX4_copy_79 : decode cX4_copy 79 = .ok (.aload_n 0, 1) := by decide +kernel
theorem dX4_copy_80 : decode cX4_copy 80 = .ok (.ldc 135, 2) := by decide +kernel
theorem dX4_copy_82 : decode cX4_copy 82 = .ok (.invokevirtual 48, 3) := by decide +kernel
theorem dX4_copy_85 : decode cX4_copy 85 = .ok (.ireturn, 1) := by decide +kernel
theorem dX4_copy_86 : decode cX4_copy 86 = .ok (.aload_n 0, 1) := by decide +kernel
theorem dX4_copy_87 : decode cX4_copy 87 = .ok (.getfield 32, 3) := by decide +kernel
theorem dX4_copy_90 : decode cX4_copy 90 = .ok (.iload_n 1, 1) := by decide +kernel
theorem dX4_copy_91 : decode cX4_copy 91 = .ok (.iload_n 2, 1) := by decide +kernel
theorem dX4_copy_92 : decode cX4_copy 92 = .ok (.iload 5, 2) := by decide +kernel
theorem dX4_copy_94 : decode cX4_copy 94 = .ok (.invokevirtual 230, 3) := by decide +kernel
theorem dX4_copy_97 : decode cX4_copy 97 = .ok (.ifCond .eq 18, 3) := by decide +kernel
theorem dX4_copy_100 : decode cX4_copy 100 = .ok (.aload_n 0, 1) := by decide +kernel
theorem dX4_copy_101 : decode cX4_copy 101 = .ok (.getfield 32, 3) := by decide +kernel
theorem dX4_copy_104 : decode cX4_copy 104 = .ok (.iload_n 3, 1) := by decide +kernel
theorem dX4_copy_105 : decode cX4_copy 105 = .ok (.iload 4, 2) := by decide +kernel
theorem dX4_copy_107 : decode cX4_copy 107 = .ok (.iload 5, 2) := by decide +kernel
theorem dX4_copy_109 : decode cX4_copy 109 = .ok (.invokevirtual 230, 3) := by decide +kernel
theorem dX4_copy_112 : decode cX4_copy 112 = .ok (.ifCond .ne 10, 3) := by decide +kernel
theorem dX4_copy_115 : decode cX4_copy 115 = .ok (.aload_n 0, 1) := by decide +kernel
theorem dX4_copy_116 : decode cX4_copy 116 = .ok (.ldc 47, 2) := by decide +kernel
theorem dX4_copy_118 : decode cX4_copy 118 = .ok (.invokevirtual 48, 3) := by decide +kernel
theorem dX4_copy_121 : decode cX4_copy 121 = .ok (.ireturn, 1) := by decide +kernel
theorem dX4_copy_122 : decode cX4_copy 122 = .ok (.aload_n 0, 1) := by decide +kernel
theorem dX4_copy_123 : decode cX4_copy 123 = .ok (.getfield 32, 3) := by decide +kernel
theorem dX4_copy_126 : decode cX4_copy 126 = .ok (.iload_n 1, 1) := by decide +kernel
theorem dX4_copy_127 : decode cX4_copy 127 = .ok (.iload_n 2, 1) := by decide +kernel
theorem dX4_copy_128 : decode cX4_copy 128 = .ok (.iload_n 3, 1) := by decide +kernel
theorem dX4_copy_129 : decode cX4_copy 129 = .ok (.iload 4, 2) := by decide +kernel
theorem dX4_copy_131 : decode cX4_copy 131 = .ok (.iload 5, 2) := by decide +kernel
theorem dX4_copy_133 : decode cX4_copy 133 = .ok (.invokevirtual 233, 3) := by decide +kernel
theorem dX4_copy_136 : decode cX4_copy 136 = .ok (.iload 5, 2) := by decide +kernel
theorem dX4_copy_138 : decode cX4_copy 138 = .ok (.ireturn, 1) := by decide +kernel
set_option maxRecDepth 20000 in
theorem ggX4_lays_X2_isSheet : GoodIn wsX4_lays wsX2_isSheet := goodIn_r _ [13] (by decide +kernel) (by decide +kernel)
set_option maxRecDepth 20000 in
theorem gX4_lays_X2_isSheet : GoodIn wsX4_lays (wsV RX4 205 RX2 yX2_isSheet wsX2_isSheet) := goodIn_app (goodIn_of _ (by decide +kernel)) ggX4_lays_X2_isSheet
set_option maxRecDepth 20000 in
theorem ggX4_lays_X4_tell : GoodIn wsX4_lays wsX4_tell := goodIn_r _ [18, 2, 19, 30, 31, 32, 33, 34, 35, 36] (by decide +kernel) (by decide +kernel)
set_option maxRecDepth 20000 in
theorem gX4_lays_X4_tell : GoodIn wsX4_lays (wsV RX4 48 RX4 yX4_tell wsX4_tell) := goodIn_app (goodIn_of _ (by decide +kernel)) ggX4_lays_X4_tell
set_option maxRecDepth 20000 in
theorem ggX4_lays_X2_isMissing : GoodIn wsX4_lays wsX2_isMissing := goodIn_r _ [23, 24, 37, 38, 39] (by decide +kernel) (by decide +kernel)
set_option maxRecDepth 20000 in
theorem gX4_lays_X2_isMissing : GoodIn wsX4_lays (wsV RX4 212 RX2 yX2_isMissing wsX2_isMissing) := goodIn_app (goodIn_of _ (by decide +kernel)) ggX4_lays_X2_isMissing
set_option maxRecDepth 20000 in
theorem ggX4_lays_X2_numberAt : GoodIn wsX4_lays wsX2_numberAt := goodIn_r _ [28, 29, 37, 38, 39] (by decide +kernel) (by decide +kernel)
set_option maxRecDepth 20000 in
theorem gX4_lays_X2_numberAt : GoodIn wsX4_lays (wsV RX4 219 RX2 yX2_numberAt wsX2_numberAt) := goodIn_app (goodIn_of _ (by decide +kernel)) ggX4_lays_X2_numberAt
theorem dX4_lays_0 : decode cX4_lays 0 = .ok (.aload_n 0, 1) := by decide +kernel
theorem dX4_lays_1 : decode cX4_lays 1 = .ok (.getfield 32, 3) := by decide +kernel
theorem dX4_lays_4 : decode cX4_lays 4 = .ok (.iload_n 1, 1) := by decide +kernel
theorem dX4_lays_5 : decode cX4_lays 5 = .ok (.invokevirtual 205, 3) := by decide +kernel
theorem dX4_lays_8 : decode cX4_lays 8 = .ok (.ifCond .ne 10, 3) := by decide +kernel
theorem dX4_lays_11 : decode cX4_lays 11 = .ok (.aload_n 0, 1) := by decide +kernel
theorem dX4_lays_12 : decode cX4_lays 12 = .ok (.ldc 47, 2) := by decide +kernel
theorem dX4_lays_14 : decode cX4_lays 14 = .ok (.invokevirtual 48, 3) := by decide +kernel
theorem dX4_lays_17 : decode cX4_lays 17 = .ok (.ireturn, 1) := by decide +kernel
theorem dX4_lays_18 : decode cX4_lays 18 = .ok (.aload_n 0, 1) := by decide +kernel
theorem dX4_lays_19 : decode cX4_lays 19 = .ok (.getfield 32, 3) := by decide +kernel
theorem dX4_lays_22 : decode cX4_lays 22 = .ok (.iload_n 1, 1) := by decide +kernel
theorem dX4_lays_23 : decode cX4_lays 23 = .ok (.invokevirtual 212, 3) := by decide +kernel
theorem dX4_lays_26 : decode cX4_lays 26 = .ok (.ifCond .eq 10, 3) := by decide +kernel
theorem dX4_lays_29 : decode cX4_lays 29 = .ok (.aload_n 0, 1) := by decide +kernel
theorem dX4_lays_30 : decode cX4_lays 30 = .ok (.ldc 215, 2) := by decide +kernel
theorem dX4_lays_32 : decode cX4_lays 32 = .ok (.invokevirtual 48, 3) := by decide +kernel
theorem dX4_lays_35 : decode cX4_lays 35 = .ok (.ireturn, 1) := by decide +kernel
theorem dX4_lays_36 : decode cX4_lays 36 = .ok (.iconst 0, 1) := by decide +kernel
theorem dX4_lays_37 : decode cX4_lays 37 = .ok (.istore_n 2, 1) := by decide +kernel
theorem dX4_lays_38 : decode cX4_lays 38 = .ok (.iconst 0, 1) := by decide +kernel
theorem dX4_lays_39 : decode cX4_lays 39 = .ok (.istore_n 3, 1) := by decide +kernel
theorem dX4_lays_40 : decode cX4_lays 40 = .ok (.iload_n 3, 1) := by decide +kernel
theorem dX4_lays_41 : decode cX4_lays 41 = .ok (.aload_n 0, 1) := by decide +kernel
theorem dX4_lays_42 : decode cX4_lays 42 = .ok (.getfield 32, 3) := by decide +kernel
theorem dX4_lays_45 : decode cX4_lays 45 = .ok (.getfield 216, 3) := by decide +kernel
theorem dX4_lays_48 : decode cX4_lays 48 = .ok (.iload_n 1, 1) := by decide +kernel
theorem dX4_lays_49 : decode cX4_lays 49 = .ok (.iaload, 1) := by decide +kernel
theorem dX4_lays_50 : decode cX4_lays 50 = .ok (.if_icmp .ge 62, 3) := by decide +kernel
theorem dX4_lays_53 : decode cX4_lays 53 = .ok (.iload_n 3, 1) := by decide +kernel
theorem dX4_lays_54 : decode cX4_lays 54 = .ok (.aload_n 0, 1) := by decide +kernel
theorem dX4_lays_55 : decode cX4_lays 55 = .ok (.getfield 10, 3) := by decide +kernel
theorem dX4_lays_58 : decode cX4_lays 58 = .ok (.getfield 90, 3) := by decide +kernel
theorem dX4_lays_61 : decode cX4_lays 61 = .ok (.if_icmp .ge 51, 3) := by decide +kernel
theorem dX4_lays_64 : decode cX4_lays 64 = .ok (.aload_n 0, 1) := by decide +kernel
theorem dX4_lays_65 : decode cX4_lays 65 = .ok (.getfield 32, 3) := by decide +kernel
theorem dX4_lays_68 : decode cX4_lays 68 = .ok (.iload_n 1, 1) := by decide +kernel
theorem dX4_lays_69 : decode cX4_lays 69 = .ok (.iload_n 3, 1) := by decide +kernel
theorem dX4_lays_70 : decode cX4_lays 70 = .ok (.invokevirtual 219, 3) := by decide +kernel
theorem dX4_lays_73 : decode cX4_lays 73 = .ok (.lstore 4, 2) := by decide +kernel
theorem dX4_lays_75 : decode cX4_lays 75 = .ok (.lload 4, 2) := by decide +kernel
theorem dX4_lays_77 : decode cX4_lays 77 = .ok (.lconst 0, 1) := by decide +kernel
theorem dX4_lays_78 : decode cX4_lays 78 = .ok (.lcmp, 1) := by decide +kernel
theorem dX4_lays_79 : decode cX4_lays 79 = .ok (.ifCond .lt 27, 3) := by decide +kernel
theorem dX4_lays_82 : decode cX4_lays 82 = .ok (.lload 4, 2) := by decide +kernel
theorem dX4_lays_84 : decode cX4_lays 84 = .ok (.ldc2_w 237, 3) := by decide +kernel
theorem dX4_lays_87 : decode cX4_lays 87 = .ok (.lcmp, 1) := by decide +kernel
theorem dX4_lays_88 : decode cX4_lays 88 = .ok (.ifCond .gt 18, 3) := by decide +kernel
theorem dX4_lays_91 : decode cX4_lays 91 = .ok (.aload_n 0, 1) := by decide +kernel
theorem dX4_lays_92 : decode cX4_lays 92 = .ok (.getfield 10, 3) := by decide +kernel
theorem dX4_lays_95 : decode cX4_lays 95 = .ok (.getfield 107, 3) := by decide +kernel
theorem dX4_lays_98 : decode cX4_lays 98 = .ok (.iload_n 3, 1) := by decide +kernel
theorem dX4_lays_99 : decode cX4_lays 99 = .ok (.lload 4, 2) := by decide +kernel
theorem dX4_lays_101 : decode cX4_lays 101 = .ok (.l2i, 1) := by decide +kernel
theorem dX4_lays_102 : decode cX4_lays 102 = .ok (.iastore, 1) := by decide +kernel
theorem dX4_lays_103 : decode cX4_lays 103 = .ok (.iinc 2 1, 3) := by decide +kernel
theorem dX4_lays_106 : decode cX4_lays 106 = .ok (.iinc 3 1, 3) := by decide +kernel
theorem dX4_lays_109 : decode cX4_lays 109 = .ok (.goto (-69), 3) := by decide +kernel
theorem dX4_lays_112 : decode cX4_lays 112 = .ok (.iload_n 2, 1) := by decide +kernel
theorem dX4_lays_113 : decode cX4_lays 113 = .ok (.ireturn, 1) := by decide +kernel
set_option maxRecDepth 20000 in
theorem ggX4_book_X2_isSheet : GoodIn wsX4_book wsX2_isSheet := goodIn_r _ [12] (by decide +kernel) (by decide +kernel)
set_option maxRecDepth 20000 in
theorem gX4_book_X2_isSheet : GoodIn wsX4_book (wsV RX4 205 RX2 yX2_isSheet wsX2_isSheet) := goodIn_app (goodIn_of _ (by decide +kernel)) ggX4_book_X2_isSheet
set_option maxRecDepth 20000 in
theorem ggX4_book_X4_tell : GoodIn wsX4_book wsX4_tell := goodIn_r _ [17, 2, 18, 118, 119, 120, 121, 122, 123, 124] (by decide +kernel) (by decide +kernel)
set_option maxRecDepth 20000 in
theorem gX4_book_X4_tell : GoodIn wsX4_book (wsV RX4 48 RX4 yX4_tell wsX4_tell) := goodIn_app (goodIn_of _ (by decide +kernel)) ggX4_book_X4_tell
set_option maxRecDepth 20000 in
theorem ggX4_book_X2_isMissing : GoodIn wsX4_book wsX2_isMissing := goodIn_r _ [22, 23, 125, 126, 127] (by decide +kernel) (by decide +kernel)
set_option maxRecDepth 20000 in
theorem gX4_book_X2_isMissing : GoodIn wsX4_book (wsV RX4 212 RX2 yX2_isMissing wsX2_isMissing) := goodIn_app (goodIn_of _ (by decide +kernel)) ggX4_book_X2_isMissing
set_option maxRecDepth 20000 in
theorem ggX4_book_X0_become : GoodIn wsX4_book wsX0_become := goodIn_r _ [28, 29, 30, 31, 32, 33, 34, 35, 36, 37, 38, 39, 40, 41, 42, 43, 44, 45, 46, 128, 129, 130, 131, 132, 133, 134, 135, 136, 137, 138, 139, 140, 141] (by decide +kernel) (by decide +kernel)
set_option maxRecDepth 20000 in
theorem gX4_book_X0_become : GoodIn wsX4_book (wsV RX4 164 RX0 yX0_become wsX0_become) := goodIn_app (goodIn_of _ (by decide +kernel)) ggX4_book_X0_become
set_option maxRecDepth 20000 in
theorem ggX4_book_X2_put : GoodIn wsX4_book wsX2_put := goodIn_r _ [50, 23, 51, 125, 126, 127] (by decide +kernel) (by decide +kernel)
set_option maxRecDepth 20000 in
theorem gX4_book_X2_put : GoodIn wsX4_book (wsV RX4 223 RX2 yX2_put wsX2_put) := goodIn_app (goodIn_of _ (by decide +kernel)) ggX4_book_X2_put
set_option maxRecDepth 20000 in
theorem ggX4_book_X0_passMinute : GoodIn wsX4_book wsX0_passMinute := goodIn_r _ [55, 32, 56, 57, 58, 59, 60, 61, 62, 63, 33, 29, 64, 65, 66, 27, 67, 34, 40, 68, 69, 70, 71, 30, 72, 73, 74, 75, 76, 77, 78, 79, 80, 81, 82, 83, 84, 85, 86, 87, 35, 41, 42, 88, 89, 90, 91, 92, 93, 94, 95, 31, 96, 97, 98, 99, 43, 45, 100, 101, 102, 103, 44, 46, 104, 105, 106, 107, 108, 109, 110, 111, 112, 113, 114, 115, 116, 117, 128, 129, 130, 131, 132, 133, 134, 135, 136, 137, 138, 139, 140, 141] (by decide +kernel) (by decide +kernel)
set_option maxRecDepth 20000 in
theorem gX4_book_X0_passMinute : GoodIn wsX4_book (wsV RX4 168 RX0 yX0_passMinute wsX0_passMinute) := goodIn_app (goodIn_of _ (by decide +kernel)) ggX4_book_X0_passMinute
theorem dX4_book_0 : decode cX4_book 0 = .ok (.aload_n 0, 1) := by decide +kernel
theorem dX4_book_1 : decode cX4_book 1 = .ok (.getfield 32, 3) := by decide +kernel
theorem dX4_book_4 : decode cX4_book 4 = .ok (.iload_n 1, 1) := by decide +kernel
theorem dX4_book_5 : decode cX4_book 5 = .ok (.invokevirtual 205, 3) := by decide +kernel
theorem dX4_book_8 : decode cX4_book 8 = .ok (.ifCond .ne 10, 3) := by decide +kernel
theorem dX4_book_11 : decode cX4_book 11 = .ok (.aload_n 0, 1) := by decide +kernel
theorem dX4_book_12 : decode cX4_book 12 = .ok (.ldc 47, 2) := by decide +kernel
theorem dX4_book_14 : decode cX4_book 14 = .ok (.invokevirtual 48, 3) := by decide +kernel
theorem dX4_book_17 : decode cX4_book 17 = .ok (.ireturn, 1) := by decide +kernel
theorem dX4_book_18 : decode cX4_book 18 = .ok (.aload_n 0, 1) := by decide +kernel
theorem dX4_book_19 : decode cX4_book 19 = .ok (.getfield 32, 3) := by decide +kernel
theorem dX4_book_22 : decode cX4_book 22 = .ok (.iload_n 1, 1) := by decide +kernel
theorem dX4_book_23 : decode cX4_book 23 = .ok (.invokevirtual 212, 3) := by decide +kernel
theorem dX4_book_26 : decode cX4_book 26 = .ok (.ifCond .eq 10, 3) := by decide +kernel
theorem dX4_book_29 : decode cX4_book 29 = .ok (.aload_n 0, 1) := by decide +kernel
theorem dX4_book_30 : decode cX4_book 30 = .ok (.ldc 215, 2) := by decide +kernel
theorem dX4_book_32 : decode cX4_book 32 = .ok (.invokevirtual 48, 3) := by decide +kernel
theorem dX4_book_35 : decode cX4_book 35 = .ok (.ireturn, 1) := by decide +kernel
theorem dX4_book_36 : decode cX4_book 36 = .ok (.aload_n 0, 1) := by decide +kernel
theorem dX4_book_37 : decode cX4_book 37 = .ok (.getfield 16, 3) := by decide +kernel
theorem dX4_book_40 : decode cX4_book 40 = .ok (.aload_n 0, 1) := by decide +kernel
theorem dX4_book_41 : decode cX4_book 41 = .ok (.getfield 10, 3) := by decide +kernel
theorem dX4_book_44 : decode cX4_book 44 = .ok (.invokevirtual 164, 3) := by decide +kernel
theorem dX4_book_47 : decode cX4_book 47 = .ok (.iconst 0, 1) := by decide +kernel
theorem dX4_book_48 : decode cX4_book 48 = .ok (.istore_n 2, 1) := by decide +kernel
theorem dX4_book_49 : decode cX4_book 49 = .ok (.iload_n 2, 1) := by decide +kernel
theorem dX4_book_50 : decode cX4_book 50 = .ok (.aload_n 0, 1) := by decide +kernel
theorem dX4_book_51 : decode cX4_book 51 = .ok (.getfield 32, 3) := by decide +kernel
theorem dX4_book_54 : decode cX4_book 54 = .ok (.getfield 216, 3) := by decide +kernel
theorem dX4_book_57 : decode cX4_book 57 = .ok (.iload_n 1, 1) := by decide +kernel
theorem dX4_book_58 : decode cX4_book 58 = .ok (.iaload, 1) := by decide +kernel
theorem dX4_book_59 : decode cX4_book 59 = .ok (.if_icmp .ge 33, 3) := by decide +kernel
theorem dX4_book_62 : decode cX4_book 62 = .ok (.aload_n 0, 1) := by decide +kernel
theorem dX4_book_63 : decode cX4_book 63 = .ok (.getfield 32, 3) := by decide +kernel
theorem dX4_book_66 : decode cX4_book 66 = .ok (.iload_n 1, 1) := by decide +kernel
theorem dX4_book_67 : decode cX4_book 67 = .ok (.iload_n 2, 1) := by decide +kernel
theorem dX4_book_68 : decode cX4_book 68 = .ok (.aload_n 0, 1) := by decide +kernel
theorem dX4_book_69 : decode cX4_book 69 = .ok (.getfield 16, 3) := by decide +kernel
theorem dX4_book_72 : decode cX4_book 72 = .ok (.getfield 44, 3) := by decide +kernel
theorem dX4_book_75 : decode cX4_book 75 = .ok (.i2l, 1) := by decide +kernel
theorem dX4_book_76 : decode cX4_book 76 = .ok (.invokevirtual 223, 3) := by decide +kernel
theorem dX4_book_79 : decode cX4_book 79 = .ok (.aload_n 0, 1) := by decide +kernel
theorem dX4_book_80 : decode cX4_book 80 = .ok (.getfield 16, 3) := by decide +kernel
theorem dX4_book_83 : decode cX4_book 83 = .ok (.invokevirtual 168, 3) := by decide +kernel
theorem dX4_book_86 : decode cX4_book 86 = .ok (.iinc 2 1, 3) := by decide +kernel
theorem dX4_book_89 : decode cX4_book 89 = .ok (.goto (-40), 3) := by decide +kernel
theorem dX4_book_92 : decode cX4_book 92 = .ok (.aload_n 0, 1) := by decide +kernel
theorem dX4_book_93 : decode cX4_book 93 = .ok (.getfield 32, 3) := by decide +kernel
theorem dX4_book_96 : decode cX4_book 96 = .ok (.getfield 216, 3) := by decide +kernel
theorem dX4_book_99 : decode cX4_book 99 = .ok (.iload_n 1, 1) := by decide +kernel
theorem dX4_book_100 : decode cX4_book 100 = .ok (.iaload, 1) := by decide +kernel
theorem dX4_book_101 : decode cX4_book 101 = .ok (.ireturn, 1) := by decide +kernel
set_option maxRecDepth 20000 in
theorem ggX4_read_X2_isSheet : GoodIn wsX4_read wsX2_isSheet := goodIn_r _ [10] (by decide +kernel) (by decide +kernel)
set_option maxRecDepth 20000 in
theorem gX4_read_X2_isSheet : GoodIn wsX4_read (wsV RX4 205 RX2 yX2_isSheet wsX2_isSheet) := goodIn_app (goodIn_of _ (by decide +kernel)) ggX4_read_X2_isSheet
set_option maxRecDepth 20000 in
theorem ggX4_read_X4_tell : GoodIn wsX4_read wsX4_tell := goodIn_r _ [15, 2, 16, 129, 130, 131, 132, 133, 134, 135] (by decide +kernel) (by decide +kernel)
set_option maxRecDepth 20000 in
theorem gX4_read_X4_tell : GoodIn wsX4_read (wsV RX4 48 RX4 yX4_tell wsX4_tell) := goodIn_app (goodIn_of _ (by decide +kernel)) ggX4_read_X4_tell
set_option maxRecDepth 20000 in
theorem ggX4_read_X2_isMissing : GoodIn wsX4_read wsX2_isMissing := goodIn_r _ [20, 21, 150, 151, 152] (by decide +kernel) (by decide +kernel)
set_option maxRecDepth 20000 in
theorem gX4_read_X2_isMissing : GoodIn wsX4_read (wsV RX4 212 RX2 yX2_isMissing wsX2_isMissing) := goodIn_app (goodIn_of _ (by decide +kernel)) ggX4_read_X2_isMissing
set_option maxRecDepth 20000 in
theorem ggX4_read_X0_hasMother : GoodIn wsX4_read wsX0_hasMother := goodIn_r _ [26, 27, 136, 137, 138, 139, 140, 141, 142, 143, 144, 145, 146, 147, 148, 149] (by decide +kernel) (by decide +kernel)
set_option maxRecDepth 20000 in
theorem gX4_read_X0_hasMother : GoodIn wsX4_read (wsV RX4 98 RX0 yX0_hasMother wsX0_hasMother) := goodIn_app (goodIn_of _ (by decide +kernel)) ggX4_read_X0_hasMother
set_option maxRecDepth 20000 in
theorem ggX4_read_X4_turnsAsTold : GoodIn wsX4_read wsX4_turnsAsTold := goodIn_r _ [31, 32, 4, 33, 34, 1, 35, 36, 37, 38, 39, 25, 40, 41, 42, 43, 44, 45, 27, 46, 47, 48, 49, 50, 51, 52, 53, 54, 55, 56, 57, 58, 59, 60, 61, 62, 63, 64, 65, 66, 67, 68, 69, 70, 71, 72, 73, 74, 75, 76, 77, 78, 79, 80, 81, 82, 83, 84, 85, 86, 87, 88, 89, 90, 91, 92, 93, 94, 95, 96, 97, 98, 99, 100, 101, 102, 103, 104, 105, 106, 107, 108, 109, 110, 111, 112, 113, 114, 115, 116, 117, 118, 119, 120, 121, 122, 123, 124, 125, 126, 9, 127, 128, 129, 130, 131, 132, 133, 134, 135, 136, 137, 138, 139, 140, 141, 142, 143, 144, 145, 146, 147, 148, 149, 150, 151, 152] (by decide +kernel) (by decide +kernel)
set_option maxRecDepth 20000 in
theorem gX4_read_X4_turnsAsTold : GoodIn wsX4_read (wsV RX4 239 RX4 yX4_turnsAsTold wsX4_turnsAsTold) := goodIn_app (goodIn_of _ (by decide +kernel)) ggX4_read_X4_turnsAsTold
theorem dX4_read_0 : decode cX4_read 0 = .ok (.aload_n 0, 1) := by decide +kernel
theorem dX4_read_1 : decode cX4_read 1 = .ok (.getfield 32, 3) := by decide +kernel
theorem dX4_read_4 : decode cX4_read 4 = .ok (.iload_n 1, 1) := by decide +kernel
theorem dX4_read_5 : decode cX4_read 5 = .ok (.invokevirtual 205, 3) := by decide +kernel
theorem dX4_read_8 : decode cX4_read 8 = .ok (.ifCond .ne 10, 3) := by decide +kernel
theorem dX4_read_11 : decode cX4_read 11 = .ok (.aload_n 0, 1) := by decide +kernel
theorem dX4_read_12 : decode cX4_read 12 = .ok (.ldc 47, 2) := by decide +kernel
theorem dX4_read_14 : decode cX4_read 14 = .ok (.invokevirtual 48, 3) := by decide +kernel
theorem dX4_read_17 : decode cX4_read 17 = .ok (.ireturn, 1) := by decide +kernel
theorem dX4_read_18 : decode cX4_read 18 = .ok (.aload_n 0, 1) := by decide +kernel
theorem dX4_read_19 : decode cX4_read 19 = .ok (.getfield 32, 3) := by decide +kernel
theorem dX4_read_22 : decode cX4_read 22 = .ok (.iload_n 1, 1) := by decide +kernel
theorem dX4_read_23 : decode cX4_read 23 = .ok (.invokevirtual 212, 3) := by decide +kernel
theorem dX4_read_26 : decode cX4_read 26 = .ok (.ifCond .eq 10, 3) := by decide +kernel
theorem dX4_read_29 : decode cX4_read 29 = .ok (.aload_n 0, 1) := by decide +kernel
theorem dX4_read_30 : decode cX4_read 30 = .ok (.ldc 215, 2) := by decide +kernel
theorem dX4_read_32 : decode cX4_read 32 = .ok (.invokevirtual 48, 3) := by decide +kernel
theorem dX4_read_35 : decode cX4_read 35 = .ok (.ireturn, 1) := by decide +kernel
theorem dX4_read_36 : decode cX4_read 36 = .ok (.aload_n 0, 1) := by decide +kernel
theorem dX4_read_37 : decode cX4_read 37 = .ok (.getfield 10, 3) := by decide +kernel
theorem dX4_read_40 : decode cX4_read 40 = .ok (.iload_n 2, 1) := by decide +kernel
theorem dX4_read_41 : decode cX4_read 41 = .ok (.invokevirtual 98, 3) := by decide +kernel
theorem dX4_read_44 : decode cX4_read 44 = .ok (.ifCond .ne 10, 3) := by decide +kernel
theorem dX4_read_47 : decode cX4_read 47 = .ok (.aload_n 0, 1) := by decide +kernel
theorem dX4_read_48 : decode cX4_read 48 = .ok (.ldc 47, 2) := by decide +kernel
theorem dX4_read_50 : decode cX4_read 50 = .ok (.invokevirtual 48, 3) := by decide +kernel
theorem dX4_read_53 : decode cX4_read 53 = .ok (.ireturn, 1) := by decide +kernel
theorem dX4_read_54 : decode cX4_read 54 = .ok (.sipush 600, 3) := by decide +kernel
theorem dX4_read_57 : decode cX4_read 57 = .ok (.istore_n 3, 1) := by decide +kernel
theorem dX4_read_58 : decode cX4_read 58 = .ok (.aload_n 0, 1) := by decide +kernel
theorem dX4_read_59 : decode cX4_read 59 = .ok (.getfield 10, 3) := by decide +kernel
theorem dX4_read_62 : decode cX4_read 62 = .ok (.getfield 104, 3) := by decide +kernel
theorem dX4_read_65 : decode cX4_read 65 = .ok (.iload_n 2, 1) := by decide +kernel
theorem dX4_read_66 : decode cX4_read 66 = .ok (.iaload, 1) := by decide +kernel
theorem dX4_read_67 : decode cX4_read 67 = .ok (.ifCond .ne 20, 3) := by decide +kernel
theorem dX4_read_70 : decode cX4_read 70 = .ok (.aload_n 0, 1) := by decide +kernel
theorem dX4_read_71 : decode cX4_read 71 = .ok (.iload_n 1, 1) := by decide +kernel
theorem dX4_read_72 : decode cX4_read 72 = .ok (.iload_n 2, 1) := by decide +kernel
theorem dX4_read_73 : decode cX4_read 73 = .ok (.iconst 0, 1) := by decide +kernel
theorem dX4_read_74 : decode cX4_read 74 = .ok (.iconst 0, 1) := by decide +kernel
theorem dX4_read_75 : decode cX4_read 75 = .ok (.invokevirtual 239, 3) := by decide +kernel
theorem dX4_read_78 : decode cX4_read 78 = .ok (.ifCond .eq 7, 3) := by decide +kernel
theorem dX4_read_81 : decode cX4_read 81 = .ok (.iload_n 3, 1) := by decide +kernel
theorem dX4_read_82 : decode cX4_read 82 = .ok (.goto 4, 3) := by decide +kernel
theorem dX4_read_85 : decode cX4_read 85 = .ok (.iconst 0, 1) := by decide +kernel
theorem dX4_read_86 : decode cX4_read 86 = .ok (.ireturn, 1) := by decide +kernel
theorem dX4_read_87 : decode cX4_read 87 = .ok (.iconst 0, 1) := by decide +kernel
theorem dX4_read_88 : decode cX4_read 88 = .ok (.istore 4, 2) := by decide +kernel
theorem dX4_read_90 : decode cX4_read 90 = .ok (.iconst 0, 1) := by decide +kernel
theorem dX4_read_91 : decode cX4_read 91 = .ok (.istore 5, 2) := by decide +kernel
theorem dX4_read_93 : decode cX4_read 93 = .ok (.iload 5, 2) := by decide +kernel
theorem dX4_read_95 : decode cX4_read 95 = .ok (.iload_n 3, 1) := by decide +kernel
theorem dX4_read_96 : decode cX4_read 96 = .ok (.if_icmp .ge 31, 3) := by decide +kernel
theorem dX4_read_99 : decode cX4_read 99 = .ok (.aload_n 0, 1) := by decide +kernel
theorem dX4_read_100 : decode cX4_read 100 = .ok (.iload_n 1, 1) := by decide +kernel
theorem dX4_read_101 : decode cX4_read 101 = .ok (.iload_n 2, 1) := by decide +kernel
theorem dX4_read_102 : decode cX4_read 102 = .ok (.iload 5, 2) := by decide +kernel
theorem dX4_read_104 : decode cX4_read 104 = .ok (.bipush 100, 2) := by decide +kernel
theorem dX4_read_106 : decode cX4_read 106 = .ok (.idiv, 1) := by decide +kernel
theorem dX4_read_107 : decode cX4_read 107 = .ok (.iload 5, 2) := by decide +kernel
theorem dX4_read_109 : decode cX4_read 109 = .ok (.bipush 100, 2) := by decide +kernel
theorem dX4_read_111 : decode cX4_read 111 = .ok (.irem, 1) := by decide +kernel
theorem dX4_read_112 : decode cX4_read 112 = .ok (.invokevirtual 239, 3) := by decide +kernel
theorem dX4_read_115 : decode cX4_read 115 = .ok (.ifCond .eq 6, 3) := by decide +kernel
theorem dX4_read_118 : decode cX4_read 118 = .ok (.iinc 4 1, 3) := by decide +kernel
theorem dX4_read_121 : decode cX4_read 121 = .ok (.iinc 5 1, 3) := by decide +kernel
theorem dX4_read_124 : decode cX4_read 124 = .ok (.goto (-31), 3) := by decide +kernel
theorem dX4_read_127 : decode cX4_read 127 = .ok (.iload 4, 2) := by decide +kernel
theorem dX4_read_129 : decode cX4_read 129 = .ok (.ireturn, 1) := by decide +kernel
set_option maxRecDepth 20000 in
theorem ggX4_image_X0_become : GoodIn wsX4_image wsX0_become := goodIn_r _ [8, 9, 10, 11, 12, 13, 14, 15, 16, 17, 18, 19, 20, 21, 22, 23, 24, 25, 26, 34, 35, 36, 37, 38, 39, 40, 41, 42, 43, 44, 45, 46, 47] (by decide +kernel) (by decide +kernel)
set_option maxRecDepth 20000 in
theorem gX4_image_X0_become : GoodIn wsX4_image (wsV RX4 164 RX0 yX0_become wsX0_become) := goodIn_app (goodIn_of _ (by decide +kernel)) ggX4_image_X0_become
theorem dX4_image_0 : decode cX4_image 0 = .ok (.aload_n 0, 1) := by decide +kernel
theorem dX4_image_1 : decode cX4_image 1 = .ok (.getfield 19, 3) := by decide +kernel
theorem dX4_image_4 : decode cX4_image 4 = .ok (.aload_n 0, 1) := by decide +kernel
theorem dX4_image_5 : decode cX4_image 5 = .ok (.getfield 10, 3) := by decide +kernel
theorem dX4_image_8 : decode cX4_image 8 = .ok (.invokevirtual 164, 3) := by decide +kernel
theorem dX4_image_11 : decode cX4_image 11 = .ok (.aload_n 0, 1) := by decide +kernel
theorem dX4_image_12 : decode cX4_image 12 = .ok (.iconst 1, 1) := by decide +kernel
theorem dX4_image_13 : decode cX4_image 13 = .ok (.putfield 243, 3) := by decide +kernel
theorem dX4_image_16 : decode cX4_image 16 = .ok (.iconst 1, 1) := by decide +kernel
theorem dX4_image_17 : decode cX4_image 17 = .ok (.ireturn, 1) := by decide +kernel
set_option maxRecDepth 20000 in
theorem ggX4_undo_X4_tell : GoodIn wsX4_undo wsX4_tell := goodIn_r _ [10, 11, 12, 36, 37, 38, 39, 40, 41, 42] (by decide +kernel) (by decide +kernel)
set_option maxRecDepth 20000 in
theorem gX4_undo_X4_tell : GoodIn wsX4_undo (wsV RX4 48 RX4 yX4_tell wsX4_tell) := goodIn_app (goodIn_of _ (by decide +kernel)) ggX4_undo_X4_tell
set_option maxRecDepth 20000 in
theorem ggX4_undo_X0_become : GoodIn wsX4_undo wsX0_become := goodIn_r _ [17, 18, 19, 20, 21, 22, 23, 24, 25, 26, 27, 28, 29, 30, 31, 32, 33, 34, 35, 43, 44, 45, 46, 47, 48, 49, 50, 51, 52, 53, 54, 55, 56] (by decide +kernel) (by decide +kernel)
set_option maxRecDepth 20000 in
theorem gX4_undo_X0_become : GoodIn wsX4_undo (wsV RX4 164 RX0 yX0_become wsX0_become) := goodIn_app (goodIn_of _ (by decide +kernel)) ggX4_undo_X0_become
theorem dX4_undo_0 : decode cX4_undo 0 = .ok (.aload_n 0, 1) := by decide +kernel
theorem dX4_undo_1 : decode cX4_undo 1 = .ok (.getfield 243, 3) := by decide +kernel
theorem dX4_undo_4 : decode cX4_undo 4 = .ok (.ifCond .ne 10, 3) := by decide +kernel
theorem dX4_undo_7 : decode cX4_undo 7 = .ok (.aload_n 0, 1) := by decide +kernel
theorem dX4_undo_8 : decode cX4_undo 8 = .ok (.ldc 171, 2) := by decide +kernel
theorem dX4_undo_10 : decode cX4_undo 10 = .ok (.invokevirtual 48, 3) := by decide +kernel
theorem dX4_undo_13 : decode cX4_undo 13 = .ok (.ireturn, 1) := by decide +kernel
theorem dX4_undo_14 : decode cX4_undo 14 = .ok (.aload_n 0, 1) := by decide +kernel
theorem dX4_undo_15 : decode cX4_undo 15 = .ok (.getfield 10, 3) := by decide +kernel
theorem dX4_undo_18 : decode cX4_undo 18 = .ok (.aload_n 0, 1) := by decide +kernel
theorem dX4_undo_19 : decode cX4_undo 19 = .ok (.getfield 19, 3) := by decide +kernel
theorem dX4_undo_22 : decode cX4_undo 22 = .ok (.invokevirtual 164, 3) := by decide +kernel
theorem dX4_undo_25 : decode cX4_undo 25 = .ok (.aload_n 0, 1) := by decide +kernel
theorem dX4_undo_26 : decode cX4_undo 26 = .ok (.getfield 10, 3) := by decide +kernel
theorem dX4_undo_29 : decode cX4_undo 29 = .ok (.getfield 90, 3) := by decide +kernel
theorem dX4_undo_32 : decode cX4_undo 32 = .ok (.ireturn, 1) := by decide +kernel
theorem dX4_tear_0 : decode cX4_tear 0 = .ok (.aload_n 0, 1) := by decide +kernel
theorem dX4_tear_1 : decode cX4_tear 1 = .ok (.getfield 243, 3) := by decide +kernel
theorem dX4_tear_4 : decode cX4_tear 4 = .ok (.ifCond .eq 7, 3) := by decide +kernel
theorem dX4_tear_7 : decode cX4_tear 7 = .ok (.iconst 1, 1) := by decide +kernel
theorem dX4_tear_8 : decode cX4_tear 8 = .ok (.goto 4, 3) := by decide +kernel
theorem dX4_tear_11 : decode cX4_tear 11 = .ok (.iconst 0, 1) := by decide +kernel
theorem dX4_tear_12 : decode cX4_tear 12 = .ok (.istore_n 1, 1) := by decide +kernel
theorem dX4_tear_13 : decode cX4_tear 13 = .ok (.aload_n 0, 1) := by decide +kernel
theorem dX4_tear_14 : decode cX4_tear 14 = .ok (.iconst 0, 1) := by decide +kernel
theorem dX4_tear_15 : decode cX4_tear 15 = .ok (.putfield 243, 3) := by decide +kernel
theorem dX4_tear_18 : decode cX4_tear 18 = .ok (.iload_n 1, 1) := by decide +kernel
theorem dX4_tear_19 : decode cX4_tear 19 = .ok (.ireturn, 1) := by decide +kernel
set_option maxRecDepth 20000 in
theorem ggX4_count_X0_flingsOfAll : GoodIn wsX4_count wsX0_flingsOfAll := goodIn_r _ [11, 12, 13, 27, 28, 29, 30, 31, 32, 33, 34, 35, 36, 37, 38, 39, 40] (by decide +kernel) (by decide +kernel)
set_option maxRecDepth 20000 in
theorem gX4_count_X0_flingsOfAll : GoodIn wsX4_count (wsV RX4 179 RX0 yX0_flingsOfAll wsX0_flingsOfAll) := goodIn_app (goodIn_of _ (by decide +kernel)) ggX4_count_X0_flingsOfAll
set_option maxRecDepth 20000 in
theorem ggX4_count_X4_tell : GoodIn wsX4_count wsX4_tell := goodIn_r _ [18, 6, 19, 20, 21, 22, 23, 24, 25, 26] (by decide +kernel) (by decide +kernel)
set_option maxRecDepth 20000 in
theorem gX4_count_X4_tell : GoodIn wsX4_count (wsV RX4 48 RX4 yX4_tell wsX4_tell) := goodIn_app (goodIn_of _ (by decide +kernel)) ggX4_count_X4_tell
theorem dX4_count_0 : decode cX4_count 0 = .ok (.iload_n 1, 1) := by decide +kernel
theorem dX4_count_1 : decode cX4_count 1 = .ok (.tableswitch 63 0 3 #[31, 39, 47, 55], 31) := by decide +kernel
theorem dX4_count_32 : decode cX4_count 32 = .ok (.aload_n 0, 1) := by decide +kernel
theorem dX4_count_33 : decode cX4_count 33 = .ok (.getfield 10, 3) := by decide +kernel
theorem dX4_count_36 : decode cX4_count 36 = .ok (.getfield 90, 3) := by decide +kernel
theorem dX4_count_39 : decode cX4_count 39 = .ok (.ireturn, 1) := by decide +kernel
theorem dX4_count_40 : decode cX4_count 40 = .ok (.aload_n 0, 1) := by decide +kernel
theorem dX4_count_41 : decode cX4_count 41 = .ok (.getfield 10, 3) := by decide +kernel
theorem dX4_count_44 : decode cX4_count 44 = .ok (.getfield 136, 3) := by decide +kernel
theorem dX4_count_47 : decode cX4_count 47 = .ok (.ireturn, 1) := by decide +kernel
theorem dX4_count_48 : decode cX4_count 48 = .ok (.aload_n 0, 1) := by decide +kernel
theorem dX4_count_49 : decode cX4_count 49 = .ok (.getfield 25, 3) := by decide +kernel
theorem dX4_count_52 : decode cX4_count 52 = .ok (.getfield 195, 3) := by decide +kernel
theorem dX4_count_55 : decode cX4_count 55 = .ok (.ireturn, 1) := by decide +kernel
theorem dX4_count_56 : decode cX4_count 56 = .ok (.aload_n 0, 1) := by decide +kernel
theorem dX4_count_57 : decode cX4_count 57 = .ok (.getfield 10, 3) := by decide +kernel
theorem dX4_count_60 : decode cX4_count 60 = .ok (.invokevirtual 179, 3) := by decide +kernel
theorem dX4_count_63 : decode cX4_count 63 = .ok (.ireturn, 1) := by decide +kernel
theorem dX4_count_64 : decode cX4_count 64 = .ok (.aload_n 0, 1) := by decide +kernel
theorem dX4_count_65 : decode cX4_count 65 = .ok (.ldc 47, 2) := by decide +kernel
theorem dX4_count_67 : decode cX4_count 67 = .ok (.invokevirtual 48, 3) := by decide +kernel
theorem dX4_count_70 : decode cX4_count 70 = .ok (.ireturn, 1) := by decide +kernel
set_option maxRecDepth 20000 in
theorem ggX4_status_X4_tell : GoodIn wsX4_status wsX4_tell := goodIn_r _ [7, 1, 2, 8, 9, 10, 11, 12, 13, 14] (by decide +kernel) (by decide +kernel)
set_option maxRecDepth 20000 in
theorem gX4_status_X4_tell : GoodIn wsX4_status (wsV RX4 48 RX4 yX4_tell wsX4_tell) := goodIn_app (goodIn_of _ (by decide +kernel)) ggX4_status_X4_tell
theorem dX4_status_0 : decode cX4_status 0 = .ok (.iload_n 1, 1) := by decide +kernel
theorem dX4_status_1 : decode cX4_status 1 = .ok (.iconst (-1), 1) := by decide +kernel
theorem dX4_status_2 : decode cX4_status 2 = .ok (.if_icmp .lt 9, 3) := by decide +kernel
theorem dX4_status_5 : decode cX4_status 5 = .ok (.iload_n 1, 1) := by decide +kernel
theorem dX4_status_6 : decode cX4_status 6 = .ok (.bipush 7, 2) := by decide +kernel
theorem dX4_status_8 : decode cX4_status 8 = .ok (.if_icmp .lt 10, 3) := by decide +kernel
theorem dX4_status_11 : decode cX4_status 11 = .ok (.aload_n 0, 1) := by decide +kernel
theorem dX4_status_12 : decode cX4_status 12 = .ok (.ldc 47, 2) := by decide +kernel
theorem dX4_status_14 : decode cX4_status 14 = .ok (.invokevirtual 48, 3) := by decide +kernel
theorem dX4_status_17 : decode cX4_status 17 = .ok (.ireturn, 1) := by decide +kernel
theorem dX4_status_18 : decode cX4_status 18 = .ok (.iload_n 1, 1) := by decide +kernel
theorem dX4_status_19 : decode cX4_status 19 = .ok (.ifCond .lt 10, 3) := by decide +kernel
theorem dX4_status_22 : decode cX4_status 22 = .ok (.aload_n 0, 1) := by decide +kernel
theorem dX4_status_23 : decode cX4_status 23 = .ok (.getfield 36, 3) := by decide +kernel
theorem dX4_status_26 : decode cX4_status 26 = .ok (.iload_n 1, 1) := by decide +kernel
theorem dX4_status_27 : decode cX4_status 27 = .ok (.iaload, 1) := by decide +kernel
theorem dX4_status_28 : decode cX4_status 28 = .ok (.ireturn, 1) := by decide +kernel
theorem dX4_status_29 : decode cX4_status 29 = .ok (.iconst 0, 1) := by decide +kernel
theorem dX4_status_30 : decode cX4_status 30 = .ok (.istore_n 2, 1) := by decide +kernel
theorem dX4_status_31 : decode cX4_status 31 = .ok (.iconst 0, 1) := by decide +kernel
theorem dX4_status_32 : decode cX4_status 32 = .ok (.istore_n 3, 1) := by decide +kernel
theorem dX4_status_33 : decode cX4_status 33 = .ok (.iload_n 3, 1) := by decide +kernel
theorem dX4_status_34 : decode cX4_status 34 = .ok (.bipush 7, 2) := by decide +kernel
theorem dX4_status_36 : decode cX4_status 36 = .ok (.if_icmp .ge 18, 3) := by decide +kernel
theorem dX4_status_39 : decode cX4_status 39 = .ok (.iload_n 2, 1) := by decide +kernel
theorem dX4_status_40 : decode cX4_status 40 = .ok (.aload_n 0, 1) := by decide +kernel
theorem dX4_status_41 : decode cX4_status 41 = .ok (.getfield 36, 3) := by decide +kernel
theorem dX4_status_44 : decode cX4_status 44 = .ok (.iload_n 3, 1) := by decide +kernel
theorem dX4_status_45 : decode cX4_status 45 = .ok (.iaload, 1) := by decide +kernel
theorem dX4_status_46 : decode cX4_status 46 = .ok (.iadd, 1) := by decide +kernel
theorem dX4_status_47 : decode cX4_status 47 = .ok (.istore_n 2, 1) := by decide +kernel
theorem dX4_status_48 : decode cX4_status 48 = .ok (.iinc 3 1, 3) := by decide +kernel
theorem dX4_status_51 : decode cX4_status 51 = .ok (.goto (-18), 3) := by decide +kernel
theorem dX4_status_54 : decode cX4_status 54 = .ok (.iload_n 2, 1) := by decide +kernel
theorem dX4_status_55 : decode cX4_status 55 = .ok (.ireturn, 1) := by decide +kernel
theorem dX4_tell_0 : decode cX4_tell 0 = .ok (.ldc 47, 2) := by decide +kernel
theorem dX4_tell_2 : decode cX4_tell 2 = .ok (.iload_n 1, 1) := by decide +kernel
theorem dX4_tell_3 : decode cX4_tell 3 = .ok (.isub, 1) := by decide +kernel
theorem dX4_tell_4 : decode cX4_tell 4 = .ok (.istore_n 2, 1) := by decide +kernel
theorem dX4_tell_5 : decode cX4_tell 5 = .ok (.iload_n 2, 1) := by decide +kernel
theorem dX4_tell_6 : decode cX4_tell 6 = .ok (.ifCond .lt 19, 3) := by decide +kernel
theorem dX4_tell_9 : decode cX4_tell 9 = .ok (.iload_n 2, 1) := by decide +kernel
theorem dX4_tell_10 : decode cX4_tell 10 = .ok (.bipush 7, 2) := by decide +kernel
theorem dX4_tell_12 : decode cX4_tell 12 = .ok (.if_icmp .ge 13, 3) := by decide +kernel
theorem dX4_tell_15 : decode cX4_tell 15 = .ok (.aload_n 0, 1) := by decide +kernel
theorem dX4_tell_16 : decode cX4_tell 16 = .ok (.getfield 36, 3) := by decide +kernel
theorem dX4_tell_19 : decode cX4_tell 19 = .ok (.iload_n 2, 1) := by decide +kernel
theorem dX4_tell_20 : decode cX4_tell 20 = .ok (.dup2, 1) := by decide +kernel
theorem dX4_tell_21 : decode cX4_tell 21 = .ok (.iaload, 1) := by decide +kernel
theorem dX4_tell_22 : decode cX4_tell 22 = .ok (.iconst 1, 1) := by decide +kernel
theorem dX4_tell_23 : decode cX4_tell 23 = .ok (.iadd, 1) := by decide +kernel
theorem dX4_tell_24 : decode cX4_tell 24 = .ok (.iastore, 1) := by decide +kernel
theorem dX4_tell_25 : decode cX4_tell 25 = .ok (.iload_n 1, 1) := by decide +kernel
theorem dX4_tell_26 : decode cX4_tell 26 = .ok (.ireturn, 1) := by decide +kernel
theorem dX4_isNear_0 : decode cX4_isNear 0 = .ok (.iload_n 0, 1) := by decide +kernel
theorem dX4_isNear_1 : decode cX4_isNear 1 = .ok (.iconst 1, 1) := by decide +kernel
theorem dX4_isNear_2 : decode cX4_isNear 2 = .ok (.if_icmp .lt 13, 3) := by decide +kernel
theorem dX4_isNear_5 : decode cX4_isNear 5 = .ok (.iload_n 0, 1) := by decide +kernel
theorem dX4_isNear_6 : decode cX4_isNear 6 = .ok (.bipush 60, 2) := by decide +kernel
theorem dX4_isNear_8 : decode cX4_isNear 8 = .ok (.if_icmp .gt 7, 3) := by decide +kernel
theorem dX4_isNear_11 : decode cX4_isNear 11 = .ok (.iconst 1, 1) := by decide +kernel
theorem dX4_isNear_12 : decode cX4_isNear 12 = .ok (.goto 4, 3) := by decide +kernel
theorem dX4_isNear_15 : decode cX4_isNear 15 = .ok (.iconst 0, 1) := by decide +kernel
theorem dX4_isNear_16 : decode cX4_isNear 16 = .ok (.ireturn, 1) := by decide +kernel
set_option maxRecDepth 20000 in
theorem ggX4_holdsWith_X0_become : GoodIn wsX4_holdsWith wsX0_become := goodIn_r _ [9, 10, 11, 12, 13, 14, 15, 16, 17, 18, 19, 20, 21, 22, 23, 24, 25, 26, 27, 105, 106, 107, 108, 109, 110, 111, 112, 113, 114, 115, 116, 117, 118] (by decide +kernel) (by decide +kernel)
set_option maxRecDepth 20000 in
theorem gX4_holdsWith_X0_become : GoodIn wsX4_holdsWith (wsV RX4 164 RX0 yX0_become wsX0_become) := goodIn_app (goodIn_of _ (by decide +kernel)) ggX4_holdsWith_X0_become
set_option maxRecDepth 20000 in
theorem ggX4_holdsWith_X0_passMinutes : GoodIn wsX4_holdsWith wsX0_passMinutes := goodIn_r _ [31, 32, 33, 34, 8, 35, 13, 36, 37, 38, 39, 40, 41, 42, 43, 14, 10, 44, 45, 46, 47, 15, 21, 48, 49, 50, 51, 11, 52, 53, 54, 55, 56, 57, 58, 59, 60, 61, 62, 63, 64, 65, 66, 67, 16, 22, 23, 68, 69, 70, 71, 72, 73, 74, 75, 12, 76, 77, 78, 79, 24, 26, 80, 81, 82, 83, 25, 27, 84, 85, 86, 87, 88, 89, 90, 91, 92, 93, 94, 95, 96, 97, 105, 106, 107, 108, 109, 110, 111, 112, 113, 114, 115, 116, 117, 118] (by decide +kernel) (by decide +kernel)
set_option maxRecDepth 20000 in
theorem gX4_holdsWith_X0_passMinutes : GoodIn wsX4_holdsWith (wsV RX4 160 RX0 yX0_passMinutes wsX0_passMinutes) := goodIn_app (goodIn_of _ (by decide +kernel)) ggX4_holdsWith_X0_passMinutes
theorem dX4_holdsWith_0 : decode cX4_holdsWith 0 = .ok (.aload_n 0, 1) := by decide +kernel
theorem dX4_holdsWith_1 : decode cX4_holdsWith 1 = .ok (.getfield 16, 3) := by decide +kernel
theorem dX4_holdsWith_4 : decode cX4_holdsWith 4 = .ok (.aload_n 0, 1) := by decide +kernel
theorem dX4_holdsWith_5 : decode cX4_holdsWith 5 = .ok (.getfield 10, 3) := by decide +kernel
theorem dX4_holdsWith_8 : decode cX4_holdsWith 8 = .ok (.invokevirtual 164, 3) := by decide +kernel
theorem dX4_holdsWith_11 : decode cX4_holdsWith 11 = .ok (.aload_n 0, 1) := by decide +kernel
theorem dX4_holdsWith_12 : decode cX4_holdsWith 12 = .ok (.getfield 16, 3) := by decide +kernel
theorem dX4_holdsWith_15 : decode cX4_holdsWith 15 = .ok (.getfield 146, 3) := by decide +kernel
theorem dX4_holdsWith_18 : decode cX4_holdsWith 18 = .ok (.iload_n 1, 1) := by decide +kernel
theorem dX4_holdsWith_19 : decode cX4_holdsWith 19 = .ok (.iload_n 2, 1) := by decide +kernel
theorem dX4_holdsWith_20 : decode cX4_holdsWith 20 = .ok (.iastore, 1) := by decide +kernel
theorem dX4_holdsWith_21 : decode cX4_holdsWith 21 = .ok (.aload_n 0, 1) := by decide +kernel
theorem dX4_holdsWith_22 : decode cX4_holdsWith 22 = .ok (.getfield 16, 3) := by decide +kernel
theorem dX4_holdsWith_25 : decode cX4_holdsWith 25 = .ok (.iload_n 3, 1) := by decide +kernel
theorem dX4_holdsWith_26 : decode cX4_holdsWith 26 = .ok (.invokevirtual 160, 3) := by decide +kernel
theorem dX4_holdsWith_29 : decode cX4_holdsWith 29 = .ok (.aload_n 0, 1) := by decide +kernel
theorem dX4_holdsWith_30 : decode cX4_holdsWith 30 = .ok (.getfield 16, 3) := by decide +kernel
theorem dX4_holdsWith_33 : decode cX4_holdsWith 33 = .ok (.getfield 152, 3) := by decide +kernel
theorem dX4_holdsWith_36 : decode cX4_holdsWith 36 = .ok (.iload_n 1, 1) := by decide +kernel
theorem dX4_holdsWith_37 : decode cX4_holdsWith 37 = .ok (.iaload, 1) := by decide +kernel
theorem dX4_holdsWith_38 : decode cX4_holdsWith 38 = .ok (.aload_n 0, 1) := by decide +kernel
theorem dX4_holdsWith_39 : decode cX4_holdsWith 39 = .ok (.getfield 10, 3) := by decide +kernel
theorem dX4_holdsWith_42 : decode cX4_holdsWith 42 = .ok (.getfield 152, 3) := by decide +kernel
theorem dX4_holdsWith_45 : decode cX4_holdsWith 45 = .ok (.iload_n 1, 1) := by decide +kernel
theorem dX4_holdsWith_46 : decode cX4_holdsWith 46 = .ok (.iaload, 1) := by decide +kernel
theorem dX4_holdsWith_47 : decode cX4_holdsWith 47 = .ok (.if_icmp .gt 7, 3) := by decide +kernel
theorem dX4_holdsWith_50 : decode cX4_holdsWith 50 = .ok (.iconst 1, 1) := by decide +kernel
theorem dX4_holdsWith_51 : decode cX4_holdsWith 51 = .ok (.goto 4, 3) := by decide +kernel
theorem dX4_holdsWith_54 : decode cX4_holdsWith 54 = .ok (.iconst 0, 1) := by decide +kernel
theorem dX4_holdsWith_55 : decode cX4_holdsWith 55 = .ok (.ireturn, 1) := by decide +kernel
set_option maxRecDepth 20000 in
theorem ggX4_pushWith_X0_become : GoodIn wsX4_pushWith wsX0_become := goodIn_r _ [8, 9, 10, 11, 12, 13, 14, 15, 16, 17, 18, 19, 20, 21, 22, 23, 24, 25, 26, 66, 67, 68, 69, 70, 71, 72, 73, 74, 75, 76, 77, 78, 79] (by decide +kernel) (by decide +kernel)
set_option maxRecDepth 20000 in
theorem gX4_pushWith_X0_become : GoodIn wsX4_pushWith (wsV RX4 164 RX0 yX0_become wsX0_become) := goodIn_app (goodIn_of _ (by decide +kernel)) ggX4_pushWith_X0_become
set_option maxRecDepth 20000 in
theorem ggX4_pushWith_X0_moveMother : GoodIn wsX4_pushWith wsX0_moveMother := goodIn_r _ [30, 20, 22, 66, 67, 68, 69, 70, 71, 72, 73, 74, 75, 76, 77, 78, 79] (by decide +kernel) (by decide +kernel)
set_option maxRecDepth 20000 in
theorem gX4_pushWith_X0_moveMother : GoodIn wsX4_pushWith (wsV RX4 127 RX0 yX0_moveMother wsX0_moveMother) := goodIn_app (goodIn_of _ (by decide +kernel)) ggX4_pushWith_X0_moveMother
set_option maxRecDepth 20000 in
theorem ggX4_pushWith_X0_pushNow : GoodIn wsX4_pushWith wsX0_pushNow := goodIn_r _ [34, 14, 20, 35, 36, 37, 7, 38, 10, 39, 40, 41, 42, 9, 43, 44, 45, 46, 47, 48, 49, 50, 51, 52, 53, 54, 15, 21, 22, 55, 56, 57, 58, 66, 67, 68, 69, 70, 71, 72, 73, 74, 75, 76, 77, 78, 79] (by decide +kernel) (by decide +kernel)
set_option maxRecDepth 20000 in
theorem gX4_pushWith_X0_pushNow : GoodIn wsX4_pushWith (wsV RX4 75 RX0 yX0_pushNow wsX0_pushNow) := goodIn_app (goodIn_of _ (by decide +kernel)) ggX4_pushWith_X0_pushNow
theorem dX4_pushWith_0 : decode cX4_pushWith 0 = .ok (.aload_n 0, 1) := by decide +kernel
theorem dX4_pushWith_1 : decode cX4_pushWith 1 = .ok (.getfield 16, 3) := by decide +kernel
theorem dX4_pushWith_4 : decode cX4_pushWith 4 = .ok (.aload_n 0, 1) := by decide +kernel
theorem dX4_pushWith_5 : decode cX4_pushWith 5 = .ok (.getfield 10, 3) := by decide +kernel
theorem dX4_pushWith_8 : decode cX4_pushWith 8 = .ok (.invokevirtual 164, 3) := by decide +kernel
theorem dX4_pushWith_11 : decode cX4_pushWith 11 = .ok (.iconst 0, 1) := by decide +kernel
theorem dX4_pushWith_12 : decode cX4_pushWith 12 = .ok (.istore_n 2, 1) := by decide +kernel
theorem dX4_pushWith_13 : decode cX4_pushWith 13 = .ok (.iload_n 2, 1) := by decide +kernel
theorem dX4_pushWith_14 : decode cX4_pushWith 14 = .ok (.aload_n 0, 1) := by decide +kernel
theorem dX4_pushWith_15 : decode cX4_pushWith 15 = .ok (.getfield 16, 3) := by decide +kernel
theorem dX4_pushWith_18 : decode cX4_pushWith 18 = .ok (.getfield 90, 3) := by decide +kernel
theorem dX4_pushWith_21 : decode cX4_pushWith 21 = .ok (.if_icmp .ge 27, 3) := by decide +kernel
theorem dX4_pushWith_24 : decode cX4_pushWith 24 = .ok (.iload_n 1, 1) := by decide +kernel
theorem dX4_pushWith_25 : decode cX4_pushWith 25 = .ok (.iload_n 2, 1) := by decide +kernel
theorem dX4_pushWith_26 : decode cX4_pushWith 26 = .ok (.ishr, 1) := by decide +kernel
theorem dX4_pushWith_27 : decode cX4_pushWith 27 = .ok (.iconst 1, 1) := by decide +kernel
theorem dX4_pushWith_28 : decode cX4_pushWith 28 = .ok (.iand, 1) := by decide +kernel
theorem dX4_pushWith_29 : decode cX4_pushWith 29 = .ok (.iconst 1, 1) := by decide +kernel
theorem dX4_pushWith_30 : decode cX4_pushWith 30 = .ok (.if_icmp .ne 12, 3) := by decide +kernel
theorem dX4_pushWith_33 : decode cX4_pushWith 33 = .ok (.aload_n 0, 1) := by decide +kernel
theorem dX4_pushWith_34 : decode cX4_pushWith 34 = .ok (.getfield 16, 3) := by decide +kernel
theorem dX4_pushWith_37 : decode cX4_pushWith 37 = .ok (.iload_n 2, 1) := by decide +kernel
theorem dX4_pushWith_38 : decode cX4_pushWith 38 = .ok (.iconst 1, 1) := by decide +kernel
theorem dX4_pushWith_39 : decode cX4_pushWith 39 = .ok (.invokevirtual 127, 3) := by decide +kernel
theorem dX4_pushWith_42 : decode cX4_pushWith 42 = .ok (.iinc 2 1, 3) := by decide +kernel
theorem dX4_pushWith_45 : decode cX4_pushWith 45 = .ok (.goto (-32), 3) := by decide +kernel
theorem dX4_pushWith_48 : decode cX4_pushWith 48 = .ok (.aload_n 0, 1) := by decide +kernel
theorem dX4_pushWith_49 : decode cX4_pushWith 49 = .ok (.getfield 16, 3) := by decide +kernel
theorem dX4_pushWith_52 : decode cX4_pushWith 52 = .ok (.invokevirtual 75, 3) := by decide +kernel
theorem dX4_pushWith_55 : decode cX4_pushWith 55 = .ok (.ireturn, 1) := by decide +kernel
set_option maxRecDepth 20000 in
theorem ggX4_turnsAsTold_X0_become : GoodIn wsX4_turnsAsTold wsX0_become := goodIn_r _ [12, 13, 14, 15, 16, 17, 18, 19, 20, 21, 22, 23, 24, 25, 26, 27, 28, 29, 30, 110, 111, 112, 113, 114, 115, 116, 117, 118, 119, 120, 121, 122, 123] (by decide +kernel) (by decide +kernel)
set_option maxRecDepth 20000 in
theorem gX4_turnsAsTold_X0_become : GoodIn wsX4_turnsAsTold (wsV RX4 164 RX0 yX0_become wsX0_become) := goodIn_app (goodIn_of _ (by decide +kernel)) ggX4_turnsAsTold_X0_become
set_option maxRecDepth 20000 in
theorem ggX4_turnsAsTold_X0_passMinute : GoodIn wsX4_turnsAsTold wsX0_passMinute := goodIn_r _ [34, 16, 35, 36, 37, 38, 39, 40, 41, 42, 17, 13, 43, 44, 45, 11, 46, 18, 24, 47, 48, 49, 50, 14, 51, 52, 53, 54, 55, 56, 57, 58, 59, 60, 61, 62, 63, 64, 65, 66, 19, 25, 26, 67, 68, 69, 70, 71, 72, 73, 74, 15, 75, 76, 77, 78, 27, 29, 79, 80, 81, 82, 28, 30, 83, 84, 85, 86, 87, 88, 89, 90, 91, 92, 93, 94, 95, 96, 110, 111, 112, 113, 114, 115, 116, 117, 118, 119, 120, 121, 122, 123] (by decide +kernel) (by decide +kernel)
set_option maxRecDepth 20000 in
theorem gX4_turnsAsTold_X0_passMinute : GoodIn wsX4_turnsAsTold (wsV RX4 168 RX0 yX0_passMinute wsX0_passMinute) := goodIn_app (goodIn_of _ (by decide +kernel)) ggX4_turnsAsTold_X0_passMinute
set_option maxRecDepth 20000 in
theorem ggX4_turnsAsTold_X2_numberAt : GoodIn wsX4_turnsAsTold wsX2_numberAt := goodIn_r _ [101, 102, 124, 125, 126] (by decide +kernel) (by decide +kernel)
set_option maxRecDepth 20000 in
theorem gX4_turnsAsTold_X2_numberAt : GoodIn wsX4_turnsAsTold (wsV RX4 219 RX2 yX2_numberAt wsX2_numberAt) := goodIn_app (goodIn_of _ (by decide +kernel)) ggX4_turnsAsTold_X2_numberAt
theorem dX4_turnsAsTold_0 : decode cX4_turnsAsTold 0 = .ok (.aload_n 0, 1) := by decide +kernel
theorem dX4_turnsAsTold_1 : decode cX4_turnsAsTold 1 = .ok (.getfield 16, 3) := by decide +kernel
theorem dX4_turnsAsTold_4 : decode cX4_turnsAsTold 4 = .ok (.aload_n 0, 1) := by decide +kernel
theorem dX4_turnsAsTold_5 : decode cX4_turnsAsTold 5 = .ok (.getfield 10, 3) := by decide +kernel
theorem dX4_turnsAsTold_8 : decode cX4_turnsAsTold 8 = .ok (.invokevirtual 164, 3) := by decide +kernel
theorem dX4_turnsAsTold_11 : decode cX4_turnsAsTold 11 = .ok (.aload_n 0, 1) := by decide +kernel
theorem dX4_turnsAsTold_12 : decode cX4_turnsAsTold 12 = .ok (.getfield 16, 3) := by decide +kernel
theorem dX4_turnsAsTold_15 : decode cX4_turnsAsTold 15 = .ok (.getfield 101, 3) := by decide +kernel
theorem dX4_turnsAsTold_18 : decode cX4_turnsAsTold 18 = .ok (.iload_n 2, 1) := by decide +kernel
theorem dX4_turnsAsTold_19 : decode cX4_turnsAsTold 19 = .ok (.iload_n 3, 1) := by decide +kernel
theorem dX4_turnsAsTold_20 : decode cX4_turnsAsTold 20 = .ok (.iastore, 1) := by decide +kernel
theorem dX4_turnsAsTold_21 : decode cX4_turnsAsTold 21 = .ok (.aload_n 0, 1) := by decide +kernel
theorem dX4_turnsAsTold_22 : decode cX4_turnsAsTold 22 = .ok (.getfield 16, 3) := by decide +kernel
theorem dX4_turnsAsTold_25 : decode cX4_turnsAsTold 25 = .ok (.getfield 107, 3) := by decide +kernel
theorem dX4_turnsAsTold_28 : decode cX4_turnsAsTold 28 = .ok (.iload_n 2, 1) := by decide +kernel
theorem dX4_turnsAsTold_29 : decode cX4_turnsAsTold 29 = .ok (.iload 4, 2) := by decide +kernel
theorem dX4_turnsAsTold_31 : decode cX4_turnsAsTold 31 = .ok (.iastore, 1) := by decide +kernel
theorem dX4_turnsAsTold_32 : decode cX4_turnsAsTold 32 = .ok (.iconst 0, 1) := by decide +kernel
theorem dX4_turnsAsTold_33 : decode cX4_turnsAsTold 33 = .ok (.istore 5, 2) := by decide +kernel
theorem dX4_turnsAsTold_35 : decode cX4_turnsAsTold 35 = .ok (.iload 5, 2) := by decide +kernel
theorem dX4_turnsAsTold_37 : decode cX4_turnsAsTold 37 = .ok (.aload_n 0, 1) := by decide +kernel
theorem dX4_turnsAsTold_38 : decode cX4_turnsAsTold 38 = .ok (.getfield 32, 3) := by decide +kernel
theorem dX4_turnsAsTold_41 : decode cX4_turnsAsTold 41 = .ok (.getfield 216, 3) := by decide +kernel
theorem dX4_turnsAsTold_44 : decode cX4_turnsAsTold 44 = .ok (.iload_n 1, 1) := by decide +kernel
theorem dX4_turnsAsTold_45 : decode cX4_turnsAsTold 45 = .ok (.iaload, 1) := by decide +kernel
theorem dX4_turnsAsTold_46 : decode cX4_turnsAsTold 46 = .ok (.if_icmp .ge 45, 3) := by decide +kernel
theorem dX4_turnsAsTold_49 : decode cX4_turnsAsTold 49 = .ok (.iload 5, 2) := by decide +kernel
theorem dX4_turnsAsTold_51 : decode cX4_turnsAsTold 51 = .ok (.ifCond .le 10, 3) := by decide +kernel
theorem dX4_turnsAsTold_54 : decode cX4_turnsAsTold 54 = .ok (.aload_n 0, 1) := by decide +kernel
theorem dX4_turnsAsTold_55 : decode cX4_turnsAsTold 55 = .ok (.getfield 16, 3) := by decide +kernel
theorem dX4_turnsAsTold_58 : decode cX4_turnsAsTold 58 = .ok (.invokevirtual 168, 3) := by decide +kernel
theorem dX4_turnsAsTold_61 : decode cX4_turnsAsTold 61 = .ok (.aload_n 0, 1) := by decide +kernel
theorem dX4_turnsAsTold_62 : decode cX4_turnsAsTold 62 = .ok (.getfield 32, 3) := by decide +kernel
theorem dX4_turnsAsTold_65 : decode cX4_turnsAsTold 65 = .ok (.iload_n 1, 1) := by decide +kernel
theorem dX4_turnsAsTold_66 : decode cX4_turnsAsTold 66 = .ok (.iload 5, 2) := by decide +kernel
theorem dX4_turnsAsTold_68 : decode cX4_turnsAsTold 68 = .ok (.invokevirtual 219, 3) := by decide +kernel
theorem dX4_turnsAsTold_71 : decode cX4_turnsAsTold 71 = .ok (.aload_n 0, 1) := by decide +kernel
theorem dX4_turnsAsTold_72 : decode cX4_turnsAsTold 72 = .ok (.getfield 16, 3) := by decide +kernel
theorem dX4_turnsAsTold_75 : decode cX4_turnsAsTold 75 = .ok (.getfield 44, 3) := by decide +kernel
theorem dX4_turnsAsTold_78 : decode cX4_turnsAsTold 78 = .ok (.i2l, 1) := by decide +kernel
theorem dX4_turnsAsTold_79 : decode cX4_turnsAsTold 79 = .ok (.lcmp, 1) := by decide +kernel
theorem dX4_turnsAsTold_80 : decode cX4_turnsAsTold 80 = .ok (.ifCond .eq 5, 3) := by decide +kernel
theorem dX4_turnsAsTold_83 : decode cX4_turnsAsTold 83 = .ok (.iconst 0, 1) := by decide +kernel
theorem dX4_turnsAsTold_84 : decode cX4_turnsAsTold 84 = .ok (.ireturn, 1) := by decide +kernel
theorem dX4_turnsAsTold_85 : decode cX4_turnsAsTold 85 = .ok (.iinc 5 1, 3) := by decide +kernel
theorem dX4_turnsAsTold_88 : decode cX4_turnsAsTold 88 = .ok (.goto (-53), 3) := by decide +kernel
theorem dX4_turnsAsTold_91 : decode cX4_turnsAsTold 91 = .ok (.iconst 1, 1) := by decide +kernel
theorem dX4_turnsAsTold_92 : decode cX4_turnsAsTold 92 = .ok (.ireturn, 1) := by decide +kernel
