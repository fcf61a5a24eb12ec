set_option maxRecDepth 20000 in
theorem ggX4_init_X0_init : GoodIn wsX4_init wsX0_init := goodIn_r _ [21, 22, 2, 3, 23, 18, 24, 25, 26, 27, 28, 29, 30, 42, 43, 44, 45, 46, 47, 48, 49, 50, 51, 52, 53, 54, 55] (by decide +kernel) (by decide +kernel)
set_option maxRecDepth 20000 in
theorem gX4_init_X0_init_n9 : GoodIn wsX4_init (wsX0_init) := ggX4_init_X0_init
set_option maxRecDepth 20000 in
theorem ggX4_init_X3_init : GoodIn wsX4_init wsX3_init := goodIn_r _ [32, 33, 2, 3, 18, 34, 63, 64, 65, 66, 67, 68] (by decide +kernel) (by decide +kernel)
set_option maxRecDepth 20000 in
theorem gX4_init_X3_init_n24 : GoodIn wsX4_init (wsX3_init) := ggX4_init_X3_init
set_option maxRecDepth 20000 in
theorem ggX4_init_X2_init : GoodIn wsX4_init wsX2_init := goodIn_r _ [36, 37, 2, 3, 18, 38, 39, 40, 41, 69, 70, 71] (by decide +kernel) (by decide +kernel)
set_option maxRecDepth 20000 in
theorem gX4_init_X2_init_n31 : GoodIn wsX4_init (wsX2_init) := ggX4_init_X2_init
theorem dX4_init_0 : decode cX4_init 0 = .ok (.aload_n 0, 1) := by decide +kernel
theorem dX4_init_1 : decode cX4_init 1 = .ok (.invokespecial 1, 3) := by decide +kernel
theorem dX4_init_4 : decode cX4_init 4 = .ok (.aload_n 0, 1) := by decide +kernel
theorem dX4_init_5 : decode cX4_init 5 = .ok (.new 7, 3) := by decide +kernel
theorem dX4_init_8 : decode cX4_init 8 = .ok (.dup, 1) := by decide +kernel
theorem dX4_init_9 : decode cX4_init 9 = .ok (.invokespecial 9, 3) := by decide +kernel
theorem dX4_init_12 : decode cX4_init 12 = .ok (.putfield 10, 3) := by decide +kernel
theorem dX4_init_15 : decode cX4_init 15 = .ok (.aload_n 0, 1) := by decide +kernel
theorem dX4_init_16 : decode cX4_init 16 = .ok (.new 7, 3) := by decide +kernel
theorem dX4_init_19 : decode cX4_init 19 = .ok (.dup, 1) := by decide +kernel
theorem dX4_init_20 : decode cX4_init 20 = .ok (.invokespecial 9, 3) := by decide +kernel
theorem dX4_init_23 : decode cX4_init 23 = .ok (.putfield 16, 3) := by decide +kernel
theorem dX4_init_26 : decode cX4_init 26 = .ok (.aload_n 0, 1) := by decide +kernel
theorem dX4_init_27 : decode cX4_init 27 = .ok (.new 7, 3) := by decide +kernel
theorem dX4_init_30 : decode cX4_init 30 = .ok (.dup, 1) := by decide +kernel
theorem dX4_init_31 : decode cX4_init 31 = .ok (.invokespecial 9, 3) := by decide +kernel
theorem dX4_init_34 : decode cX4_init 34 = .ok (.putfield 19, 3) := by decide +kernel
theorem dX4_init_37 : decode cX4_init 37 = .ok (.aload_n 0, 1) := by decide +kernel
theorem dX4_init_38 : decode cX4_init 38 = .ok (.new 22, 3) := by decide +kernel
theorem dX4_init_41 : decode cX4_init 41 = .ok (.dup, 1) := by decide +kernel
theorem dX4_init_42 : decode cX4_init 42 = .ok (.invokespecial 24, 3) := by decide +kernel
theorem dX4_init_45 : decode cX4_init 45 = .ok (.putfield 25, 3) := by decide +kernel
theorem dX4_init_48 : decode cX4_init 48 = .ok (.aload_n 0, 1) := by decide +kernel
theorem dX4_init_49 : decode cX4_init 49 = .ok (.new 29, 3) := by decide +kernel
theorem dX4_init_52 : decode cX4_init 52 = .ok (.dup, 1) := by decide +kernel
theorem dX4_init_53 : decode cX4_init 53 = .ok (.invokespecial 31, 3) := by decide +kernel
theorem dX4_init_56 : decode cX4_init 56 = .ok (.putfield 32, 3) := by decide +kernel
theorem dX4_init_59 : decode cX4_init 59 = .ok (.aload_n 0, 1) := by decide +kernel
theorem dX4_init_60 : decode cX4_init 60 = .ok (.bipush 7, 2) := by decide +kernel
theorem dX4_init_62 : decode cX4_init 62 = .ok (.newarray .int, 2) := by decide +kernel
theorem dX4_init_64 : decode cX4_init 64 = .ok (.putfield 36, 3) := by decide +kernel
theorem dX4_init_67 : decode cX4_init 67 = .ok (.return_, 1) := by decide +kernel
set_option maxRecDepth 20000 in
theorem ggX4_iron_X4_tell : GoodIn wsX4_iron wsX4_tell := goodIn_r _ [9, 4, 10, 11, 12, 13, 14, 15, 16, 17] (by decide +kernel) (by decide +kernel)
set_option maxRecDepth 20000 in
theorem gX4_iron_X4_tell : GoodIn wsX4_iron (wsV RX4 48 RX4 yX4_tell wsX4_tell) := goodIn_app (goodIn_of _ (by decide +kernel)) ggX4_iron_X4_tell
theorem dX4_iron_0 : decode cX4_iron 0 = .ok (.iload_n 1, 1) := by decide +kernel
theorem dX4_iron_1 : decode cX4_iron 1 = .ok (.ifCond .ne 32, 3) := by decide +kernel
theorem dX4_iron_4 : decode cX4_iron 4 = .ok (.iload_n 2, 1) := by decide +kernel
theorem dX4_iron_5 : decode cX4_iron 5 = .ok (.iconst 1, 1) := by decide +kernel
theorem dX4_iron_6 : decode cX4_iron 6 = .ok (.if_icmp .lt 27, 3) := by decide +kernel
theorem dX4_iron_9 : decode cX4_iron 9 = .ok (.iload_n 2, 1) := by decide +kernel
theorem dX4_iron_10 : decode cX4_iron 10 = .ok (.bipush 50, 2) := by decide +kernel
theorem dX4_iron_12 : decode cX4_iron 12 = .ok (.if_icmp .gt 21, 3) := by decide +kernel
theorem dX4_iron_15 : decode cX4_iron 15 = .ok (.aload_n 0, 1) := by decide +kernel
theorem dX4_iron_16 : decode cX4_iron 16 = .ok (.getfield 10, 3) := by decide +kernel
theorem dX4_iron_19 : decode cX4_iron 19 = .ok (.getfield 40, 3) := by decide +kernel
theorem dX4_iron_22 : decode cX4_iron 22 = .ok (.istore_n 3, 1) := by decide +kernel
theorem dX4_iron_23 : decode cX4_iron 23 = .ok (.aload_n 0, 1) := by decide +kernel
theorem dX4_iron_24 : decode cX4_iron 24 = .ok (.getfield 10, 3) := by decide +kernel
theorem dX4_iron_27 : decode cX4_iron 27 = .ok (.iload_n 2, 1) := by decide +kernel
theorem dX4_iron_28 : decode cX4_iron 28 = .ok (.putfield 40, 3) := by decide +kernel
theorem dX4_iron_31 : decode cX4_iron 31 = .ok (.iload_n 3, 1) := by decide +kernel
theorem dX4_iron_32 : decode cX4_iron 32 = .ok (.ireturn, 1) := by decide +kernel
theorem dX4_iron_33 : decode cX4_iron 33 = .ok (.iload_n 1, 1) := by decide +kernel
theorem dX4_iron_34 : decode cX4_iron 34 = .ok (.iconst 1, 1) := by decide +kernel
theorem dX4_iron_35 : decode cX4_iron 35 = .ok (.if_icmp .ne 32, 3) := by decide +kernel
theorem dX4_iron_38 : decode cX4_iron 38 = .ok (.iload_n 2, 1) := by decide +kernel
theorem dX4_iron_39 : decode cX4_iron 39 = .ok (.ifCond .lt 28, 3) := by decide +kernel
theorem dX4_iron_42 : decode cX4_iron 42 = .ok (.iload_n 2, 1) := by decide +kernel
theorem dX4_iron_43 : decode cX4_iron 43 = .ok (.sipush 200, 3) := by decide +kernel
theorem dX4_iron_46 : decode cX4_iron 46 = .ok (.if_icmp .gt 21, 3) := by decide +kernel
theorem dX4_iron_49 : decode cX4_iron 49 = .ok (.aload_n 0, 1) := by decide +kernel
theorem dX4_iron_50 : decode cX4_iron 50 = .ok (.getfield 10, 3) := by decide +kernel
theorem dX4_iron_53 : decode cX4_iron 53 = .ok (.getfield 44, 3) := by decide +kernel
theorem dX4_iron_56 : decode cX4_iron 56 = .ok (.istore_n 3, 1) := by decide +kernel
theorem dX4_iron_57 : decode cX4_iron 57 = .ok (.aload_n 0, 1) := by decide +kernel
theorem dX4_iron_58 : decode cX4_iron 58 = .ok (.getfield 10, 3) := by decide +kernel
theorem dX4_iron_61 : decode cX4_iron 61 = .ok (.iload_n 2, 1) := by decide +kernel
theorem dX4_iron_62 : decode cX4_iron 62 = .ok (.putfield 44, 3) := by decide +kernel
theorem dX4_iron_65 : decode cX4_iron 65 = .ok (.iload_n 3, 1) := by decide +kernel
theorem dX4_iron_66 : decode cX4_iron 66 = .ok (.ireturn, 1) := by decide +kernel
theorem dX4_iron_67 : decode cX4_iron 67 = .ok (.aload_n 0, 1) := by decide +kernel
theorem dX4_iron_68 : decode cX4_iron 68 = .ok (.ldc 47, 2) := by decide +kernel
theorem dX4_iron_70 : decode cX4_iron 70 = .ok (.invokevirtual 48, 3) := by decide +kernel
theorem dX4_iron_73 : decode cX4_iron 73 = .ok (.ireturn, 1) := by decide +kernel
set_option maxRecDepth 20000 in
theorem ggX4_rain_X4_tell : GoodIn wsX4_rain wsX4_tell := goodIn_r _ [8, 1, 9, 10, 11, 12, 13, 14, 15, 16] (by decide +kernel) (by decide +kernel)
set_option maxRecDepth 20000 in
theorem gX4_rain_X4_tell : GoodIn wsX4_rain (wsV RX4 48 RX4 yX4_tell wsX4_tell) := goodIn_app (goodIn_of _ (by decide +kernel)) ggX4_rain_X4_tell
theorem dX4_rain_0 : decode cX4_rain 0 = .ok (.iload_n 1, 1) := by decide +kernel
theorem dX4_rain_1 : decode cX4_rain 1 = .ok (.ifCond .lt 9, 3) := by decide +kernel
theorem dX4_rain_4 : decode cX4_rain 4 = .ok (.iload_n 1, 1) := by decide +kernel
theorem dX4_rain_5 : decode cX4_rain 5 = .ok (.bipush 31, 2) := by decide +kernel
theorem dX4_rain_7 : decode cX4_rain 7 = .ok (.if_icmp .le 10, 3) := by decide +kernel
theorem dX4_rain_10 : decode cX4_rain 10 = .ok (.aload_n 0, 1) := by decide +kernel
theorem dX4_rain_11 : decode cX4_rain 11 = .ok (.ldc 47, 2) := by decide +kernel
theorem dX4_rain_13 : decode cX4_rain 13 = .ok (.invokevirtual 48, 3) := by decide +kernel
theorem dX4_rain_16 : decode cX4_rain 16 = .ok (.ireturn, 1) := by decide +kernel
theorem dX4_rain_17 : decode cX4_rain 17 = .ok (.aload_n 0, 1) := by decide +kernel
theorem dX4_rain_18 : decode cX4_rain 18 = .ok (.getfield 10, 3) := by decide +kernel
theorem dX4_rain_21 : decode cX4_rain 21 = .ok (.getfield 52, 3) := by decide +kernel
theorem dX4_rain_24 : decode cX4_rain 24 = .ok (.istore_n 2, 1) := by decide +kernel
theorem dX4_rain_25 : decode cX4_rain 25 = .ok (.aload_n 0, 1) := by decide +kernel
theorem dX4_rain_26 : decode cX4_rain 26 = .ok (.getfield 10, 3) := by decide +kernel
theorem dX4_rain_29 : decode cX4_rain 29 = .ok (.iload_n 1, 1) := by decide +kernel
theorem dX4_rain_30 : decode cX4_rain 30 = .ok (.putfield 52, 3) := by decide +kernel
theorem dX4_rain_33 : decode cX4_rain 33 = .ok (.iload_n 2, 1) := by decide +kernel
theorem dX4_rain_34 : decode cX4_rain 34 = .ok (.ireturn, 1) := by decide +kernel
set_option maxRecDepth 20000 in
theorem ggX4_now_X0_minuteOfDay : GoodIn wsX4_now wsX0_minuteOfDay := goodIn_r _ [10, 11, 77, 78, 79, 80, 81, 82, 83, 84, 85, 86, 87, 88, 89, 90] (by decide +kernel) (by decide +kernel)
set_option maxRecDepth 20000 in
theorem gX4_now_X0_minuteOfDay : GoodIn wsX4_now (wsV RX4 58 RX0 yX0_minuteOfDay wsX0_minuteOfDay) := goodIn_app (goodIn_of _ (by decide +kernel)) ggX4_now_X0_minuteOfDay
set_option maxRecDepth 20000 in
theorem ggX4_now_X0_isNight : GoodIn wsX4_now wsX0_isNight := goodIn_r _ [15, 16, 7, 8, 9, 10, 11, 77, 78, 79, 80, 81, 82, 83, 84, 85, 86, 87, 88, 89, 90] (by decide +kernel) (by decide +kernel)
set_option maxRecDepth 20000 in
theorem gX4_now_X0_isNight : GoodIn wsX4_now (wsV RX4 62 RX0 yX0_isNight wsX0_isNight) := goodIn_app (goodIn_of _ (by decide +kernel)) ggX4_now_X0_isNight
set_option maxRecDepth 20000 in
theorem ggX4_now_X0_isWet : GoodIn wsX4_now wsX0_isWet := goodIn_r _ [20, 21, 16, 7, 8, 9, 10, 11, 77, 78, 79, 80, 81, 82, 83, 84, 85, 86, 87, 88, 89, 90] (by decide +kernel) (by decide +kernel)
set_option maxRecDepth 20000 in
theorem gX4_now_X0_isWet : GoodIn wsX4_now (wsV RX4 66 RX0 yX0_isWet wsX0_isWet) := goodIn_app (goodIn_of _ (by decide +kernel)) ggX4_now_X0_isWet
set_option maxRecDepth 20000 in
theorem ggX4_now_X0_weightNow : GoodIn wsX4_now wsX0_weightNow := goodIn_r _ [25, 26, 27, 28, 29, 9, 30, 31, 32, 77, 78, 79, 80, 81, 82, 83, 84, 85, 86, 87, 88, 89, 90] (by decide +kernel) (by decide +kernel)
set_option maxRecDepth 20000 in
theorem gX4_now_X0_weightNow : GoodIn wsX4_now (wsV RX4 72 RX0 yX0_weightNow wsX0_weightNow) := goodIn_app (goodIn_of _ (by decide +kernel)) ggX4_now_X0_weightNow
set_option maxRecDepth 20000 in
theorem ggX4_now_X0_pushNow : GoodIn wsX4_now wsX0_pushNow := goodIn_r _ [36, 37, 38, 39, 18, 19, 9, 20, 21, 16, 7, 8, 10, 11, 40, 41, 42, 43, 44, 13, 14, 15, 45, 46, 47, 48, 49, 50, 51, 52, 53, 54, 55, 77, 78, 79, 80, 81, 82, 83, 84, 85, 86, 87, 88, 89, 90] (by decide +kernel) (by decide +kernel)
set_option maxRecDepth 20000 in
theorem gX4_now_X0_pushNow : GoodIn wsX4_now (wsV RX4 75 RX0 yX0_pushNow wsX0_pushNow) := goodIn_app (goodIn_of _ (by decide +kernel)) ggX4_now_X0_pushNow
set_option maxRecDepth 20000 in
theorem ggX4_now_X0_outSet : GoodIn wsX4_now wsX0_outSet := goodIn_r _ [59, 37, 38, 77, 78, 79, 80, 81, 82, 83, 84, 85, 86, 87, 88, 89, 90] (by decide +kernel) (by decide +kernel)
set_option maxRecDepth 20000 in
theorem gX4_now_X0_outSet : GoodIn wsX4_now (wsV RX4 78 RX0 yX0_outSet wsX0_outSet) := goodIn_app (goodIn_of _ (by decide +kernel)) ggX4_now_X0_outSet
set_option maxRecDepth 20000 in
theorem ggX4_now_X0_onSet : GoodIn wsX4_now wsX0_onSet := goodIn_r _ [63, 31, 32, 77, 78, 79, 80, 81, 82, 83, 84, 85, 86, 87, 88, 89, 90] (by decide +kernel) (by decide +kernel)
set_option maxRecDepth 20000 in
theorem gX4_now_X0_onSet : GoodIn wsX4_now (wsV RX4 81 RX0 yX0_onSet wsX0_onSet) := goodIn_app (goodIn_of _ (by decide +kernel)) ggX4_now_X0_onSet
set_option maxRecDepth 20000 in
theorem ggX4_now_X4_tell : GoodIn wsX4_now wsX4_tell := goodIn_r _ [68, 5, 69, 70, 71, 72, 73, 74, 75, 76] (by decide +kernel) (by decide +kernel)
set_option maxRecDepth 20000 in
theorem gX4_now_X4_tell : GoodIn wsX4_now (wsV RX4 48 RX4 yX4_tell wsX4_tell) := goodIn_app (goodIn_of _ (by decide +kernel)) ggX4_now_X4_tell
theorem dX4_now_0 : decode cX4_now 0 = .ok (.iload_n 1, 1) := by decide +kernel
theorem dX4_now_1 : decode cX4_now 1 = .ok (.tableswitch 151 0 9 #[55, 63, 71, 87, 103, 111, 119, 127, 135, 143], 55) := by decide +kernel
theorem dX4_now_56 : decode cX4_now 56 = .ok (.aload_n 0, 1) := by decide +kernel
theorem dX4_now_57 : decode cX4_now 57 = .ok (.getfield 10, 3) := by decide +kernel
theorem dX4_now_60 : decode cX4_now 60 = .ok (.getfield 55, 3) := by decide +kernel
theorem dX4_now_63 : decode cX4_now 63 = .ok (.ireturn, 1) := by decide +kernel
theorem dX4_now_64 : decode cX4_now 64 = .ok (.aload_n 0, 1) := by decide +kernel
theorem dX4_now_65 : decode cX4_now 65 = .ok (.getfield 10, 3) := by decide +kernel
theorem dX4_now_68 : decode cX4_now 68 = .ok (.invokevirtual 58, 3) := by decide +kernel
theorem dX4_now_71 : decode cX4_now 71 = .ok (.ireturn, 1) := by decide +kernel
theorem dX4_now_72 : decode cX4_now 72 = .ok (.aload_n 0, 1) := by decide +kernel
theorem dX4_now_73 : decode cX4_now 73 = .ok (.getfield 10, 3) := by decide +kernel
theorem dX4_now_76 : decode cX4_now 76 = .ok (.invokevirtual 62, 3) := by decide +kernel
theorem dX4_now_79 : decode cX4_now 79 = .ok (.ifCond .eq 7, 3) := by decide +kernel
theorem dX4_now_82 : decode cX4_now 82 = .ok (.iconst 1, 1) := by decide +kernel
theorem dX4_now_83 : decode cX4_now 83 = .ok (.goto 4, 3) := by decide +kernel
theorem dX4_now_86 : decode cX4_now 86 = .ok (.iconst 0, 1) := by decide +kernel
theorem dX4_now_87 : decode cX4_now 87 = .ok (.ireturn, 1) := by decide +kernel
theorem dX4_now_88 : decode cX4_now 88 = .ok (.aload_n 0, 1) := by decide +kernel
theorem dX4_now_89 : decode cX4_now 89 = .ok (.getfield 10, 3) := by decide +kernel
theorem dX4_now_92 : decode cX4_now 92 = .ok (.invokevirtual 66, 3) := by decide +kernel
theorem dX4_now_95 : decode cX4_now 95 = .ok (.ifCond .eq 7, 3) := by decide +kernel
theorem dX4_now_98 : decode cX4_now 98 = .ok (.iconst 1, 1) := by decide +kernel
theorem dX4_now_99 : decode cX4_now 99 = .ok (.goto 4, 3) := by decide +kernel
theorem dX4_now_102 : decode cX4_now 102 = .ok (.iconst 0, 1) := by decide +kernel
theorem dX4_now_103 : decode cX4_now 103 = .ok (.ireturn, 1) := by decide +kernel
theorem dX4_now_104 : decode cX4_now 104 = .ok (.aload_n 0, 1) := by decide +kernel
theorem dX4_now_105 : decode cX4_now 105 = .ok (.getfield 10, 3) := by decide +kernel
theorem dX4_now_108 : decode cX4_now 108 = .ok (.getfield 44, 3) := by decide +kernel
theorem dX4_now_111 : decode cX4_now 111 = .ok (.ireturn, 1) := by decide +kernel
theorem dX4_now_112 : decode cX4_now 112 = .ok (.aload_n 0, 1) := by decide +kernel
theorem dX4_now_113 : decode cX4_now 113 = .ok (.getfield 10, 3) := by decide +kernel
theorem dX4_now_116 : decode cX4_now 116 = .ok (.getfield 69, 3) := by decide +kernel
theorem dX4_now_119 : decode cX4_now 119 = .ok (.ireturn, 1) := by decide +kernel
theorem dX4_now_120 : decode cX4_now 120 = .ok (.aload_n 0, 1) := by decide +kernel
theorem dX4_now_121 : decode cX4_now 121 = .ok (.getfield 10, 3) := by decide +kernel
theorem dX4_now_124 : decode cX4_now 124 = .ok (.invokevirtual 72, 3) := by decide +kernel
theorem dX4_now_127 : decode cX4_now 127 = .ok (.ireturn, 1) := by decide +kernel
theorem dX4_now_128 : decode cX4_now 128 = .ok (.aload_n 0, 1) := by decide +kernel
theorem dX4_now_129 : decode cX4_now 129 = .ok (.getfield 10, 3) := by decide +kernel
theorem dX4_now_132 : decode cX4_now 132 = .ok (.invokevirtual 75, 3) := by decide +kernel
theorem dX4_now_135 : decode cX4_now 135 = .ok (.ireturn, 1) := by decide +kernel
theorem dX4_now_136 : decode cX4_now 136 = .ok (.aload_n 0, 1) := by decide +kernel
theorem dX4_now_137 : decode cX4_now 137 = .ok (.getfield 10, 3) := by decide +kernel
theorem dX4_now_140 : decode cX4_now 140 = .ok (.invokevirtual 78, 3) := by decide +kernel
theorem dX4_now_143 : decode cX4_now 143 = .ok (.ireturn, 1) := by decide +kernel
theorem dX4_now_144 : decode cX4_now 144 = .ok (.aload_n 0, 1) := by decide +kernel
theorem dX4_now_145 : decode cX4_now 145 = .ok (.getfield 10, 3) := by decide +kernel
theorem dX4_now_148 : decode cX4_now 148 = .ok (.invokevirtual 81, 3) := by decide +kernel
theorem dX4_now_151 : decode cX4_now 151 = .ok (.ireturn, 1) := by decide +kernel
theorem dX4_now_152 : decode cX4_now 152 = .ok (.aload_n 0, 1) := by decide +kernel
theorem dX4_now_153 : decode cX4_now 153 = .ok (.ldc 47, 2) := by decide +kernel
theorem dX4_now_155 : decode cX4_now 155 = .ok (.invokevirtual 48, 3) := by decide +kernel
theorem dX4_now_158 : decode cX4_now 158 = .ok (.ireturn, 1) := by decide +kernel
set_option maxRecDepth 20000 in
theorem ggX4_mother_X1_isKind : GoodIn wsX4_mother wsX1_isKind := goodIn_r _ [8] (by decide +kernel) (by decide +kernel)
set_option maxRecDepth 20000 in
theorem gX4_mother_X1_isKind : GoodIn wsX4_mother (va_wsS RX4 84 yX1_isKind wsX1_isKind) := goodIn_app (goodIn_of _ (by decide +kernel)) ggX4_mother_X1_isKind
set_option maxRecDepth 20000 in
theorem ggX4_mother_X4_tell : GoodIn wsX4_mother wsX4_tell := goodIn_r _ [13, 1, 14, 25, 26, 27, 28, 29, 30, 31] (by decide +kernel) (by decide +kernel)
set_option maxRecDepth 20000 in
theorem gX4_mother_X4_tell : GoodIn wsX4_mother (wsV RX4 48 RX4 yX4_tell wsX4_tell) := goodIn_app (goodIn_of _ (by decide +kernel)) ggX4_mother_X4_tell
set_option maxRecDepth 20000 in
theorem ggX4_mother_X0_addMother : GoodIn wsX4_mother wsX0_addMother := goodIn_r _ [19, 20, 21, 22, 23, 24, 32, 33, 34, 35, 36, 37, 38, 39, 40, 41, 42, 43, 44, 45] (by decide +kernel) (by decide +kernel)
set_option maxRecDepth 20000 in
theorem gX4_mother_X0_addMother : GoodIn wsX4_mother (wsV RX4 94 RX0 yX0_addMother wsX0_addMother) := goodIn_app (goodIn_of _ (by decide +kernel)) ggX4_mother_X0_addMother
theorem dX4_mother_0 : decode cX4_mother 0 = .ok (.iload_n 1, 1) := by decide +kernel
theorem dX4_mother_1 : decode cX4_mother 1 = .ok (.invokestatic 84, 3) := by decide +kernel
theorem dX4_mother_4 : decode cX4_mother 4 = .ok (.ifCond .ne 10, 3) := by decide +kernel
theorem dX4_mother_7 : decode cX4_mother 7 = .ok (.aload_n 0, 1) := by decide +kernel
theorem dX4_mother_8 : decode cX4_mother 8 = .ok (.ldc 47, 2) := by decide +kernel
theorem dX4_mother_10 : decode cX4_mother 10 = .ok (.invokevirtual 48, 3) := by decide +kernel
theorem dX4_mother_13 : decode cX4_mother 13 = .ok (.ireturn, 1) := by decide +kernel
theorem dX4_mother_14 : decode cX4_mother 14 = .ok (.aload_n 0, 1) := by decide +kernel
theorem dX4_mother_15 : decode cX4_mother 15 = .ok (.getfield 10, 3) := by decide +kernel
theorem dX4_mother_18 : decode cX4_mother 18 = .ok (.getfield 90, 3) := by decide +kernel
theorem dX4_mother_21 : decode cX4_mother 21 = .ok (.bipush 8, 2) := by decide +kernel
theorem dX4_mother_23 : decode cX4_mother 23 = .ok (.if_icmp .lt 10, 3) := by decide +kernel
theorem dX4_mother_26 : decode cX4_mother 26 = .ok (.aload_n 0, 1) := by decide +kernel
theorem dX4_mother_27 : decode cX4_mother 27 = .ok (.ldc 93, 2) := by decide +kernel
theorem dX4_mother_29 : decode cX4_mother 29 = .ok (.invokevirtual 48, 3) := by decide +kernel
theorem dX4_mother_32 : decode cX4_mother 32 = .ok (.ireturn, 1) := by decide +kernel
theorem dX4_mother_33 : decode cX4_mother 33 = .ok (.aload_n 0, 1) := by decide +kernel
theorem dX4_mother_34 : decode cX4_mother 34 = .ok (.getfield 10, 3) := by decide +kernel
theorem dX4_mother_37 : decode cX4_mother 37 = .ok (.iload_n 1, 1) := by decide +kernel
theorem dX4_mother_38 : decode cX4_mother 38 = .ok (.bipush 10, 2) := by decide +kernel
theorem dX4_mother_40 : decode cX4_mother 40 = .ok (.iconst 0, 1) := by decide +kernel
theorem dX4_mother_41 : decode cX4_mother 41 = .ok (.invokevirtual 94, 3) := by decide +kernel
theorem dX4_mother_44 : decode cX4_mother 44 = .ok (.ireturn, 1) := by decide +kernel
set_option maxRecDepth 20000 in
theorem ggX4_of_X0_hasMother : GoodIn wsX4_of wsX0_hasMother := goodIn_r _ [11, 12, 62, 63, 64, 65, 66, 67, 68, 69, 70, 71, 72, 73, 74, 75] (by decide +kernel) (by decide +kernel)
set_option maxRecDepth 20000 in
theorem gX4_of_X0_hasMother : GoodIn wsX4_of (wsV RX4 98 RX0 yX0_hasMother wsX0_hasMother) := goodIn_app (goodIn_of _ (by decide +kernel)) ggX4_of_X0_hasMother
set_option maxRecDepth 20000 in
theorem ggX4_of_X4_tell : GoodIn wsX4_of wsX4_tell := goodIn_r _ [17, 2, 18, 55, 56, 57, 58, 59, 60, 61] (by decide +kernel) (by decide +kernel)
set_option maxRecDepth 20000 in
theorem gX4_of_X4_tell : GoodIn wsX4_of (wsV RX4 48 RX4 yX4_tell wsX4_tell) := goodIn_app (goodIn_of _ (by decide +kernel)) ggX4_of_X4_tell
set_option maxRecDepth 20000 in
theorem ggX4_of_X0_outCount : GoodIn wsX4_of wsX0_outCount := goodIn_r _ [22, 12, 23, 62, 63, 64, 65, 66, 67, 68, 69, 70, 71, 72, 73, 74, 75] (by decide +kernel) (by decide +kernel)
set_option maxRecDepth 20000 in
theorem gX4_of_X0_outCount : GoodIn wsX4_of (wsV RX4 113 RX0 yX0_outCount wsX0_outCount) := goodIn_app (goodIn_of _ (by decide +kernel)) ggX4_of_X0_outCount
set_option maxRecDepth 20000 in
theorem ggX4_of_X0_isNight : GoodIn wsX4_of wsX0_isNight := goodIn_r _ [27, 28, 29, 30, 10, 31, 32, 62, 63, 64, 65, 66, 67, 68, 69, 70, 71, 72, 73, 74, 75] (by decide +kernel) (by decide +kernel)
set_option maxRecDepth 20000 in
theorem gX4_of_X0_isNight : GoodIn wsX4_of (wsV RX4 62 RX0 yX0_isNight wsX0_isNight) := goodIn_app (goodIn_of _ (by decide +kernel)) ggX4_of_X0_isNight
set_option maxRecDepth 20000 in
theorem ggX4_of_X0_keepsNow : GoodIn wsX4_of wsX0_keepsNow := goodIn_r _ [36, 37, 38, 39, 23, 40, 41, 42, 43, 62, 63, 64, 65, 66, 67, 68, 69, 70, 71, 72, 73, 74, 75] (by decide +kernel) (by decide +kernel)
set_option maxRecDepth 20000 in
theorem gX4_of_X0_keepsNow : GoodIn wsX4_of (wsV RX4 116 RX0 yX0_keepsNow wsX0_keepsNow) := goodIn_app (goodIn_of _ (by decide +kernel)) ggX4_of_X0_keepsNow
set_option maxRecDepth 20000 in
theorem ggX4_of_X0_speaksNow : GoodIn wsX4_of wsX0_speaksNow := goodIn_r _ [47, 37, 39, 23, 48, 49, 50, 42, 51, 62, 63, 64, 65, 66, 67, 68, 69, 70, 71, 72, 73, 74, 75] (by decide +kernel) (by decide +kernel)
set_option maxRecDepth 20000 in
theorem gX4_of_X0_speaksNow : GoodIn wsX4_of (wsV RX4 120 RX0 yX0_speaksNow wsX0_speaksNow) := goodIn_app (goodIn_of _ (by decide +kernel)) ggX4_of_X0_speaksNow
set_option maxRecDepth 20000 in
theorem ggX4_of_X1_tells : GoodIn wsX4_of wsX1_tells := goodIn_r _ [54] (by decide +kernel) (by decide +kernel)
set_option maxRecDepth 20000 in
theorem gX4_of_X1_tells : GoodIn wsX4_of (va_wsS RX4 124 yX1_tells wsX1_tells) := goodIn_app (goodIn_of _ (by decide +kernel)) ggX4_of_X1_tells
theorem dX4_of_0 : decode cX4_of 0 = .ok (.aload_n 0, 1) := by decide +kernel
theorem dX4_of_1 : decode cX4_of 1 = .ok (.getfield 10, 3) := by decide +kernel
theorem dX4_of_4 : decode cX4_of 4 = .ok (.iload_n 1, 1) := by decide +kernel
theorem dX4_of_5 : decode cX4_of 5 = .ok (.invokevirtual 98, 3) := by decide +kernel
theorem dX4_of_8 : decode cX4_of 8 = .ok (.ifCond .ne 10, 3) := by decide +kernel
theorem dX4_of_11 : decode cX4_of 11 = .ok (.aload_n 0, 1) := by decide +kernel
theorem dX4_of_12 : decode cX4_of 12 = .ok (.ldc 47, 2) := by decide +kernel
theorem dX4_of_14 : decode cX4_of 14 = .ok (.invokevirtual 48, 3) := by decide +kernel
theorem dX4_of_17 : decode cX4_of 17 = .ok (.ireturn, 1) := by decide +kernel
theorem dX4_of_18 : decode cX4_of 18 = .ok (.iload_n 2, 1) := by decide +kernel
theorem dX4_of_19 : decode cX4_of 19 = .ok (.tableswitch 148 0 6 #[41, 51, 61, 71, 81, 104, 135], 41) := by decide +kernel
theorem dX4_of_60 : decode cX4_of 60 = .ok (.aload_n 0, 1) := by decide +kernel
theorem dX4_of_61 : decode cX4_of 61 = .ok (.getfield 10, 3) := by decide +kernel
theorem dX4_of_64 : decode cX4_of 64 = .ok (.getfield 101, 3) := by decide +kernel
theorem dX4_of_67 : decode cX4_of 67 = .ok (.iload_n 1, 1) := by decide +kernel
theorem dX4_of_68 : decode cX4_of 68 = .ok (.iaload, 1) := by decide +kernel
theorem dX4_of_69 : decode cX4_of 69 = .ok (.ireturn, 1) := by decide +kernel
theorem dX4_of_70 : decode cX4_of 70 = .ok (.aload_n 0, 1) := by decide +kernel
theorem dX4_of_71 : decode cX4_of 71 = .ok (.getfield 10, 3) := by decide +kernel
theorem dX4_of_74 : decode cX4_of 74 = .ok (.getfield 104, 3) := by decide +kernel
theorem dX4_of_77 : decode cX4_of 77 = .ok (.iload_n 1, 1) := by decide +kernel
theorem dX4_of_78 : decode cX4_of 78 = .ok (.iaload, 1) := by decide +kernel
theorem dX4_of_79 : decode cX4_of 79 = .ok (.ireturn, 1) := by decide +kernel
theorem dX4_of_80 : decode cX4_of 80 = .ok (.aload_n 0, 1) := by decide +kernel
theorem dX4_of_81 : decode cX4_of 81 = .ok (.getfield 10, 3) := by decide +kernel
theorem dX4_of_84 : decode cX4_of 84 = .ok (.getfield 107, 3) := by decide +kernel
theorem dX4_of_87 : decode cX4_of 87 = .ok (.iload_n 1, 1) := by decide +kernel
theorem dX4_of_88 : decode cX4_of 88 = .ok (.iaload, 1) := by decide +kernel
theorem dX4_of_89 : decode cX4_of 89 = .ok (.ireturn, 1) := by decide +kernel
theorem dX4_of_90 : decode cX4_of 90 = .ok (.aload_n 0, 1) := by decide +kernel
theorem dX4_of_91 : decode cX4_of 91 = .ok (.getfield 10, 3) := by decide +kernel
theorem dX4_of_94 : decode cX4_of 94 = .ok (.getfield 110, 3) := by decide +kernel
theorem dX4_of_97 : decode cX4_of 97 = .ok (.iload_n 1, 1) := by decide +kernel
theorem dX4_of_98 : decode cX4_of 98 = .ok (.iaload, 1) := by decide +kernel
theorem dX4_of_99 : decode cX4_of 99 = .ok (.ireturn, 1) := by decide +kernel
theorem dX4_of_100 : decode cX4_of 100 = .ok (.aload_n 0, 1) := by decide +kernel
theorem dX4_of_101 : decode cX4_of 101 = .ok (.getfield 10, 3) := by decide +kernel
theorem dX4_of_104 : decode cX4_of 104 = .ok (.iload_n 1, 1) := by decide +kernel
theorem dX4_of_105 : decode cX4_of 105 = .ok (.aload_n 0, 1) := by decide +kernel
theorem dX4_of_106 : decode cX4_of 106 = .ok (.getfield 10, 3) := by decide +kernel
theorem dX4_of_109 : decode cX4_of 109 = .ok (.invokevirtual 113, 3) := by decide +kernel
theorem dX4_of_112 : decode cX4_of 112 = .ok (.aload_n 0, 1) := by decide +kernel
theorem dX4_of_113 : decode cX4_of 113 = .ok (.getfield 10, 3) := by decide +kernel
theorem dX4_of_116 : decode cX4_of 116 = .ok (.invokevirtual 62, 3) := by decide +kernel
theorem dX4_of_119 : decode cX4_of 119 = .ok (.invokevirtual 116, 3) := by decide +kernel
theorem dX4_of_122 : decode cX4_of 122 = .ok (.ireturn, 1) := by decide +kernel
theorem dX4_of_123 : decode cX4_of 123 = .ok (.aload_n 0, 1) := by decide +kernel
theorem dX4_of_124 : decode cX4_of 124 = .ok (.getfield 10, 3) := by decide +kernel
theorem dX4_of_127 : decode cX4_of 127 = .ok (.iload_n 1, 1) := by decide +kernel
theorem dX4_of_128 : decode cX4_of 128 = .ok (.aload_n 0, 1) := by decide +kernel
theorem dX4_of_129 : decode cX4_of 129 = .ok (.getfield 10, 3) := by decide +kernel
theorem dX4_of_132 : decode cX4_of 132 = .ok (.invokevirtual 113, 3) := by decide +kernel
theorem dX4_of_135 : decode cX4_of 135 = .ok (.aload_n 0, 1) := by decide +kernel
theorem dX4_of_136 : decode cX4_of 136 = .ok (.getfield 10, 3) := by decide +kernel
theorem dX4_of_139 : decode cX4_of 139 = .ok (.invokevirtual 62, 3) := by decide +kernel
theorem dX4_of_142 : decode cX4_of 142 = .ok (.invokevirtual 120, 3) := by decide +kernel
theorem dX4_of_145 : decode cX4_of 145 = .ok (.ifCond .eq 7, 3) := by decide +kernel
theorem dX4_of_148 : decode cX4_of 148 = .ok (.iconst 1, 1) := by decide +kernel
theorem dX4_of_149 : decode cX4_of 149 = .ok (.goto 4, 3) := by decide +kernel
theorem dX4_of_152 : decode cX4_of 152 = .ok (.iconst 0, 1) := by decide +kernel
theorem dX4_of_153 : decode cX4_of 153 = .ok (.ireturn, 1) := by decide +kernel
theorem dX4_of_154 : decode cX4_of 154 = .ok (.aload_n 0, 1) := by decide +kernel
theorem dX4_of_155 : decode cX4_of 155 = .ok (.getfield 10, 3) := by decide +kernel
theorem dX4_of_158 : decode cX4_of 158 = .ok (.getfield 101, 3) := by decide +kernel
theorem dX4_of_161 : decode cX4_of 161 = .ok (.iload_n 1, 1) := by decide +kernel
theorem dX4_of_162 : decode cX4_of 162 = .ok (.iaload, 1) := by decide +kernel
theorem dX4_of_163 : decode cX4_of 163 = .ok (.invokestatic 124, 3) := by decide +kernel
theorem dX4_of_166 : decode cX4_of 166 = .ok (.ireturn, 1) := by decide +kernel
theorem dX4_of_167 : decode cX4_of 167 = .ok (.aload_n 0, 1) := by decide +kernel
theorem dX4_of_168 : decode cX4_of 168 = .ok (.ldc 47, 2) := by decide +kernel
theorem dX4_of_170 : decode cX4_of 170 = .ok (.invokevirtual 48, 3) := by decide +kernel
theorem dX4_of_173 : decode cX4_of 173 = .ok (.ireturn, 1) := by decide +kernel
set_option maxRecDepth 20000 in
theorem ggX4_set_X0_hasMother : GoodIn wsX4_set wsX0_hasMother := goodIn_r _ [9, 10, 24, 25, 26, 27, 28, 29, 30, 31, 32, 33, 34, 35, 36, 37] (by decide +kernel) (by decide +kernel)
set_option maxRecDepth 20000 in
theorem gX4_set_X0_hasMother : GoodIn wsX4_set (wsV RX4 98 RX0 yX0_hasMother wsX0_hasMother) := goodIn_app (goodIn_of _ (by decide +kernel)) ggX4_set_X0_hasMother
set_option maxRecDepth 20000 in
theorem ggX4_set_X4_tell : GoodIn wsX4_set wsX4_tell := goodIn_r _ [15, 2, 16, 17, 18, 19, 20, 21, 22, 23] (by decide +kernel) (by decide +kernel)
set_option maxRecDepth 20000 in
theorem gX4_set_X4_tell : GoodIn wsX4_set (wsV RX4 48 RX4 yX4_tell wsX4_tell) := goodIn_app (goodIn_of _ (by decide +kernel)) ggX4_set_X4_tell
theorem dX4_set_0 : decode cX4_set 0 = .ok (.aload_n 0, 1) := by decide +kernel
theorem dX4_set_1 : decode cX4_set 1 = .ok (.getfield 10, 3) := by decide +kernel
theorem dX4_set_4 : decode cX4_set 4 = .ok (.iload_n 1, 1) := by decide +kernel
theorem dX4_set_5 : decode cX4_set 5 = .ok (.invokevirtual 98, 3) := by decide +kernel
theorem dX4_set_8 : decode cX4_set 8 = .ok (.ifCond .ne 10, 3) := by decide +kernel
theorem dX4_set_11 : decode cX4_set 11 = .ok (.aload_n 0, 1) := by decide +kernel
theorem dX4_set_12 : decode cX4_set 12 = .ok (.ldc 47, 2) := by decide +kernel
theorem dX4_set_14 : decode cX4_set 14 = .ok (.invokevirtual 48, 3) := by decide +kernel
theorem dX4_set_17 : decode cX4_set 17 = .ok (.ireturn, 1) := by decide +kernel
theorem dX4_set_18 : decode cX4_set 18 = .ok (.iload_n 2, 1) := by decide +kernel
theorem dX4_set_19 : decode cX4_set 19 = .ok (.iconst 2, 1) := by decide +kernel
theorem dX4_set_20 : decode cX4_set 20 = .ok (.if_icmp .ne 37, 3) := by decide +kernel
theorem dX4_set_23 : decode cX4_set 23 = .ok (.iload_n 3, 1) := by decide +kernel
theorem dX4_set_24 : decode cX4_set 24 = .ok (.ifCond .lt 33, 3) := by decide +kernel
theorem dX4_set_27 : decode cX4_set 27 = .ok (.iload_n 3, 1) := by decide +kernel
theorem dX4_set_28 : decode cX4_set 28 = .ok (.bipush 99, 2) := by decide +kernel
theorem dX4_set_30 : decode cX4_set 30 = .ok (.if_icmp .gt 27, 3) := by decide +kernel
theorem dX4_set_33 : decode cX4_set 33 = .ok (.aload_n 0, 1) := by decide +kernel
theorem dX4_set_34 : decode cX4_set 34 = .ok (.getfield 10, 3) := by decide +kernel
theorem dX4_set_37 : decode cX4_set 37 = .ok (.getfield 107, 3) := by decide +kernel
theorem dX4_set_40 : decode cX4_set 40 = .ok (.iload_n 1, 1) := by decide +kernel
theorem dX4_set_41 : decode cX4_set 41 = .ok (.iaload, 1) := by decide +kernel
theorem dX4_set_42 : decode cX4_set 42 = .ok (.istore 4, 2) := by decide +kernel
theorem dX4_set_44 : decode cX4_set 44 = .ok (.aload_n 0, 1) := by decide +kernel
theorem dX4_set_45 : decode cX4_set 45 = .ok (.getfield 10, 3) := by decide +kernel
theorem dX4_set_48 : decode cX4_set 48 = .ok (.getfield 107, 3) := by decide +kernel
theorem dX4_set_51 : decode cX4_set 51 = .ok (.iload_n 1, 1) := by decide +kernel
theorem dX4_set_52 : decode cX4_set 52 = .ok (.iload_n 3, 1) := by decide +kernel
theorem dX4_set_53 : decode cX4_set 53 = .ok (.iastore, 1) := by decide +kernel
theorem dX4_set_54 : decode cX4_set 54 = .ok (.iload 4, 2) := by decide +kernel
theorem dX4_set_56 : decode cX4_set 56 = .ok (.ireturn, 1) := by decide +kernel
theorem dX4_set_57 : decode cX4_set 57 = .ok (.iload_n 2, 1) := by decide +kernel
theorem dX4_set_58 : decode cX4_set 58 = .ok (.iconst 3, 1) := by decide +kernel
theorem dX4_set_59 : decode cX4_set 59 = .ok (.if_icmp .ne 38, 3) := by decide +kernel
theorem dX4_set_62 : decode cX4_set 62 = .ok (.iload_n 3, 1) := by decide +kernel
theorem dX4_set_63 : decode cX4_set 63 = .ok (.ifCond .lt 34, 3) := by decide +kernel
theorem dX4_set_66 : decode cX4_set 66 = .ok (.iload_n 3, 1) := by decide +kernel
theorem dX4_set_67 : decode cX4_set 67 = .ok (.sipush 999, 3) := by decide +kernel
theorem dX4_set_70 : decode cX4_set 70 = .ok (.if_icmp .gt 27, 3) := by decide +kernel
theorem dX4_set_73 : decode cX4_set 73 = .ok (.aload_n 0, 1) := by decide +kernel
theorem dX4_set_74 : decode cX4_set 74 = .ok (.getfield 10, 3) := by decide +kernel
theorem dX4_set_77 : decode cX4_set 77 = .ok (.getfield 110, 3) := by decide +kernel
theorem dX4_set_80 : decode cX4_set 80 = .ok (.iload_n 1, 1) := by decide +kernel
theorem dX4_set_81 : decode cX4_set 81 = .ok (.iaload, 1) := by decide +kernel
theorem dX4_set_82 : decode cX4_set 82 = .ok (.istore 4, 2) := by decide +kernel
theorem dX4_set_84 : decode cX4_set 84 = .ok (.aload_n 0, 1) := by decide +kernel
theorem dX4_set_85 : decode cX4_set 85 = .ok (.getfield 10, 3) := by decide +kernel
theorem dX4_set_88 : decode cX4_set 88 = .ok (.getfield 110, 3) := by decide +kernel
theorem dX4_set_91 : decode cX4_set 91 = .ok (.iload_n 1, 1) := by decide +kernel
theorem dX4_set_92 : decode cX4_set 92 = .ok (.iload_n 3, 1) := by decide +kernel
theorem dX4_set_93 : decode cX4_set 93 = .ok (.iastore, 1) := by decide +kernel
theorem dX4_set_94 : decode cX4_set 94 = .ok (.iload 4, 2) := by decide +kernel
theorem dX4_set_96 : decode cX4_set 96 = .ok (.ireturn, 1) := by decide +kernel
theorem dX4_set_97 : decode cX4_set 97 = .ok (.aload_n 0, 1) := by decide +kernel
theorem dX4_set_98 : decode cX4_set 98 = .ok (.ldc 47, 2) := by decide +kernel
theorem dX4_set_100 : decode cX4_set 100 = .ok (.invokevirtual 48, 3) := by decide +kernel
theorem dX4_set_103 : decode cX4_set 103 = .ok (.ireturn, 1) := by decide +kernel
set_option maxRecDepth 20000 in
theorem ggX4_out_X0_hasMother : GoodIn wsX4_out wsX0_hasMother := goodIn_r _ [8, 9, 29, 30, 31, 32, 33, 34, 35, 36, 37, 38, 39, 40, 41, 42] (by decide +kernel) (by decide +kernel)
set_option maxRecDepth 20000 in
theorem gX4_out_X0_hasMother : GoodIn wsX4_out (wsV RX4 98 RX0 yX0_hasMother wsX0_hasMother) := goodIn_app (goodIn_of _ (by decide +kernel)) ggX4_out_X0_hasMother
set_option maxRecDepth 20000 in
theorem ggX4_out_X4_tell : GoodIn wsX4_out wsX4_tell := goodIn_r _ [14, 2, 15, 22, 23, 24, 25, 26, 27, 28] (by decide +kernel) (by decide +kernel)
set_option maxRecDepth 20000 in
theorem gX4_out_X4_tell : GoodIn wsX4_out (wsV RX4 48 RX4 yX4_tell wsX4_tell) := goodIn_app (goodIn_of _ (by decide +kernel)) ggX4_out_X4_tell
set_option maxRecDepth 20000 in
theorem ggX4_out_X0_moveMother : GoodIn wsX4_out wsX0_moveMother := goodIn_r _ [19, 20, 21, 29, 30, 31, 32, 33, 34, 35, 36, 37, 38, 39, 40, 41, 42] (by decide +kernel) (by decide +kernel)
set_option maxRecDepth 20000 in
theorem gX4_out_X0_moveMother : GoodIn wsX4_out (wsV RX4 127 RX0 yX0_moveMother wsX0_moveMother) := goodIn_app (goodIn_of _ (by decide +kernel)) ggX4_out_X0_moveMother
theorem dX4_out_0 : decode cX4_out 0 = .ok (.aload_n 0, 1) := by decide +kernel
theorem dX4_out_1 : decode cX4_out 1 = .ok (.getfield 10, 3) := by decide +kernel
theorem dX4_out_4 : decode cX4_out 4 = .ok (.iload_n 1, 1) := by decide +kernel
theorem dX4_out_5 : decode cX4_out 5 = .ok (.invokevirtual 98, 3) := by decide +kernel
theorem dX4_out_8 : decode cX4_out 8 = .ok (.ifCond .eq 12, 3) := by decide +kernel
theorem dX4_out_11 : decode cX4_out 11 = .ok (.iload_n 2, 1) := by decide +kernel
theorem dX4_out_12 : decode cX4_out 12 = .ok (.ifCond .lt 8, 3) := by decide +kernel
theorem dX4_out_15 : decode cX4_out 15 = .ok (.iload_n 2, 1) := by decide +kernel
theorem dX4_out_16 : decode cX4_out 16 = .ok (.iconst 1, 1) := by decide +kernel
theorem dX4_out_17 : decode cX4_out 17 = .ok (.if_icmp .le 10, 3) := by decide +kernel
theorem dX4_out_20 : decode cX4_out 20 = .ok (.aload_n 0, 1) := by decide +kernel
theorem dX4_out_21 : decode cX4_out 21 = .ok (.ldc 47, 2) := by decide +kernel
theorem dX4_out_23 : decode cX4_out 23 = .ok (.invokevirtual 48, 3) := by decide +kernel
theorem dX4_out_26 : decode cX4_out 26 = .ok (.ireturn, 1) := by decide +kernel
theorem dX4_out_27 : decode cX4_out 27 = .ok (.aload_n 0, 1) := by decide +kernel
theorem dX4_out_28 : decode cX4_out 28 = .ok (.getfield 10, 3) := by decide +kernel
theorem dX4_out_31 : decode cX4_out 31 = .ok (.getfield 104, 3) := by decide +kernel
theorem dX4_out_34 : decode cX4_out 34 = .ok (.iload_n 1, 1) := by decide +kernel
theorem dX4_out_35 : decode cX4_out 35 = .ok (.iaload, 1) := by decide +kernel
theorem dX4_out_36 : decode cX4_out 36 = .ok (.istore_n 3, 1) := by decide +kernel
theorem dX4_out_37 : decode cX4_out 37 = .ok (.aload_n 0, 1) := by decide +kernel
theorem dX4_out_38 : decode cX4_out 38 = .ok (.getfield 10, 3) := by decide +kernel
theorem dX4_out_41 : decode cX4_out 41 = .ok (.iload_n 1, 1) := by decide +kernel
theorem dX4_out_42 : decode cX4_out 42 = .ok (.iload_n 2, 1) := by decide +kernel
theorem dX4_out_43 : decode cX4_out 43 = .ok (.invokevirtual 127, 3) := by decide +kernel
theorem dX4_out_46 : decode cX4_out 46 = .ok (.iload_n 3, 1) := by decide +kernel
theorem dX4_out_47 : decode cX4_out 47 = .ok (.ireturn, 1) := by decide +kernel
set_option maxRecDepth 20000 in
theorem ggX4_turn_X0_hasMother : GoodIn wsX4_turn wsX0_hasMother := goodIn_r _ [8, 9, 27, 28, 29, 30, 31, 32, 33, 34, 35, 36, 37, 38, 39, 40] (by decide +kernel) (by decide +kernel)
set_option maxRecDepth 20000 in
theorem gX4_turn_X0_hasMother : GoodIn wsX4_turn (wsV RX4 98 RX0 yX0_hasMother wsX0_hasMother) := goodIn_app (goodIn_of _ (by decide +kernel)) ggX4_turn_X0_hasMother
set_option maxRecDepth 20000 in
theorem ggX4_turn_X1_isKind : GoodIn wsX4_turn wsX1_isKind := goodIn_r _ [13] (by decide +kernel) (by decide +kernel)
set_option maxRecDepth 20000 in
theorem gX4_turn_X1_isKind : GoodIn wsX4_turn (va_wsS RX4 84 yX1_isKind wsX1_isKind) := goodIn_app (goodIn_of _ (by decide +kernel)) ggX4_turn_X1_isKind
set_option maxRecDepth 20000 in
theorem ggX4_turn_X4_tell : GoodIn wsX4_turn wsX4_tell := goodIn_r _ [18, 2, 19, 20, 21, 22, 23, 24, 25, 26] (by decide +kernel) (by decide +kernel)
set_option maxRecDepth 20000 in
theorem gX4_turn_X4_tell : GoodIn wsX4_turn (wsV RX4 48 RX4 yX4_tell wsX4_tell) := goodIn_app (goodIn_of _ (by decide +kernel)) ggX4_turn_X4_tell
theorem dX4_turn_0 : decode cX4_turn 0 = .ok (.aload_n 0, 1) := by decide +kernel
theorem dX4_turn_1 : decode cX4_turn 1 = .ok (.getfield 10, 3) := by decide +kernel
theorem dX4_turn_4 : decode cX4_turn 4 = .ok (.iload_n 1, 1) := by decide +kernel
theorem dX4_turn_5 : decode cX4_turn 5 = .ok (.invokevirtual 98, 3) := by decide +kernel
theorem dX4_turn_8 : decode cX4_turn 8 = .ok (.ifCond .eq 10, 3) := by decide +kernel
theorem dX4_turn_11 : decode cX4_turn 11 = .ok (.iload_n 2, 1) := by decide +kernel
theorem dX4_turn_12 : decode cX4_turn 12 = .ok (.invokestatic 84, 3) := by decide +kernel
theorem dX4_turn_15 : decode cX4_turn 15 = .ok (.ifCond .ne 10, 3) := by decide +kernel
theorem dX4_turn_18 : decode cX4_turn 18 = .ok (.aload_n 0, 1) := by decide +kernel
theorem dX4_turn_19 : decode cX4_turn 19 = .ok (.ldc 47, 2) := by decide +kernel
theorem dX4_turn_21 : decode cX4_turn 21 = .ok (.invokevirtual 48, 3) := by decide +kernel
theorem dX4_turn_24 : decode cX4_turn 24 = .ok (.ireturn, 1) := by decide +kernel
theorem dX4_turn_25 : decode cX4_turn 25 = .ok (.aload_n 0, 1) := by decide +kernel
theorem dX4_turn_26 : decode cX4_turn 26 = .ok (.getfield 10, 3) := by decide +kernel
theorem dX4_turn_29 : decode cX4_turn 29 = .ok (.getfield 101, 3) := by decide +kernel
theorem dX4_turn_32 : decode cX4_turn 32 = .ok (.iload_n 1, 1) := by decide +kernel
theorem dX4_turn_33 : decode cX4_turn 33 = .ok (.iaload, 1) := by decide +kernel
theorem dX4_turn_34 : decode cX4_turn 34 = .ok (.istore_n 3, 1) := by decide +kernel
theorem dX4_turn_35 : decode cX4_turn 35 = .ok (.aload_n 0, 1) := by decide +kernel
theorem dX4_turn_36 : decode cX4_turn 36 = .ok (.getfield 10, 3) := by decide +kernel
theorem dX4_turn_39 : decode cX4_turn 39 = .ok (.getfield 101, 3) := by decide +kernel
theorem dX4_turn_42 : decode cX4_turn 42 = .ok (.iload_n 1, 1) := by decide +kernel
theorem dX4_turn_43 : decode cX4_turn 43 = .ok (.iload_n 2, 1) := by decide +kernel
theorem dX4_turn_44 : decode cX4_turn 44 = .ok (.iastore, 1) := by decide +kernel
theorem dX4_turn_45 : decode cX4_turn 45 = .ok (.iload_n 3, 1) := by decide +kernel
theorem dX4_turn_46 : decode cX4_turn 46 = .ok (.ireturn, 1) := by decide +kernel
set_option maxRecDepth 20000 in
theorem ggX4_as_X0_hasMother : GoodIn wsX4_as wsX0_hasMother := goodIn_r _ [10, 11, 35, 36, 37, 38, 39, 40, 41, 42, 43, 44, 45, 46, 47, 48] (by decide +kernel) (by decide +kernel)
set_option maxRecDepth 20000 in
theorem gX4_as_X0_hasMother : GoodIn wsX4_as (wsV RX4 98 RX0 yX0_hasMother wsX0_hasMother) := goodIn_app (goodIn_of _ (by decide +kernel)) ggX4_as_X0_hasMother
set_option maxRecDepth 20000 in
theorem ggX4_as_X1_isKind : GoodIn wsX4_as wsX1_isKind := goodIn_r _ [15] (by decide +kernel) (by decide +kernel)
set_option maxRecDepth 20000 in
theorem gX4_as_X1_isKind : GoodIn wsX4_as (va_wsS RX4 84 yX1_isKind wsX1_isKind) := goodIn_app (goodIn_of _ (by decide +kernel)) ggX4_as_X1_isKind
set_option maxRecDepth 20000 in
theorem ggX4_as_X4_tell : GoodIn wsX4_as wsX4_tell := goodIn_r _ [20, 2, 21, 28, 29, 30, 31, 32, 33, 34] (by decide +kernel) (by decide +kernel)
set_option maxRecDepth 20000 in
theorem gX4_as_X4_tell : GoodIn wsX4_as (wsV RX4 48 RX4 yX4_tell wsX4_tell) := goodIn_app (goodIn_of _ (by decide +kernel)) ggX4_as_X4_tell
set_option maxRecDepth 20000 in
theorem ggX4_as_X1_isUnder : GoodIn wsX4_as wsX1_isUnder := goodIn_r _ [24, 25, 26, 14, 27] (by decide +kernel) (by decide +kernel)
set_option maxRecDepth 20000 in
theorem gX4_as_X1_isUnder : GoodIn wsX4_as (va_wsS RX4 131 yX1_isUnder wsX1_isUnder) := goodIn_app (goodIn_of _ (by decide +kernel)) ggX4_as_X1_isUnder
theorem dX4_as_0 : decode cX4_as 0 = .ok (.aload_n 0, 1) := by decide +kernel
theorem dX4_as_1 : decode cX4_as 1 = .ok (.getfield 10, 3) := by decide +kernel
theorem dX4_as_4 : decode cX4_as 4 = .ok (.iload_n 1, 1) := by decide +kernel
theorem dX4_as_5 : decode cX4_as 5 = .ok (.invokevirtual 98, 3) := by decide +kernel
theorem dX4_as_8 : decode cX4_as 8 = .ok (.ifCond .eq 10, 3) := by decide +kernel
theorem dX4_as_11 : decode cX4_as 11 = .ok (.iload_n 2, 1) := by decide +kernel
theorem dX4_as_12 : decode cX4_as 12 = .ok (.invokestatic 84, 3) := by decide +kernel
theorem dX4_as_15 : decode cX4_as 15 = .ok (.ifCond .ne 10, 3) := by decide +kernel
theorem dX4_as_18 : decode cX4_as 18 = .ok (.aload_n 0, 1) := by decide +kernel
theorem dX4_as_19 : decode cX4_as 19 = .ok (.ldc 47, 2) := by decide +kernel
theorem dX4_as_21 : decode cX4_as 21 = .ok (.invokevirtual 48, 3) := by decide +kernel
theorem dX4_as_24 : decode cX4_as 24 = .ok (.ireturn, 1) := by decide +kernel
theorem dX4_as_25 : decode cX4_as 25 = .ok (.aload_n 0, 1) := by decide +kernel
theorem dX4_as_26 : decode cX4_as 26 = .ok (.getfield 10, 3) := by decide +kernel
theorem dX4_as_29 : decode cX4_as 29 = .ok (.getfield 101, 3) := by decide +kernel
theorem dX4_as_32 : decode cX4_as 32 = .ok (.iload_n 1, 1) := by decide +kernel
theorem dX4_as_33 : decode cX4_as 33 = .ok (.iaload, 1) := by decide +kernel
theorem dX4_as_34 : decode cX4_as 34 = .ok (.iload_n 2, 1) := by decide +kernel
theorem dX4_as_35 : decode cX4_as 35 = .ok (.invokestatic 131, 3) := by decide +kernel
theorem dX4_as_38 : decode cX4_as 38 = .ok (.ifCond .ne 10, 3) := by decide +kernel
theorem dX4_as_41 : decode cX4_as 41 = .ok (.aload_n 0, 1) := by decide +kernel
theorem dX4_as_42 : decode cX4_as 42 = .ok (.ldc 135, 2) := by decide +kernel
theorem dX4_as_44 : decode cX4_as 44 = .ok (.invokevirtual 48, 3) := by decide +kernel
theorem dX4_as_47 : decode cX4_as 47 = .ok (.ireturn, 1) := by decide +kernel
theorem dX4_as_48 : decode cX4_as 48 = .ok (.aload_n 0, 1) := by decide +kernel
theorem dX4_as_49 : decode cX4_as 49 = .ok (.getfield 10, 3) := by decide +kernel
theorem dX4_as_52 : decode cX4_as 52 = .ok (.getfield 107, 3) := by decide +kernel
theorem dX4_as_55 : decode cX4_as 55 = .ok (.iload_n 1, 1) := by decide +kernel
theorem dX4_as_56 : decode cX4_as 56 = .ok (.iaload, 1) := by decide +kernel
theorem dX4_as_57 : decode cX4_as 57 = .ok (.ireturn, 1) := by decide +kernel
set_option maxRecDepth 20000 in
theorem ggX4_child_X4_tell : GoodIn wsX4_child wsX4_tell := goodIn_r _ [9, 1, 10, 20, 21, 22, 23, 24, 25, 26] (by decide +kernel) (by decide +kernel)
set_option maxRecDepth 20000 in
theorem gX4_child_X4_tell : GoodIn wsX4_child (wsV RX4 48 RX4 yX4_tell wsX4_tell) := goodIn_app (goodIn_of _ (by decide +kernel)) ggX4_child_X4_tell
set_option maxRecDepth 20000 in
theorem ggX4_child_X0_addChild : GoodIn wsX4_child wsX0_addChild := goodIn_r _ [15, 16, 17, 18, 19, 27, 28, 29, 30, 31, 32, 33, 34, 35, 36, 37, 38, 39, 40] (by decide +kernel) (by decide +kernel)
set_option maxRecDepth 20000 in
theorem gX4_child_X0_addChild : GoodIn wsX4_child (wsV RX4 139 RX0 yX0_addChild wsX0_addChild) := goodIn_app (goodIn_of _ (by decide +kernel)) ggX4_child_X0_addChild
theorem dX4_child_0 : decode cX4_child 0 = .ok (.iload_n 1, 1) := by decide +kernel
theorem dX4_child_1 : decode cX4_child 1 = .ok (.ifCond .lt 10, 3) := by decide +kernel
theorem dX4_child_4 : decode cX4_child 4 = .ok (.iload_n 1, 1) := by decide +kernel
theorem dX4_child_5 : decode cX4_child 5 = .ok (.sipush 200, 3) := by decide +kernel
theorem dX4_child_8 : decode cX4_child 8 = .ok (.if_icmp .le 10, 3) := by decide +kernel
theorem dX4_child_11 : decode cX4_child 11 = .ok (.aload_n 0, 1) := by decide +kernel
theorem dX4_child_12 : decode cX4_child 12 = .ok (.ldc 47, 2) := by decide +kernel
theorem dX4_child_14 : decode cX4_child 14 = .ok (.invokevirtual 48, 3) := by decide +kernel
theorem dX4_child_17 : decode cX4_child 17 = .ok (.ireturn, 1) := by decide +kernel
theorem dX4_child_18 : decode cX4_child 18 = .ok (.aload_n 0, 1) := by decide +kernel
theorem dX4_child_19 : decode cX4_child 19 = .ok (.getfield 10, 3) := by decide +kernel
theorem dX4_child_22 : decode cX4_child 22 = .ok (.getfield 136, 3) := by decide +kernel
theorem dX4_child_25 : decode cX4_child 25 = .ok (.bipush 6, 2) := by decide +kernel
theorem dX4_child_27 : decode cX4_child 27 = .ok (.if_icmp .lt 10, 3) := by decide +kernel
theorem dX4_child_30 : decode cX4_child 30 = .ok (.aload_n 0, 1) := by decide +kernel
theorem dX4_child_31 : decode cX4_child 31 = .ok (.ldc 93, 2) := by decide +kernel
theorem dX4_child_33 : decode cX4_child 33 = .ok (.invokevirtual 48, 3) := by decide +kernel
theorem dX4_child_36 : decode cX4_child 36 = .ok (.ireturn, 1) := by decide +kernel
theorem dX4_child_37 : decode cX4_child 37 = .ok (.aload_n 0, 1) := by decide +kernel
theorem dX4_child_38 : decode cX4_child 38 = .ok (.getfield 10, 3) := by decide +kernel
theorem dX4_child_41 : decode cX4_child 41 = .ok (.iload_n 1, 1) := by decide +kernel
theorem dX4_child_42 : decode cX4_child 42 = .ok (.iconst 0, 1) := by decide +kernel
theorem dX4_child_43 : decode cX4_child 43 = .ok (.invokevirtual 139, 3) := by decide +kernel
theorem dX4_child_46 : decode cX4_child 46 = .ok (.ireturn, 1) := by decide +kernel
set_option maxRecDepth 20000 in
theorem ggX4_childOf_X0_hasChild : GoodIn wsX4_childOf wsX0_hasChild := goodIn_r _ [10, 11, 25, 26, 27, 28, 29, 30, 31, 32, 33, 34, 35, 36, 37, 38] (by decide +kernel) (by decide +kernel)
set_option maxRecDepth 20000 in
theorem gX4_childOf_X0_hasChild : GoodIn wsX4_childOf (wsV RX4 143 RX0 yX0_hasChild wsX0_hasChild) := goodIn_app (goodIn_of _ (by decide +kernel)) ggX4_childOf_X0_hasChild
set_option maxRecDepth 20000 in
theorem ggX4_childOf_X4_tell : GoodIn wsX4_childOf wsX4_tell := goodIn_r _ [16, 2, 17, 18, 19, 20, 21, 22, 23, 24] (by decide +kernel) (by decide +kernel)
set_option maxRecDepth 20000 in
theorem gX4_childOf_X4_tell : GoodIn wsX4_childOf (wsV RX4 48 RX4 yX4_tell wsX4_tell) := goodIn_app (goodIn_of _ (by decide +kernel)) ggX4_childOf_X4_tell
theorem dX4_childOf_0 : decode cX4_childOf 0 = .ok (.aload_n 0, 1) := by decide +kernel
theorem dX4_childOf_1 : decode cX4_childOf 1 = .ok (.getfield 10, 3) := by decide +kernel
theorem dX4_childOf_4 : decode cX4_childOf 4 = .ok (.iload_n 1, 1) := by decide +kernel
theorem dX4_childOf_5 : decode cX4_childOf 5 = .ok (.invokevirtual 143, 3) := by decide +kernel
theorem dX4_childOf_8 : decode cX4_childOf 8 = .ok (.ifCond .ne 10, 3) := by decide +kernel
theorem dX4_childOf_11 : decode cX4_childOf 11 = .ok (.aload_n 0, 1) := by decide +kernel
theorem dX4_childOf_12 : decode cX4_childOf 12 = .ok (.ldc 47, 2) := by decide +kernel
theorem dX4_childOf_14 : decode cX4_childOf 14 = .ok (.invokevirtual 48, 3) := by decide +kernel
theorem dX4_childOf_17 : decode cX4_childOf 17 = .ok (.ireturn, 1) := by decide +kernel
theorem dX4_childOf_18 : decode cX4_childOf 18 = .ok (.iload_n 2, 1) := by decide +kernel
theorem dX4_childOf_19 : decode cX4_childOf 19 = .ok (.tableswitch 55 0 2 #[25, 35, 45], 25) := by decide +kernel
theorem dX4_childOf_44 : decode cX4_childOf 44 = .ok (.aload_n 0, 1) := by decide +kernel
theorem dX4_childOf_45 : decode cX4_childOf 45 = .ok (.getfield 10, 3) := by decide +kernel
theorem dX4_childOf_48 : decode cX4_childOf 48 = .ok (.getfield 146, 3) := by decide +kernel
theorem dX4_childOf_51 : decode cX4_childOf 51 = .ok (.iload_n 1, 1) := by decide +kernel
theorem dX4_childOf_52 : decode cX4_childOf 52 = .ok (.iaload, 1) := by decide +kernel
theorem dX4_childOf_53 : decode cX4_childOf 53 = .ok (.ireturn, 1) := by decide +kernel
theorem dX4_childOf_54 : decode cX4_childOf 54 = .ok (.aload_n 0, 1) := by decide +kernel
theorem dX4_childOf_55 : decode cX4_childOf 55 = .ok (.getfield 10, 3) := by decide +kernel
theorem dX4_childOf_58 : decode cX4_childOf 58 = .ok (.getfield 149, 3) := by decide +kernel
theorem dX4_childOf_61 : decode cX4_childOf 61 = .ok (.iload_n 1, 1) := by decide +kernel
theorem dX4_childOf_62 : decode cX4_childOf 62 = .ok (.iaload, 1) := by decide +kernel
theorem dX4_childOf_63 : decode cX4_childOf 63 = .ok (.ireturn, 1) := by decide +kernel
theorem dX4_childOf_64 : decode cX4_childOf 64 = .ok (.aload_n 0, 1) := by decide +kernel
theorem dX4_childOf_65 : decode cX4_childOf 65 = .ok (.getfield 10, 3) := by decide +kernel
theorem dX4_childOf_68 : decode cX4_childOf 68 = .ok (.getfield 152, 3) := by decide +kernel
theorem dX4_childOf_71 : decode cX4_childOf 71 = .ok (.iload_n 1, 1) := by decide +kernel
theorem dX4_childOf_72 : decode cX4_childOf 72 = .ok (.iaload, 1) := by decide +kernel
theorem dX4_childOf_73 : decode cX4_childOf 73 = .ok (.ireturn, 1) := by decide +kernel
theorem dX4_childOf_74 : decode cX4_childOf 74 = .ok (.aload_n 0, 1) := by decide +kernel
theorem dX4_childOf_75 : decode cX4_childOf 75 = .ok (.ldc 47, 2) := by decide +kernel
theorem dX4_childOf_77 : decode cX4_childOf 77 = .ok (.invokevirtual 48, 3) := by decide +kernel
theorem dX4_childOf_80 : decode cX4_childOf 80 = .ok (.ireturn, 1) := by decide +kernel
set_option maxRecDepth 20000 in
theorem ggX4_grip_X0_hasChild : GoodIn wsX4_grip wsX0_hasChild := goodIn_r _ [8, 9, 23, 24, 25, 26, 27, 28, 29, 30, 31, 32, 33, 34, 35, 36] (by decide +kernel) (by decide +kernel)
set_option maxRecDepth 20000 in
theorem gX4_grip_X0_hasChild : GoodIn wsX4_grip (wsV RX4 143 RX0 yX0_hasChild wsX0_hasChild) := goodIn_app (goodIn_of _ (by decide +kernel)) ggX4_grip_X0_hasChild
set_option maxRecDepth 20000 in
theorem ggX4_grip_X4_tell : GoodIn wsX4_grip wsX4_tell := goodIn_r _ [14, 2, 15, 16, 17, 18, 19, 20, 21, 22] (by decide +kernel) (by decide +kernel)
set_option maxRecDepth 20000 in
theorem gX4_grip_X4_tell : GoodIn wsX4_grip (wsV RX4 48 RX4 yX4_tell wsX4_tell) := goodIn_app (goodIn_of _ (by decide +kernel)) ggX4_grip_X4_tell
theorem dX4_grip_0 : decode cX4_grip 0 = .ok (.aload_n 0, 1) := by decide +kernel
theorem dX4_grip_1 : decode cX4_grip 1 = .ok (.getfield 10, 3) := by decide +kernel
theorem dX4_grip_4 : decode cX4_grip 4 = .ok (.iload_n 1, 1) := by decide +kernel
theorem dX4_grip_5 : decode cX4_grip 5 = .ok (.invokevirtual 143, 3) := by decide +kernel
theorem dX4_grip_8 : decode cX4_grip 8 = .ok (.ifCond .eq 14, 3) := by decide +kernel
theorem dX4_grip_11 : decode cX4_grip 11 = .ok (.iload_n 2, 1) := by decide +kernel
theorem dX4_grip_12 : decode cX4_grip 12 = .ok (.ifCond .lt 10, 3) := by decide +kernel
theorem dX4_grip_15 : decode cX4_grip 15 = .ok (.iload_n 2, 1) := by decide +kernel
theorem dX4_grip_16 : decode cX4_grip 16 = .ok (.sipush 200, 3) := by decide +kernel
theorem dX4_grip_19 : decode cX4_grip 19 = .ok (.if_icmp .le 10, 3) := by decide +kernel
theorem dX4_grip_22 : decode cX4_grip 22 = .ok (.aload_n 0, 1) := by decide +kernel
theorem dX4_grip_23 : decode cX4_grip 23 = .ok (.ldc 47, 2) := by decide +kernel
theorem dX4_grip_25 : decode cX4_grip 25 = .ok (.invokevirtual 48, 3) := by decide +kernel
theorem dX4_grip_28 : decode cX4_grip 28 = .ok (.ireturn, 1) := by decide +kernel
theorem dX4_grip_29 : decode cX4_grip 29 = .ok (.aload_n 0, 1) := by decide +kernel
theorem dX4_grip_30 : decode cX4_grip 30 = .ok (.getfield 10, 3) := by decide +kernel
theorem dX4_grip_33 : decode cX4_grip 33 = .ok (.getfield 146, 3) := by decide +kernel
theorem dX4_grip_36 : decode cX4_grip 36 = .ok (.iload_n 1, 1) := by decide +kernel
theorem dX4_grip_37 : decode cX4_grip 37 = .ok (.iaload, 1) := by decide +kernel
theorem dX4_grip_38 : decode cX4_grip 38 = .ok (.istore_n 3, 1) := by decide +kernel
theorem dX4_grip_39 : decode cX4_grip 39 = .ok (.aload_n 0, 1) := by decide +kernel
theorem dX4_grip_40 : decode cX4_grip 40 = .ok (.getfield 10, 3) := by decide +kernel
theorem dX4_grip_43 : decode cX4_grip 43 = .ok (.getfield 146, 3) := by decide +kernel
theorem dX4_grip_46 : decode cX4_grip 46 = .ok (.iload_n 1, 1) := by decide +kernel
theorem dX4_grip_47 : decode cX4_grip 47 = .ok (.iload_n 2, 1) := by decide +kernel
theorem dX4_grip_48 : decode cX4_grip 48 = .ok (.iastore, 1) := by decide +kernel
theorem dX4_grip_49 : decode cX4_grip 49 = .ok (.iload_n 3, 1) := by decide +kernel
theorem dX4_grip_50 : decode cX4_grip 50 = .ok (.ireturn, 1) := by decide +kernel
set_option maxRecDepth 20000 in
theorem ggX4_ride_X0_hasChild : GoodIn wsX4_ride wsX0_hasChild := goodIn_r _ [8, 9, 28, 29, 30, 31, 32, 33, 34, 35, 36, 37, 38, 39, 40, 41] (by decide +kernel) (by decide +kernel)
set_option maxRecDepth 20000 in
theorem gX4_ride_X0_hasChild : GoodIn wsX4_ride (wsV RX4 143 RX0 yX0_hasChild wsX0_hasChild) := goodIn_app (goodIn_of _ (by decide +kernel)) ggX4_ride_X0_hasChild
set_option maxRecDepth 20000 in
theorem ggX4_ride_X4_tell : GoodIn wsX4_ride wsX4_tell := goodIn_r _ [14, 2, 15, 21, 22, 23, 24, 25, 26, 27] (by decide +kernel) (by decide +kernel)
set_option maxRecDepth 20000 in
theorem gX4_ride_X4_tell : GoodIn wsX4_ride (wsV RX4 48 RX4 yX4_tell wsX4_tell) := goodIn_app (goodIn_of _ (by decide +kernel)) ggX4_ride_X4_tell
set_option maxRecDepth 20000 in
theorem ggX4_ride_X0_onCount : GoodIn wsX4_ride wsX0_onCount := goodIn_r _ [19, 9, 20, 28, 29, 30, 31, 32, 33, 34, 35, 36, 37, 38, 39, 40, 41] (by decide +kernel) (by decide +kernel)
set_option maxRecDepth 20000 in
theorem gX4_ride_X0_onCount : GoodIn wsX4_ride (wsV RX4 155 RX0 yX0_onCount wsX0_onCount) := goodIn_app (goodIn_of _ (by decide +kernel)) ggX4_ride_X0_onCount
theorem dX4_ride_0 : decode cX4_ride 0 = .ok (.aload_n 0, 1) := by decide +kernel
theorem dX4_ride_1 : decode cX4_ride 1 = .ok (.getfield 10, 3) := by decide +kernel
theorem dX4_ride_4 : decode cX4_ride 4 = .ok (.iload_n 1, 1) := by decide +kernel
theorem dX4_ride_5 : decode cX4_ride 5 = .ok (.invokevirtual 143, 3) := by decide +kernel
theorem dX4_ride_8 : decode cX4_ride 8 = .ok (.ifCond .eq 12, 3) := by decide +kernel
theorem dX4_ride_11 : decode cX4_ride 11 = .ok (.iload_n 2, 1) := by decide +kernel
theorem dX4_ride_12 : decode cX4_ride 12 = .ok (.ifCond .lt 8, 3) := by decide +kernel
theorem dX4_ride_15 : decode cX4_ride 15 = .ok (.iload_n 2, 1) := by decide +kernel
theorem dX4_ride_16 : decode cX4_ride 16 = .ok (.iconst 1, 1) := by decide +kernel
theorem dX4_ride_17 : decode cX4_ride 17 = .ok (.if_icmp .le 10, 3) := by decide +kernel
theorem dX4_ride_20 : decode cX4_ride 20 = .ok (.aload_n 0, 1) := by decide +kernel
theorem dX4_ride_21 : decode cX4_ride 21 = .ok (.ldc 47, 2) := by decide +kernel
theorem dX4_ride_23 : decode cX4_ride 23 = .ok (.invokevirtual 48, 3) := by decide +kernel
theorem dX4_ride_26 : decode cX4_ride 26 = .ok (.ireturn, 1) := by decide +kernel
theorem dX4_ride_27 : decode cX4_ride 27 = .ok (.aload_n 0, 1) := by decide +kernel
theorem dX4_ride_28 : decode cX4_ride 28 = .ok (.getfield 10, 3) := by decide +kernel
theorem dX4_ride_31 : decode cX4_ride 31 = .ok (.getfield 149, 3) := by decide +kernel
theorem dX4_ride_34 : decode cX4_ride 34 = .ok (.iload_n 1, 1) := by decide +kernel
theorem dX4_ride_35 : decode cX4_ride 35 = .ok (.iload_n 2, 1) := by decide +kernel
theorem dX4_ride_36 : decode cX4_ride 36 = .ok (.iastore, 1) := by decide +kernel
theorem dX4_ride_37 : decode cX4_ride 37 = .ok (.aload_n 0, 1) := by decide +kernel
theorem dX4_ride_38 : decode cX4_ride 38 = .ok (.getfield 10, 3) := by decide +kernel
theorem dX4_ride_41 : decode cX4_ride 41 = .ok (.invokevirtual 155, 3) := by decide +kernel
theorem dX4_ride_44 : decode cX4_ride 44 = .ok (.ireturn, 1) := by decide +kernel
set_option maxRecDepth 20000 in
theorem ggX4_minutes_X4_tell : GoodIn wsX4_minutes wsX4_tell := goodIn_r _ [11, 1, 12, 98, 99, 100, 101, 102, 103, 104] (by decide +kernel) (by decide +kernel)
set_option maxRecDepth 20000 in
theorem gX4_minutes_X4_tell : GoodIn wsX4_minutes (wsV RX4 48 RX4 yX4_tell wsX4_tell) := goodIn_app (goodIn_of _ (by decide +kernel)) ggX4_minutes_X4_tell
set_option maxRecDepth 20000 in
theorem ggX4_minutes_X0_passMinutes : GoodIn wsX4_minutes wsX0_passMinutes := goodIn_r _ [17, 18, 19, 20, 16, 21, 22, 23, 24, 25, 26, 27, 28, 29, 30, 31, 32, 33, 34, 35, 36, 37, 38, 39, 40, 41, 42, 43, 44, 45, 46, 47, 48, 49, 50, 51, 52, 53, 54, 55, 56, 57, 58, 59, 60, 61, 62, 63, 64, 65, 66, 67, 68, 69, 70, 71, 72, 73, 74, 75, 76, 77, 78, 79, 80, 81, 82, 83, 84, 85, 86, 87, 88, 89, 90, 91, 92, 93, 94, 95, 96, 97, 105, 106, 107, 108, 109, 110, 111, 112, 113, 114, 115, 116, 117, 118] (by decide +kernel) (by decide +kernel)
set_option maxRecDepth 20000 in
theorem gX4_minutes_X0_passMinutes : GoodIn wsX4_minutes (wsV RX4 160 RX0 yX0_passMinutes wsX0_passMinutes) := goodIn_app (goodIn_of _ (by decide +kernel)) ggX4_minutes_X0_passMinutes
theorem dX4_minutes_0 : decode cX4_minutes 0 = .ok (.iload_n 1, 1) := by decide +kernel
theorem dX4_minutes_1 : decode cX4_minutes 1 = .ok (.iconst 1, 1) := by decide +kernel
theorem dX4_minutes_2 : decode cX4_minutes 2 = .ok (.if_icmp .lt 9, 3) := by decide +kernel
theorem dX4_minutes_5 : decode cX4_minutes 5 = .ok (.iload_n 1, 1) := by decide +kernel
theorem dX4_minutes_6 : decode cX4_minutes 6 = .ok (.bipush 100, 2) := by decide +kernel
theorem dX4_minutes_8 : decode cX4_minutes 8 = .ok (.if_icmp .le 10, 3) := by decide +kernel
theorem dX4_minutes_11 : decode cX4_minutes 11 = .ok (.aload_n 0, 1) := by decide +kernel
theorem dX4_minutes_12 : decode cX4_minutes 12 = .ok (.ldc 47, 2) := by decide +kernel
theorem dX4_minutes_14 : decode cX4_minutes 14 = .ok (.invokevirtual 48, 3) := by decide +kernel
theorem dX4_minutes_17 : decode cX4_minutes 17 = .ok (.ireturn, 1) := by decide +kernel
theorem dX4_minutes_18 : decode cX4_minutes 18 = .ok (.aload_n 0, 1) := by decide +kernel
theorem dX4_minutes_19 : decode cX4_minutes 19 = .ok (.getfield 10, 3) := by decide +kernel
theorem dX4_minutes_22 : decode cX4_minutes 22 = .ok (.getfield 55, 3) := by decide +kernel
theorem dX4_minutes_25 : decode cX4_minutes 25 = .ok (.iload_n 1, 1) := by decide +kernel
theorem dX4_minutes_26 : decode cX4_minutes 26 = .ok (.iadd, 1) := by decide +kernel
theorem dX4_minutes_27 : decode cX4_minutes 27 = .ok (.ldc 158, 2) := by decide +kernel
theorem dX4_minutes_29 : decode cX4_minutes 29 = .ok (.if_icmp .le 10, 3) := by decide +kernel
theorem dX4_minutes_32 : decode cX4_minutes 32 = .ok (.aload_n 0, 1) := by decide +kernel
theorem dX4_minutes_33 : decode cX4_minutes 33 = .ok (.ldc 159, 2) := by decide +kernel
theorem dX4_minutes_35 : decode cX4_minutes 35 = .ok (.invokevirtual 48, 3) := by decide +kernel
theorem dX4_minutes_38 : decode cX4_minutes 38 = .ok (.ireturn, 1) := by decide +kernel
theorem dX4_minutes_39 : decode cX4_minutes 39 = .ok (.aload_n 0, 1) := by decide +kernel
theorem dX4_minutes_40 : decode cX4_minutes 40 = .ok (.getfield 10, 3) := by decide +kernel
theorem dX4_minutes_43 : decode cX4_minutes 43 = .ok (.iload_n 1, 1) := by decide +kernel
theorem dX4_minutes_44 : decode cX4_minutes 44 = .ok (.invokevirtual 160, 3) := by decide +kernel
theorem dX4_minutes_47 : decode cX4_minutes 47 = .ok (.aload_n 0, 1) := by decide +kernel
theorem dX4_minutes_48 : decode cX4_minutes 48 = .ok (.getfield 10, 3) := by decide +kernel
theorem dX4_minutes_51 : decode cX4_minutes 51 = .ok (.getfield 44, 3) := by decide +kernel
theorem dX4_minutes_54 : decode cX4_minutes 54 = .ok (.ireturn, 1) := by decide +kernel
set_option maxRecDepth 20000 in
theorem ggX4_on_X4_tell : GoodIn wsX4_on wsX4_tell := goodIn_r _ [10, 1, 11, 109, 110, 111, 112, 113, 114, 115] (by decide +kernel) (by decide +kernel)
set_option maxRecDepth 20000 in
theorem gX4_on_X4_tell : GoodIn wsX4_on (wsV RX4 48 RX4 yX4_tell wsX4_tell) := goodIn_app (goodIn_of _ (by decide +kernel)) ggX4_on_X4_tell
set_option maxRecDepth 20000 in
theorem ggX4_on_X0_become : GoodIn wsX4_on wsX0_become := goodIn_r _ [16, 17, 18, 19, 20, 21, 22, 23, 24, 25, 26, 27, 28, 29, 30, 31, 32, 33, 34, 116, 117, 118, 119, 120, 121, 122, 123, 124, 125, 126, 127, 128, 129] (by decide +kernel) (by decide +kernel)
set_option maxRecDepth 20000 in
theorem gX4_on_X0_become : GoodIn wsX4_on (wsV RX4 164 RX0 yX0_become wsX0_become) := goodIn_app (goodIn_of _ (by decide +kernel)) ggX4_on_X0_become
set_option maxRecDepth 20000 in
theorem ggX4_on_X0_passMinutes : GoodIn wsX4_on wsX0_passMinutes := goodIn_r _ [38, 39, 40, 41, 15, 42, 20, 43, 44, 45, 46, 47, 48, 49, 50, 21, 17, 51, 52, 53, 54, 22, 28, 55, 56, 57, 58, 18, 59, 60, 61, 62, 63, 64, 65, 66, 67, 68, 69, 70, 71, 72, 73, 74, 23, 29, 30, 75, 76, 77, 78, 79, 80, 81, 82, 19, 83, 84, 85, 86, 31, 33, 87, 88, 89, 90, 32, 34, 91, 92, 93, 94, 95, 96, 97, 98, 99, 100, 101, 102, 103, 104, 116, 117, 118, 119, 120, 121, 122, 123, 124, 125, 126, 127, 128, 129] (by decide +kernel) (by decide +kernel)
set_option maxRecDepth 20000 in
theorem gX4_on_X0_passMinutes : GoodIn wsX4_on (wsV RX4 160 RX0 yX0_passMinutes wsX0_passMinutes) := goodIn_app (goodIn_of _ (by decide +kernel)) ggX4_on_X0_passMinutes
set_option maxRecDepth 20000 in
theorem ggX4_on_X0_onSet : GoodIn wsX4_on wsX0_onSet := goodIn_r _ [108, 31, 33, 116, 117, 118, 119, 120, 121, 122, 123, 124, 125, 126, 127, 128, 129] (by decide +kernel) (by decide +kernel)
set_option maxRecDepth 20000 in
theorem gX4_on_X0_onSet : GoodIn wsX4_on (wsV RX4 81 RX0 yX0_onSet wsX0_onSet) := goodIn_app (goodIn_of _ (by decide +kernel)) ggX4_on_X0_onSet
theorem dX4_on_0 : decode cX4_on 0 = .ok (.iload_n 1, 1) := by decide +kernel
theorem dX4_on_1 : decode cX4_on 1 = .ok (.ifCond .lt 19, 3) := by decide +kernel
theorem dX4_on_4 : decode cX4_on 4 = .ok (.iload_n 1, 1) := by decide +kernel
theorem dX4_on_5 : decode cX4_on 5 = .ok (.sipush 200, 3) := by decide +kernel
theorem dX4_on_8 : decode cX4_on 8 = .ok (.if_icmp .gt 12, 3) := by decide +kernel
theorem dX4_on_11 : decode cX4_on 11 = .ok (.iload_n 2, 1) := by decide +kernel
theorem dX4_on_12 : decode cX4_on 12 = .ok (.ifCond .lt 8, 3) := by decide +kernel
theorem dX4_on_15 : decode cX4_on 15 = .ok (.iload_n 2, 1) := by decide +kernel
theorem dX4_on_16 : decode cX4_on 16 = .ok (.iconst 2, 1) := by decide +kernel
theorem dX4_on_17 : decode cX4_on 17 = .ok (.if_icmp .le 10, 3) := by decide +kernel
theorem dX4_on_20 : decode cX4_on 20 = .ok (.aload_n 0, 1) := by decide +kernel
theorem dX4_on_21 : decode cX4_on 21 = .ok (.ldc 47, 2) := by decide +kernel
theorem dX4_on_23 : decode cX4_on 23 = .ok (.invokevirtual 48, 3) := by decide +kernel
theorem dX4_on_26 : decode cX4_on 26 = .ok (.ireturn, 1) := by decide +kernel
theorem dX4_on_27 : decode cX4_on 27 = .ok (.aload_n 0, 1) := by decide +kernel
theorem dX4_on_28 : decode cX4_on 28 = .ok (.getfield 16, 3) := by decide +kernel
theorem dX4_on_31 : decode cX4_on 31 = .ok (.aload_n 0, 1) := by decide +kernel
theorem dX4_on_32 : decode cX4_on 32 = .ok (.getfield 10, 3) := by decide +kernel
theorem dX4_on_35 : decode cX4_on 35 = .ok (.invokevirtual 164, 3) := by decide +kernel
theorem dX4_on_38 : decode cX4_on 38 = .ok (.aload_n 0, 1) := by decide +kernel
theorem dX4_on_39 : decode cX4_on 39 = .ok (.getfield 16, 3) := by decide +kernel
theorem dX4_on_42 : decode cX4_on 42 = .ok (.iload_n 1, 1) := by decide +kernel
theorem dX4_on_43 : decode cX4_on 43 = .ok (.invokevirtual 160, 3) := by decide +kernel
theorem dX4_on_46 : decode cX4_on 46 = .ok (.iload_n 2, 1) := by decide +kernel
theorem dX4_on_47 : decode cX4_on 47 = .ok (.lookupswitch 41 #[(0, 25), (1, 33)], 25) := by decide +kernel
theorem dX4_on_72 : decode cX4_on 72 = .ok (.aload_n 0, 1) := by decide +kernel
theorem dX4_on_73 : decode cX4_on 73 = .ok (.getfield 16, 3) := by decide +kernel
theorem dX4_on_76 : decode cX4_on 76 = .ok (.getfield 44, 3) := by decide +kernel
theorem dX4_on_79 : decode cX4_on 79 = .ok (.ireturn, 1) := by decide +kernel
theorem dX4_on_80 : decode cX4_on 80 = .ok (.aload_n 0, 1) := by decide +kernel
theorem dX4_on_81 : decode cX4_on 81 = .ok (.getfield 16, 3) := by decide +kernel
theorem dX4_on_84 : decode cX4_on 84 = .ok (.getfield 69, 3) := by decide +kernel
theorem dX4_on_87 : decode cX4_on 87 = .ok (.ireturn, 1) := by decide +kernel
theorem dX4_on_88 : decode cX4_on 88 = .ok (.aload_n 0, 1) := by decide +kernel
theorem dX4_on_89 : decode cX4_on 89 = .ok (.getfield 16, 3) := by decide +kernel
theorem dX4_on_92 : decode cX4_on 92 = .ok (.invokevirtual 81, 3) := by decide +kernel
theorem dX4_on_95 : decode cX4_on 95 = .ok (.ireturn, 1) := by decide +kernel
set_option maxRecDepth 20000 in
theorem ggX4_then_X0_hasMother : GoodIn wsX4_then wsX0_hasMother := goodIn_r _ [10, 11, 116, 117, 118, 119, 120, 121, 122, 123, 124, 125, 126, 127, 128, 129] (by decide +kernel) (by decide +kernel)
set_option maxRecDepth 20000 in
theorem gX4_then_X0_hasMother : GoodIn wsX4_then (wsV RX4 98 RX0 yX0_hasMother wsX0_hasMother) := goodIn_app (goodIn_of _ (by decide +kernel)) ggX4_then_X0_hasMother
set_option maxRecDepth 20000 in
theorem ggX4_then_X4_tell : GoodIn wsX4_then wsX4_tell := goodIn_r _ [16, 2, 17, 109, 110, 111, 112, 113, 114, 115] (by decide +kernel) (by decide +kernel)
set_option maxRecDepth 20000 in
theorem gX4_then_X4_tell : GoodIn wsX4_then (wsV RX4 48 RX4 yX4_tell wsX4_tell) := goodIn_app (goodIn_of _ (by decide +kernel)) ggX4_then_X4_tell
set_option maxRecDepth 20000 in
theorem ggX4_then_X0_become : GoodIn wsX4_then wsX0_become := goodIn_r _ [21, 22, 23, 24, 25, 26, 11, 27, 28, 29, 30, 31, 32, 33, 34, 35, 36, 37, 38, 116, 117, 118, 119, 120, 121, 122, 123, 124, 125, 126, 127, 128, 129] (by decide +kernel) (by decide +kernel)
set_option maxRecDepth 20000 in
theorem gX4_then_X0_become : GoodIn wsX4_then (wsV RX4 164 RX0 yX0_become wsX0_become) := goodIn_app (goodIn_of _ (by decide +kernel)) ggX4_then_X0_become
set_option maxRecDepth 20000 in
theorem ggX4_then_X0_passMinutes : GoodIn wsX4_then wsX0_passMinutes := goodIn_r _ [42, 43, 44, 45, 9, 46, 25, 47, 48, 49, 50, 51, 52, 53, 54, 26, 22, 55, 56, 57, 58, 11, 32, 59, 60, 61, 62, 23, 63, 64, 65, 66, 67, 68, 69, 70, 71, 72, 73, 74, 75, 76, 77, 78, 27, 33, 34, 79, 80, 81, 82, 83, 84, 85, 86, 24, 87, 88, 89, 90, 35, 37, 91, 92, 93, 94, 36, 38, 95, 96, 97, 98, 99, 100, 101, 102, 103, 104, 105, 106, 107, 108, 116, 117, 118, 119, 120, 121, 122, 123, 124, 125, 126, 127, 128, 129] (by decide +kernel) (by decide +kernel)
set_option maxRecDepth 20000 in
theorem gX4_then_X0_passMinutes : GoodIn wsX4_then (wsV RX4 160 RX0 yX0_passMinutes wsX0_passMinutes) := goodIn_app (goodIn_of _ (by decide +kernel)) ggX4_then_X0_passMinutes
theorem dX4_then_0 : decode cX4_then 0 = .ok (.aload_n 0, 1) := by decide +kernel
theorem dX4_then_1 : decode cX4_then 1 = .ok (.getfield 10, 3) := by decide +kernel
theorem dX4_then_4 : decode cX4_then 4 = .ok (.iload_n 1, 1) := by decide +kernel
theorem dX4_then_5 : decode cX4_then 5 = .ok (.invokevirtual 98, 3) := by decide +kernel
theorem dX4_then_8 : decode cX4_then 8 = .ok (.ifCond .eq 23, 3) := by decide +kernel
theorem dX4_then_11 : decode cX4_then 11 = .ok (.iload_n 2, 1) := by decide +kernel
theorem dX4_then_12 : decode cX4_then 12 = .ok (.ifCond .lt 19, 3) := by decide +kernel
theorem dX4_then_15 : decode cX4_then 15 = .ok (.iload_n 2, 1) := by decide +kernel
theorem dX4_then_16 : decode cX4_then 16 = .ok (.sipush 200, 3) := by decide +kernel
theorem dX4_then_19 : decode cX4_then 19 = .ok (.if_icmp .gt 12, 3) := by decide +kernel
theorem dX4_then_22 : decode cX4_then 22 = .ok (.iload_n 3, 1) := by decide +kernel
theorem dX4_then_23 : decode cX4_then 23 = .ok (.ifCond .lt 8, 3) := by decide +kernel
theorem dX4_then_26 : decode cX4_then 26 = .ok (.iload_n 3, 1) := by decide +kernel
theorem dX4_then_27 : decode cX4_then 27 = .ok (.iconst 1, 1) := by decide +kernel
theorem dX4_then_28 : decode cX4_then 28 = .ok (.if_icmp .le 10, 3) := by decide +kernel
theorem dX4_then_31 : decode cX4_then 31 = .ok (.aload_n 0, 1) := by decide +kernel
theorem dX4_then_32 : decode cX4_then 32 = .ok (.ldc 47, 2) := by decide +kernel
theorem dX4_then_34 : decode cX4_then 34 = .ok (.invokevirtual 48, 3) := by decide +kernel
theorem dX4_then_37 : decode cX4_then 37 = .ok (.ireturn, 1) := by decide +kernel
theorem dX4_then_38 : decode cX4_then 38 = .ok (.aload_n 0, 1) := by decide +kernel
theorem dX4_then_39 : decode cX4_then 39 = .ok (.getfield 16, 3) := by decide +kernel
theorem dX4_then_42 : decode cX4_then 42 = .ok (.aload_n 0, 1) := by decide +kernel
theorem dX4_then_43 : decode cX4_then 43 = .ok (.getfield 10, 3) := by decide +kernel
theorem dX4_then_46 : decode cX4_then 46 = .ok (.invokevirtual 164, 3) := by decide +kernel
theorem dX4_then_49 : decode cX4_then 49 = .ok (.aload_n 0, 1) := by decide +kernel
theorem dX4_then_50 : decode cX4_then 50 = .ok (.getfield 16, 3) := by decide +kernel
theorem dX4_then_53 : decode cX4_then 53 = .ok (.iload_n 2, 1) := by decide +kernel
theorem dX4_then_54 : decode cX4_then 54 = .ok (.invokevirtual 160, 3) := by decide +kernel
theorem dX4_then_57 : decode cX4_then 57 = .ok (.iload_n 3, 1) := by decide +kernel
theorem dX4_then_58 : decode cX4_then 58 = .ok (.ifCond .ne 15, 3) := by decide +kernel
theorem dX4_then_61 : decode cX4_then 61 = .ok (.aload_n 0, 1) := by decide +kernel
theorem dX4_then_62 : decode cX4_then 62 = .ok (.getfield 16, 3) := by decide +kernel
theorem dX4_then_65 : decode cX4_then 65 = .ok (.getfield 107, 3) := by decide +kernel
theorem dX4_then_68 : decode cX4_then 68 = .ok (.iload_n 1, 1) := by decide +kernel
theorem dX4_then_69 : decode cX4_then 69 = .ok (.iaload, 1) := by decide +kernel
theorem dX4_then_70 : decode cX4_then 70 = .ok (.goto 12, 3) := by decide +kernel
theorem dX4_then_73 : decode cX4_then 73 = .ok (.aload_n 0, 1) := by decide +kernel
theorem dX4_then_74 : decode cX4_then 74 = .ok (.getfield 16, 3) := by decide +kernel
theorem dX4_then_77 : decode cX4_then 77 = .ok (.getfield 110, 3) := by decide +kernel
theorem dX4_then_80 : decode cX4_then 80 = .ok (.iload_n 1, 1) := by decide +kernel
theorem dX4_then_81 : decode cX4_then 81 = .ok (.iaload, 1) := by decide +kernel
theorem dX4_then_82 : decode cX4_then 82 = .ok (.ireturn, 1) := by decide +kernel
set_option maxRecDepth 20000 in
theorem ggX4_quick_X4_tell : GoodIn wsX4_quick wsX4_tell := goodIn_r _ [10, 1, 11, 101, 102, 103, 104, 105, 106, 107] (by decide +kernel) (by decide +kernel)
set_option maxRecDepth 20000 in
theorem gX4_quick_X4_tell : GoodIn wsX4_quick (wsV RX4 48 RX4 yX4_tell wsX4_tell) := goodIn_app (goodIn_of _ (by decide +kernel)) ggX4_quick_X4_tell
set_option maxRecDepth 20000 in
theorem ggX4_quick_X0_become : GoodIn wsX4_quick wsX0_become := goodIn_r _ [16, 17, 18, 19, 20, 21, 22, 23, 24, 25, 26, 27, 28, 29, 30, 31, 32, 33, 34, 108, 109, 110, 111, 112, 113, 114, 115, 116, 117, 118, 119, 120, 121] (by decide +kernel) (by decide +kernel)
set_option maxRecDepth 20000 in
theorem gX4_quick_X0_become : GoodIn wsX4_quick (wsV RX4 164 RX0 yX0_become wsX0_become) := goodIn_app (goodIn_of _ (by decide +kernel)) ggX4_quick_X0_become
set_option maxRecDepth 20000 in
theorem ggX4_quick_X0_passMinute : GoodIn wsX4_quick wsX0_passMinute := goodIn_r _ [38, 20, 39, 40, 41, 42, 43, 44, 45, 46, 21, 17, 47, 48, 49, 15, 50, 22, 28, 51, 52, 53, 54, 18, 55, 56, 57, 58, 59, 60, 61, 62, 63, 64, 65, 66, 67, 68, 69, 70, 23, 29, 30, 71, 72, 73, 74, 75, 76, 77, 78, 19, 79, 80, 81, 82, 31, 33, 83, 84, 85, 86, 32, 34, 87, 88, 89, 90, 91, 92, 93, 94, 95, 96, 97, 98, 99, 100, 108, 109, 110, 111, 112, 113, 114, 115, 116, 117, 118, 119, 120, 121] (by decide +kernel) (by decide +kernel)
set_option maxRecDepth 20000 in
theorem gX4_quick_X0_passMinute : GoodIn wsX4_quick (wsV RX4 168 RX0 yX0_passMinute wsX0_passMinute) := goodIn_app (goodIn_of _ (by decide +kernel)) ggX4_quick_X0_passMinute
theorem dX4_quick_0 : decode cX4_quick 0 = .ok (.iload_n 1, 1) := by decide +kernel
theorem dX4_quick_1 : decode cX4_quick 1 = .ok (.ifCond .lt 10, 3) := by decide +kernel
theorem dX4_quick_4 : decode cX4_quick 4 = .ok (.iload_n 1, 1) := by decide +kernel
theorem dX4_quick_5 : decode cX4_quick 5 = .ok (.sipush 200, 3) := by decide +kernel
theorem dX4_quick_8 : decode cX4_quick 8 = .ok (.if_icmp .le 10, 3) := by decide +kernel
theorem dX4_quick_11 : decode cX4_quick 11 = .ok (.aload_n 0, 1) := by decide +kernel
theorem dX4_quick_12 : decode cX4_quick 12 = .ok (.ldc 47, 2) := by decide +kernel
theorem dX4_quick_14 : decode cX4_quick 14 = .ok (.invokevirtual 48, 3) := by decide +kernel
theorem dX4_quick_17 : decode cX4_quick 17 = .ok (.ireturn, 1) := by decide +kernel
theorem dX4_quick_18 : decode cX4_quick 18 = .ok (.aload_n 0, 1) := by decide +kernel
theorem dX4_quick_19 : decode cX4_quick 19 = .ok (.getfield 16, 3) := by decide +kernel
theorem dX4_quick_22 : decode cX4_quick 22 = .ok (.aload_n 0, 1) := by decide +kernel
theorem dX4_quick_23 : decode cX4_quick 23 = .ok (.getfield 10, 3) := by decide +kernel
theorem dX4_quick_26 : decode cX4_quick 26 = .ok (.invokevirtual 164, 3) := by decide +kernel
theorem dX4_quick_29 : decode cX4_quick 29 = .ok (.iconst 0, 1) := by decide +kernel
theorem dX4_quick_30 : decode cX4_quick 30 = .ok (.istore_n 2, 1) := by decide +kernel
theorem dX4_quick_31 : decode cX4_quick 31 = .ok (.iload_n 2, 1) := by decide +kernel
theorem dX4_quick_32 : decode cX4_quick 32 = .ok (.sipush 200, 3) := by decide +kernel
theorem dX4_quick_35 : decode cX4_quick 35 = .ok (.if_icmp .gt 29, 3) := by decide +kernel
theorem dX4_quick_38 : decode cX4_quick 38 = .ok (.aload_n 0, 1) := by decide +kernel
theorem dX4_quick_39 : decode cX4_quick 39 = .ok (.getfield 16, 3) := by decide +kernel
theorem dX4_quick_42 : decode cX4_quick 42 = .ok (.getfield 44, 3) := by decide +kernel
theorem dX4_quick_45 : decode cX4_quick 45 = .ok (.iload_n 1, 1) := by decide +kernel
theorem dX4_quick_46 : decode cX4_quick 46 = .ok (.if_icmp .lt 5, 3) := by decide +kernel
theorem dX4_quick_49 : decode cX4_quick 49 = .ok (.iload_n 2, 1) := by decide +kernel
theorem dX4_quick_50 : decode cX4_quick 50 = .ok (.ireturn, 1) := by decide +kernel
theorem dX4_quick_51 : decode cX4_quick 51 = .ok (.aload_n 0, 1) := by decide +kernel
theorem dX4_quick_52 : decode cX4_quick 52 = .ok (.getfield 16, 3) := by decide +kernel
theorem dX4_quick_55 : decode cX4_quick 55 = .ok (.invokevirtual 168, 3) := by decide +kernel
theorem dX4_quick_58 : decode cX4_quick 58 = .ok (.iinc 2 1, 3) := by decide +kernel
theorem dX4_quick_61 : decode cX4_quick 61 = .ok (.goto (-30), 3) := by decide +kernel
theorem dX4_quick_64 : decode cX4_quick 64 = .ok (.aload_n 0, 1) := by decide +kernel
theorem dX4_quick_65 : decode cX4_quick 65 = .ok (.ldc 171, 2) := by decide +kernel
theorem dX4_quick_67 : decode cX4_quick 67 = .ok (.invokevirtual 48, 3) := by decide +kernel
theorem dX4_quick_70 : decode cX4_quick 70 = .ok (.ireturn, 1) := by decide +kernel
set_option maxRecDepth 20000 in
theorem ggX4_stands_X0_become : GoodIn wsX4_stands wsX0_become := goodIn_r _ [9, 10, 11, 12, 13, 14, 15, 16, 17, 18, 19, 20, 21, 22, 23, 24, 25, 26, 27, 108, 109, 110, 111, 112, 113, 114, 115, 116, 117, 118, 119, 120, 121] (by decide +kernel) (by decide +kernel)
set_option maxRecDepth 20000 in
theorem gX4_stands_X0_become : GoodIn wsX4_stands (wsV RX4 164 RX0 yX0_become wsX0_become) := goodIn_app (goodIn_of _ (by decide +kernel)) ggX4_stands_X0_become
set_option maxRecDepth 20000 in
theorem ggX4_stands_X0_passMinute : GoodIn wsX4_stands wsX0_passMinute := goodIn_r _ [31, 13, 32, 33, 34, 35, 36, 37, 38, 39, 14, 10, 40, 41, 42, 8, 43, 15, 21, 44, 45, 46, 47, 11, 48, 49, 50, 51, 52, 53, 54, 55, 56, 57, 58, 59, 60, 61, 62, 63, 16, 22, 23, 64, 65, 66, 67, 68, 69, 70, 71, 12, 72, 73, 74, 75, 24, 26, 76, 77, 78, 79, 25, 27, 80, 81, 82, 83, 84, 85, 86, 87, 88, 89, 90, 91, 92, 93, 108, 109, 110, 111, 112, 113, 114, 115, 116, 117, 118, 119, 120, 121] (by decide +kernel) (by decide +kernel)
set_option maxRecDepth 20000 in
theorem gX4_stands_X0_passMinute : GoodIn wsX4_stands (wsV RX4 168 RX0 yX0_passMinute wsX0_passMinute) := goodIn_app (goodIn_of _ (by decide +kernel)) ggX4_stands_X0_passMinute
set_option maxRecDepth 20000 in
theorem ggX4_stands_X4_tell : GoodIn wsX4_stands wsX4_tell := goodIn_r _ [98, 99, 100, 101, 102, 103, 104, 105, 106, 107] (by decide +kernel) (by decide +kernel)
set_option maxRecDepth 20000 in
theorem gX4_stands_X4_tell : GoodIn wsX4_stands (wsV RX4 48 RX4 yX4_tell wsX4_tell) := goodIn_app (goodIn_of _ (by decide +kernel)) ggX4_stands_X4_tell
theorem dX4_stands_0 : decode cX4_stands 0 = .ok (.aload_n 0, 1) := by decide +kernel
theorem dX4_stands_1 : decode cX4_stands 1 = .ok (.getfield 16, 3) := by decide +kernel
theorem dX4_stands_4 : decode cX4_stands 4 = .ok (.aload_n 0, 1) := by decide +kernel
theorem dX4_stands_5 : decode cX4_stands 5 = .ok (.getfield 10, 3) := by decide +kernel
theorem dX4_stands_8 : decode cX4_stands 8 = .ok (.invokevirtual 164, 3) := by decide +kernel
theorem dX4_stands_11 : decode cX4_stands 11 = .ok (.iconst 0, 1) := by decide +kernel
theorem dX4_stands_12 : decode cX4_stands 12 = .ok (.istore_n 1, 1) := by decide +kernel
theorem dX4_stands_13 : decode cX4_stands 13 = .ok (.iload_n 1, 1) := by decide +kernel
theorem dX4_stands_14 : decode cX4_stands 14 = .ok (.sipush 200, 3) := by decide +kernel
theorem dX4_stands_17 : decode cX4_stands 17 = .ok (.if_icmp .gt 28, 3) := by decide +kernel
theorem dX4_stands_20 : decode cX4_stands 20 = .ok (.aload_n 0, 1) := by decide +kernel
theorem dX4_stands_21 : decode cX4_stands 21 = .ok (.getfield 16, 3) := by decide +kernel
theorem dX4_stands_24 : decode cX4_stands 24 = .ok (.getfield 44, 3) := by decide +kernel
theorem dX4_stands_27 : decode cX4_stands 27 = .ok (.ifCond .ne 5, 3) := by decide +kernel
theorem dX4_stands_30 : decode cX4_stands 30 = .ok (.iload_n 1, 1) := by decide +kernel
theorem dX4_stands_31 : decode cX4_stands 31 = .ok (.ireturn, 1) := by decide +kernel
theorem dX4_stands_32 : decode cX4_stands 32 = .ok (.aload_n 0, 1) := by decide +kernel
theorem dX4_stands_33 : decode cX4_stands 33 = .ok (.getfield 16, 3) := by decide +kernel
theorem dX4_stands_36 : decode cX4_stands 36 = .ok (.invokevirtual 168, 3) := by decide +kernel
theorem dX4_stands_39 : decode cX4_stands 39 = .ok (.iinc 1 1, 3) := by decide +kernel
theorem dX4_stands_42 : decode cX4_stands 42 = .ok (.goto (-29), 3) := by decide +kernel
theorem dX4_stands_45 : decode cX4_stands 45 = .ok (.aload_n 0, 1) := by decide +kernel
theorem dX4_stands_46 : decode cX4_stands 46 = .ok (.ldc 171, 2) := by decide +kernel
theorem dX4_stands_48 : decode cX4_stands 48 = .ok (.invokevirtual 48, 3) := by decide +kernel
theorem dX4_stands_51 : decode cX4_stands 51 = .ok (.ireturn, 1) := by decide +kernel
set_option maxRecDepth 20000 in
theorem ggX4_flung_X0_hasChild : GoodIn wsX4_flung wsX0_hasChild := goodIn_r _ [10, 11, 112, 113, 114, 115, 116, 117, 118, 119, 120, 121, 122, 123, 124, 125] (by decide +kernel) (by decide +kernel)
set_option maxRecDepth 20000 in
theorem gX4_flung_X0_hasChild : GoodIn wsX4_flung (wsV RX4 143 RX0 yX0_hasChild wsX0_hasChild) := goodIn_app (goodIn_of _ (by decide +kernel)) ggX4_flung_X0_hasChild
set_option maxRecDepth 20000 in
theorem ggX4_flung_X4_tell : GoodIn wsX4_flung wsX4_tell := goodIn_r _ [16, 2, 17, 105, 106, 107, 108, 109, 110, 111] (by decide +kernel) (by decide +kernel)
set_option maxRecDepth 20000 in
theorem gX4_flung_X4_tell : GoodIn wsX4_flung (wsV RX4 48 RX4 yX4_tell wsX4_tell) := goodIn_app (goodIn_of _ (by decide +kernel)) ggX4_flung_X4_tell
set_option maxRecDepth 20000 in
theorem ggX4_flung_X0_become : GoodIn wsX4_flung wsX0_become := goodIn_r _ [21, 22, 23, 24, 25, 26, 27, 28, 29, 30, 31, 32, 33, 34, 35, 11, 36, 37, 38, 112, 113, 114, 115, 116, 117, 118, 119, 120, 121, 122, 123, 124, 125] (by decide +kernel) (by decide +kernel)
set_option maxRecDepth 20000 in
theorem gX4_flung_X0_become : GoodIn wsX4_flung (wsV RX4 164 RX0 yX0_become wsX0_become) := goodIn_app (goodIn_of _ (by decide +kernel)) ggX4_flung_X0_become
set_option maxRecDepth 20000 in
theorem ggX4_flung_X0_passMinute : GoodIn wsX4_flung wsX0_passMinute := goodIn_r _ [42, 25, 43, 44, 45, 46, 47, 48, 49, 50, 26, 22, 51, 52, 53, 9, 54, 27, 33, 55, 56, 57, 58, 23, 59, 60, 61, 62, 63, 64, 65, 66, 67, 68, 69, 70, 71, 72, 73, 74, 28, 34, 35, 75, 76, 77, 78, 79, 80, 81, 82, 24, 83, 84, 85, 86, 11, 37, 87, 88, 89, 90, 36, 38, 91, 92, 93, 94, 95, 96, 97, 98, 99, 100, 101, 102, 103, 104, 112, 113, 114, 115, 116, 117, 118, 119, 120, 121, 122, 123, 124, 125] (by decide +kernel) (by decide +kernel)
set_option maxRecDepth 20000 in
theorem gX4_flung_X0_passMinute : GoodIn wsX4_flung (wsV RX4 168 RX0 yX0_passMinute wsX0_passMinute) := goodIn_app (goodIn_of _ (by decide +kernel)) ggX4_flung_X0_passMinute
theorem dX4_flung_0 : decode cX4_flung 0 = .ok (.aload_n 0, 1) := by decide +kernel
theorem dX4_flung_1 : decode cX4_flung 1 = .ok (.getfield 10, 3) := by decide +kernel
theorem dX4_flung_4 : decode cX4_flung 4 = .ok (.iload_n 1, 1) := by decide +kernel
theorem dX4_flung_5 : decode cX4_flung 5 = .ok (.invokevirtual 143, 3) := by decide +kernel
theorem dX4_flung_8 : decode cX4_flung 8 = .ok (.ifCond .ne 10, 3) := by decide +kernel
theorem dX4_flung_11 : decode cX4_flung 11 = .ok (.aload_n 0, 1) := by decide +kernel
theorem dX4_flung_12 : decode cX4_flung 12 = .ok (.ldc 47, 2) := by decide +kernel
theorem dX4_flung_14 : decode cX4_flung 14 = .ok (.invokevirtual 48, 3) := by decide +kernel
theorem dX4_flung_17 : decode cX4_flung 17 = .ok (.ireturn, 1) := by decide +kernel
theorem dX4_flung_18 : decode cX4_flung 18 = .ok (.aload_n 0, 1) := by decide +kernel
theorem dX4_flung_19 : decode cX4_flung 19 = .ok (.getfield 16, 3) := by decide +kernel
theorem dX4_flung_22 : decode cX4_flung 22 = .ok (.aload_n 0, 1) := by decide +kernel
theorem dX4_flung_23 : decode cX4_flung 23 = .ok (.getfield 10, 3) := by decide +kernel
theorem dX4_flung_26 : decode cX4_flung 26 = .ok (.invokevirtual 164, 3) := by decide +kernel
theorem dX4_flung_29 : decode cX4_flung 29 = .ok (.iconst 1, 1) := by decide +kernel
theorem dX4_flung_30 : decode cX4_flung 30 = .ok (.istore_n 2, 1) := by decide +kernel
theorem dX4_flung_31 : decode cX4_flung 31 = .ok (.iload_n 2, 1) := by decide +kernel
theorem dX4_flung_32 : decode cX4_flung 32 = .ok (.sipush 200, 3) := by decide +kernel
theorem dX4_flung_35 : decode cX4_flung 35 = .ok (.if_icmp .gt 43, 3) := by decide +kernel
theorem dX4_flung_38 : decode cX4_flung 38 = .ok (.aload_n 0, 1) := by decide +kernel
theorem dX4_flung_39 : decode cX4_flung 39 = .ok (.getfield 16, 3) := by decide +kernel
theorem dX4_flung_42 : decode cX4_flung 42 = .ok (.getfield 149, 3) := by decide +kernel
theorem dX4_flung_45 : decode cX4_flung 45 = .ok (.iload_n 1, 1) := by decide +kernel
theorem dX4_flung_46 : decode cX4_flung 46 = .ok (.iaload, 1) := by decide +kernel
theorem dX4_flung_47 : decode cX4_flung 47 = .ok (.iconst 1, 1) := by decide +kernel
theorem dX4_flung_48 : decode cX4_flung 48 = .ok (.if_icmp .ne 30, 3) := by decide +kernel
theorem dX4_flung_51 : decode cX4_flung 51 = .ok (.aload_n 0, 1) := by decide +kernel
theorem dX4_flung_52 : decode cX4_flung 52 = .ok (.getfield 16, 3) := by decide +kernel
theorem dX4_flung_55 : decode cX4_flung 55 = .ok (.invokevirtual 168, 3) := by decide +kernel
theorem dX4_flung_58 : decode cX4_flung 58 = .ok (.aload_n 0, 1) := by decide +kernel
theorem dX4_flung_59 : decode cX4_flung 59 = .ok (.getfield 16, 3) := by decide +kernel
theorem dX4_flung_62 : decode cX4_flung 62 = .ok (.getfield 149, 3) := by decide +kernel
theorem dX4_flung_65 : decode cX4_flung 65 = .ok (.iload_n 1, 1) := by decide +kernel
theorem dX4_flung_66 : decode cX4_flung 66 = .ok (.iaload, 1) := by decide +kernel
theorem dX4_flung_67 : decode cX4_flung 67 = .ok (.ifCond .ne 5, 3) := by decide +kernel
theorem dX4_flung_70 : decode cX4_flung 70 = .ok (.iload_n 2, 1) := by decide +kernel
theorem dX4_flung_71 : decode cX4_flung 71 = .ok (.ireturn, 1) := by decide +kernel
theorem dX4_flung_72 : decode cX4_flung 72 = .ok (.iinc 2 1, 3) := by decide +kernel
theorem dX4_flung_75 : decode cX4_flung 75 = .ok (.goto (-44), 3) := by decide +kernel
theorem dX4_flung_78 : decode cX4_flung 78 = .ok (.aload_n 0, 1) := by decide +kernel
theorem dX4_flung_79 : decode cX4_flung 79 = .ok (.ldc 171, 2) := by decide +kernel
theorem dX4_flung_81 : decode cX4_flung 81 = .ok (.invokevirtual 48, 3) := by decide +kernel
theorem dX4_flung_84 : decode cX4_flung 84 = .ok (.ireturn, 1) := by decide +kernel
set_option maxRecDepth 20000 in
theorem ggX4_send_X4_isNear : GoodIn wsX4_send wsX4_isNear := goodIn_r _ [11] (by decide +kernel) (by decide +kernel)
set_option maxRecDepth 20000 in
theorem gX4_send_X4_isNear : GoodIn wsX4_send (va_wsS RX4 172 yX4_isNear wsX4_isNear) := goodIn_app (goodIn_of _ (by decide +kernel)) ggX4_send_X4_isNear
set_option maxRecDepth 20000 in
theorem ggX4_send_X4_tell : GoodIn wsX4_send wsX4_tell := goodIn_r _ [15, 1, 16, 114, 115, 116, 117, 118, 119, 120] (by decide +kernel) (by decide +kernel)
set_option maxRecDepth 20000 in
theorem gX4_send_X4_tell : GoodIn wsX4_send (wsV RX4 48 RX4 yX4_tell wsX4_tell) := goodIn_app (goodIn_of _ (by decide +kernel)) ggX4_send_X4_tell
set_option maxRecDepth 20000 in
theorem ggX4_send_X0_become : GoodIn wsX4_send wsX0_become := goodIn_r _ [21, 22, 23, 24, 25, 26, 27, 28, 29, 30, 31, 32, 33, 34, 35, 36, 37, 38, 39, 121, 122, 123, 124, 125, 126, 127, 128, 129, 130, 131, 132, 133, 134] (by decide +kernel) (by decide +kernel)
set_option maxRecDepth 20000 in
theorem gX4_send_X0_become : GoodIn wsX4_send (wsV RX4 164 RX0 yX0_become wsX0_become) := goodIn_app (goodIn_of _ (by decide +kernel)) ggX4_send_X0_become
set_option maxRecDepth 20000 in
theorem ggX4_send_X0_moveMother : GoodIn wsX4_send wsX0_moveMother := goodIn_r _ [43, 33, 35, 121, 122, 123, 124, 125, 126, 127, 128, 129, 130, 131, 132, 133, 134] (by decide +kernel) (by decide +kernel)
set_option maxRecDepth 20000 in
theorem gX4_send_X0_moveMother : GoodIn wsX4_send (wsV RX4 127 RX0 yX0_moveMother wsX0_moveMother) := goodIn_app (goodIn_of _ (by decide +kernel)) ggX4_send_X0_moveMother
set_option maxRecDepth 20000 in
theorem ggX4_send_X0_passMinutes : GoodIn wsX4_send wsX0_passMinutes := goodIn_r _ [47, 48, 49, 50, 20, 51, 25, 52, 53, 54, 55, 56, 57, 58, 59, 26, 22, 60, 61, 62, 63, 27, 33, 64, 65, 66, 67, 23, 68, 69, 70, 71, 72, 73, 74, 75, 76, 77, 78, 79, 80, 81, 82, 83, 28, 34, 35, 84, 85, 86, 87, 88, 89, 90, 91, 24, 92, 93, 94, 95, 36, 38, 96, 97, 98, 99, 37, 39, 100, 101, 102, 103, 104, 105, 106, 107, 108, 109, 110, 111, 112, 113, 121, 122, 123, 124, 125, 126, 127, 128, 129, 130, 131, 132, 133, 134] (by decide +kernel) (by decide +kernel)
set_option maxRecDepth 20000 in
theorem gX4_send_X0_passMinutes : GoodIn wsX4_send (wsV RX4 160 RX0 yX0_passMinutes wsX0_passMinutes) := goodIn_app (goodIn_of _ (by decide +kernel)) ggX4_send_X0_passMinutes
theorem dX4_send_0 : decode cX4_send 0 = .ok (.iload_n 1, 1) := by decide +kernel
theorem dX4_send_1 : decode cX4_send 1 = .ok (.invokestatic 172, 3) := by decide +kernel
theorem dX4_send_4 : decode cX4_send 4 = .ok (.ifCond .ne 10, 3) := by decide +kernel
theorem dX4_send_7 : decode cX4_send 7 = .ok (.aload_n 0, 1) := by decide +kernel
theorem dX4_send_8 : decode cX4_send 8 = .ok (.ldc 47, 2) := by decide +kernel
theorem dX4_send_10 : decode cX4_send 10 = .ok (.invokevirtual 48, 3) := by decide +kernel
theorem dX4_send_13 : decode cX4_send 13 = .ok (.ireturn, 1) := by decide +kernel
theorem dX4_send_14 : decode cX4_send 14 = .ok (.iconst (-1), 1) := by decide +kernel
theorem dX4_send_15 : decode cX4_send 15 = .ok (.istore_n 2, 1) := by decide +kernel
theorem dX4_send_16 : decode cX4_send 16 = .ok (.iconst 0, 1) := by decide +kernel
theorem dX4_send_17 : decode cX4_send 17 = .ok (.istore_n 3, 1) := by decide +kernel
theorem dX4_send_18 : decode cX4_send 18 = .ok (.iconst 0, 1) := by decide +kernel
theorem dX4_send_19 : decode cX4_send 19 = .ok (.istore 4, 2) := by decide +kernel
theorem dX4_send_21 : decode cX4_send 21 = .ok (.iload 4, 2) := by decide +kernel
theorem dX4_send_23 : decode cX4_send 23 = .ok (.aload_n 0, 1) := by decide +kernel
theorem dX4_send_24 : decode cX4_send 24 = .ok (.getfield 10, 3) := by decide +kernel
theorem dX4_send_27 : decode cX4_send 27 = .ok (.getfield 90, 3) := by decide +kernel
theorem dX4_send_30 : decode cX4_send 30 = .ok (.if_icmp .ge 78, 3) := by decide +kernel
theorem dX4_send_33 : decode cX4_send 33 = .ok (.aload_n 0, 1) := by decide +kernel
theorem dX4_send_34 : decode cX4_send 34 = .ok (.getfield 10, 3) := by decide +kernel
theorem dX4_send_37 : decode cX4_send 37 = .ok (.getfield 104, 3) := by decide +kernel
theorem dX4_send_40 : decode cX4_send 40 = .ok (.iload 4, 2) := by decide +kernel
theorem dX4_send_42 : decode cX4_send 42 = .ok (.iaload, 1) := by decide +kernel
theorem dX4_send_43 : decode cX4_send 43 = .ok (.iconst 1, 1) := by decide +kernel
theorem dX4_send_44 : decode cX4_send 44 = .ok (.if_icmp .ne 58, 3) := by decide +kernel
theorem dX4_send_47 : decode cX4_send 47 = .ok (.aload_n 0, 1) := by decide +kernel
theorem dX4_send_48 : decode cX4_send 48 = .ok (.getfield 16, 3) := by decide +kernel
theorem dX4_send_51 : decode cX4_send 51 = .ok (.aload_n 0, 1) := by decide +kernel
theorem dX4_send_52 : decode cX4_send 52 = .ok (.getfield 10, 3) := by decide +kernel
theorem dX4_send_55 : decode cX4_send 55 = .ok (.invokevirtual 164, 3) := by decide +kernel
theorem dX4_send_58 : decode cX4_send 58 = .ok (.aload_n 0, 1) := by decide +kernel
theorem dX4_send_59 : decode cX4_send 59 = .ok (.getfield 16, 3) := by decide +kernel
theorem dX4_send_62 : decode cX4_send 62 = .ok (.iload 4, 2) := by decide +kernel
theorem dX4_send_64 : decode cX4_send 64 = .ok (.iconst 0, 1) := by decide +kernel
theorem dX4_send_65 : decode cX4_send 65 = .ok (.invokevirtual 127, 3) := by decide +kernel
theorem dX4_send_68 : decode cX4_send 68 = .ok (.aload_n 0, 1) := by decide +kernel
theorem dX4_send_69 : decode cX4_send 69 = .ok (.getfield 16, 3) := by decide +kernel
theorem dX4_send_72 : decode cX4_send 72 = .ok (.iload_n 1, 1) := by decide +kernel
theorem dX4_send_73 : decode cX4_send 73 = .ok (.invokevirtual 160, 3) := by decide +kernel
theorem dX4_send_76 : decode cX4_send 76 = .ok (.iload_n 2, 1) := by decide +kernel
theorem dX4_send_77 : decode cX4_send 77 = .ok (.ifCond .lt 14, 3) := by decide +kernel
theorem dX4_send_80 : decode cX4_send 80 = .ok (.aload_n 0, 1) := by decide +kernel
theorem dX4_send_81 : decode cX4_send 81 = .ok (.getfield 16, 3) := by decide +kernel
theorem dX4_send_84 : decode cX4_send 84 = .ok (.getfield 69, 3) := by decide +kernel
theorem dX4_send_87 : decode cX4_send 87 = .ok (.iload_n 3, 1) := by decide +kernel
theorem dX4_send_88 : decode cX4_send 88 = .ok (.if_icmp .ge 14, 3) := by decide +kernel
theorem dX4_send_91 : decode cX4_send 91 = .ok (.iload 4, 2) := by decide +kernel
theorem dX4_send_93 : decode cX4_send 93 = .ok (.istore_n 2, 1) := by decide +kernel
theorem dX4_send_94 : decode cX4_send 94 = .ok (.aload_n 0, 1) := by decide +kernel
theorem dX4_send_95 : decode cX4_send 95 = .ok (.getfield 16, 3) := by decide +kernel
theorem dX4_send_98 : decode cX4_send 98 = .ok (.getfield 69, 3) := by decide +kernel
theorem dX4_send_101 : decode cX4_send 101 = .ok (.istore_n 3, 1) := by decide +kernel
theorem dX4_send_102 : decode cX4_send 102 = .ok (.iinc 4 1, 3) := by decide +kernel
theorem dX4_send_105 : decode cX4_send 105 = .ok (.goto (-84), 3) := by decide +kernel
theorem dX4_send_108 : decode cX4_send 108 = .ok (.iload_n 2, 1) := by decide +kernel
theorem dX4_send_109 : decode cX4_send 109 = .ok (.ifCond .ge 12, 3) := by decide +kernel
theorem dX4_send_112 : decode cX4_send 112 = .ok (.aload_n 0, 1) := by decide +kernel
theorem dX4_send_113 : decode cX4_send 113 = .ok (.ldc 171, 2) := by decide +kernel
theorem dX4_send_115 : decode cX4_send 115 = .ok (.invokevirtual 48, 3) := by decide +kernel
theorem dX4_send_118 : decode cX4_send 118 = .ok (.goto 4, 3) := by decide +kernel
theorem dX4_send_121 : decode cX4_send 121 = .ok (.iload_n 2, 1) := by decide +kernel
theorem dX4_send_122 : decode cX4_send 122 = .ok (.ireturn, 1) := by decide +kernel
set_option maxRecDepth 20000 in
theorem ggX4_kind_X0_hasMother : GoodIn wsX4_kind wsX0_hasMother := goodIn_r _ [10, 11, 119, 120, 121, 122, 123, 124, 125, 126, 127, 128, 129, 130, 131, 132] (by decide +kernel) (by decide +kernel)
set_option maxRecDepth 20000 in
theorem gX4_kind_X0_hasMother : GoodIn wsX4_kind (wsV RX4 98 RX0 yX0_hasMother wsX0_hasMother) := goodIn_app (goodIn_of _ (by decide +kernel)) ggX4_kind_X0_hasMother
set_option maxRecDepth 20000 in
theorem ggX4_kind_X4_isNear : GoodIn wsX4_kind wsX4_isNear := goodIn_r _ [15] (by decide +kernel) (by decide +kernel)
set_option maxRecDepth 20000 in
theorem gX4_kind_X4_isNear : GoodIn wsX4_kind (va_wsS RX4 172 yX4_isNear wsX4_isNear) := goodIn_app (goodIn_of _ (by decide +kernel)) ggX4_kind_X4_isNear
set_option maxRecDepth 20000 in
theorem ggX4_kind_X4_tell : GoodIn wsX4_kind wsX4_tell := goodIn_r _ [19, 2, 20, 112, 113, 114, 115, 116, 117, 118] (by decide +kernel) (by decide +kernel)
set_option maxRecDepth 20000 in
theorem gX4_kind_X4_tell : GoodIn wsX4_kind (wsV RX4 48 RX4 yX4_tell wsX4_tell) := goodIn_app (goodIn_of _ (by decide +kernel)) ggX4_kind_X4_tell
set_option maxRecDepth 20000 in
theorem ggX4_kind_X0_become : GoodIn wsX4_kind wsX0_become := goodIn_r _ [24, 25, 26, 27, 28, 29, 11, 30, 31, 32, 33, 34, 35, 36, 37, 38, 39, 40, 41, 119, 120, 121, 122, 123, 124, 125, 126, 127, 128, 129, 130, 131, 132] (by decide +kernel) (by decide +kernel)
set_option maxRecDepth 20000 in
theorem gX4_kind_X0_become : GoodIn wsX4_kind (wsV RX4 164 RX0 yX0_become wsX0_become) := goodIn_app (goodIn_of _ (by decide +kernel)) ggX4_kind_X0_become
set_option maxRecDepth 20000 in
theorem ggX4_kind_X0_passMinutes : GoodIn wsX4_kind wsX0_passMinutes := goodIn_r _ [45, 46, 47, 48, 9, 49, 28, 50, 51, 52, 53, 54, 55, 56, 57, 29, 25, 58, 59, 60, 61, 11, 35, 62, 63, 64, 65, 26, 66, 67, 68, 69, 70, 71, 72, 73, 74, 75, 76, 77, 78, 79, 80, 81, 30, 36, 37, 82, 83, 84, 85, 86, 87, 88, 89, 27, 90, 91, 92, 93, 38, 40, 94, 95, 96, 97, 39, 41, 98, 99, 100, 101, 102, 103, 104, 105, 106, 107, 108, 109, 110, 111, 119, 120, 121, 122, 123, 124, 125, 126, 127, 128, 129, 130, 131, 132] (by decide +kernel) (by decide +kernel)
set_option maxRecDepth 20000 in
theorem gX4_kind_X0_passMinutes : GoodIn wsX4_kind (wsV RX4 160 RX0 yX0_passMinutes wsX0_passMinutes) := goodIn_app (goodIn_of _ (by decide +kernel)) ggX4_kind_X0_passMinutes
theorem dX4_kind_0 : decode cX4_kind 0 = .ok (.aload_n 0, 1) := by decide +kernel
theorem dX4_kind_1 : decode cX4_kind 1 = .ok (.getfield 10, 3) := by decide +kernel
theorem dX4_kind_4 : decode cX4_kind 4 = .ok (.iload_n 1, 1) := by decide +kernel
theorem dX4_kind_5 : decode cX4_kind 5 = .ok (.invokevirtual 98, 3) := by decide +kernel
theorem dX4_kind_8 : decode cX4_kind 8 = .ok (.ifCond .eq 10, 3) := by decide +kernel
theorem dX4_kind_11 : decode cX4_kind 11 = .ok (.iload_n 2, 1) := by decide +kernel
theorem dX4_kind_12 : decode cX4_kind 12 = .ok (.invokestatic 172, 3) := by decide +kernel
theorem dX4_kind_15 : decode cX4_kind 15 = .ok (.ifCond .ne 10, 3) := by decide +kernel
theorem dX4_kind_18 : decode cX4_kind 18 = .ok (.aload_n 0, 1) := by decide +kernel
theorem dX4_kind_19 : decode cX4_kind 19 = .ok (.ldc 47, 2) := by decide +kernel
theorem dX4_kind_21 : decode cX4_kind 21 = .ok (.invokevirtual 48, 3) := by decide +kernel
theorem dX4_kind_24 : decode cX4_kind 24 = .ok (.ireturn, 1) := by decide +kernel
theorem dX4_kind_25 : decode cX4_kind 25 = .ok (.iconst 0, 1) := by decide +kernel
theorem dX4_kind_26 : decode cX4_kind 26 = .ok (.istore_n 3, 1) := by decide +kernel
theorem dX4_kind_27 : decode cX4_kind 27 = .ok (.iconst (-1), 1) := by decide +kernel
theorem dX4_kind_28 : decode cX4_kind 28 = .ok (.istore 4, 2) := by decide +kernel
theorem dX4_kind_30 : decode cX4_kind 30 = .ok (.iconst 0, 1) := by decide +kernel
theorem dX4_kind_31 : decode cX4_kind 31 = .ok (.istore 5, 2) := by decide +kernel
theorem dX4_kind_33 : decode cX4_kind 33 = .ok (.iload 5, 2) := by decide +kernel
theorem dX4_kind_35 : decode cX4_kind 35 = .ok (.bipush 6, 2) := by decide +kernel
theorem dX4_kind_37 : decode cX4_kind 37 = .ok (.if_icmp .ge 63, 3) := by decide +kernel
theorem dX4_kind_40 : decode cX4_kind 40 = .ok (.aload_n 0, 1) := by decide +kernel
theorem dX4_kind_41 : decode cX4_kind 41 = .ok (.getfield 16, 3) := by decide +kernel
theorem dX4_kind_44 : decode cX4_kind 44 = .ok (.aload_n 0, 1) := by decide +kernel
theorem dX4_kind_45 : decode cX4_kind 45 = .ok (.getfield 10, 3) := by decide +kernel
theorem dX4_kind_48 : decode cX4_kind 48 = .ok (.invokevirtual 164, 3) := by decide +kernel
theorem dX4_kind_51 : decode cX4_kind 51 = .ok (.aload_n 0, 1) := by decide +kernel
theorem dX4_kind_52 : decode cX4_kind 52 = .ok (.getfield 16, 3) := by decide +kernel
theorem dX4_kind_55 : decode cX4_kind 55 = .ok (.getfield 101, 3) := by decide +kernel
theorem dX4_kind_58 : decode cX4_kind 58 = .ok (.iload_n 1, 1) := by decide +kernel
theorem dX4_kind_59 : decode cX4_kind 59 = .ok (.iload 5, 2) := by decide +kernel
theorem dX4_kind_61 : decode cX4_kind 61 = .ok (.iastore, 1) := by decide +kernel
theorem dX4_kind_62 : decode cX4_kind 62 = .ok (.aload_n 0, 1) := by decide +kernel
theorem dX4_kind_63 : decode cX4_kind 63 = .ok (.getfield 16, 3) := by decide +kernel
theorem dX4_kind_66 : decode cX4_kind 66 = .ok (.iload_n 2, 1) := by decide +kernel
theorem dX4_kind_67 : decode cX4_kind 67 = .ok (.invokevirtual 160, 3) := by decide +kernel
theorem dX4_kind_70 : decode cX4_kind 70 = .ok (.aload_n 0, 1) := by decide +kernel
theorem dX4_kind_71 : decode cX4_kind 71 = .ok (.getfield 16, 3) := by decide +kernel
theorem dX4_kind_74 : decode cX4_kind 74 = .ok (.getfield 69, 3) := by decide +kernel
theorem dX4_kind_77 : decode cX4_kind 77 = .ok (.iload 4, 2) := by decide +kernel
theorem dX4_kind_79 : decode cX4_kind 79 = .ok (.if_icmp .le 15, 3) := by decide +kernel
theorem dX4_kind_82 : decode cX4_kind 82 = .ok (.iload 5, 2) := by decide +kernel
theorem dX4_kind_84 : decode cX4_kind 84 = .ok (.istore_n 3, 1) := by decide +kernel
theorem dX4_kind_85 : decode cX4_kind 85 = .ok (.aload_n 0, 1) := by decide +kernel
theorem dX4_kind_86 : decode cX4_kind 86 = .ok (.getfield 16, 3) := by decide +kernel
theorem dX4_kind_89 : decode cX4_kind 89 = .ok (.getfield 69, 3) := by decide +kernel
theorem dX4_kind_92 : decode cX4_kind 92 = .ok (.istore 4, 2) := by decide +kernel
theorem dX4_kind_94 : decode cX4_kind 94 = .ok (.iinc 5 1, 3) := by decide +kernel
theorem dX4_kind_97 : decode cX4_kind 97 = .ok (.goto (-64), 3) := by decide +kernel
theorem dX4_kind_100 : decode cX4_kind 100 = .ok (.iload_n 3, 1) := by decide +kernel
theorem dX4_kind_101 : decode cX4_kind 101 = .ok (.ireturn, 1) := by decide +kernel
set_option maxRecDepth 20000 in
theorem ggX4_firm_X0_hasChild : GoodIn wsX4_firm wsX0_hasChild := goodIn_r _ [8, 9, 124, 125, 126, 127, 128, 129, 130, 131, 132, 133, 134, 135, 136, 137] (by decide +kernel) (by decide +kernel)
set_option maxRecDepth 20000 in
theorem gX4_firm_X0_hasChild : GoodIn wsX4_firm (wsV RX4 143 RX0 yX0_hasChild wsX0_hasChild) := goodIn_app (goodIn_of _ (by decide +kernel)) ggX4_firm_X0_hasChild
set_option maxRecDepth 20000 in
theorem ggX4_firm_X4_isNear : GoodIn wsX4_firm wsX4_isNear := goodIn_r _ [13] (by decide +kernel) (by decide +kernel)
set_option maxRecDepth 20000 in
theorem gX4_firm_X4_isNear : GoodIn wsX4_firm (va_wsS RX4 172 yX4_isNear wsX4_isNear) := goodIn_app (goodIn_of _ (by decide +kernel)) ggX4_firm_X4_isNear
set_option maxRecDepth 20000 in
theorem ggX4_firm_X4_tell : GoodIn wsX4_firm wsX4_tell := goodIn_r _ [17, 2, 18, 117, 118, 119, 120, 121, 122, 123] (by decide +kernel) (by decide +kernel)
set_option maxRecDepth 20000 in
theorem gX4_firm_X4_tell : GoodIn wsX4_firm (wsV RX4 48 RX4 yX4_tell wsX4_tell) := goodIn_app (goodIn_of _ (by decide +kernel)) ggX4_firm_X4_tell
set_option maxRecDepth 20000 in
theorem ggX4_firm_X4_holdsWith : GoodIn wsX4_firm wsX4_holdsWith := goodIn_r _ [22, 23, 1, 24, 25, 26, 27, 28, 7, 29, 30, 31, 32, 33, 34, 35, 36, 37, 38, 39, 40, 41, 42, 43, 9, 44, 45, 46, 47, 48, 49, 50, 51, 52, 53, 54, 55, 56, 57, 58, 59, 60, 61, 62, 63, 64, 65, 66, 67, 68, 69, 70, 71, 72, 73, 74, 75, 76, 77, 78, 79, 80, 81, 82, 83, 84, 85, 86, 87, 88, 89, 90, 91, 92, 93, 94, 95, 96, 97, 98, 99, 100, 101, 102, 103, 104, 105, 106, 107, 108, 109, 110, 111, 112, 113, 114, 115, 116, 117, 118, 119, 120, 121, 122, 123, 124, 125, 126, 127, 128, 129, 130, 131, 132, 133, 134, 135, 136, 137] (by decide +kernel) (by decide +kernel)
set_option maxRecDepth 20000 in
theorem gX4_firm_X4_holdsWith : GoodIn wsX4_firm (wsV RX4 175 RX4 yX4_holdsWith wsX4_holdsWith) := goodIn_app (goodIn_of _ (by decide +kernel)) ggX4_firm_X4_holdsWith
theorem dX4_firm_0 : decode cX4_firm 0 = .ok (.aload_n 0, 1) := by decide +kernel
theorem dX4_firm_1 : decode cX4_firm 1 = .ok (.getfield 10, 3) := by decide +kernel
theorem dX4_firm_4 : decode cX4_firm 4 = .ok (.iload_n 1, 1) := by decide +kernel
theorem dX4_firm_5 : decode cX4_firm 5 = .ok (.invokevirtual 143, 3) := by decide +kernel
theorem dX4_firm_8 : decode cX4_firm 8 = .ok (.ifCond .eq 10, 3) := by decide +kernel
theorem dX4_firm_11 : decode cX4_firm 11 = .ok (.iload_n 2, 1) := by decide +kernel
theorem dX4_firm_12 : decode cX4_firm 12 = .ok (.invokestatic 172, 3) := by decide +kernel
theorem dX4_firm_15 : decode cX4_firm 15 = .ok (.ifCond .ne 10, 3) := by decide +kernel
theorem dX4_firm_18 : decode cX4_firm 18 = .ok (.aload_n 0, 1) := by decide +kernel
theorem dX4_firm_19 : decode cX4_firm 19 = .ok (.ldc 47, 2) := by decide +kernel
theorem dX4_firm_21 : decode cX4_firm 21 = .ok (.invokevirtual 48, 3) := by decide +kernel
theorem dX4_firm_24 : decode cX4_firm 24 = .ok (.ireturn, 1) := by decide +kernel
theorem dX4_firm_25 : decode cX4_firm 25 = .ok (.aload_n 0, 1) := by decide +kernel
theorem dX4_firm_26 : decode cX4_firm 26 = .ok (.iload_n 1, 1) := by decide +kernel
theorem dX4_firm_27 : decode cX4_firm 27 = .ok (.sipush 200, 3) := by decide +kernel
theorem dX4_firm_30 : decode cX4_firm 30 = .ok (.iload_n 2, 1) := by decide +kernel
theorem dX4_firm_31 : decode cX4_firm 31 = .ok (.invokevirtual 175, 3) := by decide +kernel
theorem dX4_firm_34 : decode cX4_firm 34 = .ok (.ifCond .ne 10, 3) := by decide +kernel
theorem dX4_firm_37 : decode cX4_firm 37 = .ok (.aload_n 0, 1) := by decide +kernel
theorem dX4_firm_38 : decode cX4_firm 38 = .ok (.ldc 171, 2) := by decide +kernel
theorem dX4_firm_40 : decode cX4_firm 40 = .ok (.invokevirtual 48, 3) := by decide +kernel
theorem dX4_firm_43 : decode cX4_firm 43 = .ok (.ireturn, 1) := by decide +kernel
theorem dX4_firm_44 : decode cX4_firm 44 = .ok (.iconst 0, 1) := by decide +kernel
theorem dX4_firm_45 : decode cX4_firm 45 = .ok (.istore_n 3, 1) := by decide +kernel
theorem dX4_firm_46 : decode cX4_firm 46 = .ok (.sipush 200, 3) := by decide +kernel
theorem dX4_firm_49 : decode cX4_firm 49 = .ok (.istore 4, 2) := by decide +kernel
theorem dX4_firm_51 : decode cX4_firm 51 = .ok (.iconst 0, 1) := by decide +kernel
theorem dX4_firm_52 : decode cX4_firm 52 = .ok (.istore 5, 2) := by decide +kernel
theorem dX4_firm_54 : decode cX4_firm 54 = .ok (.iload 5, 2) := by decide +kernel
theorem dX4_firm_56 : decode cX4_firm 56 = .ok (.bipush 8, 2) := by decide +kernel
theorem dX4_firm_58 : decode cX4_firm 58 = .ok (.if_icmp .ge 46, 3) := by decide +kernel
theorem dX4_firm_61 : decode cX4_firm 61 = .ok (.iload_n 3, 1) := by decide +kernel
theorem dX4_firm_62 : decode cX4_firm 62 = .ok (.iload 4, 2) := by decide +kernel
theorem dX4_firm_64 : decode cX4_firm 64 = .ok (.if_icmp .ge 40, 3) := by decide +kernel
theorem dX4_firm_67 : decode cX4_firm 67 = .ok (.iload_n 3, 1) := by decide +kernel
theorem dX4_firm_68 : decode cX4_firm 68 = .ok (.iload 4, 2) := by decide +kernel
theorem dX4_firm_70 : decode cX4_firm 70 = .ok (.iadd, 1) := by decide +kernel
theorem dX4_firm_71 : decode cX4_firm 71 = .ok (.iconst 2, 1) := by decide +kernel
theorem dX4_firm_72 : decode cX4_firm 72 = .ok (.idiv, 1) := by decide +kernel
theorem dX4_firm_73 : decode cX4_firm 73 = .ok (.istore 6, 2) := by decide +kernel
theorem dX4_firm_75 : decode cX4_firm 75 = .ok (.aload_n 0, 1) := by decide +kernel
theorem dX4_firm_76 : decode cX4_firm 76 = .ok (.iload_n 1, 1) := by decide +kernel
theorem dX4_firm_77 : decode cX4_firm 77 = .ok (.iload 6, 2) := by decide +kernel
theorem dX4_firm_79 : decode cX4_firm 79 = .ok (.iload_n 2, 1) := by decide +kernel
theorem dX4_firm_80 : decode cX4_firm 80 = .ok (.invokevirtual 175, 3) := by decide +kernel
theorem dX4_firm_83 : decode cX4_firm 83 = .ok (.ifCond .eq 10, 3) := by decide +kernel
theorem dX4_firm_86 : decode cX4_firm 86 = .ok (.iload 6, 2) := by decide +kernel
theorem dX4_firm_88 : decode cX4_firm 88 = .ok (.istore 4, 2) := by decide +kernel
theorem dX4_firm_90 : decode cX4_firm 90 = .ok (.goto 8, 3) := by decide +kernel
theorem dX4_firm_93 : decode cX4_firm 93 = .ok (.iload 6, 2) := by decide +kernel
theorem dX4_firm_95 : decode cX4_firm 95 = .ok (.iconst 1, 1) := by decide +kernel
theorem dX4_firm_96 : decode cX4_firm 96 = .ok (.iadd, 1) := by decide +kernel
theorem dX4_firm_97 : decode cX4_firm 97 = .ok (.istore_n 3, 1) := by decide +kernel
theorem dX4_firm_98 : decode cX4_firm 98 = .ok (.iinc 5 1, 3) := by decide +kernel
theorem dX4_firm_101 : decode cX4_firm 101 = .ok (.goto (-47), 3) := by decide +kernel
theorem dX4_firm_104 : decode cX4_firm 104 = .ok (.iload 4, 2) := by decide +kernel
theorem dX4_firm_106 : decode cX4_firm 106 = .ok (.ireturn, 1) := by decide +kernel
