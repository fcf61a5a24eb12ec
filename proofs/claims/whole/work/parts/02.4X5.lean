theorem dX5_init_0 : decode cX5_init 0 = .ok (.aload_n 0, 1) := by decide +kernel
theorem dX5_init_1 : decode cX5_init 1 = .ok (.invokespecial 3, 3) := by decide +kernel
theorem dX5_init_4 : decode cX5_init 4 = .ok (.aload_n 0, 1) := by decide +kernel
theorem dX5_init_5 : decode cX5_init 5 = .ok (.bipush 57, 2) := by decide +kernel
theorem dX5_init_7 : decode cX5_init 7 = .ok (.newarray .int, 2) := by decide +kernel
theorem dX5_init_9 : decode cX5_init 9 = .ok (.putfield 9, 3) := by decide +kernel
theorem dX5_init_12 : decode cX5_init 12 = .ok (.aload_n 0, 1) := by decide +kernel
theorem dX5_init_13 : decode cX5_init 13 = .ok (.bipush 57, 2) := by decide +kernel
theorem dX5_init_15 : decode cX5_init 15 = .ok (.newarray .int, 2) := by decide +kernel
theorem dX5_init_17 : decode cX5_init 17 = .ok (.putfield 13, 3) := by decide +kernel
theorem dX5_init_20 : decode cX5_init 20 = .ok (.aload_n 0, 1) := by decide +kernel
theorem dX5_init_21 : decode cX5_init 21 = .ok (.bipush 57, 2) := by decide +kernel
theorem dX5_init_23 : decode cX5_init 23 = .ok (.newarray .int, 2) := by decide +kernel
theorem dX5_init_25 : decode cX5_init 25 = .ok (.putfield 16, 3) := by decide +kernel
theorem dX5_init_28 : decode cX5_init 28 = .ok (.aload_n 0, 1) := by decide +kernel
theorem dX5_init_29 : decode cX5_init 29 = .ok (.bipush 7, 2) := by decide +kernel
theorem dX5_init_31 : decode cX5_init 31 = .ok (.newarray .int, 2) := by decide +kernel
theorem dX5_init_33 : decode cX5_init 33 = .ok (.putfield 19, 3) := by decide +kernel
theorem dX5_init_36 : decode cX5_init 36 = .ok (.aload_n 0, 1) := by decide +kernel
theorem dX5_init_37 : decode cX5_init 37 = .ok (.bipush 120, 2) := by decide +kernel
theorem dX5_init_39 : decode cX5_init 39 = .ok (.newarray .int, 2) := by decide +kernel
theorem dX5_init_41 : decode cX5_init 41 = .ok (.putfield 22, 3) := by decide +kernel
theorem dX5_init_44 : decode cX5_init 44 = .ok (.aload_n 0, 1) := by decide +kernel
theorem dX5_init_45 : decode cX5_init 45 = .ok (.iconst 4, 1) := by decide +kernel
theorem dX5_init_46 : decode cX5_init 46 = .ok (.newarray .int, 2) := by decide +kernel
theorem dX5_init_48 : decode cX5_init 48 = .ok (.putfield 25, 3) := by decide +kernel
theorem dX5_init_51 : decode cX5_init 51 = .ok (.aload_n 0, 1) := by decide +kernel
theorem dX5_init_52 : decode cX5_init 52 = .ok (.iconst 4, 1) := by decide +kernel
theorem dX5_init_53 : decode cX5_init 53 = .ok (.newarray .int, 2) := by decide +kernel
theorem dX5_init_55 : decode cX5_init 55 = .ok (.putfield 28, 3) := by decide +kernel
theorem dX5_init_58 : decode cX5_init 58 = .ok (.aload_n 0, 1) := by decide +kernel
theorem dX5_init_59 : decode cX5_init 59 = .ok (.sipush 160, 3) := by decide +kernel
theorem dX5_init_62 : decode cX5_init 62 = .ok (.newarray .long, 2) := by decide +kernel
theorem dX5_init_64 : decode cX5_init 64 = .ok (.putfield 31, 3) := by decide +kernel
theorem dX5_init_67 : decode cX5_init 67 = .ok (.aload_n 0, 1) := by decide +kernel
theorem dX5_init_68 : decode cX5_init 68 = .ok (.getfield 9, 3) := by decide +kernel
theorem dX5_init_71 : decode cX5_init 71 = .ok (.iconst 2, 1) := by decide +kernel
theorem dX5_init_72 : decode cX5_init 72 = .ok (.bipush 10, 2) := by decide +kernel
theorem dX5_init_74 : decode cX5_init 74 = .ok (.iastore, 1) := by decide +kernel
theorem dX5_init_75 : decode cX5_init 75 = .ok (.return_, 1) := by decide +kernel
theorem dX5_finds_0 : decode cX5_finds 0 = .ok (.aload_n 0, 1) := by decide +kernel
theorem dX5_finds_1 : decode cX5_finds 1 = .ok (.getfield 19, 3) := by decide +kernel
theorem dX5_finds_4 : decode cX5_finds 4 = .ok (.ldc 35, 2) := by decide +kernel
theorem dX5_finds_6 : decode cX5_finds 6 = .ok (.iload_n 1, 1) := by decide +kernel
theorem dX5_finds_7 : decode cX5_finds 7 = .ok (.isub, 1) := by decide +kernel
theorem dX5_finds_8 : decode cX5_finds 8 = .ok (.dup2, 1) := by decide +kernel
theorem dX5_finds_9 : decode cX5_finds 9 = .ok (.iaload, 1) := by decide +kernel
theorem dX5_finds_10 : decode cX5_finds 10 = .ok (.iconst 1, 1) := by decide +kernel
theorem dX5_finds_11 : decode cX5_finds 11 = .ok (.iadd, 1) := by decide +kernel
theorem dX5_finds_12 : decode cX5_finds 12 = .ok (.iastore, 1) := by decide +kernel
theorem dX5_finds_13 : decode cX5_finds 13 = .ok (.iload_n 1, 1) := by decide +kernel
theorem dX5_finds_14 : decode cX5_finds 14 = .ok (.ireturn, 1) := by decide +kernel
set_option maxRecDepth 20000 in
theorem ggX5_orNone_X5_finds : GoodIn wsX5_orNone wsX5_finds := goodIn_r _ [6, 7, 8, 9, 10, 11, 12, 13, 14, 15, 16, 17, 18, 19, 20, 21, 22, 23] (by decide +kernel) (by decide +kernel)
set_option maxRecDepth 20000 in
theorem gX5_orNone_X5_finds : GoodIn wsX5_orNone (wsV RX5 37 RX5 yX5_finds wsX5_finds) := goodIn_app (goodIn_of _ (by decide +kernel)) ggX5_orNone_X5_finds
theorem dX5_orNone_0 : decode cX5_orNone 0 = .ok (.iload_n 1, 1) := by decide +kernel
theorem dX5_orNone_1 : decode cX5_orNone 1 = .ok (.ifCond .ge 12, 3) := by decide +kernel
theorem dX5_orNone_4 : decode cX5_orNone 4 = .ok (.aload_n 0, 1) := by decide +kernel
theorem dX5_orNone_5 : decode cX5_orNone 5 = .ok (.ldc 36, 2) := by decide +kernel
theorem dX5_orNone_7 : decode cX5_orNone 7 = .ok (.invokevirtual 37, 3) := by decide +kernel
theorem dX5_orNone_10 : decode cX5_orNone 10 = .ok (.goto 4, 3) := by decide +kernel
theorem dX5_orNone_13 : decode cX5_orNone 13 = .ok (.iload_n 1, 1) := by decide +kernel
theorem dX5_orNone_14 : decode cX5_orNone 14 = .ok (.ireturn, 1) := by decide +kernel
theorem dX5_in_0 : decode cX5_in 0 = .ok (.lload_n 0, 1) := by decide +kernel
theorem dX5_in_1 : decode cX5_in 1 = .ok (.iload_n 2, 1) := by decide +kernel
theorem dX5_in_2 : decode cX5_in 2 = .ok (.i2l, 1) := by decide +kernel
theorem dX5_in_3 : decode cX5_in 3 = .ok (.lcmp, 1) := by decide +kernel
theorem dX5_in_4 : decode cX5_in 4 = .ok (.ifCond .lt 14, 3) := by decide +kernel
theorem dX5_in_7 : decode cX5_in 7 = .ok (.lload_n 0, 1) := by decide +kernel
theorem dX5_in_8 : decode cX5_in 8 = .ok (.iload_n 3, 1) := by decide +kernel
theorem dX5_in_9 : decode cX5_in 9 = .ok (.i2l, 1) := by decide +kernel
theorem dX5_in_10 : decode cX5_in 10 = .ok (.lcmp, 1) := by decide +kernel
theorem dX5_in_11 : decode cX5_in 11 = .ok (.ifCond .gt 7, 3) := by decide +kernel
theorem dX5_in_14 : decode cX5_in 14 = .ok (.iconst 1, 1) := by decide +kernel
theorem dX5_in_15 : decode cX5_in 15 = .ok (.goto 4, 3) := by decide +kernel
theorem dX5_in_18 : decode cX5_in 18 = .ok (.iconst 0, 1) := by decide +kernel
theorem dX5_in_19 : decode cX5_in 19 = .ok (.ireturn, 1) := by decide +kernel
theorem dX5_held_0 : decode cX5_held 0 = .ok (.iload_n 0, 1) := by decide +kernel
theorem dX5_held_1 : decode cX5_held 1 = .ok (.iload_n 1, 1) := by decide +kernel
theorem dX5_held_2 : decode cX5_held 2 = .ok (.if_icmp .ge 7, 3) := by decide +kernel
theorem dX5_held_5 : decode cX5_held 5 = .ok (.iload_n 1, 1) := by decide +kernel
theorem dX5_held_6 : decode cX5_held 6 = .ok (.goto 13, 3) := by decide +kernel
theorem dX5_held_9 : decode cX5_held 9 = .ok (.iload_n 0, 1) := by decide +kernel
theorem dX5_held_10 : decode cX5_held 10 = .ok (.iload_n 2, 1) := by decide +kernel
theorem dX5_held_11 : decode cX5_held 11 = .ok (.if_icmp .le 7, 3) := by decide +kernel
theorem dX5_held_14 : decode cX5_held 14 = .ok (.iload_n 2, 1) := by decide +kernel
theorem dX5_held_15 : decode cX5_held 15 = .ok (.goto 4, 3) := by decide +kernel
theorem dX5_held_18 : decode cX5_held 18 = .ok (.iload_n 0, 1) := by decide +kernel
theorem dX5_held_19 : decode cX5_held 19 = .ok (.ireturn, 1) := by decide +kernel
theorem dX5_copyAll_0 : decode cX5_copyAll 0 = .ok (.iconst 0, 1) := by decide +kernel
theorem dX5_copyAll_1 : decode cX5_copyAll 1 = .ok (.istore_n 2, 1) := by decide +kernel
theorem dX5_copyAll_2 : decode cX5_copyAll 2 = .ok (.iload_n 2, 1) := by decide +kernel
theorem dX5_copyAll_3 : decode cX5_copyAll 3 = .ok (.bipush 57, 2) := by decide +kernel
theorem dX5_copyAll_5 : decode cX5_copyAll 5 = .ok (.if_icmp .ge 15, 3) := by decide +kernel
theorem dX5_copyAll_8 : decode cX5_copyAll 8 = .ok (.aload_n 1, 1) := by decide +kernel
theorem dX5_copyAll_9 : decode cX5_copyAll 9 = .ok (.iload_n 2, 1) := by decide +kernel
theorem dX5_copyAll_10 : decode cX5_copyAll 10 = .ok (.aload_n 0, 1) := by decide +kernel
theorem dX5_copyAll_11 : decode cX5_copyAll 11 = .ok (.iload_n 2, 1) := by decide +kernel
theorem dX5_copyAll_12 : decode cX5_copyAll 12 = .ok (.iaload, 1) := by decide +kernel
theorem dX5_copyAll_13 : decode cX5_copyAll 13 = .ok (.iastore, 1) := by decide +kernel
theorem dX5_copyAll_14 : decode cX5_copyAll 14 = .ok (.iinc 2 1, 3) := by decide +kernel
theorem dX5_copyAll_17 : decode cX5_copyAll 17 = .ok (.goto (-15), 3) := by decide +kernel
theorem dX5_copyAll_20 : decode cX5_copyAll 20 = .ok (.return_, 1) := by decide +kernel
theorem dX5_bits_0 : decode cX5_bits 0 = .ok (.iconst 0, 1) := by decide +kernel
theorem dX5_bits_1 : decode cX5_bits 1 = .ok (.istore_n 1, 1) := by decide +kernel
theorem dX5_bits_2 : decode cX5_bits 2 = .ok (.iload_n 0, 1) := by decide +kernel
theorem dX5_bits_3 : decode cX5_bits 3 = .ok (.istore_n 2, 1) := by decide +kernel
theorem dX5_bits_4 : decode cX5_bits 4 = .ok (.iload_n 2, 1) := by decide +kernel
theorem dX5_bits_5 : decode cX5_bits 5 = .ok (.ifCond .eq 15, 3) := by decide +kernel
theorem dX5_bits_8 : decode cX5_bits 8 = .ok (.iinc 1 1, 3) := by decide +kernel
theorem dX5_bits_11 : decode cX5_bits 11 = .ok (.iload_n 2, 1) := by decide +kernel
theorem dX5_bits_12 : decode cX5_bits 12 = .ok (.iload_n 2, 1) := by decide +kernel
theorem dX5_bits_13 : decode cX5_bits 13 = .ok (.iconst 1, 1) := by decide +kernel
theorem dX5_bits_14 : decode cX5_bits 14 = .ok (.isub, 1) := by decide +kernel
theorem dX5_bits_15 : decode cX5_bits 15 = .ok (.iand, 1) := by decide +kernel
theorem dX5_bits_16 : decode cX5_bits 16 = .ok (.istore_n 2, 1) := by decide +kernel
theorem dX5_bits_17 : decode cX5_bits 17 = .ok (.goto (-13), 3) := by decide +kernel
theorem dX5_bits_20 : decode cX5_bits 20 = .ok (.iload_n 1, 1) := by decide +kernel
theorem dX5_bits_21 : decode cX5_bits 21 = .ok (.ireturn, 1) := by decide +kernel
theorem dX5_becomes_0 : decode cX5_becomes 0 = .ok (.aload_n 0, 1) := by decide +kernel
theorem dX5_becomes_1 : decode cX5_becomes 1 = .ok (.getfield 9, 3) := by decide +kernel
theorem dX5_becomes_4 : decode cX5_becomes 4 = .ok (.iload_n 1, 1) := by decide +kernel
theorem dX5_becomes_5 : decode cX5_becomes 5 = .ok (.iaload, 1) := by decide +kernel
theorem dX5_becomes_6 : decode cX5_becomes 6 = .ok (.istore_n 3, 1) := by decide +kernel
theorem dX5_becomes_7 : decode cX5_becomes 7 = .ok (.aload_n 0, 1) := by decide +kernel
theorem dX5_becomes_8 : decode cX5_becomes 8 = .ok (.getfield 9, 3) := by decide +kernel
theorem dX5_becomes_11 : decode cX5_becomes 11 = .ok (.iload_n 1, 1) := by decide +kernel
theorem dX5_becomes_12 : decode cX5_becomes 12 = .ok (.iload_n 2, 1) := by decide +kernel
theorem dX5_becomes_13 : decode cX5_becomes 13 = .ok (.iastore, 1) := by decide +kernel
theorem dX5_becomes_14 : decode cX5_becomes 14 = .ok (.iload_n 3, 1) := by decide +kernel
theorem dX5_becomes_15 : decode cX5_becomes 15 = .ok (.ireturn, 1) := by decide +kernel
set_option maxRecDepth 20000 in
theorem ggX5_isMother_X5_in : GoodIn wsX5_isMother wsX5_in := goodIn_r _ [5] (by decide +kernel) (by decide +kernel)
set_option maxRecDepth 20000 in
theorem gX5_isMother_X5_in : GoodIn wsX5_isMother (va_wsS RX5 41 yX5_in wsX5_in) := goodIn_app (goodIn_of _ (by decide +kernel)) ggX5_isMother_X5_in
theorem dX5_isMother_0 : decode cX5_isMother 0 = .ok (.iload_n 1, 1) := by decide +kernel
theorem dX5_isMother_1 : decode cX5_isMother 1 = .ok (.i2l, 1) := by decide +kernel
theorem dX5_isMother_2 : decode cX5_isMother 2 = .ok (.iconst 0, 1) := by decide +kernel
theorem dX5_isMother_3 : decode cX5_isMother 3 = .ok (.aload_n 0, 1) := by decide +kernel
theorem dX5_isMother_4 : decode cX5_isMother 4 = .ok (.getfield 9, 3) := by decide +kernel
theorem dX5_isMother_7 : decode cX5_isMother 7 = .ok (.iconst 5, 1) := by decide +kernel
theorem dX5_isMother_8 : decode cX5_isMother 8 = .ok (.iaload, 1) := by decide +kernel
theorem dX5_isMother_9 : decode cX5_isMother 9 = .ok (.iconst 1, 1) := by decide +kernel
theorem dX5_isMother_10 : decode cX5_isMother 10 = .ok (.isub, 1) := by decide +kernel
theorem dX5_isMother_11 : decode cX5_isMother 11 = .ok (.invokestatic 41, 3) := by decide +kernel
theorem dX5_isMother_14 : decode cX5_isMother 14 = .ok (.ireturn, 1) := by decide +kernel
set_option maxRecDepth 20000 in
theorem ggX5_isChild_X5_in : GoodIn wsX5_isChild wsX5_in := goodIn_r _ [5] (by decide +kernel) (by decide +kernel)
set_option maxRecDepth 20000 in
theorem gX5_isChild_X5_in : GoodIn wsX5_isChild (va_wsS RX5 41 yX5_in wsX5_in) := goodIn_app (goodIn_of _ (by decide +kernel)) ggX5_isChild_X5_in
theorem dX5_isChild_0 : decode cX5_isChild 0 = .ok (.iload_n 1, 1) := by decide +kernel
theorem dX5_isChild_1 : decode cX5_isChild 1 = .ok (.i2l, 1) := by decide +kernel
theorem dX5_isChild_2 : decode cX5_isChild 2 = .ok (.iconst 0, 1) := by decide +kernel
theorem dX5_isChild_3 : decode cX5_isChild 3 = .ok (.aload_n 0, 1) := by decide +kernel
theorem dX5_isChild_4 : decode cX5_isChild 4 = .ok (.getfield 9, 3) := by decide +kernel
theorem dX5_isChild_7 : decode cX5_isChild 7 = .ok (.bipush 6, 2) := by decide +kernel
theorem dX5_isChild_9 : decode cX5_isChild 9 = .ok (.iaload, 1) := by decide +kernel
theorem dX5_isChild_10 : decode cX5_isChild 10 = .ok (.iconst 1, 1) := by decide +kernel
theorem dX5_isChild_11 : decode cX5_isChild 11 = .ok (.isub, 1) := by decide +kernel
theorem dX5_isChild_12 : decode cX5_isChild 12 = .ok (.invokestatic 41, 3) := by decide +kernel
theorem dX5_isChild_15 : decode cX5_isChild 15 = .ok (.ireturn, 1) := by decide +kernel
theorem dX5_it_0 : decode cX5_it 0 = .ok (.aload_n 0, 1) := by decide +kernel
theorem dX5_it_1 : decode cX5_it 1 = .ok (.getfield 9, 3) := by decide +kernel
theorem dX5_it_4 : decode cX5_it 4 = .ok (.bipush 7, 2) := by decide +kernel
theorem dX5_it_6 : decode cX5_it 6 = .ok (.iconst 4, 1) := by decide +kernel
theorem dX5_it_7 : decode cX5_it 7 = .ok (.iload_n 1, 1) := by decide +kernel
theorem dX5_it_8 : decode cX5_it 8 = .ok (.imul, 1) := by decide +kernel
theorem dX5_it_9 : decode cX5_it 9 = .ok (.iadd, 1) := by decide +kernel
theorem dX5_it_10 : decode cX5_it 10 = .ok (.iload_n 2, 1) := by decide +kernel
theorem dX5_it_11 : decode cX5_it 11 = .ok (.iadd, 1) := by decide +kernel
theorem dX5_it_12 : decode cX5_it 12 = .ok (.iaload, 1) := by decide +kernel
theorem dX5_it_13 : decode cX5_it 13 = .ok (.ireturn, 1) := by decide +kernel
theorem dX5_put_0 : decode cX5_put 0 = .ok (.aload_n 0, 1) := by decide +kernel
theorem dX5_put_1 : decode cX5_put 1 = .ok (.getfield 9, 3) := by decide +kernel
theorem dX5_put_4 : decode cX5_put 4 = .ok (.bipush 7, 2) := by decide +kernel
theorem dX5_put_6 : decode cX5_put 6 = .ok (.iconst 4, 1) := by decide +kernel
theorem dX5_put_7 : decode cX5_put 7 = .ok (.iload_n 1, 1) := by decide +kernel
theorem dX5_put_8 : decode cX5_put 8 = .ok (.imul, 1) := by decide +kernel
theorem dX5_put_9 : decode cX5_put 9 = .ok (.iadd, 1) := by decide +kernel
theorem dX5_put_10 : decode cX5_put 10 = .ok (.iload_n 2, 1) := by decide +kernel
theorem dX5_put_11 : decode cX5_put 11 = .ok (.iadd, 1) := by decide +kernel
theorem dX5_put_12 : decode cX5_put 12 = .ok (.iload_n 3, 1) := by decide +kernel
theorem dX5_put_13 : decode cX5_put 13 = .ok (.iastore, 1) := by decide +kernel
theorem dX5_put_14 : decode cX5_put 14 = .ok (.return_, 1) := by decide +kernel
theorem dX5_about_0 : decode cX5_about 0 = .ok (.aload_n 0, 1) := by decide +kernel
theorem dX5_about_1 : decode cX5_about 1 = .ok (.getfield 9, 3) := by decide +kernel
theorem dX5_about_4 : decode cX5_about 4 = .ok (.bipush 39, 2) := by decide +kernel
theorem dX5_about_6 : decode cX5_about 6 = .ok (.iconst 3, 1) := by decide +kernel
theorem dX5_about_7 : decode cX5_about 7 = .ok (.iload_n 1, 1) := by decide +kernel
theorem dX5_about_8 : decode cX5_about 8 = .ok (.imul, 1) := by decide +kernel
theorem dX5_about_9 : decode cX5_about 9 = .ok (.iadd, 1) := by decide +kernel
theorem dX5_about_10 : decode cX5_about 10 = .ok (.iload_n 2, 1) := by decide +kernel
theorem dX5_about_11 : decode cX5_about 11 = .ok (.iadd, 1) := by decide +kernel
theorem dX5_about_12 : decode cX5_about 12 = .ok (.iaload, 1) := by decide +kernel
theorem dX5_about_13 : decode cX5_about 13 = .ok (.ireturn, 1) := by decide +kernel
theorem dX5_lets_0 : decode cX5_lets 0 = .ok (.aload_n 0, 1) := by decide +kernel
theorem dX5_lets_1 : decode cX5_lets 1 = .ok (.getfield 9, 3) := by decide +kernel
theorem dX5_lets_4 : decode cX5_lets 4 = .ok (.bipush 39, 2) := by decide +kernel
theorem dX5_lets_6 : decode cX5_lets 6 = .ok (.iconst 3, 1) := by decide +kernel
theorem dX5_lets_7 : decode cX5_lets 7 = .ok (.iload_n 1, 1) := by decide +kernel
theorem dX5_lets_8 : decode cX5_lets 8 = .ok (.imul, 1) := by decide +kernel
theorem dX5_lets_9 : decode cX5_lets 9 = .ok (.iadd, 1) := by decide +kernel
theorem dX5_lets_10 : decode cX5_lets 10 = .ok (.iload_n 2, 1) := by decide +kernel
theorem dX5_lets_11 : decode cX5_lets 11 = .ok (.iadd, 1) := by decide +kernel
theorem dX5_lets_12 : decode cX5_lets 12 = .ok (.iload_n 3, 1) := by decide +kernel
theorem dX5_lets_13 : decode cX5_lets 13 = .ok (.iastore, 1) := by decide +kernel
theorem dX5_lets_14 : decode cX5_lets 14 = .ok (.return_, 1) := by decide +kernel
theorem dX5_clock_0 : decode cX5_clock 0 = .ok (.aload_n 0, 1) := by decide +kernel
theorem dX5_clock_1 : decode cX5_clock 1 = .ok (.getfield 9, 3) := by decide +kernel
theorem dX5_clock_4 : decode cX5_clock 4 = .ok (.iconst 0, 1) := by decide +kernel
theorem dX5_clock_5 : decode cX5_clock 5 = .ok (.iaload, 1) := by decide +kernel
theorem dX5_clock_6 : decode cX5_clock 6 = .ok (.bipush 50, 2) := by decide +kernel
theorem dX5_clock_8 : decode cX5_clock 8 = .ok (.irem, 1) := by decide +kernel
theorem dX5_clock_9 : decode cX5_clock 9 = .ok (.ireturn, 1) := by decide +kernel
set_option maxRecDepth 20000 in
theorem ggX5_isNight_X5_clock : GoodIn wsX5_isNight wsX5_clock := goodIn_r _ [5, 6, 7, 8, 9, 10, 11, 12, 13, 14, 15, 16, 17, 18, 19, 20, 21] (by decide +kernel) (by decide +kernel)
set_option maxRecDepth 20000 in
theorem gX5_isNight_X5_clock : GoodIn wsX5_isNight (wsV RX5 45 RX5 yX5_clock wsX5_clock) := goodIn_app (goodIn_of _ (by decide +kernel)) ggX5_isNight_X5_clock
theorem dX5_isNight_0 : decode cX5_isNight 0 = .ok (.aload_n 0, 1) := by decide +kernel
theorem dX5_isNight_1 : decode cX5_isNight 1 = .ok (.invokevirtual 45, 3) := by decide +kernel
theorem dX5_isNight_4 : decode cX5_isNight 4 = .ok (.bipush 40, 2) := by decide +kernel
theorem dX5_isNight_6 : decode cX5_isNight 6 = .ok (.if_icmp .lt 7, 3) := by decide +kernel
theorem dX5_isNight_9 : decode cX5_isNight 9 = .ok (.iconst 1, 1) := by decide +kernel
theorem dX5_isNight_10 : decode cX5_isNight 10 = .ok (.goto 4, 3) := by decide +kernel
theorem dX5_isNight_13 : decode cX5_isNight 13 = .ok (.iconst 0, 1) := by decide +kernel
theorem dX5_isNight_14 : decode cX5_isNight 14 = .ok (.ireturn, 1) := by decide +kernel
set_option maxRecDepth 20000 in
theorem ggX5_isWet_X5_clock : GoodIn wsX5_isWet wsX5_clock := goodIn_r _ [6, 1, 7, 8, 9, 10, 11, 12, 13, 14, 15, 16, 17, 18, 19, 20, 21] (by decide +kernel) (by decide +kernel)
set_option maxRecDepth 20000 in
theorem gX5_isWet_X5_clock : GoodIn wsX5_isWet (wsV RX5 45 RX5 yX5_clock wsX5_clock) := goodIn_app (goodIn_of _ (by decide +kernel)) ggX5_isWet_X5_clock
theorem dX5_isWet_0 : decode cX5_isWet 0 = .ok (.aload_n 0, 1) := by decide +kernel
theorem dX5_isWet_1 : decode cX5_isWet 1 = .ok (.getfield 9, 3) := by decide +kernel
theorem dX5_isWet_4 : decode cX5_isWet 4 = .ok (.iconst 1, 1) := by decide +kernel
theorem dX5_isWet_5 : decode cX5_isWet 5 = .ok (.iaload, 1) := by decide +kernel
theorem dX5_isWet_6 : decode cX5_isWet 6 = .ok (.aload_n 0, 1) := by decide +kernel
theorem dX5_isWet_7 : decode cX5_isWet 7 = .ok (.invokevirtual 45, 3) := by decide +kernel
theorem dX5_isWet_10 : decode cX5_isWet 10 = .ok (.bipush 10, 2) := by decide +kernel
theorem dX5_isWet_12 : decode cX5_isWet 12 = .ok (.idiv, 1) := by decide +kernel
theorem dX5_isWet_13 : decode cX5_isWet 13 = .ok (.ishr, 1) := by decide +kernel
theorem dX5_isWet_14 : decode cX5_isWet 14 = .ok (.iconst 1, 1) := by decide +kernel
theorem dX5_isWet_15 : decode cX5_isWet 15 = .ok (.iand, 1) := by decide +kernel
theorem dX5_isWet_16 : decode cX5_isWet 16 = .ok (.iconst 1, 1) := by decide +kernel
theorem dX5_isWet_17 : decode cX5_isWet 17 = .ok (.if_icmp .ne 7, 3) := by decide +kernel
theorem dX5_isWet_20 : decode cX5_isWet 20 = .ok (.iconst 1, 1) := by decide +kernel
theorem dX5_isWet_21 : decode cX5_isWet 21 = .ok (.goto 4, 3) := by decide +kernel
theorem dX5_isWet_24 : decode cX5_isWet 24 = .ok (.iconst 0, 1) := by decide +kernel
theorem dX5_isWet_25 : decode cX5_isWet 25 = .ok (.ireturn, 1) := by decide +kernel
set_option maxRecDepth 20000 in
theorem ggX5_outOnes_X5_it : GoodIn wsX5_outOnes wsX5_it := goodIn_r _ [6, 1, 7, 8, 9, 10, 11, 12, 13, 14, 15, 16, 17, 18, 19, 20, 21] (by decide +kernel) (by decide +kernel)
set_option maxRecDepth 20000 in
theorem gX5_outOnes_X5_it : GoodIn wsX5_outOnes (wsV RX5 49 RX5 yX5_it wsX5_it) := goodIn_app (goodIn_of _ (by decide +kernel)) ggX5_outOnes_X5_it
theorem dX5_outOnes_0 : decode cX5_outOnes 0 = .ok (.iconst 0, 1) := by decide +kernel
theorem dX5_outOnes_1 : decode cX5_outOnes 1 = .ok (.istore_n 1, 1) := by decide +kernel
theorem dX5_outOnes_2 : decode cX5_outOnes 2 = .ok (.iconst 0, 1) := by decide +kernel
theorem dX5_outOnes_3 : decode cX5_outOnes 3 = .ok (.istore_n 2, 1) := by decide +kernel
theorem dX5_outOnes_4 : decode cX5_outOnes 4 = .ok (.iload_n 2, 1) := by decide +kernel
theorem dX5_outOnes_5 : decode cX5_outOnes 5 = .ok (.aload_n 0, 1) := by decide +kernel
theorem dX5_outOnes_6 : decode cX5_outOnes 6 = .ok (.getfield 9, 3) := by decide +kernel
theorem dX5_outOnes_9 : decode cX5_outOnes 9 = .ok (.iconst 5, 1) := by decide +kernel
theorem dX5_outOnes_10 : decode cX5_outOnes 10 = .ok (.iaload, 1) := by decide +kernel
theorem dX5_outOnes_11 : decode cX5_outOnes 11 = .ok (.if_icmp .ge 20, 3) := by decide +kernel
theorem dX5_outOnes_14 : decode cX5_outOnes 14 = .ok (.iload_n 1, 1) := by decide +kernel
theorem dX5_outOnes_15 : decode cX5_outOnes 15 = .ok (.aload_n 0, 1) := by decide +kernel
theorem dX5_outOnes_16 : decode cX5_outOnes 16 = .ok (.iload_n 2, 1) := by decide +kernel
theorem dX5_outOnes_17 : decode cX5_outOnes 17 = .ok (.iconst 1, 1) := by decide +kernel
theorem dX5_outOnes_18 : decode cX5_outOnes 18 = .ok (.invokevirtual 49, 3) := by decide +kernel
theorem dX5_outOnes_21 : decode cX5_outOnes 21 = .ok (.iload_n 2, 1) := by decide +kernel
theorem dX5_outOnes_22 : decode cX5_outOnes 22 = .ok (.ishl, 1) := by decide +kernel
theorem dX5_outOnes_23 : decode cX5_outOnes 23 = .ok (.ior, 1) := by decide +kernel
theorem dX5_outOnes_24 : decode cX5_outOnes 24 = .ok (.istore_n 1, 1) := by decide +kernel
theorem dX5_outOnes_25 : decode cX5_outOnes 25 = .ok (.iinc 2 1, 3) := by decide +kernel
theorem dX5_outOnes_28 : decode cX5_outOnes 28 = .ok (.goto (-24), 3) := by decide +kernel
theorem dX5_outOnes_31 : decode cX5_outOnes 31 = .ok (.iload_n 1, 1) := by decide +kernel
theorem dX5_outOnes_32 : decode cX5_outOnes 32 = .ok (.ireturn, 1) := by decide +kernel
set_option maxRecDepth 20000 in
theorem ggX5_others_X5_outOnes : GoodIn wsX5_others wsX5_outOnes := goodIn_r _ [5, 6, 7, 8, 9, 4, 10, 14, 15, 16, 17, 18, 19, 20, 21, 22, 23, 24, 25, 26, 27, 28] (by decide +kernel) (by decide +kernel)
set_option maxRecDepth 20000 in
theorem gX5_others_X5_outOnes : GoodIn wsX5_others (wsV RX5 53 RX5 yX5_outOnes wsX5_outOnes) := goodIn_app (goodIn_of _ (by decide +kernel)) ggX5_others_X5_outOnes
set_option maxRecDepth 20000 in
theorem ggX5_others_X5_bits : GoodIn wsX5_others wsX5_bits := goodIn_r _ [13] (by decide +kernel) (by decide +kernel)
set_option maxRecDepth 20000 in
theorem gX5_others_X5_bits : GoodIn wsX5_others (va_wsS RX5 56 yX5_bits wsX5_bits) := goodIn_app (goodIn_of _ (by decide +kernel)) ggX5_others_X5_bits
theorem dX5_others_0 : decode cX5_others 0 = .ok (.aload_n 0, 1) := by decide +kernel
theorem dX5_others_1 : decode cX5_others 1 = .ok (.invokevirtual 53, 3) := by decide +kernel
theorem dX5_others_4 : decode cX5_others 4 = .ok (.iconst 1, 1) := by decide +kernel
theorem dX5_others_5 : decode cX5_others 5 = .ok (.iload_n 1, 1) := by decide +kernel
theorem dX5_others_6 : decode cX5_others 6 = .ok (.ishl, 1) := by decide +kernel
theorem dX5_others_7 : decode cX5_others 7 = .ok (.iconst (-1), 1) := by decide +kernel
theorem dX5_others_8 : decode cX5_others 8 = .ok (.ixor, 1) := by decide +kernel
theorem dX5_others_9 : decode cX5_others 9 = .ok (.iand, 1) := by decide +kernel
theorem dX5_others_10 : decode cX5_others 10 = .ok (.invokestatic 56, 3) := by decide +kernel
theorem dX5_others_13 : decode cX5_others 13 = .ok (.ireturn, 1) := by decide +kernel
set_option maxRecDepth 20000 in
theorem ggX5_keepsBack_X5_it : GoodIn wsX5_keepsBack wsX5_it := goodIn_r _ [5, 6, 26, 27, 28, 29, 30, 31, 32, 33, 34, 35, 36, 37, 38, 39, 40] (by decide +kernel) (by decide +kernel)
set_option maxRecDepth 20000 in
theorem gX5_keepsBack_X5_it : GoodIn wsX5_keepsBack (wsV RX5 49 RX5 yX5_it wsX5_it) := goodIn_app (goodIn_of _ (by decide +kernel)) ggX5_keepsBack_X5_it
set_option maxRecDepth 20000 in
theorem ggX5_keepsBack_X5_others : GoodIn wsX5_keepsBack wsX5_others := goodIn_r _ [10, 11, 12, 13, 4, 14, 6, 1, 2, 3, 5, 15, 16, 17, 26, 27, 28, 29, 30, 31, 32, 33, 34, 35, 36, 37, 38, 39, 40] (by decide +kernel) (by decide +kernel)
set_option maxRecDepth 20000 in
theorem gX5_keepsBack_X5_others : GoodIn wsX5_keepsBack (wsV RX5 59 RX5 yX5_others wsX5_others) := goodIn_app (goodIn_of _ (by decide +kernel)) ggX5_keepsBack_X5_others
set_option maxRecDepth 20000 in
theorem ggX5_keepsBack_X5_isNight : GoodIn wsX5_keepsBack wsX5_isNight := goodIn_r _ [21, 22, 23, 24, 4, 25, 6, 26, 27, 28, 29, 30, 31, 32, 33, 34, 35, 36, 37, 38, 39, 40] (by decide +kernel) (by decide +kernel)
set_option maxRecDepth 20000 in
theorem gX5_keepsBack_X5_isNight : GoodIn wsX5_keepsBack (wsV RX5 62 RX5 yX5_isNight wsX5_isNight) := goodIn_app (goodIn_of _ (by decide +kernel)) ggX5_keepsBack_X5_isNight
theorem dX5_keepsBack_0 : decode cX5_keepsBack 0 = .ok (.aload_n 0, 1) := by decide +kernel
theorem dX5_keepsBack_1 : decode cX5_keepsBack 1 = .ok (.iload_n 1, 1) := by decide +kernel
theorem dX5_keepsBack_2 : decode cX5_keepsBack 2 = .ok (.iconst 3, 1) := by decide +kernel
theorem dX5_keepsBack_3 : decode cX5_keepsBack 3 = .ok (.invokevirtual 49, 3) := by decide +kernel
theorem dX5_keepsBack_6 : decode cX5_keepsBack 6 = .ok (.istore_n 2, 1) := by decide +kernel
theorem dX5_keepsBack_7 : decode cX5_keepsBack 7 = .ok (.aload_n 0, 1) := by decide +kernel
theorem dX5_keepsBack_8 : decode cX5_keepsBack 8 = .ok (.iload_n 1, 1) := by decide +kernel
theorem dX5_keepsBack_9 : decode cX5_keepsBack 9 = .ok (.iconst 2, 1) := by decide +kernel
theorem dX5_keepsBack_10 : decode cX5_keepsBack 10 = .ok (.invokevirtual 49, 3) := by decide +kernel
theorem dX5_keepsBack_13 : decode cX5_keepsBack 13 = .ok (.istore_n 3, 1) := by decide +kernel
theorem dX5_keepsBack_14 : decode cX5_keepsBack 14 = .ok (.aload_n 0, 1) := by decide +kernel
theorem dX5_keepsBack_15 : decode cX5_keepsBack 15 = .ok (.iload_n 1, 1) := by decide +kernel
theorem dX5_keepsBack_16 : decode cX5_keepsBack 16 = .ok (.invokevirtual 59, 3) := by decide +kernel
theorem dX5_keepsBack_19 : decode cX5_keepsBack 19 = .ok (.istore 4, 2) := by decide +kernel
theorem dX5_keepsBack_21 : decode cX5_keepsBack 21 = .ok (.iload 4, 2) := by decide +kernel
theorem dX5_keepsBack_23 : decode cX5_keepsBack 23 = .ok (.ifCond .ne 7, 3) := by decide +kernel
theorem dX5_keepsBack_26 : decode cX5_keepsBack 26 = .ok (.iconst 0, 1) := by decide +kernel
theorem dX5_keepsBack_27 : decode cX5_keepsBack 27 = .ok (.goto 8, 3) := by decide +kernel
theorem dX5_keepsBack_30 : decode cX5_keepsBack 30 = .ok (.iload_n 3, 1) := by decide +kernel
theorem dX5_keepsBack_31 : decode cX5_keepsBack 31 = .ok (.iconst 5, 1) := by decide +kernel
theorem dX5_keepsBack_32 : decode cX5_keepsBack 32 = .ok (.idiv, 1) := by decide +kernel
theorem dX5_keepsBack_33 : decode cX5_keepsBack 33 = .ok (.iload_n 2, 1) := by decide +kernel
theorem dX5_keepsBack_34 : decode cX5_keepsBack 34 = .ok (.iadd, 1) := by decide +kernel
theorem dX5_keepsBack_35 : decode cX5_keepsBack 35 = .ok (.istore 5, 2) := by decide +kernel
theorem dX5_keepsBack_37 : decode cX5_keepsBack 37 = .ok (.aload_n 0, 1) := by decide +kernel
theorem dX5_keepsBack_38 : decode cX5_keepsBack 38 = .ok (.iload_n 1, 1) := by decide +kernel
theorem dX5_keepsBack_39 : decode cX5_keepsBack 39 = .ok (.iconst 0, 1) := by decide +kernel
theorem dX5_keepsBack_40 : decode cX5_keepsBack 40 = .ok (.invokevirtual 49, 3) := by decide +kernel
theorem dX5_keepsBack_43 : decode cX5_keepsBack 43 = .ok (.tableswitch 74 1 5 #[33, 39, 42, 46, 66], 33) := by decide +kernel
theorem dX5_keepsBack_76 : decode cX5_keepsBack 76 = .ok (.iload_n 3, 1) := by decide +kernel
theorem dX5_keepsBack_77 : decode cX5_keepsBack 77 = .ok (.iconst 2, 1) := by decide +kernel
theorem dX5_keepsBack_78 : decode cX5_keepsBack 78 = .ok (.idiv, 1) := by decide +kernel
theorem dX5_keepsBack_79 : decode cX5_keepsBack 79 = .ok (.iload_n 2, 1) := by decide +kernel
theorem dX5_keepsBack_80 : decode cX5_keepsBack 80 = .ok (.iadd, 1) := by decide +kernel
theorem dX5_keepsBack_81 : decode cX5_keepsBack 81 = .ok (.ireturn, 1) := by decide +kernel
theorem dX5_keepsBack_82 : decode cX5_keepsBack 82 = .ok (.iload 5, 2) := by decide +kernel
theorem dX5_keepsBack_84 : decode cX5_keepsBack 84 = .ok (.ireturn, 1) := by decide +kernel
theorem dX5_keepsBack_85 : decode cX5_keepsBack 85 = .ok (.iconst 2, 1) := by decide +kernel
theorem dX5_keepsBack_86 : decode cX5_keepsBack 86 = .ok (.iload_n 3, 1) := by decide +kernel
theorem dX5_keepsBack_87 : decode cX5_keepsBack 87 = .ok (.imul, 1) := by decide +kernel
theorem dX5_keepsBack_88 : decode cX5_keepsBack 88 = .ok (.ireturn, 1) := by decide +kernel
theorem dX5_keepsBack_89 : decode cX5_keepsBack 89 = .ok (.iload_n 3, 1) := by decide +kernel
theorem dX5_keepsBack_90 : decode cX5_keepsBack 90 = .ok (.iconst 2, 1) := by decide +kernel
theorem dX5_keepsBack_91 : decode cX5_keepsBack 91 = .ok (.idiv, 1) := by decide +kernel
theorem dX5_keepsBack_92 : decode cX5_keepsBack 92 = .ok (.iload_n 2, 1) := by decide +kernel
theorem dX5_keepsBack_93 : decode cX5_keepsBack 93 = .ok (.iadd, 1) := by decide +kernel
theorem dX5_keepsBack_94 : decode cX5_keepsBack 94 = .ok (.aload_n 0, 1) := by decide +kernel
theorem dX5_keepsBack_95 : decode cX5_keepsBack 95 = .ok (.invokevirtual 62, 3) := by decide +kernel
theorem dX5_keepsBack_98 : decode cX5_keepsBack 98 = .ok (.ifCond .eq 8, 3) := by decide +kernel
theorem dX5_keepsBack_101 : decode cX5_keepsBack 101 = .ok (.bipush 10, 2) := by decide +kernel
theorem dX5_keepsBack_103 : decode cX5_keepsBack 103 = .ok (.goto 4, 3) := by decide +kernel
theorem dX5_keepsBack_106 : decode cX5_keepsBack 106 = .ok (.iconst 0, 1) := by decide +kernel
theorem dX5_keepsBack_107 : decode cX5_keepsBack 107 = .ok (.iadd, 1) := by decide +kernel
theorem dX5_keepsBack_108 : decode cX5_keepsBack 108 = .ok (.ireturn, 1) := by decide +kernel
theorem dX5_keepsBack_109 : decode cX5_keepsBack 109 = .ok (.iload 5, 2) := by decide +kernel
theorem dX5_keepsBack_111 : decode cX5_keepsBack 111 = .ok (.iconst 3, 1) := by decide +kernel
theorem dX5_keepsBack_112 : decode cX5_keepsBack 112 = .ok (.iload 4, 2) := by decide +kernel
theorem dX5_keepsBack_114 : decode cX5_keepsBack 114 = .ok (.imul, 1) := by decide +kernel
theorem dX5_keepsBack_115 : decode cX5_keepsBack 115 = .ok (.iadd, 1) := by decide +kernel
theorem dX5_keepsBack_116 : decode cX5_keepsBack 116 = .ok (.ireturn, 1) := by decide +kernel
theorem dX5_keepsBack_117 : decode cX5_keepsBack 117 = .ok (.iload_n 3, 1) := by decide +kernel
theorem dX5_keepsBack_118 : decode cX5_keepsBack 118 = .ok (.iconst 5, 1) := by decide +kernel
theorem dX5_keepsBack_119 : decode cX5_keepsBack 119 = .ok (.idiv, 1) := by decide +kernel
theorem dX5_keepsBack_120 : decode cX5_keepsBack 120 = .ok (.iload_n 2, 1) := by decide +kernel
theorem dX5_keepsBack_121 : decode cX5_keepsBack 121 = .ok (.iadd, 1) := by decide +kernel
theorem dX5_keepsBack_122 : decode cX5_keepsBack 122 = .ok (.ireturn, 1) := by decide +kernel
set_option maxRecDepth 20000 in
theorem ggX5_doesSpeak_X5_it : GoodIn wsX5_doesSpeak wsX5_it := goodIn_r _ [6, 1, 26, 27, 28, 29, 30, 31, 32, 33, 34, 35, 36, 37, 38, 39, 40] (by decide +kernel) (by decide +kernel)
set_option maxRecDepth 20000 in
theorem gX5_doesSpeak_X5_it : GoodIn wsX5_doesSpeak (wsV RX5 49 RX5 yX5_it wsX5_it) := goodIn_app (goodIn_of _ (by decide +kernel)) ggX5_doesSpeak_X5_it
set_option maxRecDepth 20000 in
theorem ggX5_doesSpeak_X5_others : GoodIn wsX5_doesSpeak wsX5_others := goodIn_r _ [10, 11, 12, 13, 5, 14, 1, 2, 3, 4, 6, 15, 16, 17, 26, 27, 28, 29, 30, 31, 32, 33, 34, 35, 36, 37, 38, 39, 40] (by decide +kernel) (by decide +kernel)
set_option maxRecDepth 20000 in
theorem gX5_doesSpeak_X5_others : GoodIn wsX5_doesSpeak (wsV RX5 59 RX5 yX5_others wsX5_others) := goodIn_app (goodIn_of _ (by decide +kernel)) ggX5_doesSpeak_X5_others
set_option maxRecDepth 20000 in
theorem ggX5_doesSpeak_X5_isNight : GoodIn wsX5_doesSpeak wsX5_isNight := goodIn_r _ [21, 22, 23, 24, 5, 25, 1, 26, 27, 28, 29, 30, 31, 32, 33, 34, 35, 36, 37, 38, 39, 40] (by decide +kernel) (by decide +kernel)
set_option maxRecDepth 20000 in
theorem gX5_doesSpeak_X5_isNight : GoodIn wsX5_doesSpeak (wsV RX5 62 RX5 yX5_isNight wsX5_isNight) := goodIn_app (goodIn_of _ (by decide +kernel)) ggX5_doesSpeak_X5_isNight
theorem dX5_doesSpeak_0 : decode cX5_doesSpeak 0 = .ok (.aload_n 0, 1) := by decide +kernel
theorem dX5_doesSpeak_1 : decode cX5_doesSpeak 1 = .ok (.iload_n 1, 1) := by decide +kernel
theorem dX5_doesSpeak_2 : decode cX5_doesSpeak 2 = .ok (.iconst 3, 1) := by decide +kernel
theorem dX5_doesSpeak_3 : decode cX5_doesSpeak 3 = .ok (.invokevirtual 49, 3) := by decide +kernel
theorem dX5_doesSpeak_6 : decode cX5_doesSpeak 6 = .ok (.istore_n 2, 1) := by decide +kernel
theorem dX5_doesSpeak_7 : decode cX5_doesSpeak 7 = .ok (.iload_n 2, 1) := by decide +kernel
theorem dX5_doesSpeak_8 : decode cX5_doesSpeak 8 = .ok (.iconst 3, 1) := by decide +kernel
theorem dX5_doesSpeak_9 : decode cX5_doesSpeak 9 = .ok (.if_icmp .lt 15, 3) := by decide +kernel
theorem dX5_doesSpeak_12 : decode cX5_doesSpeak 12 = .ok (.aload_n 0, 1) := by decide +kernel
theorem dX5_doesSpeak_13 : decode cX5_doesSpeak 13 = .ok (.iload_n 1, 1) := by decide +kernel
theorem dX5_doesSpeak_14 : decode cX5_doesSpeak 14 = .ok (.invokevirtual 59, 3) := by decide +kernel
theorem dX5_doesSpeak_17 : decode cX5_doesSpeak 17 = .ok (.ifCond .le 7, 3) := by decide +kernel
theorem dX5_doesSpeak_20 : decode cX5_doesSpeak 20 = .ok (.iconst 1, 1) := by decide +kernel
theorem dX5_doesSpeak_21 : decode cX5_doesSpeak 21 = .ok (.goto 4, 3) := by decide +kernel
theorem dX5_doesSpeak_24 : decode cX5_doesSpeak 24 = .ok (.iconst 0, 1) := by decide +kernel
theorem dX5_doesSpeak_25 : decode cX5_doesSpeak 25 = .ok (.istore_n 3, 1) := by decide +kernel
theorem dX5_doesSpeak_26 : decode cX5_doesSpeak 26 = .ok (.aload_n 0, 1) := by decide +kernel
theorem dX5_doesSpeak_27 : decode cX5_doesSpeak 27 = .ok (.iload_n 1, 1) := by decide +kernel
theorem dX5_doesSpeak_28 : decode cX5_doesSpeak 28 = .ok (.iconst 0, 1) := by decide +kernel
theorem dX5_doesSpeak_29 : decode cX5_doesSpeak 29 = .ok (.invokevirtual 49, 3) := by decide +kernel
theorem dX5_doesSpeak_32 : decode cX5_doesSpeak 32 = .ok (.tableswitch 92 1 5 #[36, 48, 50, 52, 71], 36) := by decide +kernel
theorem dX5_doesSpeak_68 : decode cX5_doesSpeak 68 = .ok (.iload_n 2, 1) := by decide +kernel
theorem dX5_doesSpeak_69 : decode cX5_doesSpeak 69 = .ok (.bipush 15, 2) := by decide +kernel
theorem dX5_doesSpeak_71 : decode cX5_doesSpeak 71 = .ok (.if_icmp .lt 7, 3) := by decide +kernel
theorem dX5_doesSpeak_74 : decode cX5_doesSpeak 74 = .ok (.iconst 1, 1) := by decide +kernel
theorem dX5_doesSpeak_75 : decode cX5_doesSpeak 75 = .ok (.goto 4, 3) := by decide +kernel
theorem dX5_doesSpeak_78 : decode cX5_doesSpeak 78 = .ok (.iconst 0, 1) := by decide +kernel
theorem dX5_doesSpeak_79 : decode cX5_doesSpeak 79 = .ok (.ireturn, 1) := by decide +kernel
theorem dX5_doesSpeak_80 : decode cX5_doesSpeak 80 = .ok (.iload_n 3, 1) := by decide +kernel
theorem dX5_doesSpeak_81 : decode cX5_doesSpeak 81 = .ok (.ireturn, 1) := by decide +kernel
theorem dX5_doesSpeak_82 : decode cX5_doesSpeak 82 = .ok (.iconst 0, 1) := by decide +kernel
theorem dX5_doesSpeak_83 : decode cX5_doesSpeak 83 = .ok (.ireturn, 1) := by decide +kernel
theorem dX5_doesSpeak_84 : decode cX5_doesSpeak 84 = .ok (.iload_n 2, 1) := by decide +kernel
theorem dX5_doesSpeak_85 : decode cX5_doesSpeak 85 = .ok (.bipush 15, 2) := by decide +kernel
theorem dX5_doesSpeak_87 : decode cX5_doesSpeak 87 = .ok (.if_icmp .lt 14, 3) := by decide +kernel
theorem dX5_doesSpeak_90 : decode cX5_doesSpeak 90 = .ok (.aload_n 0, 1) := by decide +kernel
theorem dX5_doesSpeak_91 : decode cX5_doesSpeak 91 = .ok (.invokevirtual 62, 3) := by decide +kernel
theorem dX5_doesSpeak_94 : decode cX5_doesSpeak 94 = .ok (.ifCond .ne 7, 3) := by decide +kernel
theorem dX5_doesSpeak_97 : decode cX5_doesSpeak 97 = .ok (.iconst 1, 1) := by decide +kernel
theorem dX5_doesSpeak_98 : decode cX5_doesSpeak 98 = .ok (.goto 4, 3) := by decide +kernel
theorem dX5_doesSpeak_101 : decode cX5_doesSpeak 101 = .ok (.iconst 0, 1) := by decide +kernel
theorem dX5_doesSpeak_102 : decode cX5_doesSpeak 102 = .ok (.ireturn, 1) := by decide +kernel
theorem dX5_doesSpeak_103 : decode cX5_doesSpeak 103 = .ok (.iload_n 3, 1) := by decide +kernel
theorem dX5_doesSpeak_104 : decode cX5_doesSpeak 104 = .ok (.ifCond .ne 14, 3) := by decide +kernel
theorem dX5_doesSpeak_107 : decode cX5_doesSpeak 107 = .ok (.aload_n 0, 1) := by decide +kernel
theorem dX5_doesSpeak_108 : decode cX5_doesSpeak 108 = .ok (.getfield 9, 3) := by decide +kernel
theorem dX5_doesSpeak_111 : decode cX5_doesSpeak 111 = .ok (.iconst 3, 1) := by decide +kernel
theorem dX5_doesSpeak_112 : decode cX5_doesSpeak 112 = .ok (.iaload, 1) := by decide +kernel
theorem dX5_doesSpeak_113 : decode cX5_doesSpeak 113 = .ok (.bipush 100, 2) := by decide +kernel
theorem dX5_doesSpeak_115 : decode cX5_doesSpeak 115 = .ok (.if_icmp .le 7, 3) := by decide +kernel
theorem dX5_doesSpeak_118 : decode cX5_doesSpeak 118 = .ok (.iconst 1, 1) := by decide +kernel
theorem dX5_doesSpeak_119 : decode cX5_doesSpeak 119 = .ok (.goto 4, 3) := by decide +kernel
theorem dX5_doesSpeak_122 : decode cX5_doesSpeak 122 = .ok (.iconst 0, 1) := by decide +kernel
theorem dX5_doesSpeak_123 : decode cX5_doesSpeak 123 = .ok (.ireturn, 1) := by decide +kernel
theorem dX5_doesSpeak_124 : decode cX5_doesSpeak 124 = .ok (.iload_n 2, 1) := by decide +kernel
theorem dX5_doesSpeak_125 : decode cX5_doesSpeak 125 = .ok (.bipush 9, 2) := by decide +kernel
theorem dX5_doesSpeak_127 : decode cX5_doesSpeak 127 = .ok (.if_icmp .lt 7, 3) := by decide +kernel
theorem dX5_doesSpeak_130 : decode cX5_doesSpeak 130 = .ok (.iconst 1, 1) := by decide +kernel
theorem dX5_doesSpeak_131 : decode cX5_doesSpeak 131 = .ok (.goto 4, 3) := by decide +kernel
theorem dX5_doesSpeak_134 : decode cX5_doesSpeak 134 = .ok (.iconst 0, 1) := by decide +kernel
theorem dX5_doesSpeak_135 : decode cX5_doesSpeak 135 = .ok (.ireturn, 1) := by decide +kernel
set_option maxRecDepth 20000 in
theorem ggX5_lessBy_X5_it : GoodIn wsX5_lessBy wsX5_it := goodIn_r _ [5, 6, 7, 8, 9, 10, 11, 12, 13, 14, 15, 16, 17, 18, 19, 20, 21] (by decide +kernel) (by decide +kernel)
set_option maxRecDepth 20000 in
theorem gX5_lessBy_X5_it : GoodIn wsX5_lessBy (wsV RX5 49 RX5 yX5_it wsX5_it) := goodIn_app (goodIn_of _ (by decide +kernel)) ggX5_lessBy_X5_it
theorem dX5_lessBy_0 : decode cX5_lessBy 0 = .ok (.aload_n 0, 1) := by decide +kernel
theorem dX5_lessBy_1 : decode cX5_lessBy 1 = .ok (.iload_n 1, 1) := by decide +kernel
theorem dX5_lessBy_2 : decode cX5_lessBy 2 = .ok (.iconst 0, 1) := by decide +kernel
theorem dX5_lessBy_3 : decode cX5_lessBy 3 = .ok (.invokevirtual 49, 3) := by decide +kernel
theorem dX5_lessBy_6 : decode cX5_lessBy 6 = .ok (.tableswitch 44 1 5 #[34, 36, 39, 34, 41], 34) := by decide +kernel
theorem dX5_lessBy_40 : decode cX5_lessBy 40 = .ok (.iconst 2, 1) := by decide +kernel
theorem dX5_lessBy_41 : decode cX5_lessBy 41 = .ok (.ireturn, 1) := by decide +kernel
theorem dX5_lessBy_42 : decode cX5_lessBy 42 = .ok (.bipush 6, 2) := by decide +kernel
theorem dX5_lessBy_44 : decode cX5_lessBy 44 = .ok (.ireturn, 1) := by decide +kernel
theorem dX5_lessBy_45 : decode cX5_lessBy 45 = .ok (.iconst 0, 1) := by decide +kernel
theorem dX5_lessBy_46 : decode cX5_lessBy 46 = .ok (.ireturn, 1) := by decide +kernel
theorem dX5_lessBy_47 : decode cX5_lessBy 47 = .ok (.bipush 7, 2) := by decide +kernel
theorem dX5_lessBy_49 : decode cX5_lessBy 49 = .ok (.ireturn, 1) := by decide +kernel
theorem dX5_lessBy_50 : decode cX5_lessBy 50 = .ok (.iconst 3, 1) := by decide +kernel
theorem dX5_lessBy_51 : decode cX5_lessBy 51 = .ok (.ireturn, 1) := by decide +kernel
set_option maxRecDepth 20000 in
theorem ggX5_iron_X5_in : GoodIn wsX5_iron wsX5_in := goodIn_r _ [5] (by decide +kernel) (by decide +kernel)
set_option maxRecDepth 20000 in
theorem gX5_iron_X5_in : GoodIn wsX5_iron (va_wsS RX5 41 yX5_in wsX5_in) := goodIn_app (goodIn_of _ (by decide +kernel)) ggX5_iron_X5_in
set_option maxRecDepth 20000 in
theorem ggX5_iron_X5_becomes : GoodIn wsX5_iron wsX5_becomes := goodIn_r _ [9, 10, 16, 17, 18, 19, 20, 21, 22, 23, 24, 25, 26, 27, 28, 29, 30] (by decide +kernel) (by decide +kernel)
set_option maxRecDepth 20000 in
theorem gX5_iron_X5_becomes : GoodIn wsX5_iron (wsV RX5 66 RX5 yX5_becomes wsX5_becomes) := goodIn_app (goodIn_of _ (by decide +kernel)) ggX5_iron_X5_becomes
set_option maxRecDepth 20000 in
theorem ggX5_iron_X5_finds : GoodIn wsX5_iron wsX5_finds := goodIn_r _ [14, 15, 1, 16, 17, 18, 19, 20, 21, 22, 23, 24, 25, 26, 27, 28, 29, 30] (by decide +kernel) (by decide +kernel)
set_option maxRecDepth 20000 in
theorem gX5_iron_X5_finds : GoodIn wsX5_iron (wsV RX5 37 RX5 yX5_finds wsX5_finds) := goodIn_app (goodIn_of _ (by decide +kernel)) ggX5_iron_X5_finds
theorem dX5_iron_0 : decode cX5_iron 0 = .ok (.iload_n 1, 1) := by decide +kernel
theorem dX5_iron_1 : decode cX5_iron 1 = .ok (.ifCond .ne 14, 3) := by decide +kernel
theorem dX5_iron_4 : decode cX5_iron 4 = .ok (.iload_n 2, 1) := by decide +kernel
theorem dX5_iron_5 : decode cX5_iron 5 = .ok (.i2l, 1) := by decide +kernel
theorem dX5_iron_6 : decode cX5_iron 6 = .ok (.iconst 1, 1) := by decide +kernel
theorem dX5_iron_7 : decode cX5_iron 7 = .ok (.bipush 50, 2) := by decide +kernel
theorem dX5_iron_9 : decode cX5_iron 9 = .ok (.invokestatic 41, 3) := by decide +kernel
theorem dX5_iron_12 : decode cX5_iron 12 = .ok (.ifCond .ne 20, 3) := by decide +kernel
theorem dX5_iron_15 : decode cX5_iron 15 = .ok (.iload_n 1, 1) := by decide +kernel
theorem dX5_iron_16 : decode cX5_iron 16 = .ok (.iconst 1, 1) := by decide +kernel
theorem dX5_iron_17 : decode cX5_iron 17 = .ok (.if_icmp .ne 19, 3) := by decide +kernel
theorem dX5_iron_20 : decode cX5_iron 20 = .ok (.iload_n 2, 1) := by decide +kernel
theorem dX5_iron_21 : decode cX5_iron 21 = .ok (.i2l, 1) := by decide +kernel
theorem dX5_iron_22 : decode cX5_iron 22 = .ok (.iconst 0, 1) := by decide +kernel
theorem dX5_iron_23 : decode cX5_iron 23 = .ok (.sipush 200, 3) := by decide +kernel
theorem dX5_iron_26 : decode cX5_iron 26 = .ok (.invokestatic 41, 3) := by decide +kernel
theorem dX5_iron_29 : decode cX5_iron 29 = .ok (.ifCond .eq 7, 3) := by decide +kernel
theorem dX5_iron_32 : decode cX5_iron 32 = .ok (.iconst 1, 1) := by decide +kernel
theorem dX5_iron_33 : decode cX5_iron 33 = .ok (.goto 4, 3) := by decide +kernel
theorem dX5_iron_36 : decode cX5_iron 36 = .ok (.iconst 0, 1) := by decide +kernel
theorem dX5_iron_37 : decode cX5_iron 37 = .ok (.istore_n 3, 1) := by decide +kernel
theorem dX5_iron_38 : decode cX5_iron 38 = .ok (.iload_n 3, 1) := by decide +kernel
theorem dX5_iron_39 : decode cX5_iron 39 = .ok (.ifCond .eq 14, 3) := by decide +kernel
theorem dX5_iron_42 : decode cX5_iron 42 = .ok (.aload_n 0, 1) := by decide +kernel
theorem dX5_iron_43 : decode cX5_iron 43 = .ok (.iconst 2, 1) := by decide +kernel
theorem dX5_iron_44 : decode cX5_iron 44 = .ok (.iload_n 1, 1) := by decide +kernel
theorem dX5_iron_45 : decode cX5_iron 45 = .ok (.iadd, 1) := by decide +kernel
theorem dX5_iron_46 : decode cX5_iron 46 = .ok (.iload_n 2, 1) := by decide +kernel
theorem dX5_iron_47 : decode cX5_iron 47 = .ok (.invokevirtual 66, 3) := by decide +kernel
theorem dX5_iron_50 : decode cX5_iron 50 = .ok (.goto 9, 3) := by decide +kernel
theorem dX5_iron_53 : decode cX5_iron 53 = .ok (.aload_n 0, 1) := by decide +kernel
theorem dX5_iron_54 : decode cX5_iron 54 = .ok (.ldc 35, 2) := by decide +kernel
theorem dX5_iron_56 : decode cX5_iron 56 = .ok (.invokevirtual 37, 3) := by decide +kernel
theorem dX5_iron_59 : decode cX5_iron 59 = .ok (.ireturn, 1) := by decide +kernel
set_option maxRecDepth 20000 in
theorem ggX5_rain_X5_in : GoodIn wsX5_rain wsX5_in := goodIn_r _ [5] (by decide +kernel) (by decide +kernel)
set_option maxRecDepth 20000 in
theorem gX5_rain_X5_in : GoodIn wsX5_rain (va_wsS RX5 41 yX5_in wsX5_in) := goodIn_app (goodIn_of _ (by decide +kernel)) ggX5_rain_X5_in
set_option maxRecDepth 20000 in
theorem ggX5_rain_X5_becomes : GoodIn wsX5_rain wsX5_becomes := goodIn_r _ [9, 10, 16, 17, 18, 19, 20, 21, 22, 23, 24, 25, 26, 27, 28, 29, 30] (by decide +kernel) (by decide +kernel)
set_option maxRecDepth 20000 in
theorem gX5_rain_X5_becomes : GoodIn wsX5_rain (wsV RX5 66 RX5 yX5_becomes wsX5_becomes) := goodIn_app (goodIn_of _ (by decide +kernel)) ggX5_rain_X5_becomes
set_option maxRecDepth 20000 in
theorem ggX5_rain_X5_finds : GoodIn wsX5_rain wsX5_finds := goodIn_r _ [14, 15, 1, 16, 17, 18, 19, 20, 21, 22, 23, 24, 25, 26, 27, 28, 29, 30] (by decide +kernel) (by decide +kernel)
set_option maxRecDepth 20000 in
theorem gX5_rain_X5_finds : GoodIn wsX5_rain (wsV RX5 37 RX5 yX5_finds wsX5_finds) := goodIn_app (goodIn_of _ (by decide +kernel)) ggX5_rain_X5_finds
theorem dX5_rain_0 : decode cX5_rain 0 = .ok (.iload_n 1, 1) := by decide +kernel
theorem dX5_rain_1 : decode cX5_rain 1 = .ok (.i2l, 1) := by decide +kernel
theorem dX5_rain_2 : decode cX5_rain 2 = .ok (.iconst 0, 1) := by decide +kernel
theorem dX5_rain_3 : decode cX5_rain 3 = .ok (.bipush 31, 2) := by decide +kernel
theorem dX5_rain_5 : decode cX5_rain 5 = .ok (.invokestatic 41, 3) := by decide +kernel
theorem dX5_rain_8 : decode cX5_rain 8 = .ok (.ifCond .eq 12, 3) := by decide +kernel
theorem dX5_rain_11 : decode cX5_rain 11 = .ok (.aload_n 0, 1) := by decide +kernel
theorem dX5_rain_12 : decode cX5_rain 12 = .ok (.iconst 1, 1) := by decide +kernel
theorem dX5_rain_13 : decode cX5_rain 13 = .ok (.iload_n 1, 1) := by decide +kernel
theorem dX5_rain_14 : decode cX5_rain 14 = .ok (.invokevirtual 66, 3) := by decide +kernel
theorem dX5_rain_17 : decode cX5_rain 17 = .ok (.goto 9, 3) := by decide +kernel
theorem dX5_rain_20 : decode cX5_rain 20 = .ok (.aload_n 0, 1) := by decide +kernel
theorem dX5_rain_21 : decode cX5_rain 21 = .ok (.ldc 35, 2) := by decide +kernel
theorem dX5_rain_23 : decode cX5_rain 23 = .ok (.invokevirtual 37, 3) := by decide +kernel
theorem dX5_rain_26 : decode cX5_rain 26 = .ok (.ireturn, 1) := by decide +kernel
set_option maxRecDepth 20000 in
theorem ggX5_riders_X5_about : GoodIn wsX5_riders wsX5_about := goodIn_r _ [6, 1, 7, 8, 9, 10, 11, 12, 13, 14, 15, 16, 17, 18, 19, 20, 21] (by decide +kernel) (by decide +kernel)
set_option maxRecDepth 20000 in
theorem gX5_riders_X5_about : GoodIn wsX5_riders (wsV RX5 69 RX5 yX5_about wsX5_about) := goodIn_app (goodIn_of _ (by decide +kernel)) ggX5_riders_X5_about
theorem dX5_riders_0 : decode cX5_riders 0 = .ok (.iconst 0, 1) := by decide +kernel
theorem dX5_riders_1 : decode cX5_riders 1 = .ok (.istore_n 1, 1) := by decide +kernel
theorem dX5_riders_2 : decode cX5_riders 2 = .ok (.iconst 0, 1) := by decide +kernel
theorem dX5_riders_3 : decode cX5_riders 3 = .ok (.istore_n 2, 1) := by decide +kernel
theorem dX5_riders_4 : decode cX5_riders 4 = .ok (.iload_n 2, 1) := by decide +kernel
theorem dX5_riders_5 : decode cX5_riders 5 = .ok (.aload_n 0, 1) := by decide +kernel
theorem dX5_riders_6 : decode cX5_riders 6 = .ok (.getfield 9, 3) := by decide +kernel
theorem dX5_riders_9 : decode cX5_riders 9 = .ok (.bipush 6, 2) := by decide +kernel
theorem dX5_riders_11 : decode cX5_riders 11 = .ok (.iaload, 1) := by decide +kernel
theorem dX5_riders_12 : decode cX5_riders 12 = .ok (.if_icmp .ge 20, 3) := by decide +kernel
theorem dX5_riders_15 : decode cX5_riders 15 = .ok (.iload_n 1, 1) := by decide +kernel
theorem dX5_riders_16 : decode cX5_riders 16 = .ok (.aload_n 0, 1) := by decide +kernel
theorem dX5_riders_17 : decode cX5_riders 17 = .ok (.iload_n 2, 1) := by decide +kernel
theorem dX5_riders_18 : decode cX5_riders 18 = .ok (.iconst 1, 1) := by decide +kernel
theorem dX5_riders_19 : decode cX5_riders 19 = .ok (.invokevirtual 69, 3) := by decide +kernel
theorem dX5_riders_22 : decode cX5_riders 22 = .ok (.iload_n 2, 1) := by decide +kernel
theorem dX5_riders_23 : decode cX5_riders 23 = .ok (.ishl, 1) := by decide +kernel
theorem dX5_riders_24 : decode cX5_riders 24 = .ok (.ior, 1) := by decide +kernel
theorem dX5_riders_25 : decode cX5_riders 25 = .ok (.istore_n 1, 1) := by decide +kernel
theorem dX5_riders_26 : decode cX5_riders 26 = .ok (.iinc 2 1, 3) := by decide +kernel
theorem dX5_riders_29 : decode cX5_riders 29 = .ok (.goto (-25), 3) := by decide +kernel
theorem dX5_riders_32 : decode cX5_riders 32 = .ok (.iload_n 1, 1) := by decide +kernel
theorem dX5_riders_33 : decode cX5_riders 33 = .ok (.ireturn, 1) := by decide +kernel
set_option maxRecDepth 20000 in
theorem ggX5_weight_X5_riders : GoodIn wsX5_weight wsX5_riders := goodIn_r _ [6, 1, 7, 8, 9, 5, 10, 14, 15, 16, 17, 18, 19, 20, 21, 22, 23, 24, 25, 26, 27, 28] (by decide +kernel) (by decide +kernel)
set_option maxRecDepth 20000 in
theorem gX5_weight_X5_riders : GoodIn wsX5_weight (wsV RX5 72 RX5 yX5_riders wsX5_riders) := goodIn_app (goodIn_of _ (by decide +kernel)) ggX5_weight_X5_riders
set_option maxRecDepth 20000 in
theorem ggX5_weight_X5_bits : GoodIn wsX5_weight wsX5_bits := goodIn_r _ [13] (by decide +kernel) (by decide +kernel)
set_option maxRecDepth 20000 in
theorem gX5_weight_X5_bits : GoodIn wsX5_weight (va_wsS RX5 56 yX5_bits wsX5_bits) := goodIn_app (goodIn_of _ (by decide +kernel)) ggX5_weight_X5_bits
theorem dX5_weight_0 : decode cX5_weight 0 = .ok (.aload_n 0, 1) := by decide +kernel
theorem dX5_weight_1 : decode cX5_weight 1 = .ok (.getfield 9, 3) := by decide +kernel
theorem dX5_weight_4 : decode cX5_weight 4 = .ok (.iconst 2, 1) := by decide +kernel
theorem dX5_weight_5 : decode cX5_weight 5 = .ok (.iaload, 1) := by decide +kernel
theorem dX5_weight_6 : decode cX5_weight 6 = .ok (.iconst 2, 1) := by decide +kernel
theorem dX5_weight_7 : decode cX5_weight 7 = .ok (.aload_n 0, 1) := by decide +kernel
theorem dX5_weight_8 : decode cX5_weight 8 = .ok (.invokevirtual 72, 3) := by decide +kernel
theorem dX5_weight_11 : decode cX5_weight 11 = .ok (.invokestatic 56, 3) := by decide +kernel
theorem dX5_weight_14 : decode cX5_weight 14 = .ok (.imul, 1) := by decide +kernel
theorem dX5_weight_15 : decode cX5_weight 15 = .ok (.iadd, 1) := by decide +kernel
theorem dX5_weight_16 : decode cX5_weight 16 = .ok (.ireturn, 1) := by decide +kernel
set_option maxRecDepth 20000 in
theorem ggX5_push_X5_it : GoodIn wsX5_push wsX5_it := goodIn_r _ [6, 1, 34, 35, 36, 37, 38, 39, 40, 41, 42, 43, 44, 45, 46, 47, 48] (by decide +kernel) (by decide +kernel)
set_option maxRecDepth 20000 in
theorem gX5_push_X5_it : GoodIn wsX5_push (wsV RX5 49 RX5 yX5_it wsX5_it) := goodIn_app (goodIn_of _ (by decide +kernel)) ggX5_push_X5_it
set_option maxRecDepth 20000 in
theorem ggX5_push_X5_keepsBack : GoodIn wsX5_push wsX5_keepsBack := goodIn_r _ [10, 2, 3, 4, 5, 6, 1, 11, 12, 13, 14, 15, 16, 17, 18, 19, 20, 21, 22, 23, 24, 25, 26, 27, 28, 29, 34, 35, 36, 37, 38, 39, 40, 41, 42, 43, 44, 45, 46, 47, 48] (by decide +kernel) (by decide +kernel)
set_option maxRecDepth 20000 in
theorem gX5_push_X5_keepsBack : GoodIn wsX5_push (wsV RX5 75 RX5 yX5_keepsBack wsX5_keepsBack) := goodIn_app (goodIn_of _ (by decide +kernel)) ggX5_push_X5_keepsBack
set_option maxRecDepth 20000 in
theorem ggX5_push_X5_isWet : GoodIn wsX5_push wsX5_isWet := goodIn_r _ [33, 1, 26, 27, 28, 5, 29, 34, 35, 36, 37, 38, 39, 40, 41, 42, 43, 44, 45, 46, 47, 48] (by decide +kernel) (by decide +kernel)
set_option maxRecDepth 20000 in
theorem gX5_push_X5_isWet : GoodIn wsX5_push (wsV RX5 78 RX5 yX5_isWet wsX5_isWet) := goodIn_app (goodIn_of _ (by decide +kernel)) ggX5_push_X5_isWet
theorem dX5_push_0 : decode cX5_push 0 = .ok (.iconst 0, 1) := by decide +kernel
theorem dX5_push_1 : decode cX5_push 1 = .ok (.istore_n 1, 1) := by decide +kernel
theorem dX5_push_2 : decode cX5_push 2 = .ok (.iconst 0, 1) := by decide +kernel
theorem dX5_push_3 : decode cX5_push 3 = .ok (.istore_n 2, 1) := by decide +kernel
theorem dX5_push_4 : decode cX5_push 4 = .ok (.iload_n 2, 1) := by decide +kernel
theorem dX5_push_5 : decode cX5_push 5 = .ok (.aload_n 0, 1) := by decide +kernel
theorem dX5_push_6 : decode cX5_push 6 = .ok (.getfield 9, 3) := by decide +kernel
theorem dX5_push_9 : decode cX5_push 9 = .ok (.iconst 5, 1) := by decide +kernel
theorem dX5_push_10 : decode cX5_push 10 = .ok (.iaload, 1) := by decide +kernel
theorem dX5_push_11 : decode cX5_push 11 = .ok (.if_icmp .ge 31, 3) := by decide +kernel
theorem dX5_push_14 : decode cX5_push 14 = .ok (.iload_n 1, 1) := by decide +kernel
theorem dX5_push_15 : decode cX5_push 15 = .ok (.aload_n 0, 1) := by decide +kernel
theorem dX5_push_16 : decode cX5_push 16 = .ok (.iload_n 2, 1) := by decide +kernel
theorem dX5_push_17 : decode cX5_push 17 = .ok (.iconst 1, 1) := by decide +kernel
theorem dX5_push_18 : decode cX5_push 18 = .ok (.invokevirtual 49, 3) := by decide +kernel
theorem dX5_push_21 : decode cX5_push 21 = .ok (.iconst 1, 1) := by decide +kernel
theorem dX5_push_22 : decode cX5_push 22 = .ok (.if_icmp .ne 11, 3) := by decide +kernel
theorem dX5_push_25 : decode cX5_push 25 = .ok (.aload_n 0, 1) := by decide +kernel
theorem dX5_push_26 : decode cX5_push 26 = .ok (.iload_n 2, 1) := by decide +kernel
theorem dX5_push_27 : decode cX5_push 27 = .ok (.invokevirtual 75, 3) := by decide +kernel
theorem dX5_push_30 : decode cX5_push 30 = .ok (.goto 4, 3) := by decide +kernel
theorem dX5_push_33 : decode cX5_push 33 = .ok (.iconst 0, 1) := by decide +kernel
theorem dX5_push_34 : decode cX5_push 34 = .ok (.iadd, 1) := by decide +kernel
theorem dX5_push_35 : decode cX5_push 35 = .ok (.istore_n 1, 1) := by decide +kernel
theorem dX5_push_36 : decode cX5_push 36 = .ok (.iinc 2 1, 3) := by decide +kernel
theorem dX5_push_39 : decode cX5_push 39 = .ok (.goto (-35), 3) := by decide +kernel
theorem dX5_push_42 : decode cX5_push 42 = .ok (.aload_n 0, 1) := by decide +kernel
theorem dX5_push_43 : decode cX5_push 43 = .ok (.invokevirtual 78, 3) := by decide +kernel
theorem dX5_push_46 : decode cX5_push 46 = .ok (.ifCond .eq 7, 3) := by decide +kernel
theorem dX5_push_49 : decode cX5_push 49 = .ok (.iconst 0, 1) := by decide +kernel
theorem dX5_push_50 : decode cX5_push 50 = .ok (.goto 4, 3) := by decide +kernel
theorem dX5_push_53 : decode cX5_push 53 = .ok (.iload_n 1, 1) := by decide +kernel
theorem dX5_push_54 : decode cX5_push 54 = .ok (.ireturn, 1) := by decide +kernel
set_option maxRecDepth 20000 in
theorem ggX5_now_X5_clock : GoodIn wsX5_now wsX5_clock := goodIn_r _ [7, 1, 56, 57, 58, 59, 60, 61, 62, 63, 64, 65, 66, 67, 68, 69, 70] (by decide +kernel) (by decide +kernel)
set_option maxRecDepth 20000 in
theorem gX5_now_X5_clock : GoodIn wsX5_now (wsV RX5 45 RX5 yX5_clock wsX5_clock) := goodIn_app (goodIn_of _ (by decide +kernel)) ggX5_now_X5_clock
set_option maxRecDepth 20000 in
theorem ggX5_now_X5_isNight : GoodIn wsX5_now wsX5_isNight := goodIn_r _ [11, 3, 4, 5, 6, 7, 1, 56, 57, 58, 59, 60, 61, 62, 63, 64, 65, 66, 67, 68, 69, 70] (by decide +kernel) (by decide +kernel)
set_option maxRecDepth 20000 in
theorem gX5_now_X5_isNight : GoodIn wsX5_now (wsV RX5 62 RX5 yX5_isNight wsX5_isNight) := goodIn_app (goodIn_of _ (by decide +kernel)) ggX5_now_X5_isNight
set_option maxRecDepth 20000 in
theorem ggX5_now_X5_isWet : GoodIn wsX5_now wsX5_isWet := goodIn_r _ [15, 1, 3, 4, 5, 6, 7, 56, 57, 58, 59, 60, 61, 62, 63, 64, 65, 66, 67, 68, 69, 70] (by decide +kernel) (by decide +kernel)
set_option maxRecDepth 20000 in
theorem gX5_now_X5_isWet : GoodIn wsX5_now (wsV RX5 78 RX5 yX5_isWet wsX5_isWet) := goodIn_app (goodIn_of _ (by decide +kernel)) ggX5_now_X5_isWet
set_option maxRecDepth 20000 in
theorem ggX5_now_X5_weight : GoodIn wsX5_now wsX5_weight := goodIn_r _ [19, 1, 20, 21, 22, 6, 23, 24, 25, 26, 27, 28, 29, 30, 56, 57, 58, 59, 60, 61, 62, 63, 64, 65, 66, 67, 68, 69, 70] (by decide +kernel) (by decide +kernel)
set_option maxRecDepth 20000 in
theorem gX5_now_X5_weight : GoodIn wsX5_now (wsV RX5 81 RX5 yX5_weight wsX5_weight) := goodIn_app (goodIn_of _ (by decide +kernel)) ggX5_now_X5_weight
set_option maxRecDepth 20000 in
theorem ggX5_now_X5_push : GoodIn wsX5_now wsX5_push := goodIn_r _ [34, 1, 35, 36, 37, 6, 38, 39, 40, 41, 42, 43, 44, 45, 46, 47, 48, 49, 50, 28, 29, 30, 8, 9, 10, 11, 3, 4, 5, 7, 12, 13, 14, 15, 56, 57, 58, 59, 60, 61, 62, 63, 64, 65, 66, 67, 68, 69, 70] (by decide +kernel) (by decide +kernel)
set_option maxRecDepth 20000 in
theorem gX5_now_X5_push : GoodIn wsX5_now (wsV RX5 84 RX5 yX5_push wsX5_push) := goodIn_app (goodIn_of _ (by decide +kernel)) ggX5_now_X5_push
set_option maxRecDepth 20000 in
theorem ggX5_now_X5_outOnes : GoodIn wsX5_now wsX5_outOnes := goodIn_r _ [50, 1, 35, 36, 37, 6, 38, 56, 57, 58, 59, 60, 61, 62, 63, 64, 65, 66, 67, 68, 69, 70] (by decide +kernel) (by decide +kernel)
set_option maxRecDepth 20000 in
theorem gX5_now_X5_outOnes : GoodIn wsX5_now (wsV RX5 53 RX5 yX5_outOnes wsX5_outOnes) := goodIn_app (goodIn_of _ (by decide +kernel)) ggX5_now_X5_outOnes
set_option maxRecDepth 20000 in
theorem ggX5_now_X5_riders : GoodIn wsX5_now wsX5_riders := goodIn_r _ [23, 1, 24, 25, 26, 6, 27, 56, 57, 58, 59, 60, 61, 62, 63, 64, 65, 66, 67, 68, 69, 70] (by decide +kernel) (by decide +kernel)
set_option maxRecDepth 20000 in
theorem gX5_now_X5_riders : GoodIn wsX5_now (wsV RX5 72 RX5 yX5_riders wsX5_riders) := goodIn_app (goodIn_of _ (by decide +kernel)) ggX5_now_X5_riders
set_option maxRecDepth 20000 in
theorem ggX5_now_X5_finds : GoodIn wsX5_now wsX5_finds := goodIn_r _ [54, 55, 2, 56, 57, 58, 59, 60, 61, 62, 63, 64, 65, 66, 67, 68, 69, 70] (by decide +kernel) (by decide +kernel)
set_option maxRecDepth 20000 in
theorem gX5_now_X5_finds : GoodIn wsX5_now (wsV RX5 37 RX5 yX5_finds wsX5_finds) := goodIn_app (goodIn_of _ (by decide +kernel)) ggX5_now_X5_finds
theorem dX5_now_0 : decode cX5_now 0 = .ok (.iload_n 1, 1) := by decide +kernel
theorem dX5_now_1 : decode cX5_now 1 = .ok (.tableswitch 124 0 9 #[55, 62, 67, 80, 93, 93, 104, 109, 114, 119], 55) := by decide +kernel
theorem dX5_now_56 : decode cX5_now 56 = .ok (.aload_n 0, 1) := by decide +kernel
theorem dX5_now_57 : decode cX5_now 57 = .ok (.getfield 9, 3) := by decide +kernel
theorem dX5_now_60 : decode cX5_now 60 = .ok (.iconst 0, 1) := by decide +kernel
theorem dX5_now_61 : decode cX5_now 61 = .ok (.iaload, 1) := by decide +kernel
theorem dX5_now_62 : decode cX5_now 62 = .ok (.ireturn, 1) := by decide +kernel
theorem dX5_now_63 : decode cX5_now 63 = .ok (.aload_n 0, 1) := by decide +kernel
theorem dX5_now_64 : decode cX5_now 64 = .ok (.invokevirtual 45, 3) := by decide +kernel
theorem dX5_now_67 : decode cX5_now 67 = .ok (.ireturn, 1) := by decide +kernel
theorem dX5_now_68 : decode cX5_now 68 = .ok (.aload_n 0, 1) := by decide +kernel
theorem dX5_now_69 : decode cX5_now 69 = .ok (.invokevirtual 62, 3) := by decide +kernel
theorem dX5_now_72 : decode cX5_now 72 = .ok (.ifCond .eq 7, 3) := by decide +kernel
theorem dX5_now_75 : decode cX5_now 75 = .ok (.iconst 1, 1) := by decide +kernel
theorem dX5_now_76 : decode cX5_now 76 = .ok (.goto 4, 3) := by decide +kernel
theorem dX5_now_79 : decode cX5_now 79 = .ok (.iconst 0, 1) := by decide +kernel
theorem dX5_now_80 : decode cX5_now 80 = .ok (.ireturn, 1) := by decide +kernel
theorem dX5_now_81 : decode cX5_now 81 = .ok (.aload_n 0, 1) := by decide +kernel
theorem dX5_now_82 : decode cX5_now 82 = .ok (.invokevirtual 78, 3) := by decide +kernel
theorem dX5_now_85 : decode cX5_now 85 = .ok (.ifCond .eq 7, 3) := by decide +kernel
theorem dX5_now_88 : decode cX5_now 88 = .ok (.iconst 1, 1) := by decide +kernel
theorem dX5_now_89 : decode cX5_now 89 = .ok (.goto 4, 3) := by decide +kernel
theorem dX5_now_92 : decode cX5_now 92 = .ok (.iconst 0, 1) := by decide +kernel
theorem dX5_now_93 : decode cX5_now 93 = .ok (.ireturn, 1) := by decide +kernel
theorem dX5_now_94 : decode cX5_now 94 = .ok (.aload_n 0, 1) := by decide +kernel
theorem dX5_now_95 : decode cX5_now 95 = .ok (.getfield 9, 3) := by decide +kernel
theorem dX5_now_98 : decode cX5_now 98 = .ok (.iconst 3, 1) := by decide +kernel
theorem dX5_now_99 : decode cX5_now 99 = .ok (.iload_n 1, 1) := by decide +kernel
theorem dX5_now_100 : decode cX5_now 100 = .ok (.iadd, 1) := by decide +kernel
theorem dX5_now_101 : decode cX5_now 101 = .ok (.iconst 4, 1) := by decide +kernel
theorem dX5_now_102 : decode cX5_now 102 = .ok (.isub, 1) := by decide +kernel
theorem dX5_now_103 : decode cX5_now 103 = .ok (.iaload, 1) := by decide +kernel
theorem dX5_now_104 : decode cX5_now 104 = .ok (.ireturn, 1) := by decide +kernel
theorem dX5_now_105 : decode cX5_now 105 = .ok (.aload_n 0, 1) := by decide +kernel
theorem dX5_now_106 : decode cX5_now 106 = .ok (.invokevirtual 81, 3) := by decide +kernel
theorem dX5_now_109 : decode cX5_now 109 = .ok (.ireturn, 1) := by decide +kernel
theorem dX5_now_110 : decode cX5_now 110 = .ok (.aload_n 0, 1) := by decide +kernel
theorem dX5_now_111 : decode cX5_now 111 = .ok (.invokevirtual 84, 3) := by decide +kernel
theorem dX5_now_114 : decode cX5_now 114 = .ok (.ireturn, 1) := by decide +kernel
theorem dX5_now_115 : decode cX5_now 115 = .ok (.aload_n 0, 1) := by decide +kernel
theorem dX5_now_116 : decode cX5_now 116 = .ok (.invokevirtual 53, 3) := by decide +kernel
theorem dX5_now_119 : decode cX5_now 119 = .ok (.ireturn, 1) := by decide +kernel
theorem dX5_now_120 : decode cX5_now 120 = .ok (.aload_n 0, 1) := by decide +kernel
theorem dX5_now_121 : decode cX5_now 121 = .ok (.invokevirtual 72, 3) := by decide +kernel
theorem dX5_now_124 : decode cX5_now 124 = .ok (.ireturn, 1) := by decide +kernel
theorem dX5_now_125 : decode cX5_now 125 = .ok (.aload_n 0, 1) := by decide +kernel
theorem dX5_now_126 : decode cX5_now 126 = .ok (.ldc 35, 2) := by decide +kernel
theorem dX5_now_128 : decode cX5_now 128 = .ok (.invokevirtual 37, 3) := by decide +kernel
theorem dX5_now_131 : decode cX5_now 131 = .ok (.ireturn, 1) := by decide +kernel
set_option maxRecDepth 20000 in
theorem ggX5_comesAs_X5_put : GoodIn wsX5_comesAs wsX5_put := goodIn_r _ [6, 1, 7, 8, 9, 10, 11, 12, 13, 14, 15, 16, 17, 18, 19, 20, 21] (by decide +kernel) (by decide +kernel)
set_option maxRecDepth 20000 in
theorem gX5_comesAs_X5_put : GoodIn wsX5_comesAs (wsV RX5 87 RX5 yX5_put wsX5_put) := goodIn_app (goodIn_of _ (by decide +kernel)) ggX5_comesAs_X5_put
theorem dX5_comesAs_0 : decode cX5_comesAs 0 = .ok (.aload_n 0, 1) := by decide +kernel
theorem dX5_comesAs_1 : decode cX5_comesAs 1 = .ok (.getfield 9, 3) := by decide +kernel
theorem dX5_comesAs_4 : decode cX5_comesAs 4 = .ok (.iconst 5, 1) := by decide +kernel
theorem dX5_comesAs_5 : decode cX5_comesAs 5 = .ok (.iaload, 1) := by decide +kernel
theorem dX5_comesAs_6 : decode cX5_comesAs 6 = .ok (.istore 4, 2) := by decide +kernel
theorem dX5_comesAs_8 : decode cX5_comesAs 8 = .ok (.aload_n 0, 1) := by decide +kernel
theorem dX5_comesAs_9 : decode cX5_comesAs 9 = .ok (.getfield 9, 3) := by decide +kernel
theorem dX5_comesAs_12 : decode cX5_comesAs 12 = .ok (.iconst 5, 1) := by decide +kernel
theorem dX5_comesAs_13 : decode cX5_comesAs 13 = .ok (.dup2, 1) := by decide +kernel
theorem dX5_comesAs_14 : decode cX5_comesAs 14 = .ok (.iaload, 1) := by decide +kernel
theorem dX5_comesAs_15 : decode cX5_comesAs 15 = .ok (.iconst 1, 1) := by decide +kernel
theorem dX5_comesAs_16 : decode cX5_comesAs 16 = .ok (.iadd, 1) := by decide +kernel
theorem dX5_comesAs_17 : decode cX5_comesAs 17 = .ok (.iastore, 1) := by decide +kernel
theorem dX5_comesAs_18 : decode cX5_comesAs 18 = .ok (.aload_n 0, 1) := by decide +kernel
theorem dX5_comesAs_19 : decode cX5_comesAs 19 = .ok (.iload 4, 2) := by decide +kernel
theorem dX5_comesAs_21 : decode cX5_comesAs 21 = .ok (.iconst 0, 1) := by decide +kernel
theorem dX5_comesAs_22 : decode cX5_comesAs 22 = .ok (.iload_n 1, 1) := by decide +kernel
theorem dX5_comesAs_23 : decode cX5_comesAs 23 = .ok (.invokevirtual 87, 3) := by decide +kernel
theorem dX5_comesAs_26 : decode cX5_comesAs 26 = .ok (.aload_n 0, 1) := by decide +kernel
theorem dX5_comesAs_27 : decode cX5_comesAs 27 = .ok (.iload 4, 2) := by decide +kernel
theorem dX5_comesAs_29 : decode cX5_comesAs 29 = .ok (.iconst 1, 1) := by decide +kernel
theorem dX5_comesAs_30 : decode cX5_comesAs 30 = .ok (.iload_n 3, 1) := by decide +kernel
theorem dX5_comesAs_31 : decode cX5_comesAs 31 = .ok (.invokevirtual 87, 3) := by decide +kernel
theorem dX5_comesAs_34 : decode cX5_comesAs 34 = .ok (.aload_n 0, 1) := by decide +kernel
theorem dX5_comesAs_35 : decode cX5_comesAs 35 = .ok (.iload 4, 2) := by decide +kernel
theorem dX5_comesAs_37 : decode cX5_comesAs 37 = .ok (.iconst 2, 1) := by decide +kernel
theorem dX5_comesAs_38 : decode cX5_comesAs 38 = .ok (.iload_n 2, 1) := by decide +kernel
theorem dX5_comesAs_39 : decode cX5_comesAs 39 = .ok (.invokevirtual 87, 3) := by decide +kernel
theorem dX5_comesAs_42 : decode cX5_comesAs 42 = .ok (.aload_n 0, 1) := by decide +kernel
theorem dX5_comesAs_43 : decode cX5_comesAs 43 = .ok (.iload 4, 2) := by decide +kernel
theorem dX5_comesAs_45 : decode cX5_comesAs 45 = .ok (.iconst 3, 1) := by decide +kernel
theorem dX5_comesAs_46 : decode cX5_comesAs 46 = .ok (.iconst 0, 1) := by decide +kernel
theorem dX5_comesAs_47 : decode cX5_comesAs 47 = .ok (.invokevirtual 87, 3) := by decide +kernel
theorem dX5_comesAs_50 : decode cX5_comesAs 50 = .ok (.iload 4, 2) := by decide +kernel
theorem dX5_comesAs_52 : decode cX5_comesAs 52 = .ok (.ireturn, 1) := by decide +kernel
set_option maxRecDepth 20000 in
theorem ggX5_mother_X5_in : GoodIn wsX5_mother wsX5_in := goodIn_r _ [7] (by decide +kernel) (by decide +kernel)
set_option maxRecDepth 20000 in
theorem gX5_mother_X5_in : GoodIn wsX5_mother (va_wsS RX5 41 yX5_in wsX5_in) := goodIn_app (goodIn_of _ (by decide +kernel)) ggX5_mother_X5_in
set_option maxRecDepth 20000 in
theorem ggX5_mother_X5_finds : GoodIn wsX5_mother wsX5_finds := goodIn_r _ [11, 12, 1, 21, 22, 23, 24, 25, 26, 27, 28, 29, 30, 31, 32, 33, 34, 35] (by decide +kernel) (by decide +kernel)
set_option maxRecDepth 20000 in
theorem gX5_mother_X5_finds : GoodIn wsX5_mother (wsV RX5 37 RX5 yX5_finds wsX5_finds) := goodIn_app (goodIn_of _ (by decide +kernel)) ggX5_mother_X5_finds
set_option maxRecDepth 20000 in
theorem ggX5_mother_X5_comesAs : GoodIn wsX5_mother wsX5_comesAs := goodIn_r _ [16, 2, 17, 18, 19, 6, 20, 21, 22, 23, 24, 25, 26, 27, 28, 29, 30, 31, 32, 33, 34, 35] (by decide +kernel) (by decide +kernel)
set_option maxRecDepth 20000 in
theorem gX5_mother_X5_comesAs : GoodIn wsX5_mother (wsV RX5 92 RX5 yX5_comesAs wsX5_comesAs) := goodIn_app (goodIn_of _ (by decide +kernel)) ggX5_mother_X5_comesAs
theorem dX5_mother_0 : decode cX5_mother 0 = .ok (.iload_n 1, 1) := by decide +kernel
theorem dX5_mother_1 : decode cX5_mother 1 = .ok (.i2l, 1) := by decide +kernel
theorem dX5_mother_2 : decode cX5_mother 2 = .ok (.iconst 0, 1) := by decide +kernel
theorem dX5_mother_3 : decode cX5_mother 3 = .ok (.iconst 5, 1) := by decide +kernel
theorem dX5_mother_4 : decode cX5_mother 4 = .ok (.invokestatic 41, 3) := by decide +kernel
theorem dX5_mother_7 : decode cX5_mother 7 = .ok (.ifCond .ne 10, 3) := by decide +kernel
theorem dX5_mother_10 : decode cX5_mother 10 = .ok (.aload_n 0, 1) := by decide +kernel
theorem dX5_mother_11 : decode cX5_mother 11 = .ok (.ldc 35, 2) := by decide +kernel
theorem dX5_mother_13 : decode cX5_mother 13 = .ok (.invokevirtual 37, 3) := by decide +kernel
theorem dX5_mother_16 : decode cX5_mother 16 = .ok (.ireturn, 1) := by decide +kernel
theorem dX5_mother_17 : decode cX5_mother 17 = .ok (.aload_n 0, 1) := by decide +kernel
theorem dX5_mother_18 : decode cX5_mother 18 = .ok (.getfield 9, 3) := by decide +kernel
theorem dX5_mother_21 : decode cX5_mother 21 = .ok (.iconst 5, 1) := by decide +kernel
theorem dX5_mother_22 : decode cX5_mother 22 = .ok (.iaload, 1) := by decide +kernel
theorem dX5_mother_23 : decode cX5_mother 23 = .ok (.bipush 8, 2) := by decide +kernel
theorem dX5_mother_25 : decode cX5_mother 25 = .ok (.if_icmp .ne 12, 3) := by decide +kernel
theorem dX5_mother_28 : decode cX5_mother 28 = .ok (.aload_n 0, 1) := by decide +kernel
theorem dX5_mother_29 : decode cX5_mother 29 = .ok (.ldc 91, 2) := by decide +kernel
theorem dX5_mother_31 : decode cX5_mother 31 = .ok (.invokevirtual 37, 3) := by decide +kernel
theorem dX5_mother_34 : decode cX5_mother 34 = .ok (.goto 11, 3) := by decide +kernel
theorem dX5_mother_37 : decode cX5_mother 37 = .ok (.aload_n 0, 1) := by decide +kernel
theorem dX5_mother_38 : decode cX5_mother 38 = .ok (.iload_n 1, 1) := by decide +kernel
theorem dX5_mother_39 : decode cX5_mother 39 = .ok (.bipush 10, 2) := by decide +kernel
theorem dX5_mother_41 : decode cX5_mother 41 = .ok (.iconst 0, 1) := by decide +kernel
theorem dX5_mother_42 : decode cX5_mother 42 = .ok (.invokevirtual 92, 3) := by decide +kernel
theorem dX5_mother_45 : decode cX5_mother 45 = .ok (.ireturn, 1) := by decide +kernel
set_option maxRecDepth 20000 in
theorem ggX5_of_X5_isMother : GoodIn wsX5_of wsX5_isMother := goodIn_r _ [6, 7, 8, 9, 5, 10, 51, 52, 53, 54, 55, 56, 57, 58, 59, 60, 61, 62, 63, 64, 65] (by decide +kernel) (by decide +kernel)
set_option maxRecDepth 20000 in
theorem gX5_of_X5_isMother : GoodIn wsX5_of (wsV RX5 96 RX5 yX5_isMother wsX5_isMother) := goodIn_app (goodIn_of _ (by decide +kernel)) ggX5_of_X5_isMother
set_option maxRecDepth 20000 in
theorem ggX5_of_X5_in : GoodIn wsX5_of wsX5_in := goodIn_r _ [10] (by decide +kernel) (by decide +kernel)
set_option maxRecDepth 20000 in
theorem gX5_of_X5_in : GoodIn wsX5_of (va_wsS RX5 41 yX5_in wsX5_in) := goodIn_app (goodIn_of _ (by decide +kernel)) ggX5_of_X5_in
set_option maxRecDepth 20000 in
theorem ggX5_of_X5_finds : GoodIn wsX5_of wsX5_finds := goodIn_r _ [14, 15, 1, 51, 52, 53, 54, 55, 56, 57, 58, 59, 60, 61, 62, 63, 64, 65] (by decide +kernel) (by decide +kernel)
set_option maxRecDepth 20000 in
theorem gX5_of_X5_finds : GoodIn wsX5_of (wsV RX5 37 RX5 yX5_finds wsX5_finds) := goodIn_app (goodIn_of _ (by decide +kernel)) ggX5_of_X5_finds
set_option maxRecDepth 20000 in
theorem ggX5_of_X5_keepsBack : GoodIn wsX5_of wsX5_keepsBack := goodIn_r _ [19, 20, 21, 22, 5, 23, 7, 24, 25, 26, 27, 28, 29, 30, 31, 32, 33, 34, 35, 36, 37, 38, 39, 40, 41, 42, 51, 52, 53, 54, 55, 56, 57, 58, 59, 60, 61, 62, 63, 64, 65] (by decide +kernel) (by decide +kernel)
set_option maxRecDepth 20000 in
theorem gX5_of_X5_keepsBack : GoodIn wsX5_of (wsV RX5 75 RX5 yX5_keepsBack wsX5_keepsBack) := goodIn_app (goodIn_of _ (by decide +kernel)) ggX5_of_X5_keepsBack
set_option maxRecDepth 20000 in
theorem ggX5_of_X5_doesSpeak : GoodIn wsX5_of wsX5_doesSpeak := goodIn_r _ [46, 7, 20, 21, 22, 5, 23, 24, 25, 26, 27, 28, 29, 30, 31, 32, 33, 34, 35, 36, 37, 38, 39, 40, 41, 42, 51, 52, 53, 54, 55, 56, 57, 58, 59, 60, 61, 62, 63, 64, 65] (by decide +kernel) (by decide +kernel)
set_option maxRecDepth 20000 in
theorem gX5_of_X5_doesSpeak : GoodIn wsX5_of (wsV RX5 100 RX5 yX5_doesSpeak wsX5_doesSpeak) := goodIn_app (goodIn_of _ (by decide +kernel)) ggX5_of_X5_doesSpeak
set_option maxRecDepth 20000 in
theorem ggX5_of_X5_lessBy : GoodIn wsX5_of wsX5_lessBy := goodIn_r _ [50, 20, 21, 22, 5, 23, 7, 51, 52, 53, 54, 55, 56, 57, 58, 59, 60, 61, 62, 63, 64, 65] (by decide +kernel) (by decide +kernel)
set_option maxRecDepth 20000 in
theorem gX5_of_X5_lessBy : GoodIn wsX5_of (wsV RX5 103 RX5 yX5_lessBy wsX5_lessBy) := goodIn_app (goodIn_of _ (by decide +kernel)) ggX5_of_X5_lessBy
set_option maxRecDepth 20000 in
theorem ggX5_of_X5_it : GoodIn wsX5_of wsX5_it := goodIn_r _ [23, 7, 51, 52, 53, 54, 55, 56, 57, 58, 59, 60, 61, 62, 63, 64, 65] (by decide +kernel) (by decide +kernel)
set_option maxRecDepth 20000 in
theorem gX5_of_X5_it : GoodIn wsX5_of (wsV RX5 49 RX5 yX5_it wsX5_it) := goodIn_app (goodIn_of _ (by decide +kernel)) ggX5_of_X5_it
theorem dX5_of_0 : decode cX5_of 0 = .ok (.aload_n 0, 1) := by decide +kernel
theorem dX5_of_1 : decode cX5_of 1 = .ok (.iload_n 1, 1) := by decide +kernel
theorem dX5_of_2 : decode cX5_of 2 = .ok (.invokevirtual 96, 3) := by decide +kernel
theorem dX5_of_5 : decode cX5_of 5 = .ok (.ifCond .eq 14, 3) := by decide +kernel
theorem dX5_of_8 : decode cX5_of 8 = .ok (.iload_n 2, 1) := by decide +kernel
theorem dX5_of_9 : decode cX5_of 9 = .ok (.i2l, 1) := by decide +kernel
theorem dX5_of_10 : decode cX5_of 10 = .ok (.iconst 0, 1) := by decide +kernel
theorem dX5_of_11 : decode cX5_of 11 = .ok (.bipush 6, 2) := by decide +kernel
theorem dX5_of_13 : decode cX5_of 13 = .ok (.invokestatic 41, 3) := by decide +kernel
theorem dX5_of_16 : decode cX5_of 16 = .ok (.ifCond .ne 10, 3) := by decide +kernel
theorem dX5_of_19 : decode cX5_of 19 = .ok (.aload_n 0, 1) := by decide +kernel
theorem dX5_of_20 : decode cX5_of 20 = .ok (.ldc 35, 2) := by decide +kernel
theorem dX5_of_22 : decode cX5_of 22 = .ok (.invokevirtual 37, 3) := by decide +kernel
theorem dX5_of_25 : decode cX5_of 25 = .ok (.ireturn, 1) := by decide +kernel
theorem dX5_of_26 : decode cX5_of 26 = .ok (.iload_n 2, 1) := by decide +kernel
theorem dX5_of_27 : decode cX5_of 27 = .ok (.tableswitch 51 4 6 #[25, 31, 45], 25) := by decide +kernel
theorem dX5_of_52 : decode cX5_of 52 = .ok (.aload_n 0, 1) := by decide +kernel
theorem dX5_of_53 : decode cX5_of 53 = .ok (.iload_n 1, 1) := by decide +kernel
theorem dX5_of_54 : decode cX5_of 54 = .ok (.invokevirtual 75, 3) := by decide +kernel
theorem dX5_of_57 : decode cX5_of 57 = .ok (.ireturn, 1) := by decide +kernel
theorem dX5_of_58 : decode cX5_of 58 = .ok (.aload_n 0, 1) := by decide +kernel
theorem dX5_of_59 : decode cX5_of 59 = .ok (.iload_n 1, 1) := by decide +kernel
theorem dX5_of_60 : decode cX5_of 60 = .ok (.invokevirtual 100, 3) := by decide +kernel
theorem dX5_of_63 : decode cX5_of 63 = .ok (.ifCond .eq 7, 3) := by decide +kernel
theorem dX5_of_66 : decode cX5_of 66 = .ok (.iconst 1, 1) := by decide +kernel
theorem dX5_of_67 : decode cX5_of 67 = .ok (.goto 4, 3) := by decide +kernel
theorem dX5_of_70 : decode cX5_of 70 = .ok (.iconst 0, 1) := by decide +kernel
theorem dX5_of_71 : decode cX5_of 71 = .ok (.ireturn, 1) := by decide +kernel
theorem dX5_of_72 : decode cX5_of 72 = .ok (.aload_n 0, 1) := by decide +kernel
theorem dX5_of_73 : decode cX5_of 73 = .ok (.iload_n 1, 1) := by decide +kernel
theorem dX5_of_74 : decode cX5_of 74 = .ok (.invokevirtual 103, 3) := by decide +kernel
theorem dX5_of_77 : decode cX5_of 77 = .ok (.ireturn, 1) := by decide +kernel
theorem dX5_of_78 : decode cX5_of 78 = .ok (.aload_n 0, 1) := by decide +kernel
theorem dX5_of_79 : decode cX5_of 79 = .ok (.iload_n 1, 1) := by decide +kernel
theorem dX5_of_80 : decode cX5_of 80 = .ok (.iload_n 2, 1) := by decide +kernel
theorem dX5_of_81 : decode cX5_of 81 = .ok (.invokevirtual 49, 3) := by decide +kernel
theorem dX5_of_84 : decode cX5_of 84 = .ok (.ireturn, 1) := by decide +kernel
set_option maxRecDepth 20000 in
theorem ggX5_set_X5_isMother : GoodIn wsX5_set wsX5_isMother := goodIn_r _ [6, 7, 8, 9, 5, 10, 20, 21, 22, 23, 24, 25, 26, 27, 28, 29, 30, 31, 32, 33, 34] (by decide +kernel) (by decide +kernel)
set_option maxRecDepth 20000 in
theorem gX5_set_X5_isMother : GoodIn wsX5_set (wsV RX5 96 RX5 yX5_isMother wsX5_isMother) := goodIn_app (goodIn_of _ (by decide +kernel)) ggX5_set_X5_isMother
set_option maxRecDepth 20000 in
theorem ggX5_set_X5_in : GoodIn wsX5_set wsX5_in := goodIn_r _ [10] (by decide +kernel) (by decide +kernel)
set_option maxRecDepth 20000 in
theorem gX5_set_X5_in : GoodIn wsX5_set (va_wsS RX5 41 yX5_in wsX5_in) := goodIn_app (goodIn_of _ (by decide +kernel)) ggX5_set_X5_in
set_option maxRecDepth 20000 in
theorem ggX5_set_X5_becomes : GoodIn wsX5_set wsX5_becomes := goodIn_r _ [14, 7, 20, 21, 22, 23, 24, 25, 26, 27, 28, 29, 30, 31, 32, 33, 34] (by decide +kernel) (by decide +kernel)
set_option maxRecDepth 20000 in
theorem gX5_set_X5_becomes : GoodIn wsX5_set (wsV RX5 66 RX5 yX5_becomes wsX5_becomes) := goodIn_app (goodIn_of _ (by decide +kernel)) ggX5_set_X5_becomes
set_option maxRecDepth 20000 in
theorem ggX5_set_X5_finds : GoodIn wsX5_set wsX5_finds := goodIn_r _ [18, 19, 1, 20, 21, 22, 23, 24, 25, 26, 27, 28, 29, 30, 31, 32, 33, 34] (by decide +kernel) (by decide +kernel)
set_option maxRecDepth 20000 in
theorem gX5_set_X5_finds : GoodIn wsX5_set (wsV RX5 37 RX5 yX5_finds wsX5_finds) := goodIn_app (goodIn_of _ (by decide +kernel)) ggX5_set_X5_finds
theorem dX5_set_0 : decode cX5_set 0 = .ok (.aload_n 0, 1) := by decide +kernel
theorem dX5_set_1 : decode cX5_set 1 = .ok (.iload_n 1, 1) := by decide +kernel
theorem dX5_set_2 : decode cX5_set 2 = .ok (.invokevirtual 96, 3) := by decide +kernel
theorem dX5_set_5 : decode cX5_set 5 = .ok (.ifCond .eq 39, 3) := by decide +kernel
theorem dX5_set_8 : decode cX5_set 8 = .ok (.iload_n 2, 1) := by decide +kernel
theorem dX5_set_9 : decode cX5_set 9 = .ok (.i2l, 1) := by decide +kernel
theorem dX5_set_10 : decode cX5_set 10 = .ok (.iconst 2, 1) := by decide +kernel
theorem dX5_set_11 : decode cX5_set 11 = .ok (.iconst 3, 1) := by decide +kernel
theorem dX5_set_12 : decode cX5_set 12 = .ok (.invokestatic 41, 3) := by decide +kernel
theorem dX5_set_15 : decode cX5_set 15 = .ok (.ifCond .eq 29, 3) := by decide +kernel
theorem dX5_set_18 : decode cX5_set 18 = .ok (.iload_n 3, 1) := by decide +kernel
theorem dX5_set_19 : decode cX5_set 19 = .ok (.i2l, 1) := by decide +kernel
theorem dX5_set_20 : decode cX5_set 20 = .ok (.iconst 0, 1) := by decide +kernel
theorem dX5_set_21 : decode cX5_set 21 = .ok (.iload_n 2, 1) := by decide +kernel
theorem dX5_set_22 : decode cX5_set 22 = .ok (.iconst 2, 1) := by decide +kernel
theorem dX5_set_23 : decode cX5_set 23 = .ok (.if_icmp .ne 8, 3) := by decide +kernel
theorem dX5_set_26 : decode cX5_set 26 = .ok (.bipush 99, 2) := by decide +kernel
theorem dX5_set_28 : decode cX5_set 28 = .ok (.goto 6, 3) := by decide +kernel
theorem dX5_set_31 : decode cX5_set 31 = .ok (.sipush 999, 3) := by decide +kernel
theorem dX5_set_34 : decode cX5_set 34 = .ok (.invokestatic 41, 3) := by decide +kernel
theorem dX5_set_37 : decode cX5_set 37 = .ok (.ifCond .eq 7, 3) := by decide +kernel
theorem dX5_set_40 : decode cX5_set 40 = .ok (.iconst 1, 1) := by decide +kernel
theorem dX5_set_41 : decode cX5_set 41 = .ok (.goto 4, 3) := by decide +kernel
theorem dX5_set_44 : decode cX5_set 44 = .ok (.iconst 0, 1) := by decide +kernel
theorem dX5_set_45 : decode cX5_set 45 = .ok (.istore 4, 2) := by decide +kernel
theorem dX5_set_47 : decode cX5_set 47 = .ok (.iload 4, 2) := by decide +kernel
theorem dX5_set_49 : decode cX5_set 49 = .ok (.ifCond .eq 19, 3) := by decide +kernel
theorem dX5_set_52 : decode cX5_set 52 = .ok (.aload_n 0, 1) := by decide +kernel
theorem dX5_set_53 : decode cX5_set 53 = .ok (.bipush 7, 2) := by decide +kernel
theorem dX5_set_55 : decode cX5_set 55 = .ok (.iconst 4, 1) := by decide +kernel
theorem dX5_set_56 : decode cX5_set 56 = .ok (.iload_n 1, 1) := by decide +kernel
theorem dX5_set_57 : decode cX5_set 57 = .ok (.imul, 1) := by decide +kernel
theorem dX5_set_58 : decode cX5_set 58 = .ok (.iadd, 1) := by decide +kernel
theorem dX5_set_59 : decode cX5_set 59 = .ok (.iload_n 2, 1) := by decide +kernel
theorem dX5_set_60 : decode cX5_set 60 = .ok (.iadd, 1) := by decide +kernel
theorem dX5_set_61 : decode cX5_set 61 = .ok (.iload_n 3, 1) := by decide +kernel
theorem dX5_set_62 : decode cX5_set 62 = .ok (.invokevirtual 66, 3) := by decide +kernel
theorem dX5_set_65 : decode cX5_set 65 = .ok (.goto 9, 3) := by decide +kernel
theorem dX5_set_68 : decode cX5_set 68 = .ok (.aload_n 0, 1) := by decide +kernel
theorem dX5_set_69 : decode cX5_set 69 = .ok (.ldc 35, 2) := by decide +kernel
theorem dX5_set_71 : decode cX5_set 71 = .ok (.invokevirtual 37, 3) := by decide +kernel
theorem dX5_set_74 : decode cX5_set 74 = .ok (.ireturn, 1) := by decide +kernel
set_option maxRecDepth 20000 in
theorem ggX5_moves_X5_put : GoodIn wsX5_moves wsX5_put := goodIn_r _ [5, 6, 11, 12, 13, 14, 15, 16, 17, 18, 19, 20, 21, 22, 23, 24, 25] (by decide +kernel) (by decide +kernel)
set_option maxRecDepth 20000 in
theorem gX5_moves_X5_put : GoodIn wsX5_moves (wsV RX5 87 RX5 yX5_put wsX5_put) := goodIn_app (goodIn_of _ (by decide +kernel)) ggX5_moves_X5_put
set_option maxRecDepth 20000 in
theorem ggX5_moves_X5_becomes : GoodIn wsX5_moves wsX5_becomes := goodIn_r _ [10, 6, 11, 12, 13, 14, 15, 16, 17, 18, 19, 20, 21, 22, 23, 24, 25] (by decide +kernel) (by decide +kernel)
set_option maxRecDepth 20000 in
theorem gX5_moves_X5_becomes : GoodIn wsX5_moves (wsV RX5 66 RX5 yX5_becomes wsX5_becomes) := goodIn_app (goodIn_of _ (by decide +kernel)) ggX5_moves_X5_becomes
theorem dX5_moves_0 : decode cX5_moves 0 = .ok (.aload_n 0, 1) := by decide +kernel
theorem dX5_moves_1 : decode cX5_moves 1 = .ok (.iload_n 1, 1) := by decide +kernel
theorem dX5_moves_2 : decode cX5_moves 2 = .ok (.iconst 3, 1) := by decide +kernel
theorem dX5_moves_3 : decode cX5_moves 3 = .ok (.iconst 0, 1) := by decide +kernel
theorem dX5_moves_4 : decode cX5_moves 4 = .ok (.invokevirtual 87, 3) := by decide +kernel
theorem dX5_moves_7 : decode cX5_moves 7 = .ok (.aload_n 0, 1) := by decide +kernel
theorem dX5_moves_8 : decode cX5_moves 8 = .ok (.bipush 7, 2) := by decide +kernel
theorem dX5_moves_10 : decode cX5_moves 10 = .ok (.iconst 4, 1) := by decide +kernel
theorem dX5_moves_11 : decode cX5_moves 11 = .ok (.iload_n 1, 1) := by decide +kernel
theorem dX5_moves_12 : decode cX5_moves 12 = .ok (.imul, 1) := by decide +kernel
theorem dX5_moves_13 : decode cX5_moves 13 = .ok (.iadd, 1) := by decide +kernel
theorem dX5_moves_14 : decode cX5_moves 14 = .ok (.iconst 1, 1) := by decide +kernel
theorem dX5_moves_15 : decode cX5_moves 15 = .ok (.iadd, 1) := by decide +kernel
theorem dX5_moves_16 : decode cX5_moves 16 = .ok (.iload_n 2, 1) := by decide +kernel
theorem dX5_moves_17 : decode cX5_moves 17 = .ok (.invokevirtual 66, 3) := by decide +kernel
theorem dX5_moves_20 : decode cX5_moves 20 = .ok (.ireturn, 1) := by decide +kernel
set_option maxRecDepth 20000 in
theorem ggX5_out_X5_isMother : GoodIn wsX5_out wsX5_isMother := goodIn_r _ [6, 7, 8, 9, 5, 10, 28, 29, 30, 31, 32, 33, 34, 35, 36, 37, 38, 39, 40, 41, 42] (by decide +kernel) (by decide +kernel)
set_option maxRecDepth 20000 in
theorem gX5_out_X5_isMother : GoodIn wsX5_out (wsV RX5 96 RX5 yX5_isMother wsX5_isMother) := goodIn_app (goodIn_of _ (by decide +kernel)) ggX5_out_X5_isMother
set_option maxRecDepth 20000 in
theorem ggX5_out_X5_in : GoodIn wsX5_out wsX5_in := goodIn_r _ [10] (by decide +kernel) (by decide +kernel)
set_option maxRecDepth 20000 in
theorem gX5_out_X5_in : GoodIn wsX5_out (va_wsS RX5 41 yX5_in wsX5_in) := goodIn_app (goodIn_of _ (by decide +kernel)) ggX5_out_X5_in
set_option maxRecDepth 20000 in
theorem ggX5_out_X5_moves : GoodIn wsX5_out wsX5_moves := goodIn_r _ [14, 15, 16, 17, 5, 18, 7, 19, 20, 21, 22, 28, 29, 30, 31, 32, 33, 34, 35, 36, 37, 38, 39, 40, 41, 42] (by decide +kernel) (by decide +kernel)
set_option maxRecDepth 20000 in
theorem gX5_out_X5_moves : GoodIn wsX5_out (wsV RX5 106 RX5 yX5_moves wsX5_moves) := goodIn_app (goodIn_of _ (by decide +kernel)) ggX5_out_X5_moves
set_option maxRecDepth 20000 in
theorem ggX5_out_X5_finds : GoodIn wsX5_out wsX5_finds := goodIn_r _ [26, 27, 1, 28, 29, 30, 31, 32, 33, 34, 35, 36, 37, 38, 39, 40, 41, 42] (by decide +kernel) (by decide +kernel)
set_option maxRecDepth 20000 in
theorem gX5_out_X5_finds : GoodIn wsX5_out (wsV RX5 37 RX5 yX5_finds wsX5_finds) := goodIn_app (goodIn_of _ (by decide +kernel)) ggX5_out_X5_finds
theorem dX5_out_0 : decode cX5_out 0 = .ok (.aload_n 0, 1) := by decide +kernel
theorem dX5_out_1 : decode cX5_out 1 = .ok (.iload_n 1, 1) := by decide +kernel
theorem dX5_out_2 : decode cX5_out 2 = .ok (.invokevirtual 96, 3) := by decide +kernel
theorem dX5_out_5 : decode cX5_out 5 = .ok (.ifCond .eq 22, 3) := by decide +kernel
theorem dX5_out_8 : decode cX5_out 8 = .ok (.iload_n 2, 1) := by decide +kernel
theorem dX5_out_9 : decode cX5_out 9 = .ok (.i2l, 1) := by decide +kernel
theorem dX5_out_10 : decode cX5_out 10 = .ok (.iconst 0, 1) := by decide +kernel
theorem dX5_out_11 : decode cX5_out 11 = .ok (.iconst 1, 1) := by decide +kernel
theorem dX5_out_12 : decode cX5_out 12 = .ok (.invokestatic 41, 3) := by decide +kernel
theorem dX5_out_15 : decode cX5_out 15 = .ok (.ifCond .eq 12, 3) := by decide +kernel
theorem dX5_out_18 : decode cX5_out 18 = .ok (.aload_n 0, 1) := by decide +kernel
theorem dX5_out_19 : decode cX5_out 19 = .ok (.iload_n 1, 1) := by decide +kernel
theorem dX5_out_20 : decode cX5_out 20 = .ok (.iload_n 2, 1) := by decide +kernel
theorem dX5_out_21 : decode cX5_out 21 = .ok (.invokevirtual 106, 3) := by decide +kernel
theorem dX5_out_24 : decode cX5_out 24 = .ok (.goto 9, 3) := by decide +kernel
theorem dX5_out_27 : decode cX5_out 27 = .ok (.aload_n 0, 1) := by decide +kernel
theorem dX5_out_28 : decode cX5_out 28 = .ok (.ldc 35, 2) := by decide +kernel
theorem dX5_out_30 : decode cX5_out 30 = .ok (.invokevirtual 37, 3) := by decide +kernel
theorem dX5_out_33 : decode cX5_out 33 = .ok (.ireturn, 1) := by decide +kernel
set_option maxRecDepth 20000 in
theorem ggX5_turn_X5_isMother : GoodIn wsX5_turn wsX5_isMother := goodIn_r _ [6, 7, 8, 9, 5, 10, 20, 21, 22, 23, 24, 25, 26, 27, 28, 29, 30, 31, 32, 33, 34] (by decide +kernel) (by decide +kernel)
set_option maxRecDepth 20000 in
theorem gX5_turn_X5_isMother : GoodIn wsX5_turn (wsV RX5 96 RX5 yX5_isMother wsX5_isMother) := goodIn_app (goodIn_of _ (by decide +kernel)) ggX5_turn_X5_isMother
set_option maxRecDepth 20000 in
theorem ggX5_turn_X5_in : GoodIn wsX5_turn wsX5_in := goodIn_r _ [10] (by decide +kernel) (by decide +kernel)
set_option maxRecDepth 20000 in
theorem gX5_turn_X5_in : GoodIn wsX5_turn (va_wsS RX5 41 yX5_in wsX5_in) := goodIn_app (goodIn_of _ (by decide +kernel)) ggX5_turn_X5_in
set_option maxRecDepth 20000 in
theorem ggX5_turn_X5_becomes : GoodIn wsX5_turn wsX5_becomes := goodIn_r _ [14, 7, 20, 21, 22, 23, 24, 25, 26, 27, 28, 29, 30, 31, 32, 33, 34] (by decide +kernel) (by decide +kernel)
set_option maxRecDepth 20000 in
theorem gX5_turn_X5_becomes : GoodIn wsX5_turn (wsV RX5 66 RX5 yX5_becomes wsX5_becomes) := goodIn_app (goodIn_of _ (by decide +kernel)) ggX5_turn_X5_becomes
set_option maxRecDepth 20000 in
theorem ggX5_turn_X5_finds : GoodIn wsX5_turn wsX5_finds := goodIn_r _ [18, 19, 1, 20, 21, 22, 23, 24, 25, 26, 27, 28, 29, 30, 31, 32, 33, 34] (by decide +kernel) (by decide +kernel)
set_option maxRecDepth 20000 in
theorem gX5_turn_X5_finds : GoodIn wsX5_turn (wsV RX5 37 RX5 yX5_finds wsX5_finds) := goodIn_app (goodIn_of _ (by decide +kernel)) ggX5_turn_X5_finds
theorem dX5_turn_0 : decode cX5_turn 0 = .ok (.aload_n 0, 1) := by decide +kernel
theorem dX5_turn_1 : decode cX5_turn 1 = .ok (.iload_n 1, 1) := by decide +kernel
theorem dX5_turn_2 : decode cX5_turn 2 = .ok (.invokevirtual 96, 3) := by decide +kernel
theorem dX5_turn_5 : decode cX5_turn 5 = .ok (.ifCond .eq 27, 3) := by decide +kernel
theorem dX5_turn_8 : decode cX5_turn 8 = .ok (.iload_n 2, 1) := by decide +kernel
theorem dX5_turn_9 : decode cX5_turn 9 = .ok (.i2l, 1) := by decide +kernel
theorem dX5_turn_10 : decode cX5_turn 10 = .ok (.iconst 0, 1) := by decide +kernel
theorem dX5_turn_11 : decode cX5_turn 11 = .ok (.iconst 5, 1) := by decide +kernel
theorem dX5_turn_12 : decode cX5_turn 12 = .ok (.invokestatic 41, 3) := by decide +kernel
theorem dX5_turn_15 : decode cX5_turn 15 = .ok (.ifCond .eq 17, 3) := by decide +kernel
theorem dX5_turn_18 : decode cX5_turn 18 = .ok (.aload_n 0, 1) := by decide +kernel
theorem dX5_turn_19 : decode cX5_turn 19 = .ok (.bipush 7, 2) := by decide +kernel
theorem dX5_turn_21 : decode cX5_turn 21 = .ok (.iconst 4, 1) := by decide +kernel
theorem dX5_turn_22 : decode cX5_turn 22 = .ok (.iload_n 1, 1) := by decide +kernel
theorem dX5_turn_23 : decode cX5_turn 23 = .ok (.imul, 1) := by decide +kernel
theorem dX5_turn_24 : decode cX5_turn 24 = .ok (.iadd, 1) := by decide +kernel
theorem dX5_turn_25 : decode cX5_turn 25 = .ok (.iload_n 2, 1) := by decide +kernel
theorem dX5_turn_26 : decode cX5_turn 26 = .ok (.invokevirtual 66, 3) := by decide +kernel
theorem dX5_turn_29 : decode cX5_turn 29 = .ok (.goto 9, 3) := by decide +kernel
theorem dX5_turn_32 : decode cX5_turn 32 = .ok (.aload_n 0, 1) := by decide +kernel
theorem dX5_turn_33 : decode cX5_turn 33 = .ok (.ldc 35, 2) := by decide +kernel
theorem dX5_turn_35 : decode cX5_turn 35 = .ok (.invokevirtual 37, 3) := by decide +kernel
theorem dX5_turn_38 : decode cX5_turn 38 = .ok (.ireturn, 1) := by decide +kernel
set_option maxRecDepth 20000 in
theorem ggX5_as_X5_isMother : GoodIn wsX5_as wsX5_isMother := goodIn_r _ [7, 8, 9, 10, 6, 11, 21, 22, 23, 24, 25, 26, 27, 28, 29, 30, 31, 32, 33, 34, 35] (by decide +kernel) (by decide +kernel)
set_option maxRecDepth 20000 in
theorem gX5_as_X5_isMother : GoodIn wsX5_as (wsV RX5 96 RX5 yX5_isMother wsX5_isMother) := goodIn_app (goodIn_of _ (by decide +kernel)) ggX5_as_X5_isMother
set_option maxRecDepth 20000 in
theorem ggX5_as_X5_in : GoodIn wsX5_as wsX5_in := goodIn_r _ [11] (by decide +kernel) (by decide +kernel)
set_option maxRecDepth 20000 in
theorem gX5_as_X5_in : GoodIn wsX5_as (va_wsS RX5 41 yX5_in wsX5_in) := goodIn_app (goodIn_of _ (by decide +kernel)) ggX5_as_X5_in
set_option maxRecDepth 20000 in
theorem ggX5_as_X5_finds : GoodIn wsX5_as wsX5_finds := goodIn_r _ [15, 16, 1, 21, 22, 23, 24, 25, 26, 27, 28, 29, 30, 31, 32, 33, 34, 35] (by decide +kernel) (by decide +kernel)
set_option maxRecDepth 20000 in
theorem gX5_as_X5_finds : GoodIn wsX5_as (wsV RX5 37 RX5 yX5_finds wsX5_finds) := goodIn_app (goodIn_of _ (by decide +kernel)) ggX5_as_X5_finds
set_option maxRecDepth 20000 in
theorem ggX5_as_X5_it : GoodIn wsX5_as wsX5_it := goodIn_r _ [20, 8, 21, 22, 23, 24, 25, 26, 27, 28, 29, 30, 31, 32, 33, 34, 35] (by decide +kernel) (by decide +kernel)
set_option maxRecDepth 20000 in
theorem gX5_as_X5_it : GoodIn wsX5_as (wsV RX5 49 RX5 yX5_it wsX5_it) := goodIn_app (goodIn_of _ (by decide +kernel)) ggX5_as_X5_it
theorem dX5_as_0 : decode cX5_as 0 = .ok (.aload_n 0, 1) := by decide +kernel
theorem dX5_as_1 : decode cX5_as 1 = .ok (.iload_n 1, 1) := by decide +kernel
theorem dX5_as_2 : decode cX5_as 2 = .ok (.invokevirtual 96, 3) := by decide +kernel
theorem dX5_as_5 : decode cX5_as 5 = .ok (.ifCond .eq 13, 3) := by decide +kernel
theorem dX5_as_8 : decode cX5_as 8 = .ok (.iload_n 2, 1) := by decide +kernel
theorem dX5_as_9 : decode cX5_as 9 = .ok (.i2l, 1) := by decide +kernel
theorem dX5_as_10 : decode cX5_as 10 = .ok (.iconst 0, 1) := by decide +kernel
theorem dX5_as_11 : decode cX5_as 11 = .ok (.iconst 5, 1) := by decide +kernel
theorem dX5_as_12 : decode cX5_as 12 = .ok (.invokestatic 41, 3) := by decide +kernel
theorem dX5_as_15 : decode cX5_as 15 = .ok (.ifCond .ne 10, 3) := by decide +kernel
theorem dX5_as_18 : decode cX5_as 18 = .ok (.aload_n 0, 1) := by decide +kernel
theorem dX5_as_19 : decode cX5_as 19 = .ok (.ldc 35, 2) := by decide +kernel
theorem dX5_as_21 : decode cX5_as 21 = .ok (.invokevirtual 37, 3) := by decide +kernel
theorem dX5_as_24 : decode cX5_as 24 = .ok (.ireturn, 1) := by decide +kernel
theorem dX5_as_25 : decode cX5_as 25 = .ok (.aload_n 0, 1) := by decide +kernel
theorem dX5_as_26 : decode cX5_as 26 = .ok (.iload_n 1, 1) := by decide +kernel
theorem dX5_as_27 : decode cX5_as 27 = .ok (.iconst 0, 1) := by decide +kernel
theorem dX5_as_28 : decode cX5_as 28 = .ok (.invokevirtual 49, 3) := by decide +kernel
theorem dX5_as_31 : decode cX5_as 31 = .ok (.istore_n 3, 1) := by decide +kernel
theorem dX5_as_32 : decode cX5_as 32 = .ok (.iload_n 2, 1) := by decide +kernel
theorem dX5_as_33 : decode cX5_as 33 = .ok (.ifCond .eq 28, 3) := by decide +kernel
theorem dX5_as_36 : decode cX5_as 36 = .ok (.iload_n 2, 1) := by decide +kernel
theorem dX5_as_37 : decode cX5_as 37 = .ok (.iload_n 3, 1) := by decide +kernel
theorem dX5_as_38 : decode cX5_as 38 = .ok (.if_icmp .eq 23, 3) := by decide +kernel
theorem dX5_as_41 : decode cX5_as 41 = .ok (.iload_n 2, 1) := by decide +kernel
theorem dX5_as_42 : decode cX5_as 42 = .ok (.iconst 1, 1) := by decide +kernel
theorem dX5_as_43 : decode cX5_as 43 = .ok (.if_icmp .ne 8, 3) := by decide +kernel
theorem dX5_as_46 : decode cX5_as 46 = .ok (.iload_n 3, 1) := by decide +kernel
theorem dX5_as_47 : decode cX5_as 47 = .ok (.iconst 4, 1) := by decide +kernel
theorem dX5_as_48 : decode cX5_as 48 = .ok (.if_icmp .eq 13, 3) := by decide +kernel
theorem dX5_as_51 : decode cX5_as 51 = .ok (.iload_n 2, 1) := by decide +kernel
theorem dX5_as_52 : decode cX5_as 52 = .ok (.iconst 2, 1) := by decide +kernel
theorem dX5_as_53 : decode cX5_as 53 = .ok (.if_icmp .ne 12, 3) := by decide +kernel
theorem dX5_as_56 : decode cX5_as 56 = .ok (.iload_n 3, 1) := by decide +kernel
theorem dX5_as_57 : decode cX5_as 57 = .ok (.iconst 5, 1) := by decide +kernel
theorem dX5_as_58 : decode cX5_as 58 = .ok (.if_icmp .ne 7, 3) := by decide +kernel
theorem dX5_as_61 : decode cX5_as 61 = .ok (.iconst 1, 1) := by decide +kernel
theorem dX5_as_62 : decode cX5_as 62 = .ok (.goto 4, 3) := by decide +kernel
theorem dX5_as_65 : decode cX5_as 65 = .ok (.iconst 0, 1) := by decide +kernel
theorem dX5_as_66 : decode cX5_as 66 = .ok (.istore 4, 2) := by decide +kernel
theorem dX5_as_68 : decode cX5_as 68 = .ok (.iload 4, 2) := by decide +kernel
theorem dX5_as_70 : decode cX5_as 70 = .ok (.ifCond .eq 12, 3) := by decide +kernel
theorem dX5_as_73 : decode cX5_as 73 = .ok (.aload_n 0, 1) := by decide +kernel
theorem dX5_as_74 : decode cX5_as 74 = .ok (.iload_n 1, 1) := by decide +kernel
theorem dX5_as_75 : decode cX5_as 75 = .ok (.iconst 2, 1) := by decide +kernel
theorem dX5_as_76 : decode cX5_as 76 = .ok (.invokevirtual 49, 3) := by decide +kernel
theorem dX5_as_79 : decode cX5_as 79 = .ok (.goto 9, 3) := by decide +kernel
theorem dX5_as_82 : decode cX5_as 82 = .ok (.aload_n 0, 1) := by decide +kernel
theorem dX5_as_83 : decode cX5_as 83 = .ok (.ldc 109, 2) := by decide +kernel
theorem dX5_as_85 : decode cX5_as 85 = .ok (.invokevirtual 37, 3) := by decide +kernel
theorem dX5_as_88 : decode cX5_as 88 = .ok (.ireturn, 1) := by decide +kernel
set_option maxRecDepth 20000 in
theorem ggX5_getsOn_X5_lets : GoodIn wsX5_getsOn wsX5_lets := goodIn_r _ [6, 1, 7, 8, 9, 10, 11, 12, 13, 14, 15, 16, 17, 18, 19, 20, 21] (by decide +kernel) (by decide +kernel)
set_option maxRecDepth 20000 in
theorem gX5_getsOn_X5_lets : GoodIn wsX5_getsOn (wsV RX5 110 RX5 yX5_lets wsX5_lets) := goodIn_app (goodIn_of _ (by decide +kernel)) ggX5_getsOn_X5_lets
theorem dX5_getsOn_0 : decode cX5_getsOn 0 = .ok (.aload_n 0, 1) := by decide +kernel
theorem dX5_getsOn_1 : decode cX5_getsOn 1 = .ok (.getfield 9, 3) := by decide +kernel
theorem dX5_getsOn_4 : decode cX5_getsOn 4 = .ok (.bipush 6, 2) := by decide +kernel
theorem dX5_getsOn_6 : decode cX5_getsOn 6 = .ok (.iaload, 1) := by decide +kernel
theorem dX5_getsOn_7 : decode cX5_getsOn 7 = .ok (.istore_n 3, 1) := by decide +kernel
theorem dX5_getsOn_8 : decode cX5_getsOn 8 = .ok (.aload_n 0, 1) := by decide +kernel
theorem dX5_getsOn_9 : decode cX5_getsOn 9 = .ok (.getfield 9, 3) := by decide +kernel
theorem dX5_getsOn_12 : decode cX5_getsOn 12 = .ok (.bipush 6, 2) := by decide +kernel
theorem dX5_getsOn_14 : decode cX5_getsOn 14 = .ok (.dup2, 1) := by decide +kernel
theorem dX5_getsOn_15 : decode cX5_getsOn 15 = .ok (.iaload, 1) := by decide +kernel
theorem dX5_getsOn_16 : decode cX5_getsOn 16 = .ok (.iconst 1, 1) := by decide +kernel
theorem dX5_getsOn_17 : decode cX5_getsOn 17 = .ok (.iadd, 1) := by decide +kernel
theorem dX5_getsOn_18 : decode cX5_getsOn 18 = .ok (.iastore, 1) := by decide +kernel
theorem dX5_getsOn_19 : decode cX5_getsOn 19 = .ok (.aload_n 0, 1) := by decide +kernel
theorem dX5_getsOn_20 : decode cX5_getsOn 20 = .ok (.iload_n 3, 1) := by decide +kernel
theorem dX5_getsOn_21 : decode cX5_getsOn 21 = .ok (.iconst 0, 1) := by decide +kernel
theorem dX5_getsOn_22 : decode cX5_getsOn 22 = .ok (.iload_n 1, 1) := by decide +kernel
theorem dX5_getsOn_23 : decode cX5_getsOn 23 = .ok (.invokevirtual 110, 3) := by decide +kernel
theorem dX5_getsOn_26 : decode cX5_getsOn 26 = .ok (.aload_n 0, 1) := by decide +kernel
theorem dX5_getsOn_27 : decode cX5_getsOn 27 = .ok (.iload_n 3, 1) := by decide +kernel
theorem dX5_getsOn_28 : decode cX5_getsOn 28 = .ok (.iconst 1, 1) := by decide +kernel
theorem dX5_getsOn_29 : decode cX5_getsOn 29 = .ok (.iload_n 2, 1) := by decide +kernel
theorem dX5_getsOn_30 : decode cX5_getsOn 30 = .ok (.invokevirtual 110, 3) := by decide +kernel
theorem dX5_getsOn_33 : decode cX5_getsOn 33 = .ok (.aload_n 0, 1) := by decide +kernel
theorem dX5_getsOn_34 : decode cX5_getsOn 34 = .ok (.iload_n 3, 1) := by decide +kernel
theorem dX5_getsOn_35 : decode cX5_getsOn 35 = .ok (.iconst 2, 1) := by decide +kernel
theorem dX5_getsOn_36 : decode cX5_getsOn 36 = .ok (.iconst 0, 1) := by decide +kernel
theorem dX5_getsOn_37 : decode cX5_getsOn 37 = .ok (.invokevirtual 110, 3) := by decide +kernel
theorem dX5_getsOn_40 : decode cX5_getsOn 40 = .ok (.iload_n 3, 1) := by decide +kernel
theorem dX5_getsOn_41 : decode cX5_getsOn 41 = .ok (.ireturn, 1) := by decide +kernel
set_option maxRecDepth 20000 in
theorem ggX5_child_X5_in : GoodIn wsX5_child wsX5_in := goodIn_r _ [7] (by decide +kernel) (by decide +kernel)
set_option maxRecDepth 20000 in
theorem gX5_child_X5_in : GoodIn wsX5_child (va_wsS RX5 41 yX5_in wsX5_in) := goodIn_app (goodIn_of _ (by decide +kernel)) ggX5_child_X5_in
set_option maxRecDepth 20000 in
theorem ggX5_child_X5_finds : GoodIn wsX5_child wsX5_finds := goodIn_r _ [11, 12, 1, 21, 22, 23, 24, 25, 26, 27, 28, 29, 30, 31, 32, 33, 34, 35] (by decide +kernel) (by decide +kernel)
set_option maxRecDepth 20000 in
theorem gX5_child_X5_finds : GoodIn wsX5_child (wsV RX5 37 RX5 yX5_finds wsX5_finds) := goodIn_app (goodIn_of _ (by decide +kernel)) ggX5_child_X5_finds
set_option maxRecDepth 20000 in
theorem ggX5_child_X5_getsOn : GoodIn wsX5_child wsX5_getsOn := goodIn_r _ [16, 2, 17, 18, 19, 6, 20, 21, 22, 23, 24, 25, 26, 27, 28, 29, 30, 31, 32, 33, 34, 35] (by decide +kernel) (by decide +kernel)
set_option maxRecDepth 20000 in
theorem gX5_child_X5_getsOn : GoodIn wsX5_child (wsV RX5 113 RX5 yX5_getsOn wsX5_getsOn) := goodIn_app (goodIn_of _ (by decide +kernel)) ggX5_child_X5_getsOn
theorem dX5_child_0 : decode cX5_child 0 = .ok (.iload_n 1, 1) := by decide +kernel
theorem dX5_child_1 : decode cX5_child 1 = .ok (.i2l, 1) := by decide +kernel
theorem dX5_child_2 : decode cX5_child 2 = .ok (.iconst 0, 1) := by decide +kernel
theorem dX5_child_3 : decode cX5_child 3 = .ok (.sipush 200, 3) := by decide +kernel
theorem dX5_child_6 : decode cX5_child 6 = .ok (.invokestatic 41, 3) := by decide +kernel
theorem dX5_child_9 : decode cX5_child 9 = .ok (.ifCond .ne 10, 3) := by decide +kernel
theorem dX5_child_12 : decode cX5_child 12 = .ok (.aload_n 0, 1) := by decide +kernel
theorem dX5_child_13 : decode cX5_child 13 = .ok (.ldc 35, 2) := by decide +kernel
theorem dX5_child_15 : decode cX5_child 15 = .ok (.invokevirtual 37, 3) := by decide +kernel
theorem dX5_child_18 : decode cX5_child 18 = .ok (.ireturn, 1) := by decide +kernel
theorem dX5_child_19 : decode cX5_child 19 = .ok (.aload_n 0, 1) := by decide +kernel
theorem dX5_child_20 : decode cX5_child 20 = .ok (.getfield 9, 3) := by decide +kernel
theorem dX5_child_23 : decode cX5_child 23 = .ok (.bipush 6, 2) := by decide +kernel
theorem dX5_child_25 : decode cX5_child 25 = .ok (.iaload, 1) := by decide +kernel
theorem dX5_child_26 : decode cX5_child 26 = .ok (.bipush 6, 2) := by decide +kernel
theorem dX5_child_28 : decode cX5_child 28 = .ok (.if_icmp .ne 12, 3) := by decide +kernel
theorem dX5_child_31 : decode cX5_child 31 = .ok (.aload_n 0, 1) := by decide +kernel
theorem dX5_child_32 : decode cX5_child 32 = .ok (.ldc 91, 2) := by decide +kernel
theorem dX5_child_34 : decode cX5_child 34 = .ok (.invokevirtual 37, 3) := by decide +kernel
theorem dX5_child_37 : decode cX5_child 37 = .ok (.goto 9, 3) := by decide +kernel
theorem dX5_child_40 : decode cX5_child 40 = .ok (.aload_n 0, 1) := by decide +kernel
theorem dX5_child_41 : decode cX5_child 41 = .ok (.iload_n 1, 1) := by decide +kernel
theorem dX5_child_42 : decode cX5_child 42 = .ok (.iconst 0, 1) := by decide +kernel
theorem dX5_child_43 : decode cX5_child 43 = .ok (.invokevirtual 113, 3) := by decide +kernel
theorem dX5_child_46 : decode cX5_child 46 = .ok (.ireturn, 1) := by decide +kernel
set_option maxRecDepth 20000 in
theorem ggX5_childOf_X5_isChild : GoodIn wsX5_childOf wsX5_isChild := goodIn_r _ [6, 7, 8, 9, 5, 10, 20, 21, 22, 23, 24, 25, 26, 27, 28, 29, 30, 31, 32, 33, 34] (by decide +kernel) (by decide +kernel)
set_option maxRecDepth 20000 in
theorem gX5_childOf_X5_isChild : GoodIn wsX5_childOf (wsV RX5 116 RX5 yX5_isChild wsX5_isChild) := goodIn_app (goodIn_of _ (by decide +kernel)) ggX5_childOf_X5_isChild
set_option maxRecDepth 20000 in
theorem ggX5_childOf_X5_in : GoodIn wsX5_childOf wsX5_in := goodIn_r _ [10] (by decide +kernel) (by decide +kernel)
set_option maxRecDepth 20000 in
theorem gX5_childOf_X5_in : GoodIn wsX5_childOf (va_wsS RX5 41 yX5_in wsX5_in) := goodIn_app (goodIn_of _ (by decide +kernel)) ggX5_childOf_X5_in
set_option maxRecDepth 20000 in
theorem ggX5_childOf_X5_about : GoodIn wsX5_childOf wsX5_about := goodIn_r _ [14, 7, 20, 21, 22, 23, 24, 25, 26, 27, 28, 29, 30, 31, 32, 33, 34] (by decide +kernel) (by decide +kernel)
set_option maxRecDepth 20000 in
theorem gX5_childOf_X5_about : GoodIn wsX5_childOf (wsV RX5 69 RX5 yX5_about wsX5_about) := goodIn_app (goodIn_of _ (by decide +kernel)) ggX5_childOf_X5_about
set_option maxRecDepth 20000 in
theorem ggX5_childOf_X5_finds : GoodIn wsX5_childOf wsX5_finds := goodIn_r _ [18, 19, 1, 20, 21, 22, 23, 24, 25, 26, 27, 28, 29, 30, 31, 32, 33, 34] (by decide +kernel) (by decide +kernel)
set_option maxRecDepth 20000 in
theorem gX5_childOf_X5_finds : GoodIn wsX5_childOf (wsV RX5 37 RX5 yX5_finds wsX5_finds) := goodIn_app (goodIn_of _ (by decide +kernel)) ggX5_childOf_X5_finds
theorem dX5_childOf_0 : decode cX5_childOf 0 = .ok (.aload_n 0, 1) := by decide +kernel
theorem dX5_childOf_1 : decode cX5_childOf 1 = .ok (.iload_n 1, 1) := by decide +kernel
theorem dX5_childOf_2 : decode cX5_childOf 2 = .ok (.invokevirtual 116, 3) := by decide +kernel
theorem dX5_childOf_5 : decode cX5_childOf 5 = .ok (.ifCond .eq 22, 3) := by decide +kernel
theorem dX5_childOf_8 : decode cX5_childOf 8 = .ok (.iload_n 2, 1) := by decide +kernel
theorem dX5_childOf_9 : decode cX5_childOf 9 = .ok (.i2l, 1) := by decide +kernel
theorem dX5_childOf_10 : decode cX5_childOf 10 = .ok (.iconst 0, 1) := by decide +kernel
theorem dX5_childOf_11 : decode cX5_childOf 11 = .ok (.iconst 2, 1) := by decide +kernel
theorem dX5_childOf_12 : decode cX5_childOf 12 = .ok (.invokestatic 41, 3) := by decide +kernel
theorem dX5_childOf_15 : decode cX5_childOf 15 = .ok (.ifCond .eq 12, 3) := by decide +kernel
theorem dX5_childOf_18 : decode cX5_childOf 18 = .ok (.aload_n 0, 1) := by decide +kernel
theorem dX5_childOf_19 : decode cX5_childOf 19 = .ok (.iload_n 1, 1) := by decide +kernel
theorem dX5_childOf_20 : decode cX5_childOf 20 = .ok (.iload_n 2, 1) := by decide +kernel
theorem dX5_childOf_21 : decode cX5_childOf 21 = .ok (.invokevirtual 69, 3) := by decide +kernel
theorem dX5_childOf_24 : decode cX5_childOf 24 = .ok (.goto 9, 3) := by decide +kernel
theorem dX5_childOf_27 : decode cX5_childOf 27 = .ok (.aload_n 0, 1) := by decide +kernel
theorem dX5_childOf_28 : decode cX5_childOf 28 = .ok (.ldc 35, 2) := by decide +kernel
theorem dX5_childOf_30 : decode cX5_childOf 30 = .ok (.invokevirtual 37, 3) := by decide +kernel
theorem dX5_childOf_33 : decode cX5_childOf 33 = .ok (.ireturn, 1) := by decide +kernel
set_option maxRecDepth 20000 in
theorem ggX5_grip_X5_isChild : GoodIn wsX5_grip wsX5_isChild := goodIn_r _ [6, 7, 8, 9, 5, 10, 20, 21, 22, 23, 24, 25, 26, 27, 28, 29, 30, 31, 32, 33, 34] (by decide +kernel) (by decide +kernel)
set_option maxRecDepth 20000 in
theorem gX5_grip_X5_isChild : GoodIn wsX5_grip (wsV RX5 116 RX5 yX5_isChild wsX5_isChild) := goodIn_app (goodIn_of _ (by decide +kernel)) ggX5_grip_X5_isChild
set_option maxRecDepth 20000 in
theorem ggX5_grip_X5_in : GoodIn wsX5_grip wsX5_in := goodIn_r _ [10] (by decide +kernel) (by decide +kernel)
set_option maxRecDepth 20000 in
theorem gX5_grip_X5_in : GoodIn wsX5_grip (va_wsS RX5 41 yX5_in wsX5_in) := goodIn_app (goodIn_of _ (by decide +kernel)) ggX5_grip_X5_in
set_option maxRecDepth 20000 in
theorem ggX5_grip_X5_becomes : GoodIn wsX5_grip wsX5_becomes := goodIn_r _ [14, 7, 20, 21, 22, 23, 24, 25, 26, 27, 28, 29, 30, 31, 32, 33, 34] (by decide +kernel) (by decide +kernel)
set_option maxRecDepth 20000 in
theorem gX5_grip_X5_becomes : GoodIn wsX5_grip (wsV RX5 66 RX5 yX5_becomes wsX5_becomes) := goodIn_app (goodIn_of _ (by decide +kernel)) ggX5_grip_X5_becomes
set_option maxRecDepth 20000 in
theorem ggX5_grip_X5_finds : GoodIn wsX5_grip wsX5_finds := goodIn_r _ [18, 19, 1, 20, 21, 22, 23, 24, 25, 26, 27, 28, 29, 30, 31, 32, 33, 34] (by decide +kernel) (by decide +kernel)
set_option maxRecDepth 20000 in
theorem gX5_grip_X5_finds : GoodIn wsX5_grip (wsV RX5 37 RX5 yX5_finds wsX5_finds) := goodIn_app (goodIn_of _ (by decide +kernel)) ggX5_grip_X5_finds
theorem dX5_grip_0 : decode cX5_grip 0 = .ok (.aload_n 0, 1) := by decide +kernel
theorem dX5_grip_1 : decode cX5_grip 1 = .ok (.iload_n 1, 1) := by decide +kernel
theorem dX5_grip_2 : decode cX5_grip 2 = .ok (.invokevirtual 116, 3) := by decide +kernel
theorem dX5_grip_5 : decode cX5_grip 5 = .ok (.ifCond .eq 29, 3) := by decide +kernel
theorem dX5_grip_8 : decode cX5_grip 8 = .ok (.iload_n 2, 1) := by decide +kernel
theorem dX5_grip_9 : decode cX5_grip 9 = .ok (.i2l, 1) := by decide +kernel
theorem dX5_grip_10 : decode cX5_grip 10 = .ok (.iconst 0, 1) := by decide +kernel
theorem dX5_grip_11 : decode cX5_grip 11 = .ok (.sipush 200, 3) := by decide +kernel
theorem dX5_grip_14 : decode cX5_grip 14 = .ok (.invokestatic 41, 3) := by decide +kernel
theorem dX5_grip_17 : decode cX5_grip 17 = .ok (.ifCond .eq 17, 3) := by decide +kernel
theorem dX5_grip_20 : decode cX5_grip 20 = .ok (.aload_n 0, 1) := by decide +kernel
theorem dX5_grip_21 : decode cX5_grip 21 = .ok (.bipush 39, 2) := by decide +kernel
theorem dX5_grip_23 : decode cX5_grip 23 = .ok (.iconst 3, 1) := by decide +kernel
theorem dX5_grip_24 : decode cX5_grip 24 = .ok (.iload_n 1, 1) := by decide +kernel
theorem dX5_grip_25 : decode cX5_grip 25 = .ok (.imul, 1) := by decide +kernel
theorem dX5_grip_26 : decode cX5_grip 26 = .ok (.iadd, 1) := by decide +kernel
theorem dX5_grip_27 : decode cX5_grip 27 = .ok (.iload_n 2, 1) := by decide +kernel
theorem dX5_grip_28 : decode cX5_grip 28 = .ok (.invokevirtual 66, 3) := by decide +kernel
theorem dX5_grip_31 : decode cX5_grip 31 = .ok (.goto 9, 3) := by decide +kernel
theorem dX5_grip_34 : decode cX5_grip 34 = .ok (.aload_n 0, 1) := by decide +kernel
theorem dX5_grip_35 : decode cX5_grip 35 = .ok (.ldc 35, 2) := by decide +kernel
theorem dX5_grip_37 : decode cX5_grip 37 = .ok (.invokevirtual 37, 3) := by decide +kernel
theorem dX5_grip_40 : decode cX5_grip 40 = .ok (.ireturn, 1) := by decide +kernel
set_option maxRecDepth 20000 in
theorem ggX5_ride_X5_isChild : GoodIn wsX5_ride wsX5_isChild := goodIn_r _ [6, 7, 8, 9, 5, 10, 31, 32, 33, 34, 35, 36, 37, 38, 39, 40, 41, 42, 43, 44, 45] (by decide +kernel) (by decide +kernel)
set_option maxRecDepth 20000 in
theorem gX5_ride_X5_isChild : GoodIn wsX5_ride (wsV RX5 116 RX5 yX5_isChild wsX5_isChild) := goodIn_app (goodIn_of _ (by decide +kernel)) ggX5_ride_X5_isChild
set_option maxRecDepth 20000 in
theorem ggX5_ride_X5_in : GoodIn wsX5_ride wsX5_in := goodIn_r _ [10] (by decide +kernel) (by decide +kernel)
set_option maxRecDepth 20000 in
theorem gX5_ride_X5_in : GoodIn wsX5_ride (va_wsS RX5 41 yX5_in wsX5_in) := goodIn_app (goodIn_of _ (by decide +kernel)) ggX5_ride_X5_in
set_option maxRecDepth 20000 in
theorem ggX5_ride_X5_finds : GoodIn wsX5_ride wsX5_finds := goodIn_r _ [14, 15, 1, 31, 32, 33, 34, 35, 36, 37, 38, 39, 40, 41, 42, 43, 44, 45] (by decide +kernel) (by decide +kernel)
set_option maxRecDepth 20000 in
theorem gX5_ride_X5_finds : GoodIn wsX5_ride (wsV RX5 37 RX5 yX5_finds wsX5_finds) := goodIn_app (goodIn_of _ (by decide +kernel)) ggX5_ride_X5_finds
set_option maxRecDepth 20000 in
theorem ggX5_ride_X5_lets : GoodIn wsX5_ride wsX5_lets := goodIn_r _ [19, 7, 31, 32, 33, 34, 35, 36, 37, 38, 39, 40, 41, 42, 43, 44, 45] (by decide +kernel) (by decide +kernel)
set_option maxRecDepth 20000 in
theorem gX5_ride_X5_lets : GoodIn wsX5_ride (wsV RX5 110 RX5 yX5_lets wsX5_lets) := goodIn_app (goodIn_of _ (by decide +kernel)) ggX5_ride_X5_lets
set_option maxRecDepth 20000 in
theorem ggX5_ride_X5_riders : GoodIn wsX5_ride wsX5_riders := goodIn_r _ [23, 7, 24, 25, 26, 5, 27, 31, 32, 33, 34, 35, 36, 37, 38, 39, 40, 41, 42, 43, 44, 45] (by decide +kernel) (by decide +kernel)
set_option maxRecDepth 20000 in
theorem gX5_ride_X5_riders : GoodIn wsX5_ride (wsV RX5 72 RX5 yX5_riders wsX5_riders) := goodIn_app (goodIn_of _ (by decide +kernel)) ggX5_ride_X5_riders
set_option maxRecDepth 20000 in
theorem ggX5_ride_X5_bits : GoodIn wsX5_ride wsX5_bits := goodIn_r _ [30] (by decide +kernel) (by decide +kernel)
set_option maxRecDepth 20000 in
theorem gX5_ride_X5_bits : GoodIn wsX5_ride (va_wsS RX5 56 yX5_bits wsX5_bits) := goodIn_app (goodIn_of _ (by decide +kernel)) ggX5_ride_X5_bits
theorem dX5_ride_0 : decode cX5_ride 0 = .ok (.aload_n 0, 1) := by decide +kernel
theorem dX5_ride_1 : decode cX5_ride 1 = .ok (.iload_n 1, 1) := by decide +kernel
theorem dX5_ride_2 : decode cX5_ride 2 = .ok (.invokevirtual 116, 3) := by decide +kernel
theorem dX5_ride_5 : decode cX5_ride 5 = .ok (.ifCond .eq 13, 3) := by decide +kernel
theorem dX5_ride_8 : decode cX5_ride 8 = .ok (.iload_n 2, 1) := by decide +kernel
theorem dX5_ride_9 : decode cX5_ride 9 = .ok (.i2l, 1) := by decide +kernel
theorem dX5_ride_10 : decode cX5_ride 10 = .ok (.iconst 0, 1) := by decide +kernel
theorem dX5_ride_11 : decode cX5_ride 11 = .ok (.iconst 1, 1) := by decide +kernel
theorem dX5_ride_12 : decode cX5_ride 12 = .ok (.invokestatic 41, 3) := by decide +kernel
theorem dX5_ride_15 : decode cX5_ride 15 = .ok (.ifCond .ne 10, 3) := by decide +kernel
theorem dX5_ride_18 : decode cX5_ride 18 = .ok (.aload_n 0, 1) := by decide +kernel
theorem dX5_ride_19 : decode cX5_ride 19 = .ok (.ldc 35, 2) := by decide +kernel
theorem dX5_ride_21 : decode cX5_ride 21 = .ok (.invokevirtual 37, 3) := by decide +kernel
theorem dX5_ride_24 : decode cX5_ride 24 = .ok (.ireturn, 1) := by decide +kernel
theorem dX5_ride_25 : decode cX5_ride 25 = .ok (.aload_n 0, 1) := by decide +kernel
theorem dX5_ride_26 : decode cX5_ride 26 = .ok (.iload_n 1, 1) := by decide +kernel
theorem dX5_ride_27 : decode cX5_ride 27 = .ok (.iconst 1, 1) := by decide +kernel
theorem dX5_ride_28 : decode cX5_ride 28 = .ok (.iload_n 2, 1) := by decide +kernel
theorem dX5_ride_29 : decode cX5_ride 29 = .ok (.invokevirtual 110, 3) := by decide +kernel
theorem dX5_ride_32 : decode cX5_ride 32 = .ok (.aload_n 0, 1) := by decide +kernel
theorem dX5_ride_33 : decode cX5_ride 33 = .ok (.invokevirtual 72, 3) := by decide +kernel
theorem dX5_ride_36 : decode cX5_ride 36 = .ok (.invokestatic 56, 3) := by decide +kernel
theorem dX5_ride_39 : decode cX5_ride 39 = .ok (.ireturn, 1) := by decide +kernel
set_option maxRecDepth 20000 in
theorem ggX5_holds_X5_about : GoodIn wsX5_holds wsX5_about := goodIn_r _ [6, 1, 14, 15, 16, 17, 18, 19, 20, 21, 22, 23, 24, 25, 26, 27, 28] (by decide +kernel) (by decide +kernel)
set_option maxRecDepth 20000 in
theorem gX5_holds_X5_about : GoodIn wsX5_holds (wsV RX5 69 RX5 yX5_about wsX5_about) := goodIn_app (goodIn_of _ (by decide +kernel)) ggX5_holds_X5_about
set_option maxRecDepth 20000 in
theorem ggX5_holds_X5_lets : GoodIn wsX5_holds wsX5_lets := goodIn_r _ [10, 1, 14, 15, 16, 17, 18, 19, 20, 21, 22, 23, 24, 25, 26, 27, 28] (by decide +kernel) (by decide +kernel)
set_option maxRecDepth 20000 in
theorem gX5_holds_X5_lets : GoodIn wsX5_holds (wsV RX5 110 RX5 yX5_lets wsX5_lets) := goodIn_app (goodIn_of _ (by decide +kernel)) ggX5_holds_X5_lets
set_option maxRecDepth 20000 in
theorem ggX5_holds_X5_held : GoodIn wsX5_holds wsX5_held := goodIn_r _ [13] (by decide +kernel) (by decide +kernel)
set_option maxRecDepth 20000 in
theorem gX5_holds_X5_held : GoodIn wsX5_holds (va_wsS RX5 119 yX5_held wsX5_held) := goodIn_app (goodIn_of _ (by decide +kernel)) ggX5_holds_X5_held
theorem dX5_holds_0 : decode cX5_holds 0 = .ok (.aload_n 0, 1) := by decide +kernel
theorem dX5_holds_1 : decode cX5_holds 1 = .ok (.iload_n 1, 1) := by decide +kernel
theorem dX5_holds_2 : decode cX5_holds 2 = .ok (.iconst 0, 1) := by decide +kernel
theorem dX5_holds_3 : decode cX5_holds 3 = .ok (.invokevirtual 69, 3) := by decide +kernel
theorem dX5_holds_6 : decode cX5_holds 6 = .ok (.aload_n 0, 1) := by decide +kernel
theorem dX5_holds_7 : decode cX5_holds 7 = .ok (.getfield 9, 3) := by decide +kernel
theorem dX5_holds_10 : decode cX5_holds 10 = .ok (.iconst 3, 1) := by decide +kernel
theorem dX5_holds_11 : decode cX5_holds 11 = .ok (.iaload, 1) := by decide +kernel
theorem dX5_holds_12 : decode cX5_holds 12 = .ok (.if_icmp .ge 34, 3) := by decide +kernel
theorem dX5_holds_15 : decode cX5_holds 15 = .ok (.aload_n 0, 1) := by decide +kernel
theorem dX5_holds_16 : decode cX5_holds 16 = .ok (.iload_n 1, 1) := by decide +kernel
theorem dX5_holds_17 : decode cX5_holds 17 = .ok (.iconst 1, 1) := by decide +kernel
theorem dX5_holds_18 : decode cX5_holds 18 = .ok (.iconst 0, 1) := by decide +kernel
theorem dX5_holds_19 : decode cX5_holds 19 = .ok (.invokevirtual 110, 3) := by decide +kernel
theorem dX5_holds_22 : decode cX5_holds 22 = .ok (.aload_n 0, 1) := by decide +kernel
theorem dX5_holds_23 : decode cX5_holds 23 = .ok (.iload_n 1, 1) := by decide +kernel
theorem dX5_holds_24 : decode cX5_holds 24 = .ok (.iconst 2, 1) := by decide +kernel
theorem dX5_holds_25 : decode cX5_holds 25 = .ok (.aload_n 0, 1) := by decide +kernel
theorem dX5_holds_26 : decode cX5_holds 26 = .ok (.iload_n 1, 1) := by decide +kernel
theorem dX5_holds_27 : decode cX5_holds 27 = .ok (.iconst 2, 1) := by decide +kernel
theorem dX5_holds_28 : decode cX5_holds 28 = .ok (.invokevirtual 69, 3) := by decide +kernel
theorem dX5_holds_31 : decode cX5_holds 31 = .ok (.iconst 1, 1) := by decide +kernel
theorem dX5_holds_32 : decode cX5_holds 32 = .ok (.iadd, 1) := by decide +kernel
theorem dX5_holds_33 : decode cX5_holds 33 = .ok (.iconst 0, 1) := by decide +kernel
theorem dX5_holds_34 : decode cX5_holds 34 = .ok (.sipush 9999, 3) := by decide +kernel
theorem dX5_holds_37 : decode cX5_holds 37 = .ok (.invokestatic 119, 3) := by decide +kernel
theorem dX5_holds_40 : decode cX5_holds 40 = .ok (.invokevirtual 110, 3) := by decide +kernel
theorem dX5_holds_43 : decode cX5_holds 43 = .ok (.goto 35, 3) := by decide +kernel
theorem dX5_holds_46 : decode cX5_holds 46 = .ok (.aload_n 0, 1) := by decide +kernel
theorem dX5_holds_47 : decode cX5_holds 47 = .ok (.getfield 9, 3) := by decide +kernel
theorem dX5_holds_50 : decode cX5_holds 50 = .ok (.iconst 3, 1) := by decide +kernel
