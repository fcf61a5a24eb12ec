theorem dX0_init_0 : decode cX0_init 0 = .ok (.aload_n 0, 1) := by decide +kernel
theorem dX0_init_1 : decode cX0_init 1 = .ok (.invokespecial 3, 3) := by decide +kernel
theorem dX0_init_4 : decode cX0_init 4 = .ok (.aload_n 0, 1) := by decide +kernel
theorem dX0_init_5 : decode cX0_init 5 = .ok (.bipush 10, 2) := by decide +kernel
theorem dX0_init_7 : decode cX0_init 7 = .ok (.putfield 9, 3) := by decide +kernel
theorem dX0_init_10 : decode cX0_init 10 = .ok (.aload_n 0, 1) := by decide +kernel
theorem dX0_init_11 : decode cX0_init 11 = .ok (.bipush 8, 2) := by decide +kernel
theorem dX0_init_13 : decode cX0_init 13 = .ok (.newarray .int, 2) := by decide +kernel
theorem dX0_init_15 : decode cX0_init 15 = .ok (.putfield 15, 3) := by decide +kernel
theorem dX0_init_18 : decode cX0_init 18 = .ok (.aload_n 0, 1) := by decide +kernel
theorem dX0_init_19 : decode cX0_init 19 = .ok (.bipush 8, 2) := by decide +kernel
theorem dX0_init_21 : decode cX0_init 21 = .ok (.newarray .int, 2) := by decide +kernel
theorem dX0_init_23 : decode cX0_init 23 = .ok (.putfield 19, 3) := by decide +kernel
theorem dX0_init_26 : decode cX0_init 26 = .ok (.aload_n 0, 1) := by decide +kernel
theorem dX0_init_27 : decode cX0_init 27 = .ok (.bipush 8, 2) := by decide +kernel
theorem dX0_init_29 : decode cX0_init 29 = .ok (.newarray .int, 2) := by decide +kernel
theorem dX0_init_31 : decode cX0_init 31 = .ok (.putfield 22, 3) := by decide +kernel
theorem dX0_init_34 : decode cX0_init 34 = .ok (.aload_n 0, 1) := by decide +kernel
theorem dX0_init_35 : decode cX0_init 35 = .ok (.bipush 8, 2) := by decide +kernel
theorem dX0_init_37 : decode cX0_init 37 = .ok (.newarray .int, 2) := by decide +kernel
theorem dX0_init_39 : decode cX0_init 39 = .ok (.putfield 25, 3) := by decide +kernel
theorem dX0_init_42 : decode cX0_init 42 = .ok (.aload_n 0, 1) := by decide +kernel
theorem dX0_init_43 : decode cX0_init 43 = .ok (.bipush 6, 2) := by decide +kernel
theorem dX0_init_45 : decode cX0_init 45 = .ok (.newarray .int, 2) := by decide +kernel
theorem dX0_init_47 : decode cX0_init 47 = .ok (.putfield 28, 3) := by decide +kernel
theorem dX0_init_50 : decode cX0_init 50 = .ok (.aload_n 0, 1) := by decide +kernel
theorem dX0_init_51 : decode cX0_init 51 = .ok (.bipush 6, 2) := by decide +kernel
theorem dX0_init_53 : decode cX0_init 53 = .ok (.newarray .int, 2) := by decide +kernel
theorem dX0_init_55 : decode cX0_init 55 = .ok (.putfield 31, 3) := by decide +kernel
theorem dX0_init_58 : decode cX0_init 58 = .ok (.aload_n 0, 1) := by decide +kernel
theorem dX0_init_59 : decode cX0_init 59 = .ok (.bipush 6, 2) := by decide +kernel
theorem dX0_init_61 : decode cX0_init 61 = .ok (.newarray .int, 2) := by decide +kernel
theorem dX0_init_63 : decode cX0_init 63 = .ok (.putfield 34, 3) := by decide +kernel
theorem dX0_init_66 : decode cX0_init 66 = .ok (.return_, 1) := by decide +kernel
theorem dX0_become_0 : decode cX0_become 0 = .ok (.aload_n 0, 1) := by decide +kernel
theorem dX0_become_1 : decode cX0_become 1 = .ok (.aload_n 1, 1) := by decide +kernel
theorem dX0_become_2 : decode cX0_become 2 = .ok (.getfield 37, 3) := by decide +kernel
theorem dX0_become_5 : decode cX0_become 5 = .ok (.putfield 37, 3) := by decide +kernel
theorem dX0_become_8 : decode cX0_become 8 = .ok (.aload_n 0, 1) := by decide +kernel
theorem dX0_become_9 : decode cX0_become 9 = .ok (.aload_n 1, 1) := by decide +kernel
theorem dX0_become_10 : decode cX0_become 10 = .ok (.getfield 40, 3) := by decide +kernel
theorem dX0_become_13 : decode cX0_become 13 = .ok (.putfield 40, 3) := by decide +kernel
theorem dX0_become_16 : decode cX0_become 16 = .ok (.aload_n 0, 1) := by decide +kernel
theorem dX0_become_17 : decode cX0_become 17 = .ok (.aload_n 1, 1) := by decide +kernel
theorem dX0_become_18 : decode cX0_become 18 = .ok (.getfield 9, 3) := by decide +kernel
theorem dX0_become_21 : decode cX0_become 21 = .ok (.putfield 9, 3) := by decide +kernel
theorem dX0_become_24 : decode cX0_become 24 = .ok (.aload_n 0, 1) := by decide +kernel
theorem dX0_become_25 : decode cX0_become 25 = .ok (.aload_n 1, 1) := by decide +kernel
theorem dX0_become_26 : decode cX0_become 26 = .ok (.getfield 43, 3) := by decide +kernel
theorem dX0_become_29 : decode cX0_become 29 = .ok (.putfield 43, 3) := by decide +kernel
theorem dX0_become_32 : decode cX0_become 32 = .ok (.aload_n 0, 1) := by decide +kernel
theorem dX0_become_33 : decode cX0_become 33 = .ok (.aload_n 1, 1) := by decide +kernel
theorem dX0_become_34 : decode cX0_become 34 = .ok (.getfield 46, 3) := by decide +kernel
theorem dX0_become_37 : decode cX0_become 37 = .ok (.putfield 46, 3) := by decide +kernel
theorem dX0_become_40 : decode cX0_become 40 = .ok (.aload_n 0, 1) := by decide +kernel
theorem dX0_become_41 : decode cX0_become 41 = .ok (.aload_n 1, 1) := by decide +kernel
theorem dX0_become_42 : decode cX0_become 42 = .ok (.getfield 49, 3) := by decide +kernel
theorem dX0_become_45 : decode cX0_become 45 = .ok (.putfield 49, 3) := by decide +kernel
theorem dX0_become_48 : decode cX0_become 48 = .ok (.aload_n 1, 1) := by decide +kernel
theorem dX0_become_49 : decode cX0_become 49 = .ok (.getfield 15, 3) := by decide +kernel
theorem dX0_become_52 : decode cX0_become 52 = .ok (.iconst 0, 1) := by decide +kernel
theorem dX0_become_53 : decode cX0_become 53 = .ok (.aload_n 0, 1) := by decide +kernel
theorem dX0_become_54 : decode cX0_become 54 = .ok (.getfield 15, 3) := by decide +kernel
theorem dX0_become_57 : decode cX0_become 57 = .ok (.iconst 0, 1) := by decide +kernel
theorem dX0_become_58 : decode cX0_become 58 = .ok (.bipush 8, 2) := by decide +kernel
theorem dX0_become_60 : decode cX0_become 60 = .ok (.invokestatic 52, 3) := by decide +kernel
theorem dX0_become_63 : decode cX0_become 63 = .ok (.aload_n 1, 1) := by decide +kernel
theorem dX0_become_64 : decode cX0_become 64 = .ok (.getfield 19, 3) := by decide +kernel
theorem dX0_become_67 : decode cX0_become 67 = .ok (.iconst 0, 1) := by decide +kernel
theorem dX0_become_68 : decode cX0_become 68 = .ok (.aload_n 0, 1) := by decide +kernel
theorem dX0_become_69 : decode cX0_become 69 = .ok (.getfield 19, 3) := by decide +kernel
theorem dX0_become_72 : decode cX0_become 72 = .ok (.iconst 0, 1) := by decide +kernel
theorem dX0_become_73 : decode cX0_become 73 = .ok (.bipush 8, 2) := by decide +kernel
theorem dX0_become_75 : decode cX0_become 75 = .ok (.invokestatic 52, 3) := by decide +kernel
theorem dX0_become_78 : decode cX0_become 78 = .ok (.aload_n 1, 1) := by decide +kernel
theorem dX0_become_79 : decode cX0_become 79 = .ok (.getfield 22, 3) := by decide +kernel
theorem dX0_become_82 : decode cX0_become 82 = .ok (.iconst 0, 1) := by decide +kernel
theorem dX0_become_83 : decode cX0_become 83 = .ok (.aload_n 0, 1) := by decide +kernel
theorem dX0_become_84 : decode cX0_become 84 = .ok (.getfield 22, 3) := by decide +kernel
theorem dX0_become_87 : decode cX0_become 87 = .ok (.iconst 0, 1) := by decide +kernel
theorem dX0_become_88 : decode cX0_become 88 = .ok (.bipush 8, 2) := by decide +kernel
theorem dX0_become_90 : decode cX0_become 90 = .ok (.invokestatic 52, 3) := by decide +kernel
theorem dX0_become_93 : decode cX0_become 93 = .ok (.aload_n 1, 1) := by decide +kernel
theorem dX0_become_94 : decode cX0_become 94 = .ok (.getfield 25, 3) := by decide +kernel
theorem dX0_become_97 : decode cX0_become 97 = .ok (.iconst 0, 1) := by decide +kernel
theorem dX0_become_98 : decode cX0_become 98 = .ok (.aload_n 0, 1) := by decide +kernel
theorem dX0_become_99 : decode cX0_become 99 = .ok (.getfield 25, 3) := by decide +kernel
theorem dX0_become_102 : decode cX0_become 102 = .ok (.iconst 0, 1) := by decide +kernel
theorem dX0_become_103 : decode cX0_become 103 = .ok (.bipush 8, 2) := by decide +kernel
theorem dX0_become_105 : decode cX0_become 105 = .ok (.invokestatic 52, 3) := by decide +kernel
theorem dX0_become_108 : decode cX0_become 108 = .ok (.aload_n 0, 1) := by decide +kernel
theorem dX0_become_109 : decode cX0_become 109 = .ok (.aload_n 1, 1) := by decide +kernel
theorem dX0_become_110 : decode cX0_become 110 = .ok (.getfield 58, 3) := by decide +kernel
theorem dX0_become_113 : decode cX0_become 113 = .ok (.putfield 58, 3) := by decide +kernel
theorem dX0_become_116 : decode cX0_become 116 = .ok (.aload_n 1, 1) := by decide +kernel
theorem dX0_become_117 : decode cX0_become 117 = .ok (.getfield 28, 3) := by decide +kernel
theorem dX0_become_120 : decode cX0_become 120 = .ok (.iconst 0, 1) := by decide +kernel
theorem dX0_become_121 : decode cX0_become 121 = .ok (.aload_n 0, 1) := by decide +kernel
theorem dX0_become_122 : decode cX0_become 122 = .ok (.getfield 28, 3) := by decide +kernel
theorem dX0_become_125 : decode cX0_become 125 = .ok (.iconst 0, 1) := by decide +kernel
theorem dX0_become_126 : decode cX0_become 126 = .ok (.bipush 6, 2) := by decide +kernel
theorem dX0_become_128 : decode cX0_become 128 = .ok (.invokestatic 52, 3) := by decide +kernel
theorem dX0_become_131 : decode cX0_become 131 = .ok (.aload_n 1, 1) := by decide +kernel
theorem dX0_become_132 : decode cX0_become 132 = .ok (.getfield 31, 3) := by decide +kernel
theorem dX0_become_135 : decode cX0_become 135 = .ok (.iconst 0, 1) := by decide +kernel
theorem dX0_become_136 : decode cX0_become 136 = .ok (.aload_n 0, 1) := by decide +kernel
theorem dX0_become_137 : decode cX0_become 137 = .ok (.getfield 31, 3) := by decide +kernel
theorem dX0_become_140 : decode cX0_become 140 = .ok (.iconst 0, 1) := by decide +kernel
theorem dX0_become_141 : decode cX0_become 141 = .ok (.bipush 6, 2) := by decide +kernel
theorem dX0_become_143 : decode cX0_become 143 = .ok (.invokestatic 52, 3) := by decide +kernel
theorem dX0_become_146 : decode cX0_become 146 = .ok (.aload_n 1, 1) := by decide +kernel
theorem dX0_become_147 : decode cX0_become 147 = .ok (.getfield 34, 3) := by decide +kernel
theorem dX0_become_150 : decode cX0_become 150 = .ok (.iconst 0, 1) := by decide +kernel
theorem dX0_become_151 : decode cX0_become 151 = .ok (.aload_n 0, 1) := by decide +kernel
theorem dX0_become_152 : decode cX0_become 152 = .ok (.getfield 34, 3) := by decide +kernel
theorem dX0_become_155 : decode cX0_become 155 = .ok (.iconst 0, 1) := by decide +kernel
theorem dX0_become_156 : decode cX0_become 156 = .ok (.bipush 6, 2) := by decide +kernel
theorem dX0_become_158 : decode cX0_become 158 = .ok (.invokestatic 52, 3) := by decide +kernel
theorem dX0_become_161 : decode cX0_become 161 = .ok (.return_, 1) := by decide +kernel
theorem dX0_hasMother_0 : decode cX0_hasMother 0 = .ok (.iload_n 1, 1) := by decide +kernel
theorem dX0_hasMother_1 : decode cX0_hasMother 1 = .ok (.ifCond .lt 15, 3) := by decide +kernel
theorem dX0_hasMother_4 : decode cX0_hasMother 4 = .ok (.iload_n 1, 1) := by decide +kernel
theorem dX0_hasMother_5 : decode cX0_hasMother 5 = .ok (.aload_n 0, 1) := by decide +kernel
theorem dX0_hasMother_6 : decode cX0_hasMother 6 = .ok (.getfield 49, 3) := by decide +kernel
theorem dX0_hasMother_9 : decode cX0_hasMother 9 = .ok (.if_icmp .ge 7, 3) := by decide +kernel
theorem dX0_hasMother_12 : decode cX0_hasMother 12 = .ok (.iconst 1, 1) := by decide +kernel
theorem dX0_hasMother_13 : decode cX0_hasMother 13 = .ok (.goto 4, 3) := by decide +kernel
theorem dX0_hasMother_16 : decode cX0_hasMother 16 = .ok (.iconst 0, 1) := by decide +kernel
theorem dX0_hasMother_17 : decode cX0_hasMother 17 = .ok (.ireturn, 1) := by decide +kernel
theorem dX0_hasChild_0 : decode cX0_hasChild 0 = .ok (.iload_n 1, 1) := by decide +kernel
theorem dX0_hasChild_1 : decode cX0_hasChild 1 = .ok (.ifCond .lt 15, 3) := by decide +kernel
theorem dX0_hasChild_4 : decode cX0_hasChild 4 = .ok (.iload_n 1, 1) := by decide +kernel
theorem dX0_hasChild_5 : decode cX0_hasChild 5 = .ok (.aload_n 0, 1) := by decide +kernel
theorem dX0_hasChild_6 : decode cX0_hasChild 6 = .ok (.getfield 58, 3) := by decide +kernel
theorem dX0_hasChild_9 : decode cX0_hasChild 9 = .ok (.if_icmp .ge 7, 3) := by decide +kernel
theorem dX0_hasChild_12 : decode cX0_hasChild 12 = .ok (.iconst 1, 1) := by decide +kernel
theorem dX0_hasChild_13 : decode cX0_hasChild 13 = .ok (.goto 4, 3) := by decide +kernel
theorem dX0_hasChild_16 : decode cX0_hasChild 16 = .ok (.iconst 0, 1) := by decide +kernel
theorem dX0_hasChild_17 : decode cX0_hasChild 17 = .ok (.ireturn, 1) := by decide +kernel
theorem dX0_addMother_0 : decode cX0_addMother 0 = .ok (.aload_n 0, 1) := by decide +kernel
theorem dX0_addMother_1 : decode cX0_addMother 1 = .ok (.getfield 49, 3) := by decide +kernel
theorem dX0_addMother_4 : decode cX0_addMother 4 = .ok (.istore 4, 2) := by decide +kernel
theorem dX0_addMother_6 : decode cX0_addMother 6 = .ok (.iload 4, 2) := by decide +kernel
theorem dX0_addMother_8 : decode cX0_addMother 8 = .ok (.ifCond .lt 10, 3) := by decide +kernel
theorem dX0_addMother_11 : decode cX0_addMother 11 = .ok (.iload 4, 2) := by decide +kernel
theorem dX0_addMother_13 : decode cX0_addMother 13 = .ok (.bipush 8, 2) := by decide +kernel
theorem dX0_addMother_15 : decode cX0_addMother 15 = .ok (.if_icmp .lt 5, 3) := by decide +kernel
theorem dX0_addMother_18 : decode cX0_addMother 18 = .ok (.iconst (-1), 1) := by decide +kernel
theorem dX0_addMother_19 : decode cX0_addMother 19 = .ok (.ireturn, 1) := by decide +kernel
theorem dX0_addMother_20 : decode cX0_addMother 20 = .ok (.aload_n 0, 1) := by decide +kernel
theorem dX0_addMother_21 : decode cX0_addMother 21 = .ok (.getfield 15, 3) := by decide +kernel
theorem dX0_addMother_24 : decode cX0_addMother 24 = .ok (.iload 4, 2) := by decide +kernel
theorem dX0_addMother_26 : decode cX0_addMother 26 = .ok (.iload_n 1, 1) := by decide +kernel
theorem dX0_addMother_27 : decode cX0_addMother 27 = .ok (.iastore, 1) := by decide +kernel
theorem dX0_addMother_28 : decode cX0_addMother 28 = .ok (.aload_n 0, 1) := by decide +kernel
theorem dX0_addMother_29 : decode cX0_addMother 29 = .ok (.getfield 19, 3) := by decide +kernel
theorem dX0_addMother_32 : decode cX0_addMother 32 = .ok (.iload 4, 2) := by decide +kernel
theorem dX0_addMother_34 : decode cX0_addMother 34 = .ok (.iload_n 3, 1) := by decide +kernel
theorem dX0_addMother_35 : decode cX0_addMother 35 = .ok (.iastore, 1) := by decide +kernel
theorem dX0_addMother_36 : decode cX0_addMother 36 = .ok (.aload_n 0, 1) := by decide +kernel
theorem dX0_addMother_37 : decode cX0_addMother 37 = .ok (.getfield 22, 3) := by decide +kernel
theorem dX0_addMother_40 : decode cX0_addMother 40 = .ok (.iload 4, 2) := by decide +kernel
theorem dX0_addMother_42 : decode cX0_addMother 42 = .ok (.iload_n 2, 1) := by decide +kernel
theorem dX0_addMother_43 : decode cX0_addMother 43 = .ok (.iastore, 1) := by decide +kernel
theorem dX0_addMother_44 : decode cX0_addMother 44 = .ok (.aload_n 0, 1) := by decide +kernel
theorem dX0_addMother_45 : decode cX0_addMother 45 = .ok (.getfield 25, 3) := by decide +kernel
theorem dX0_addMother_48 : decode cX0_addMother 48 = .ok (.iload 4, 2) := by decide +kernel
theorem dX0_addMother_50 : decode cX0_addMother 50 = .ok (.iconst 0, 1) := by decide +kernel
theorem dX0_addMother_51 : decode cX0_addMother 51 = .ok (.iastore, 1) := by decide +kernel
theorem dX0_addMother_52 : decode cX0_addMother 52 = .ok (.aload_n 0, 1) := by decide +kernel
theorem dX0_addMother_53 : decode cX0_addMother 53 = .ok (.iload 4, 2) := by decide +kernel
theorem dX0_addMother_55 : decode cX0_addMother 55 = .ok (.iconst 1, 1) := by decide +kernel
theorem dX0_addMother_56 : decode cX0_addMother 56 = .ok (.iadd, 1) := by decide +kernel
theorem dX0_addMother_57 : decode cX0_addMother 57 = .ok (.putfield 49, 3) := by decide +kernel
theorem dX0_addMother_60 : decode cX0_addMother 60 = .ok (.iload 4, 2) := by decide +kernel
theorem dX0_addMother_62 : decode cX0_addMother 62 = .ok (.ireturn, 1) := by decide +kernel
theorem dX0_addChild_0 : decode cX0_addChild 0 = .ok (.aload_n 0, 1) := by decide +kernel
theorem dX0_addChild_1 : decode cX0_addChild 1 = .ok (.getfield 58, 3) := by decide +kernel
theorem dX0_addChild_4 : decode cX0_addChild 4 = .ok (.istore_n 3, 1) := by decide +kernel
theorem dX0_addChild_5 : decode cX0_addChild 5 = .ok (.iload_n 3, 1) := by decide +kernel
theorem dX0_addChild_6 : decode cX0_addChild 6 = .ok (.ifCond .lt 9, 3) := by decide +kernel
theorem dX0_addChild_9 : decode cX0_addChild 9 = .ok (.iload_n 3, 1) := by decide +kernel
theorem dX0_addChild_10 : decode cX0_addChild 10 = .ok (.bipush 6, 2) := by decide +kernel
theorem dX0_addChild_12 : decode cX0_addChild 12 = .ok (.if_icmp .lt 5, 3) := by decide +kernel
theorem dX0_addChild_15 : decode cX0_addChild 15 = .ok (.iconst (-1), 1) := by decide +kernel
theorem dX0_addChild_16 : decode cX0_addChild 16 = .ok (.ireturn, 1) := by decide +kernel
theorem dX0_addChild_17 : decode cX0_addChild 17 = .ok (.aload_n 0, 1) := by decide +kernel
theorem dX0_addChild_18 : decode cX0_addChild 18 = .ok (.getfield 28, 3) := by decide +kernel
theorem dX0_addChild_21 : decode cX0_addChild 21 = .ok (.iload_n 3, 1) := by decide +kernel
theorem dX0_addChild_22 : decode cX0_addChild 22 = .ok (.iload_n 1, 1) := by decide +kernel
theorem dX0_addChild_23 : decode cX0_addChild 23 = .ok (.iastore, 1) := by decide +kernel
theorem dX0_addChild_24 : decode cX0_addChild 24 = .ok (.aload_n 0, 1) := by decide +kernel
theorem dX0_addChild_25 : decode cX0_addChild 25 = .ok (.getfield 31, 3) := by decide +kernel
theorem dX0_addChild_28 : decode cX0_addChild 28 = .ok (.iload_n 3, 1) := by decide +kernel
theorem dX0_addChild_29 : decode cX0_addChild 29 = .ok (.iload_n 2, 1) := by decide +kernel
theorem dX0_addChild_30 : decode cX0_addChild 30 = .ok (.iastore, 1) := by decide +kernel
theorem dX0_addChild_31 : decode cX0_addChild 31 = .ok (.aload_n 0, 1) := by decide +kernel
theorem dX0_addChild_32 : decode cX0_addChild 32 = .ok (.getfield 34, 3) := by decide +kernel
theorem dX0_addChild_35 : decode cX0_addChild 35 = .ok (.iload_n 3, 1) := by decide +kernel
theorem dX0_addChild_36 : decode cX0_addChild 36 = .ok (.iconst 0, 1) := by decide +kernel
theorem dX0_addChild_37 : decode cX0_addChild 37 = .ok (.iastore, 1) := by decide +kernel
theorem dX0_addChild_38 : decode cX0_addChild 38 = .ok (.aload_n 0, 1) := by decide +kernel
theorem dX0_addChild_39 : decode cX0_addChild 39 = .ok (.iload_n 3, 1) := by decide +kernel
theorem dX0_addChild_40 : decode cX0_addChild 40 = .ok (.iconst 1, 1) := by decide +kernel
theorem dX0_addChild_41 : decode cX0_addChild 41 = .ok (.iadd, 1) := by decide +kernel
theorem dX0_addChild_42 : decode cX0_addChild 42 = .ok (.putfield 58, 3) := by decide +kernel
theorem dX0_addChild_45 : decode cX0_addChild 45 = .ok (.iload_n 3, 1) := by decide +kernel
theorem dX0_addChild_46 : decode cX0_addChild 46 = .ok (.ireturn, 1) := by decide +kernel
theorem dX0_moveMother_0 : decode cX0_moveMother 0 = .ok (.aload_n 0, 1) := by decide +kernel
theorem dX0_moveMother_1 : decode cX0_moveMother 1 = .ok (.getfield 19, 3) := by decide +kernel
theorem dX0_moveMother_4 : decode cX0_moveMother 4 = .ok (.iload_n 1, 1) := by decide +kernel
theorem dX0_moveMother_5 : decode cX0_moveMother 5 = .ok (.iload_n 2, 1) := by decide +kernel
theorem dX0_moveMother_6 : decode cX0_moveMother 6 = .ok (.iastore, 1) := by decide +kernel
theorem dX0_moveMother_7 : decode cX0_moveMother 7 = .ok (.aload_n 0, 1) := by decide +kernel
theorem dX0_moveMother_8 : decode cX0_moveMother 8 = .ok (.getfield 25, 3) := by decide +kernel
theorem dX0_moveMother_11 : decode cX0_moveMother 11 = .ok (.iload_n 1, 1) := by decide +kernel
theorem dX0_moveMother_12 : decode cX0_moveMother 12 = .ok (.iconst 0, 1) := by decide +kernel
theorem dX0_moveMother_13 : decode cX0_moveMother 13 = .ok (.iastore, 1) := by decide +kernel
theorem dX0_moveMother_14 : decode cX0_moveMother 14 = .ok (.return_, 1) := by decide +kernel
theorem dX0_minuteOfDay_0 : decode cX0_minuteOfDay 0 = .ok (.aload_n 0, 1) := by decide +kernel
theorem dX0_minuteOfDay_1 : decode cX0_minuteOfDay 1 = .ok (.getfield 37, 3) := by decide +kernel
theorem dX0_minuteOfDay_4 : decode cX0_minuteOfDay 4 = .ok (.bipush 50, 2) := by decide +kernel
theorem dX0_minuteOfDay_6 : decode cX0_minuteOfDay 6 = .ok (.irem, 1) := by decide +kernel
theorem dX0_minuteOfDay_7 : decode cX0_minuteOfDay 7 = .ok (.ireturn, 1) := by decide +kernel
set_option maxRecDepth 20000 in
theorem ggX0_isNight_X0_minuteOfDay : GoodIn wsX0_isNight wsX0_minuteOfDay := goodIn_r _ [5, 6, 7, 8, 9, 10, 11, 12, 13, 14, 15, 16, 17, 18, 19, 20] (by decide +kernel) (by decide +kernel)
set_option maxRecDepth 20000 in
theorem gX0_isNight_X0_minuteOfDay : GoodIn wsX0_isNight (wsV RX0 61 RX0 yX0_minuteOfDay wsX0_minuteOfDay) := goodIn_app (goodIn_of _ (by decide +kernel)) ggX0_isNight_X0_minuteOfDay
theorem dX0_isNight_0 : decode cX0_isNight 0 = .ok (.aload_n 0, 1) := by decide +kernel
theorem dX0_isNight_1 : decode cX0_isNight 1 = .ok (.invokevirtual 61, 3) := by decide +kernel
theorem dX0_isNight_4 : decode cX0_isNight 4 = .ok (.bipush 40, 2) := by decide +kernel
theorem dX0_isNight_6 : decode cX0_isNight 6 = .ok (.if_icmp .lt 7, 3) := by decide +kernel
theorem dX0_isNight_9 : decode cX0_isNight 9 = .ok (.iconst 1, 1) := by decide +kernel
theorem dX0_isNight_10 : decode cX0_isNight 10 = .ok (.goto 4, 3) := by decide +kernel
theorem dX0_isNight_13 : decode cX0_isNight 13 = .ok (.iconst 0, 1) := by decide +kernel
theorem dX0_isNight_14 : decode cX0_isNight 14 = .ok (.ireturn, 1) := by decide +kernel
set_option maxRecDepth 20000 in
theorem ggX0_isWet_X0_minuteOfDay : GoodIn wsX0_isWet wsX0_minuteOfDay := goodIn_r _ [6, 7, 8, 9, 10, 11, 12, 13, 14, 15, 16, 17, 18, 19, 20, 21] (by decide +kernel) (by decide +kernel)
set_option maxRecDepth 20000 in
theorem gX0_isWet_X0_minuteOfDay : GoodIn wsX0_isWet (wsV RX0 61 RX0 yX0_minuteOfDay wsX0_minuteOfDay) := goodIn_app (goodIn_of _ (by decide +kernel)) ggX0_isWet_X0_minuteOfDay
theorem dX0_isWet_0 : decode cX0_isWet 0 = .ok (.aload_n 0, 1) := by decide +kernel
theorem dX0_isWet_1 : decode cX0_isWet 1 = .ok (.getfield 40, 3) := by decide +kernel
theorem dX0_isWet_4 : decode cX0_isWet 4 = .ok (.aload_n 0, 1) := by decide +kernel
theorem dX0_isWet_5 : decode cX0_isWet 5 = .ok (.invokevirtual 61, 3) := by decide +kernel
theorem dX0_isWet_8 : decode cX0_isWet 8 = .ok (.bipush 10, 2) := by decide +kernel
theorem dX0_isWet_10 : decode cX0_isWet 10 = .ok (.idiv, 1) := by decide +kernel
theorem dX0_isWet_11 : decode cX0_isWet 11 = .ok (.ishr, 1) := by decide +kernel
theorem dX0_isWet_12 : decode cX0_isWet 12 = .ok (.iconst 1, 1) := by decide +kernel
theorem dX0_isWet_13 : decode cX0_isWet 13 = .ok (.iand, 1) := by decide +kernel
theorem dX0_isWet_14 : decode cX0_isWet 14 = .ok (.iconst 1, 1) := by decide +kernel
theorem dX0_isWet_15 : decode cX0_isWet 15 = .ok (.if_icmp .ne 7, 3) := by decide +kernel
theorem dX0_isWet_18 : decode cX0_isWet 18 = .ok (.iconst 1, 1) := by decide +kernel
theorem dX0_isWet_19 : decode cX0_isWet 19 = .ok (.goto 4, 3) := by decide +kernel
theorem dX0_isWet_22 : decode cX0_isWet 22 = .ok (.iconst 0, 1) := by decide +kernel
theorem dX0_isWet_23 : decode cX0_isWet 23 = .ok (.ireturn, 1) := by decide +kernel
theorem dX0_outCount_0 : decode cX0_outCount 0 = .ok (.iconst 0, 1) := by decide +kernel
theorem dX0_outCount_1 : decode cX0_outCount 1 = .ok (.istore_n 1, 1) := by decide +kernel
theorem dX0_outCount_2 : decode cX0_outCount 2 = .ok (.iconst 0, 1) := by decide +kernel
theorem dX0_outCount_3 : decode cX0_outCount 3 = .ok (.istore_n 2, 1) := by decide +kernel
theorem dX0_outCount_4 : decode cX0_outCount 4 = .ok (.iload_n 2, 1) := by decide +kernel
theorem dX0_outCount_5 : decode cX0_outCount 5 = .ok (.aload_n 0, 1) := by decide +kernel
theorem dX0_outCount_6 : decode cX0_outCount 6 = .ok (.getfield 49, 3) := by decide +kernel
theorem dX0_outCount_9 : decode cX0_outCount 9 = .ok (.if_icmp .ge 18, 3) := by decide +kernel
theorem dX0_outCount_12 : decode cX0_outCount 12 = .ok (.iload_n 1, 1) := by decide +kernel
theorem dX0_outCount_13 : decode cX0_outCount 13 = .ok (.aload_n 0, 1) := by decide +kernel
theorem dX0_outCount_14 : decode cX0_outCount 14 = .ok (.getfield 19, 3) := by decide +kernel
theorem dX0_outCount_17 : decode cX0_outCount 17 = .ok (.iload_n 2, 1) := by decide +kernel
theorem dX0_outCount_18 : decode cX0_outCount 18 = .ok (.iaload, 1) := by decide +kernel
theorem dX0_outCount_19 : decode cX0_outCount 19 = .ok (.iadd, 1) := by decide +kernel
theorem dX0_outCount_20 : decode cX0_outCount 20 = .ok (.istore_n 1, 1) := by decide +kernel
theorem dX0_outCount_21 : decode cX0_outCount 21 = .ok (.iinc 2 1, 3) := by decide +kernel
theorem dX0_outCount_24 : decode cX0_outCount 24 = .ok (.goto (-20), 3) := by decide +kernel
theorem dX0_outCount_27 : decode cX0_outCount 27 = .ok (.iload_n 1, 1) := by decide +kernel
theorem dX0_outCount_28 : decode cX0_outCount 28 = .ok (.ireturn, 1) := by decide +kernel
theorem dX0_outSet_0 : decode cX0_outSet 0 = .ok (.iconst 0, 1) := by decide +kernel
theorem dX0_outSet_1 : decode cX0_outSet 1 = .ok (.istore_n 1, 1) := by decide +kernel
theorem dX0_outSet_2 : decode cX0_outSet 2 = .ok (.iconst 0, 1) := by decide +kernel
theorem dX0_outSet_3 : decode cX0_outSet 3 = .ok (.istore_n 2, 1) := by decide +kernel
theorem dX0_outSet_4 : decode cX0_outSet 4 = .ok (.iload_n 2, 1) := by decide +kernel
theorem dX0_outSet_5 : decode cX0_outSet 5 = .ok (.aload_n 0, 1) := by decide +kernel
theorem dX0_outSet_6 : decode cX0_outSet 6 = .ok (.getfield 49, 3) := by decide +kernel
theorem dX0_outSet_9 : decode cX0_outSet 9 = .ok (.if_icmp .ge 20, 3) := by decide +kernel
theorem dX0_outSet_12 : decode cX0_outSet 12 = .ok (.iload_n 1, 1) := by decide +kernel
theorem dX0_outSet_13 : decode cX0_outSet 13 = .ok (.aload_n 0, 1) := by decide +kernel
theorem dX0_outSet_14 : decode cX0_outSet 14 = .ok (.getfield 19, 3) := by decide +kernel
theorem dX0_outSet_17 : decode cX0_outSet 17 = .ok (.iload_n 2, 1) := by decide +kernel
theorem dX0_outSet_18 : decode cX0_outSet 18 = .ok (.iaload, 1) := by decide +kernel
theorem dX0_outSet_19 : decode cX0_outSet 19 = .ok (.iload_n 2, 1) := by decide +kernel
theorem dX0_outSet_20 : decode cX0_outSet 20 = .ok (.ishl, 1) := by decide +kernel
theorem dX0_outSet_21 : decode cX0_outSet 21 = .ok (.ior, 1) := by decide +kernel
theorem dX0_outSet_22 : decode cX0_outSet 22 = .ok (.istore_n 1, 1) := by decide +kernel
theorem dX0_outSet_23 : decode cX0_outSet 23 = .ok (.iinc 2 1, 3) := by decide +kernel
theorem dX0_outSet_26 : decode cX0_outSet 26 = .ok (.goto (-22), 3) := by decide +kernel
theorem dX0_outSet_29 : decode cX0_outSet 29 = .ok (.iload_n 1, 1) := by decide +kernel
theorem dX0_outSet_30 : decode cX0_outSet 30 = .ok (.ireturn, 1) := by decide +kernel
theorem dX0_onCount_0 : decode cX0_onCount 0 = .ok (.iconst 0, 1) := by decide +kernel
theorem dX0_onCount_1 : decode cX0_onCount 1 = .ok (.istore_n 1, 1) := by decide +kernel
theorem dX0_onCount_2 : decode cX0_onCount 2 = .ok (.iconst 0, 1) := by decide +kernel
theorem dX0_onCount_3 : decode cX0_onCount 3 = .ok (.istore_n 2, 1) := by decide +kernel
theorem dX0_onCount_4 : decode cX0_onCount 4 = .ok (.iload_n 2, 1) := by decide +kernel
theorem dX0_onCount_5 : decode cX0_onCount 5 = .ok (.aload_n 0, 1) := by decide +kernel
theorem dX0_onCount_6 : decode cX0_onCount 6 = .ok (.getfield 58, 3) := by decide +kernel
theorem dX0_onCount_9 : decode cX0_onCount 9 = .ok (.if_icmp .ge 18, 3) := by decide +kernel
theorem dX0_onCount_12 : decode cX0_onCount 12 = .ok (.iload_n 1, 1) := by decide +kernel
theorem dX0_onCount_13 : decode cX0_onCount 13 = .ok (.aload_n 0, 1) := by decide +kernel
theorem dX0_onCount_14 : decode cX0_onCount 14 = .ok (.getfield 31, 3) := by decide +kernel
theorem dX0_onCount_17 : decode cX0_onCount 17 = .ok (.iload_n 2, 1) := by decide +kernel
theorem dX0_onCount_18 : decode cX0_onCount 18 = .ok (.iaload, 1) := by decide +kernel
theorem dX0_onCount_19 : decode cX0_onCount 19 = .ok (.iadd, 1) := by decide +kernel
theorem dX0_onCount_20 : decode cX0_onCount 20 = .ok (.istore_n 1, 1) := by decide +kernel
theorem dX0_onCount_21 : decode cX0_onCount 21 = .ok (.iinc 2 1, 3) := by decide +kernel
theorem dX0_onCount_24 : decode cX0_onCount 24 = .ok (.goto (-20), 3) := by decide +kernel
theorem dX0_onCount_27 : decode cX0_onCount 27 = .ok (.iload_n 1, 1) := by decide +kernel
theorem dX0_onCount_28 : decode cX0_onCount 28 = .ok (.ireturn, 1) := by decide +kernel
theorem dX0_onSet_0 : decode cX0_onSet 0 = .ok (.iconst 0, 1) := by decide +kernel
theorem dX0_onSet_1 : decode cX0_onSet 1 = .ok (.istore_n 1, 1) := by decide +kernel
theorem dX0_onSet_2 : decode cX0_onSet 2 = .ok (.iconst 0, 1) := by decide +kernel
theorem dX0_onSet_3 : decode cX0_onSet 3 = .ok (.istore_n 2, 1) := by decide +kernel
theorem dX0_onSet_4 : decode cX0_onSet 4 = .ok (.iload_n 2, 1) := by decide +kernel
theorem dX0_onSet_5 : decode cX0_onSet 5 = .ok (.aload_n 0, 1) := by decide +kernel
theorem dX0_onSet_6 : decode cX0_onSet 6 = .ok (.getfield 58, 3) := by decide +kernel
theorem dX0_onSet_9 : decode cX0_onSet 9 = .ok (.if_icmp .ge 20, 3) := by decide +kernel
theorem dX0_onSet_12 : decode cX0_onSet 12 = .ok (.iload_n 1, 1) := by decide +kernel
theorem dX0_onSet_13 : decode cX0_onSet 13 = .ok (.aload_n 0, 1) := by decide +kernel
theorem dX0_onSet_14 : decode cX0_onSet 14 = .ok (.getfield 31, 3) := by decide +kernel
theorem dX0_onSet_17 : decode cX0_onSet 17 = .ok (.iload_n 2, 1) := by decide +kernel
theorem dX0_onSet_18 : decode cX0_onSet 18 = .ok (.iaload, 1) := by decide +kernel
theorem dX0_onSet_19 : decode cX0_onSet 19 = .ok (.iload_n 2, 1) := by decide +kernel
theorem dX0_onSet_20 : decode cX0_onSet 20 = .ok (.ishl, 1) := by decide +kernel
theorem dX0_onSet_21 : decode cX0_onSet 21 = .ok (.ior, 1) := by decide +kernel
theorem dX0_onSet_22 : decode cX0_onSet 22 = .ok (.istore_n 1, 1) := by decide +kernel
theorem dX0_onSet_23 : decode cX0_onSet 23 = .ok (.iinc 2 1, 3) := by decide +kernel
theorem dX0_onSet_26 : decode cX0_onSet 26 = .ok (.goto (-22), 3) := by decide +kernel
theorem dX0_onSet_29 : decode cX0_onSet 29 = .ok (.iload_n 1, 1) := by decide +kernel
theorem dX0_onSet_30 : decode cX0_onSet 30 = .ok (.ireturn, 1) := by decide +kernel
theorem dX0_flingsOfAll_0 : decode cX0_flingsOfAll 0 = .ok (.iconst 0, 1) := by decide +kernel
theorem dX0_flingsOfAll_1 : decode cX0_flingsOfAll 1 = .ok (.istore_n 1, 1) := by decide +kernel
theorem dX0_flingsOfAll_2 : decode cX0_flingsOfAll 2 = .ok (.iconst 0, 1) := by decide +kernel
theorem dX0_flingsOfAll_3 : decode cX0_flingsOfAll 3 = .ok (.istore_n 2, 1) := by decide +kernel
theorem dX0_flingsOfAll_4 : decode cX0_flingsOfAll 4 = .ok (.iload_n 2, 1) := by decide +kernel
theorem dX0_flingsOfAll_5 : decode cX0_flingsOfAll 5 = .ok (.aload_n 0, 1) := by decide +kernel
theorem dX0_flingsOfAll_6 : decode cX0_flingsOfAll 6 = .ok (.getfield 58, 3) := by decide +kernel
theorem dX0_flingsOfAll_9 : decode cX0_flingsOfAll 9 = .ok (.if_icmp .ge 18, 3) := by decide +kernel
theorem dX0_flingsOfAll_12 : decode cX0_flingsOfAll 12 = .ok (.iload_n 1, 1) := by decide +kernel
theorem dX0_flingsOfAll_13 : decode cX0_flingsOfAll 13 = .ok (.aload_n 0, 1) := by decide +kernel
theorem dX0_flingsOfAll_14 : decode cX0_flingsOfAll 14 = .ok (.getfield 34, 3) := by decide +kernel
theorem dX0_flingsOfAll_17 : decode cX0_flingsOfAll 17 = .ok (.iload_n 2, 1) := by decide +kernel
theorem dX0_flingsOfAll_18 : decode cX0_flingsOfAll 18 = .ok (.iaload, 1) := by decide +kernel
theorem dX0_flingsOfAll_19 : decode cX0_flingsOfAll 19 = .ok (.iadd, 1) := by decide +kernel
theorem dX0_flingsOfAll_20 : decode cX0_flingsOfAll 20 = .ok (.istore_n 1, 1) := by decide +kernel
theorem dX0_flingsOfAll_21 : decode cX0_flingsOfAll 21 = .ok (.iinc 2 1, 3) := by decide +kernel
theorem dX0_flingsOfAll_24 : decode cX0_flingsOfAll 24 = .ok (.goto (-20), 3) := by decide +kernel
theorem dX0_flingsOfAll_27 : decode cX0_flingsOfAll 27 = .ok (.iload_n 1, 1) := by decide +kernel
theorem dX0_flingsOfAll_28 : decode cX0_flingsOfAll 28 = .ok (.ireturn, 1) := by decide +kernel
set_option maxRecDepth 20000 in
theorem ggX0_weightNow_X0_onCount : GoodIn wsX0_weightNow wsX0_onCount := goodIn_r _ [6, 7, 8, 9, 10, 11, 12, 13, 14, 15, 16, 17, 18, 19, 20, 21, 22] (by decide +kernel) (by decide +kernel)
set_option maxRecDepth 20000 in
theorem gX0_weightNow_X0_onCount : GoodIn wsX0_weightNow (wsV RX0 65 RX0 yX0_onCount wsX0_onCount) := goodIn_app (goodIn_of _ (by decide +kernel)) ggX0_weightNow_X0_onCount
theorem dX0_weightNow_0 : decode cX0_weightNow 0 = .ok (.aload_n 0, 1) := by decide +kernel
theorem dX0_weightNow_1 : decode cX0_weightNow 1 = .ok (.getfield 9, 3) := by decide +kernel
theorem dX0_weightNow_4 : decode cX0_weightNow 4 = .ok (.iconst 2, 1) := by decide +kernel
theorem dX0_weightNow_5 : decode cX0_weightNow 5 = .ok (.aload_n 0, 1) := by decide +kernel
theorem dX0_weightNow_6 : decode cX0_weightNow 6 = .ok (.invokevirtual 65, 3) := by decide +kernel
theorem dX0_weightNow_9 : decode cX0_weightNow 9 = .ok (.imul, 1) := by decide +kernel
theorem dX0_weightNow_10 : decode cX0_weightNow 10 = .ok (.iadd, 1) := by decide +kernel
theorem dX0_weightNow_11 : decode cX0_weightNow 11 = .ok (.ireturn, 1) := by decide +kernel
set_option maxRecDepth 20000 in
theorem ggX0_keepsNow_X1_keeps : GoodIn wsX0_keepsNow wsX1_keeps := goodIn_r _ [8] (by decide +kernel) (by decide +kernel)
set_option maxRecDepth 20000 in
theorem gX0_keepsNow_X1_keeps : GoodIn wsX0_keepsNow (va_wsS RX0 68 yX1_keeps wsX1_keeps) := goodIn_app (goodIn_of _ (by decide +kernel)) ggX0_keepsNow_X1_keeps
theorem dX0_keepsNow_0 : decode cX0_keepsNow 0 = .ok (.aload_n 0, 1) := by decide +kernel
theorem dX0_keepsNow_1 : decode cX0_keepsNow 1 = .ok (.getfield 15, 3) := by decide +kernel
theorem dX0_keepsNow_4 : decode cX0_keepsNow 4 = .ok (.iload_n 1, 1) := by decide +kernel
theorem dX0_keepsNow_5 : decode cX0_keepsNow 5 = .ok (.iaload, 1) := by decide +kernel
theorem dX0_keepsNow_6 : decode cX0_keepsNow 6 = .ok (.aload_n 0, 1) := by decide +kernel
theorem dX0_keepsNow_7 : decode cX0_keepsNow 7 = .ok (.getfield 22, 3) := by decide +kernel
theorem dX0_keepsNow_10 : decode cX0_keepsNow 10 = .ok (.iload_n 1, 1) := by decide +kernel
theorem dX0_keepsNow_11 : decode cX0_keepsNow 11 = .ok (.iaload, 1) := by decide +kernel
theorem dX0_keepsNow_12 : decode cX0_keepsNow 12 = .ok (.aload_n 0, 1) := by decide +kernel
theorem dX0_keepsNow_13 : decode cX0_keepsNow 13 = .ok (.getfield 25, 3) := by decide +kernel
theorem dX0_keepsNow_16 : decode cX0_keepsNow 16 = .ok (.iload_n 1, 1) := by decide +kernel
theorem dX0_keepsNow_17 : decode cX0_keepsNow 17 = .ok (.iaload, 1) := by decide +kernel
theorem dX0_keepsNow_18 : decode cX0_keepsNow 18 = .ok (.iload_n 2, 1) := by decide +kernel
theorem dX0_keepsNow_19 : decode cX0_keepsNow 19 = .ok (.aload_n 0, 1) := by decide +kernel
theorem dX0_keepsNow_20 : decode cX0_keepsNow 20 = .ok (.getfield 19, 3) := by decide +kernel
theorem dX0_keepsNow_23 : decode cX0_keepsNow 23 = .ok (.iload_n 1, 1) := by decide +kernel
theorem dX0_keepsNow_24 : decode cX0_keepsNow 24 = .ok (.iaload, 1) := by decide +kernel
theorem dX0_keepsNow_25 : decode cX0_keepsNow 25 = .ok (.isub, 1) := by decide +kernel
theorem dX0_keepsNow_26 : decode cX0_keepsNow 26 = .ok (.iload_n 3, 1) := by decide +kernel
theorem dX0_keepsNow_27 : decode cX0_keepsNow 27 = .ok (.invokestatic 68, 3) := by decide +kernel
theorem dX0_keepsNow_30 : decode cX0_keepsNow 30 = .ok (.ireturn, 1) := by decide +kernel
set_option maxRecDepth 20000 in
theorem ggX0_speaksNow_X1_speaks : GoodIn wsX0_speaksNow wsX1_speaks := goodIn_r _ [8] (by decide +kernel) (by decide +kernel)
set_option maxRecDepth 20000 in
theorem gX0_speaksNow_X1_speaks : GoodIn wsX0_speaksNow (va_wsS RX0 74 yX1_speaks wsX1_speaks) := goodIn_app (goodIn_of _ (by decide +kernel)) ggX0_speaksNow_X1_speaks
theorem dX0_speaksNow_0 : decode cX0_speaksNow 0 = .ok (.aload_n 0, 1) := by decide +kernel
theorem dX0_speaksNow_1 : decode cX0_speaksNow 1 = .ok (.getfield 15, 3) := by decide +kernel
theorem dX0_speaksNow_4 : decode cX0_speaksNow 4 = .ok (.iload_n 1, 1) := by decide +kernel
theorem dX0_speaksNow_5 : decode cX0_speaksNow 5 = .ok (.iaload, 1) := by decide +kernel
theorem dX0_speaksNow_6 : decode cX0_speaksNow 6 = .ok (.aload_n 0, 1) := by decide +kernel
theorem dX0_speaksNow_7 : decode cX0_speaksNow 7 = .ok (.getfield 25, 3) := by decide +kernel
theorem dX0_speaksNow_10 : decode cX0_speaksNow 10 = .ok (.iload_n 1, 1) := by decide +kernel
theorem dX0_speaksNow_11 : decode cX0_speaksNow 11 = .ok (.iaload, 1) := by decide +kernel
theorem dX0_speaksNow_12 : decode cX0_speaksNow 12 = .ok (.iload_n 2, 1) := by decide +kernel
theorem dX0_speaksNow_13 : decode cX0_speaksNow 13 = .ok (.aload_n 0, 1) := by decide +kernel
theorem dX0_speaksNow_14 : decode cX0_speaksNow 14 = .ok (.getfield 19, 3) := by decide +kernel
theorem dX0_speaksNow_17 : decode cX0_speaksNow 17 = .ok (.iload_n 1, 1) := by decide +kernel
theorem dX0_speaksNow_18 : decode cX0_speaksNow 18 = .ok (.iaload, 1) := by decide +kernel
theorem dX0_speaksNow_19 : decode cX0_speaksNow 19 = .ok (.isub, 1) := by decide +kernel
theorem dX0_speaksNow_20 : decode cX0_speaksNow 20 = .ok (.iload_n 3, 1) := by decide +kernel
theorem dX0_speaksNow_21 : decode cX0_speaksNow 21 = .ok (.aload_n 0, 1) := by decide +kernel
theorem dX0_speaksNow_22 : decode cX0_speaksNow 22 = .ok (.getfield 43, 3) := by decide +kernel
theorem dX0_speaksNow_25 : decode cX0_speaksNow 25 = .ok (.invokestatic 74, 3) := by decide +kernel
theorem dX0_speaksNow_28 : decode cX0_speaksNow 28 = .ok (.ireturn, 1) := by decide +kernel
set_option maxRecDepth 20000 in
theorem ggX0_pushNow_X0_isWet : GoodIn wsX0_pushNow wsX0_isWet := goodIn_r _ [7, 8, 9, 10, 11, 6, 12, 13, 33, 34, 35, 36, 37, 38, 39, 40, 41, 42, 43, 44, 45, 46] (by decide +kernel) (by decide +kernel)
set_option maxRecDepth 20000 in
theorem gX0_pushNow_X0_isWet : GoodIn wsX0_pushNow (wsV RX0 78 RX0 yX0_isWet wsX0_isWet) := goodIn_app (goodIn_of _ (by decide +kernel)) ggX0_pushNow_X0_isWet
set_option maxRecDepth 20000 in
theorem ggX0_pushNow_X0_outCount : GoodIn wsX0_pushNow wsX0_outCount := goodIn_r _ [17, 1, 2, 33, 34, 35, 36, 37, 38, 39, 40, 41, 42, 43, 44, 45, 46] (by decide +kernel) (by decide +kernel)
set_option maxRecDepth 20000 in
theorem gX0_pushNow_X0_outCount : GoodIn wsX0_pushNow (wsV RX0 82 RX0 yX0_outCount wsX0_outCount) := goodIn_app (goodIn_of _ (by decide +kernel)) ggX0_pushNow_X0_outCount
set_option maxRecDepth 20000 in
theorem ggX0_pushNow_X0_isNight : GoodIn wsX0_pushNow wsX0_isNight := goodIn_r _ [21, 9, 10, 11, 6, 12, 13, 33, 34, 35, 36, 37, 38, 39, 40, 41, 42, 43, 44, 45, 46] (by decide +kernel) (by decide +kernel)
set_option maxRecDepth 20000 in
theorem gX0_pushNow_X0_isNight : GoodIn wsX0_pushNow (wsV RX0 85 RX0 yX0_isNight wsX0_isNight) := goodIn_app (goodIn_of _ (by decide +kernel)) ggX0_pushNow_X0_isNight
set_option maxRecDepth 20000 in
theorem ggX0_pushNow_X0_keepsNow : GoodIn wsX0_pushNow wsX0_keepsNow := goodIn_r _ [25, 26, 27, 28, 2, 29, 30, 31, 32, 33, 34, 35, 36, 37, 38, 39, 40, 41, 42, 43, 44, 45, 46] (by decide +kernel) (by decide +kernel)
set_option maxRecDepth 20000 in
theorem gX0_pushNow_X0_keepsNow : GoodIn wsX0_pushNow (wsV RX0 88 RX0 yX0_keepsNow wsX0_keepsNow) := goodIn_app (goodIn_of _ (by decide +kernel)) ggX0_pushNow_X0_keepsNow
theorem dX0_pushNow_0 : decode cX0_pushNow 0 = .ok (.aload_n 0, 1) := by decide +kernel
theorem dX0_pushNow_1 : decode cX0_pushNow 1 = .ok (.invokevirtual 78, 3) := by decide +kernel
theorem dX0_pushNow_4 : decode cX0_pushNow 4 = .ok (.ifCond .eq 5, 3) := by decide +kernel
theorem dX0_pushNow_7 : decode cX0_pushNow 7 = .ok (.iconst 0, 1) := by decide +kernel
theorem dX0_pushNow_8 : decode cX0_pushNow 8 = .ok (.ireturn, 1) := by decide +kernel
theorem dX0_pushNow_9 : decode cX0_pushNow 9 = .ok (.aload_n 0, 1) := by decide +kernel
theorem dX0_pushNow_10 : decode cX0_pushNow 10 = .ok (.invokevirtual 82, 3) := by decide +kernel
theorem dX0_pushNow_13 : decode cX0_pushNow 13 = .ok (.istore_n 1, 1) := by decide +kernel
theorem dX0_pushNow_14 : decode cX0_pushNow 14 = .ok (.aload_n 0, 1) := by decide +kernel
theorem dX0_pushNow_15 : decode cX0_pushNow 15 = .ok (.invokevirtual 85, 3) := by decide +kernel
theorem dX0_pushNow_18 : decode cX0_pushNow 18 = .ok (.istore_n 2, 1) := by decide +kernel
theorem dX0_pushNow_19 : decode cX0_pushNow 19 = .ok (.iconst 0, 1) := by decide +kernel
theorem dX0_pushNow_20 : decode cX0_pushNow 20 = .ok (.istore_n 3, 1) := by decide +kernel
theorem dX0_pushNow_21 : decode cX0_pushNow 21 = .ok (.iconst 0, 1) := by decide +kernel
theorem dX0_pushNow_22 : decode cX0_pushNow 22 = .ok (.istore 4, 2) := by decide +kernel
theorem dX0_pushNow_24 : decode cX0_pushNow 24 = .ok (.iload 4, 2) := by decide +kernel
theorem dX0_pushNow_26 : decode cX0_pushNow 26 = .ok (.aload_n 0, 1) := by decide +kernel
theorem dX0_pushNow_27 : decode cX0_pushNow 27 = .ok (.getfield 49, 3) := by decide +kernel
theorem dX0_pushNow_30 : decode cX0_pushNow 30 = .ok (.if_icmp .ge 31, 3) := by decide +kernel
theorem dX0_pushNow_33 : decode cX0_pushNow 33 = .ok (.aload_n 0, 1) := by decide +kernel
theorem dX0_pushNow_34 : decode cX0_pushNow 34 = .ok (.getfield 19, 3) := by decide +kernel
theorem dX0_pushNow_37 : decode cX0_pushNow 37 = .ok (.iload 4, 2) := by decide +kernel
theorem dX0_pushNow_39 : decode cX0_pushNow 39 = .ok (.iaload, 1) := by decide +kernel
theorem dX0_pushNow_40 : decode cX0_pushNow 40 = .ok (.iconst 1, 1) := by decide +kernel
theorem dX0_pushNow_41 : decode cX0_pushNow 41 = .ok (.if_icmp .ne 14, 3) := by decide +kernel
theorem dX0_pushNow_44 : decode cX0_pushNow 44 = .ok (.iload_n 3, 1) := by decide +kernel
theorem dX0_pushNow_45 : decode cX0_pushNow 45 = .ok (.aload_n 0, 1) := by decide +kernel
theorem dX0_pushNow_46 : decode cX0_pushNow 46 = .ok (.iload 4, 2) := by decide +kernel
theorem dX0_pushNow_48 : decode cX0_pushNow 48 = .ok (.iload_n 1, 1) := by decide +kernel
theorem dX0_pushNow_49 : decode cX0_pushNow 49 = .ok (.iload_n 2, 1) := by decide +kernel
theorem dX0_pushNow_50 : decode cX0_pushNow 50 = .ok (.invokevirtual 88, 3) := by decide +kernel
theorem dX0_pushNow_53 : decode cX0_pushNow 53 = .ok (.iadd, 1) := by decide +kernel
theorem dX0_pushNow_54 : decode cX0_pushNow 54 = .ok (.istore_n 3, 1) := by decide +kernel
theorem dX0_pushNow_55 : decode cX0_pushNow 55 = .ok (.iinc 4 1, 3) := by decide +kernel
theorem dX0_pushNow_58 : decode cX0_pushNow 58 = .ok (.goto (-34), 3) := by decide +kernel
theorem dX0_pushNow_61 : decode cX0_pushNow 61 = .ok (.iload_n 3, 1) := by decide +kernel
theorem dX0_pushNow_62 : decode cX0_pushNow 62 = .ok (.ireturn, 1) := by decide +kernel
set_option maxRecDepth 20000 in
theorem ggX0_passMinutes_X0_passMinute : GoodIn wsX0_passMinutes wsX0_passMinute := goodIn_r _ [5, 6, 7, 8, 9, 10, 11, 12, 13, 14, 15, 16, 17, 18, 19, 4, 20, 21, 22, 23, 24, 25, 26, 27, 28, 29, 30, 31, 32, 33, 34, 35, 36, 37, 38, 39, 40, 41, 42, 43, 44, 45, 46, 47, 48, 49, 50, 51, 52, 53, 54, 55, 56, 57, 58, 59, 60, 61, 62, 63, 64, 65, 66, 67, 68, 69, 70, 71, 72, 73, 74, 75, 76, 77, 78, 79, 80, 81, 82, 83, 84, 85, 86, 87, 88, 89, 90, 91, 92, 93, 94, 95] (by decide +kernel) (by decide +kernel)
set_option maxRecDepth 20000 in
theorem gX0_passMinutes_X0_passMinute : GoodIn wsX0_passMinutes (wsV RX0 92 RX0 yX0_passMinute wsX0_passMinute) := goodIn_app (goodIn_of _ (by decide +kernel)) ggX0_passMinutes_X0_passMinute
theorem dX0_passMinutes_0 : decode cX0_passMinutes 0 = .ok (.iconst 0, 1) := by decide +kernel
theorem dX0_passMinutes_1 : decode cX0_passMinutes 1 = .ok (.istore_n 2, 1) := by decide +kernel
theorem dX0_passMinutes_2 : decode cX0_passMinutes 2 = .ok (.iload_n 2, 1) := by decide +kernel
theorem dX0_passMinutes_3 : decode cX0_passMinutes 3 = .ok (.iload_n 1, 1) := by decide +kernel
theorem dX0_passMinutes_4 : decode cX0_passMinutes 4 = .ok (.if_icmp .ge 13, 3) := by decide +kernel
theorem dX0_passMinutes_7 : decode cX0_passMinutes 7 = .ok (.aload_n 0, 1) := by decide +kernel
theorem dX0_passMinutes_8 : decode cX0_passMinutes 8 = .ok (.invokevirtual 92, 3) := by decide +kernel
theorem dX0_passMinutes_11 : decode cX0_passMinutes 11 = .ok (.iinc 2 1, 3) := by decide +kernel
theorem dX0_passMinutes_14 : decode cX0_passMinutes 14 = .ok (.goto (-12), 3) := by decide +kernel
theorem dX0_passMinutes_17 : decode cX0_passMinutes 17 = .ok (.return_, 1) := by decide +kernel
set_option maxRecDepth 20000 in
theorem ggX0_passMinute_X0_pushNow : GoodIn wsX0_passMinute wsX0_pushNow := goodIn_r _ [16, 17, 18, 19, 20, 21, 15, 22, 23, 24, 25, 26, 27, 11, 28, 29, 30, 31, 32, 33, 34, 35, 36, 37, 38, 39, 40, 41, 42, 43, 44, 45, 46, 78, 79, 80, 81, 82, 83, 84, 85, 86, 87, 88, 89, 90, 91] (by decide +kernel) (by decide +kernel)
set_option maxRecDepth 20000 in
theorem gX0_passMinute_X0_pushNow : GoodIn wsX0_passMinute (wsV RX0 95 RX0 yX0_pushNow wsX0_pushNow) := goodIn_app (goodIn_of _ (by decide +kernel)) ggX0_passMinute_X0_pushNow
set_option maxRecDepth 20000 in
theorem ggX0_passMinute_X0_weightNow : GoodIn wsX0_passMinute wsX0_weightNow := goodIn_r _ [50, 51, 52, 53, 54, 15, 55, 56, 57, 78, 79, 80, 81, 82, 83, 84, 85, 86, 87, 88, 89, 90, 91] (by decide +kernel) (by decide +kernel)
set_option maxRecDepth 20000 in
theorem gX0_passMinute_X0_weightNow : GoodIn wsX0_passMinute (wsV RX0 98 RX0 yX0_weightNow wsX0_weightNow) := goodIn_app (goodIn_of _ (by decide +kernel)) ggX0_passMinute_X0_weightNow
set_option maxRecDepth 20000 in
theorem ggX0_passMinute_X0_tryGrips : GoodIn wsX0_passMinute wsX0_tryGrips := goodIn_r _ [61, 56, 57, 62, 1, 63, 6, 7, 4, 8, 2, 3, 5, 78, 79, 80, 81, 82, 83, 84, 85, 86, 87, 88, 89, 90, 91] (by decide +kernel) (by decide +kernel)
set_option maxRecDepth 20000 in
theorem gX0_passMinute_X0_tryGrips : GoodIn wsX0_passMinute (wsV RX0 111 RX0 yX0_tryGrips wsX0_tryGrips) := goodIn_app (goodIn_of _ (by decide +kernel)) ggX0_passMinute_X0_tryGrips
set_option maxRecDepth 20000 in
theorem ggX0_passMinute_X0_letSpeak : GoodIn wsX0_passMinute wsX0_letSpeak := goodIn_r _ [67, 17, 18, 41, 40, 2, 3, 4, 5, 42, 6, 7, 8, 28, 29, 30, 15, 31, 32, 33, 34, 35, 24, 25, 26, 27, 11, 68, 69, 70, 71, 1, 72, 73, 45, 74, 75, 76, 77, 78, 79, 80, 81, 82, 83, 84, 85, 86, 87, 88, 89, 90, 91] (by decide +kernel) (by decide +kernel)
set_option maxRecDepth 20000 in
theorem gX0_passMinute_X0_letSpeak : GoodIn wsX0_passMinute (wsV RX0 114 RX0 yX0_letSpeak wsX0_letSpeak) := goodIn_app (goodIn_of _ (by decide +kernel)) ggX0_passMinute_X0_letSpeak
theorem dX0_passMinute_0 : decode cX0_passMinute 0 = .ok (.aload_n 0, 1) := by decide +kernel
theorem dX0_passMinute_1 : decode cX0_passMinute 1 = .ok (.invokevirtual 95, 3) := by decide +kernel
theorem dX0_passMinute_4 : decode cX0_passMinute 4 = .ok (.istore_n 1, 1) := by decide +kernel
theorem dX0_passMinute_5 : decode cX0_passMinute 5 = .ok (.aload_n 0, 1) := by decide +kernel
theorem dX0_passMinute_6 : decode cX0_passMinute 6 = .ok (.invokevirtual 98, 3) := by decide +kernel
theorem dX0_passMinute_9 : decode cX0_passMinute 9 = .ok (.istore_n 2, 1) := by decide +kernel
theorem dX0_passMinute_10 : decode cX0_passMinute 10 = .ok (.iload_n 2, 1) := by decide +kernel
theorem dX0_passMinute_11 : decode cX0_passMinute 11 = .ok (.ifCond .le 9, 3) := by decide +kernel
theorem dX0_passMinute_14 : decode cX0_passMinute 14 = .ok (.iload_n 1, 1) := by decide +kernel
theorem dX0_passMinute_15 : decode cX0_passMinute 15 = .ok (.iload_n 2, 1) := by decide +kernel
theorem dX0_passMinute_16 : decode cX0_passMinute 16 = .ok (.idiv, 1) := by decide +kernel
theorem dX0_passMinute_17 : decode cX0_passMinute 17 = .ok (.goto 4, 3) := by decide +kernel
theorem dX0_passMinute_20 : decode cX0_passMinute 20 = .ok (.iconst 0, 1) := by decide +kernel
theorem dX0_passMinute_21 : decode cX0_passMinute 21 = .ok (.istore_n 3, 1) := by decide +kernel
theorem dX0_passMinute_22 : decode cX0_passMinute 22 = .ok (.iconst 1, 1) := by decide +kernel
theorem dX0_passMinute_23 : decode cX0_passMinute 23 = .ok (.aload_n 0, 1) := by decide +kernel
theorem dX0_passMinute_24 : decode cX0_passMinute 24 = .ok (.getfield 43, 3) := by decide +kernel
theorem dX0_passMinute_27 : decode cX0_passMinute 27 = .ok (.bipush 10, 2) := by decide +kernel
theorem dX0_passMinute_29 : decode cX0_passMinute 29 = .ok (.idiv, 1) := by decide +kernel
theorem dX0_passMinute_30 : decode cX0_passMinute 30 = .ok (.invokestatic 101, 3) := by decide +kernel
theorem dX0_passMinute_33 : decode cX0_passMinute 33 = .ok (.istore 4, 2) := by decide +kernel
theorem dX0_passMinute_35 : decode cX0_passMinute 35 = .ok (.aload_n 0, 1) := by decide +kernel
theorem dX0_passMinute_36 : decode cX0_passMinute 36 = .ok (.iconst 0, 1) := by decide +kernel
theorem dX0_passMinute_37 : decode cX0_passMinute 37 = .ok (.sipush 200, 3) := by decide +kernel
theorem dX0_passMinute_40 : decode cX0_passMinute 40 = .ok (.aload_n 0, 1) := by decide +kernel
theorem dX0_passMinute_41 : decode cX0_passMinute 41 = .ok (.getfield 43, 3) := by decide +kernel
theorem dX0_passMinute_44 : decode cX0_passMinute 44 = .ok (.iload_n 3, 1) := by decide +kernel
theorem dX0_passMinute_45 : decode cX0_passMinute 45 = .ok (.iadd, 1) := by decide +kernel
theorem dX0_passMinute_46 : decode cX0_passMinute 46 = .ok (.iload 4, 2) := by decide +kernel
theorem dX0_passMinute_48 : decode cX0_passMinute 48 = .ok (.isub, 1) := by decide +kernel
theorem dX0_passMinute_49 : decode cX0_passMinute 49 = .ok (.invokestatic 107, 3) := by decide +kernel
theorem dX0_passMinute_52 : decode cX0_passMinute 52 = .ok (.invokestatic 101, 3) := by decide +kernel
theorem dX0_passMinute_55 : decode cX0_passMinute 55 = .ok (.putfield 43, 3) := by decide +kernel
theorem dX0_passMinute_58 : decode cX0_passMinute 58 = .ok (.aload_n 0, 1) := by decide +kernel
theorem dX0_passMinute_59 : decode cX0_passMinute 59 = .ok (.ldc 110, 2) := by decide +kernel
theorem dX0_passMinute_61 : decode cX0_passMinute 61 = .ok (.aload_n 0, 1) := by decide +kernel
theorem dX0_passMinute_62 : decode cX0_passMinute 62 = .ok (.getfield 46, 3) := by decide +kernel
theorem dX0_passMinute_65 : decode cX0_passMinute 65 = .ok (.aload_n 0, 1) := by decide +kernel
theorem dX0_passMinute_66 : decode cX0_passMinute 66 = .ok (.getfield 43, 3) := by decide +kernel
theorem dX0_passMinute_69 : decode cX0_passMinute 69 = .ok (.iadd, 1) := by decide +kernel
theorem dX0_passMinute_70 : decode cX0_passMinute 70 = .ok (.invokestatic 107, 3) := by decide +kernel
theorem dX0_passMinute_73 : decode cX0_passMinute 73 = .ok (.putfield 46, 3) := by decide +kernel
theorem dX0_passMinute_76 : decode cX0_passMinute 76 = .ok (.aload_n 0, 1) := by decide +kernel
theorem dX0_passMinute_77 : decode cX0_passMinute 77 = .ok (.invokevirtual 111, 3) := by decide +kernel
theorem dX0_passMinute_80 : decode cX0_passMinute 80 = .ok (.aload_n 0, 1) := by decide +kernel
theorem dX0_passMinute_81 : decode cX0_passMinute 81 = .ok (.invokevirtual 114, 3) := by decide +kernel
theorem dX0_passMinute_84 : decode cX0_passMinute 84 = .ok (.aload_n 0, 1) := by decide +kernel
theorem dX0_passMinute_85 : decode cX0_passMinute 85 = .ok (.dup, 1) := by decide +kernel
theorem dX0_passMinute_86 : decode cX0_passMinute 86 = .ok (.getfield 37, 3) := by decide +kernel
theorem dX0_passMinute_89 : decode cX0_passMinute 89 = .ok (.iconst 1, 1) := by decide +kernel
theorem dX0_passMinute_90 : decode cX0_passMinute 90 = .ok (.iadd, 1) := by decide +kernel
theorem dX0_passMinute_91 : decode cX0_passMinute 91 = .ok (.putfield 37, 3) := by decide +kernel
theorem dX0_passMinute_94 : decode cX0_passMinute 94 = .ok (.return_, 1) := by decide +kernel
theorem dX0_tryGrips_0 : decode cX0_tryGrips 0 = .ok (.iconst 0, 1) := by decide +kernel
theorem dX0_tryGrips_1 : decode cX0_tryGrips 1 = .ok (.istore_n 1, 1) := by decide +kernel
theorem dX0_tryGrips_2 : decode cX0_tryGrips 2 = .ok (.iload_n 1, 1) := by decide +kernel
theorem dX0_tryGrips_3 : decode cX0_tryGrips 3 = .ok (.aload_n 0, 1) := by decide +kernel
theorem dX0_tryGrips_4 : decode cX0_tryGrips 4 = .ok (.getfield 58, 3) := by decide +kernel
theorem dX0_tryGrips_7 : decode cX0_tryGrips 7 = .ok (.if_icmp .ge 89, 3) := by decide +kernel
theorem dX0_tryGrips_10 : decode cX0_tryGrips 10 = .ok (.aload_n 0, 1) := by decide +kernel
theorem dX0_tryGrips_11 : decode cX0_tryGrips 11 = .ok (.getfield 31, 3) := by decide +kernel
theorem dX0_tryGrips_14 : decode cX0_tryGrips 14 = .ok (.iload_n 1, 1) := by decide +kernel
theorem dX0_tryGrips_15 : decode cX0_tryGrips 15 = .ok (.iaload, 1) := by decide +kernel
theorem dX0_tryGrips_16 : decode cX0_tryGrips 16 = .ok (.iconst 1, 1) := by decide +kernel
theorem dX0_tryGrips_17 : decode cX0_tryGrips 17 = .ok (.if_icmp .ne 73, 3) := by decide +kernel
theorem dX0_tryGrips_20 : decode cX0_tryGrips 20 = .ok (.aload_n 0, 1) := by decide +kernel
theorem dX0_tryGrips_21 : decode cX0_tryGrips 21 = .ok (.getfield 28, 3) := by decide +kernel
theorem dX0_tryGrips_24 : decode cX0_tryGrips 24 = .ok (.iload_n 1, 1) := by decide +kernel
theorem dX0_tryGrips_25 : decode cX0_tryGrips 25 = .ok (.iaload, 1) := by decide +kernel
theorem dX0_tryGrips_26 : decode cX0_tryGrips 26 = .ok (.aload_n 0, 1) := by decide +kernel
theorem dX0_tryGrips_27 : decode cX0_tryGrips 27 = .ok (.getfield 43, 3) := by decide +kernel
theorem dX0_tryGrips_30 : decode cX0_tryGrips 30 = .ok (.if_icmp .ge 33, 3) := by decide +kernel
theorem dX0_tryGrips_33 : decode cX0_tryGrips 33 = .ok (.aload_n 0, 1) := by decide +kernel
theorem dX0_tryGrips_34 : decode cX0_tryGrips 34 = .ok (.getfield 31, 3) := by decide +kernel
theorem dX0_tryGrips_37 : decode cX0_tryGrips 37 = .ok (.iload_n 1, 1) := by decide +kernel
theorem dX0_tryGrips_38 : decode cX0_tryGrips 38 = .ok (.iconst 0, 1) := by decide +kernel
theorem dX0_tryGrips_39 : decode cX0_tryGrips 39 = .ok (.iastore, 1) := by decide +kernel
theorem dX0_tryGrips_40 : decode cX0_tryGrips 40 = .ok (.aload_n 0, 1) := by decide +kernel
theorem dX0_tryGrips_41 : decode cX0_tryGrips 41 = .ok (.getfield 34, 3) := by decide +kernel
theorem dX0_tryGrips_44 : decode cX0_tryGrips 44 = .ok (.iload_n 1, 1) := by decide +kernel
theorem dX0_tryGrips_45 : decode cX0_tryGrips 45 = .ok (.sipush 9999, 3) := by decide +kernel
theorem dX0_tryGrips_48 : decode cX0_tryGrips 48 = .ok (.aload_n 0, 1) := by decide +kernel
theorem dX0_tryGrips_49 : decode cX0_tryGrips 49 = .ok (.getfield 34, 3) := by decide +kernel
theorem dX0_tryGrips_52 : decode cX0_tryGrips 52 = .ok (.iload_n 1, 1) := by decide +kernel
theorem dX0_tryGrips_53 : decode cX0_tryGrips 53 = .ok (.iaload, 1) := by decide +kernel
theorem dX0_tryGrips_54 : decode cX0_tryGrips 54 = .ok (.iconst 1, 1) := by decide +kernel
theorem dX0_tryGrips_55 : decode cX0_tryGrips 55 = .ok (.iadd, 1) := by decide +kernel
theorem dX0_tryGrips_56 : decode cX0_tryGrips 56 = .ok (.invokestatic 107, 3) := by decide +kernel
theorem dX0_tryGrips_59 : decode cX0_tryGrips 59 = .ok (.iastore, 1) := by decide +kernel
theorem dX0_tryGrips_60 : decode cX0_tryGrips 60 = .ok (.goto 30, 3) := by decide +kernel
theorem dX0_tryGrips_63 : decode cX0_tryGrips 63 = .ok (.aload_n 0, 1) := by decide +kernel
theorem dX0_tryGrips_64 : decode cX0_tryGrips 64 = .ok (.getfield 43, 3) := by decide +kernel
theorem dX0_tryGrips_67 : decode cX0_tryGrips 67 = .ok (.bipush 30, 2) := by decide +kernel
theorem dX0_tryGrips_69 : decode cX0_tryGrips 69 = .ok (.if_icmp .le 21, 3) := by decide +kernel
theorem dX0_tryGrips_72 : decode cX0_tryGrips 72 = .ok (.aload_n 0, 1) := by decide +kernel
theorem dX0_tryGrips_73 : decode cX0_tryGrips 73 = .ok (.getfield 28, 3) := by decide +kernel
theorem dX0_tryGrips_76 : decode cX0_tryGrips 76 = .ok (.iload_n 1, 1) := by decide +kernel
theorem dX0_tryGrips_77 : decode cX0_tryGrips 77 = .ok (.iconst 0, 1) := by decide +kernel
theorem dX0_tryGrips_78 : decode cX0_tryGrips 78 = .ok (.aload_n 0, 1) := by decide +kernel
theorem dX0_tryGrips_79 : decode cX0_tryGrips 79 = .ok (.getfield 28, 3) := by decide +kernel
theorem dX0_tryGrips_82 : decode cX0_tryGrips 82 = .ok (.iload_n 1, 1) := by decide +kernel
theorem dX0_tryGrips_83 : decode cX0_tryGrips 83 = .ok (.iaload, 1) := by decide +kernel
theorem dX0_tryGrips_84 : decode cX0_tryGrips 84 = .ok (.iconst 1, 1) := by decide +kernel
theorem dX0_tryGrips_85 : decode cX0_tryGrips 85 = .ok (.isub, 1) := by decide +kernel
theorem dX0_tryGrips_86 : decode cX0_tryGrips 86 = .ok (.invokestatic 101, 3) := by decide +kernel
theorem dX0_tryGrips_89 : decode cX0_tryGrips 89 = .ok (.iastore, 1) := by decide +kernel
theorem dX0_tryGrips_90 : decode cX0_tryGrips 90 = .ok (.iinc 1 1, 3) := by decide +kernel
theorem dX0_tryGrips_93 : decode cX0_tryGrips 93 = .ok (.goto (-91), 3) := by decide +kernel
theorem dX0_tryGrips_96 : decode cX0_tryGrips 96 = .ok (.return_, 1) := by decide +kernel
set_option maxRecDepth 20000 in
theorem ggX0_letSpeak_X0_outCount : GoodIn wsX0_letSpeak wsX0_outCount := goodIn_r _ [17, 1, 2, 39, 40, 41, 42, 43, 44, 45, 46, 47, 48, 49, 50, 51, 52] (by decide +kernel) (by decide +kernel)
set_option maxRecDepth 20000 in
theorem gX0_letSpeak_X0_outCount : GoodIn wsX0_letSpeak (wsV RX0 82 RX0 yX0_outCount wsX0_outCount) := goodIn_app (goodIn_of _ (by decide +kernel)) ggX0_letSpeak_X0_outCount
set_option maxRecDepth 20000 in
theorem ggX0_letSpeak_X0_isNight : GoodIn wsX0_letSpeak wsX0_isNight := goodIn_r _ [21, 22, 23, 24, 16, 25, 26, 39, 40, 41, 42, 43, 44, 45, 46, 47, 48, 49, 50, 51, 52] (by decide +kernel) (by decide +kernel)
set_option maxRecDepth 20000 in
theorem gX0_letSpeak_X0_isNight : GoodIn wsX0_letSpeak (wsV RX0 85 RX0 yX0_isNight wsX0_isNight) := goodIn_app (goodIn_of _ (by decide +kernel)) ggX0_letSpeak_X0_isNight
set_option maxRecDepth 20000 in
theorem ggX0_letSpeak_X0_speaksNow : GoodIn wsX0_letSpeak wsX0_speaksNow := goodIn_r _ [30, 4, 9, 2, 31, 32, 33, 34, 35, 39, 40, 41, 42, 43, 44, 45, 46, 47, 48, 49, 50, 51, 52] (by decide +kernel) (by decide +kernel)
set_option maxRecDepth 20000 in
theorem gX0_letSpeak_X0_speaksNow : GoodIn wsX0_letSpeak (wsV RX0 117 RX0 yX0_speaksNow wsX0_speaksNow) := goodIn_app (goodIn_of _ (by decide +kernel)) ggX0_letSpeak_X0_speaksNow
set_option maxRecDepth 20000 in
theorem ggX0_letSpeak_X1_tells : GoodIn wsX0_letSpeak wsX1_tells := goodIn_r _ [38] (by decide +kernel) (by decide +kernel)
set_option maxRecDepth 20000 in
theorem gX0_letSpeak_X1_tells : GoodIn wsX0_letSpeak (va_wsS RX0 121 yX1_tells wsX1_tells) := goodIn_app (goodIn_of _ (by decide +kernel)) ggX0_letSpeak_X1_tells
theorem dX0_letSpeak_0 : decode cX0_letSpeak 0 = .ok (.aload_n 0, 1) := by decide +kernel
theorem dX0_letSpeak_1 : decode cX0_letSpeak 1 = .ok (.invokevirtual 82, 3) := by decide +kernel
theorem dX0_letSpeak_4 : decode cX0_letSpeak 4 = .ok (.istore_n 1, 1) := by decide +kernel
theorem dX0_letSpeak_5 : decode cX0_letSpeak 5 = .ok (.aload_n 0, 1) := by decide +kernel
theorem dX0_letSpeak_6 : decode cX0_letSpeak 6 = .ok (.invokevirtual 85, 3) := by decide +kernel
theorem dX0_letSpeak_9 : decode cX0_letSpeak 9 = .ok (.istore_n 2, 1) := by decide +kernel
theorem dX0_letSpeak_10 : decode cX0_letSpeak 10 = .ok (.iconst 0, 1) := by decide +kernel
theorem dX0_letSpeak_11 : decode cX0_letSpeak 11 = .ok (.istore_n 3, 1) := by decide +kernel
theorem dX0_letSpeak_12 : decode cX0_letSpeak 12 = .ok (.iload_n 3, 1) := by decide +kernel
theorem dX0_letSpeak_13 : decode cX0_letSpeak 13 = .ok (.aload_n 0, 1) := by decide +kernel
theorem dX0_letSpeak_14 : decode cX0_letSpeak 14 = .ok (.getfield 49, 3) := by decide +kernel
theorem dX0_letSpeak_17 : decode cX0_letSpeak 17 = .ok (.if_icmp .ge 85, 3) := by decide +kernel
theorem dX0_letSpeak_20 : decode cX0_letSpeak 20 = .ok (.aload_n 0, 1) := by decide +kernel
theorem dX0_letSpeak_21 : decode cX0_letSpeak 21 = .ok (.getfield 19, 3) := by decide +kernel
theorem dX0_letSpeak_24 : decode cX0_letSpeak 24 = .ok (.iload_n 3, 1) := by decide +kernel
theorem dX0_letSpeak_25 : decode cX0_letSpeak 25 = .ok (.iaload, 1) := by decide +kernel
theorem dX0_letSpeak_26 : decode cX0_letSpeak 26 = .ok (.iconst 1, 1) := by decide +kernel
theorem dX0_letSpeak_27 : decode cX0_letSpeak 27 = .ok (.if_icmp .ne 69, 3) := by decide +kernel
theorem dX0_letSpeak_30 : decode cX0_letSpeak 30 = .ok (.aload_n 0, 1) := by decide +kernel
theorem dX0_letSpeak_31 : decode cX0_letSpeak 31 = .ok (.iload_n 3, 1) := by decide +kernel
theorem dX0_letSpeak_32 : decode cX0_letSpeak 32 = .ok (.iload_n 1, 1) := by decide +kernel
theorem dX0_letSpeak_33 : decode cX0_letSpeak 33 = .ok (.iload_n 2, 1) := by decide +kernel
theorem dX0_letSpeak_34 : decode cX0_letSpeak 34 = .ok (.invokevirtual 117, 3) := by decide +kernel
theorem dX0_letSpeak_37 : decode cX0_letSpeak 37 = .ok (.ifCond .eq 39, 3) := by decide +kernel
theorem dX0_letSpeak_40 : decode cX0_letSpeak 40 = .ok (.aload_n 0, 1) := by decide +kernel
theorem dX0_letSpeak_41 : decode cX0_letSpeak 41 = .ok (.getfield 22, 3) := by decide +kernel
theorem dX0_letSpeak_44 : decode cX0_letSpeak 44 = .ok (.iload_n 3, 1) := by decide +kernel
theorem dX0_letSpeak_45 : decode cX0_letSpeak 45 = .ok (.iconst 0, 1) := by decide +kernel
theorem dX0_letSpeak_46 : decode cX0_letSpeak 46 = .ok (.aload_n 0, 1) := by decide +kernel
theorem dX0_letSpeak_47 : decode cX0_letSpeak 47 = .ok (.getfield 22, 3) := by decide +kernel
theorem dX0_letSpeak_50 : decode cX0_letSpeak 50 = .ok (.iload_n 3, 1) := by decide +kernel
theorem dX0_letSpeak_51 : decode cX0_letSpeak 51 = .ok (.iaload, 1) := by decide +kernel
theorem dX0_letSpeak_52 : decode cX0_letSpeak 52 = .ok (.aload_n 0, 1) := by decide +kernel
theorem dX0_letSpeak_53 : decode cX0_letSpeak 53 = .ok (.getfield 15, 3) := by decide +kernel
theorem dX0_letSpeak_56 : decode cX0_letSpeak 56 = .ok (.iload_n 3, 1) := by decide +kernel
theorem dX0_letSpeak_57 : decode cX0_letSpeak 57 = .ok (.iaload, 1) := by decide +kernel
theorem dX0_letSpeak_58 : decode cX0_letSpeak 58 = .ok (.invokestatic 121, 3) := by decide +kernel
theorem dX0_letSpeak_61 : decode cX0_letSpeak 61 = .ok (.isub, 1) := by decide +kernel
theorem dX0_letSpeak_62 : decode cX0_letSpeak 62 = .ok (.invokestatic 101, 3) := by decide +kernel
theorem dX0_letSpeak_65 : decode cX0_letSpeak 65 = .ok (.iastore, 1) := by decide +kernel
theorem dX0_letSpeak_66 : decode cX0_letSpeak 66 = .ok (.aload_n 0, 1) := by decide +kernel
theorem dX0_letSpeak_67 : decode cX0_letSpeak 67 = .ok (.getfield 25, 3) := by decide +kernel
theorem dX0_letSpeak_70 : decode cX0_letSpeak 70 = .ok (.iload_n 3, 1) := by decide +kernel
theorem dX0_letSpeak_71 : decode cX0_letSpeak 71 = .ok (.iconst 0, 1) := by decide +kernel
theorem dX0_letSpeak_72 : decode cX0_letSpeak 72 = .ok (.iastore, 1) := by decide +kernel
theorem dX0_letSpeak_73 : decode cX0_letSpeak 73 = .ok (.goto 23, 3) := by decide +kernel
theorem dX0_letSpeak_76 : decode cX0_letSpeak 76 = .ok (.aload_n 0, 1) := by decide +kernel
theorem dX0_letSpeak_77 : decode cX0_letSpeak 77 = .ok (.getfield 25, 3) := by decide +kernel
theorem dX0_letSpeak_80 : decode cX0_letSpeak 80 = .ok (.iload_n 3, 1) := by decide +kernel
theorem dX0_letSpeak_81 : decode cX0_letSpeak 81 = .ok (.sipush 999, 3) := by decide +kernel
theorem dX0_letSpeak_84 : decode cX0_letSpeak 84 = .ok (.aload_n 0, 1) := by decide +kernel
theorem dX0_letSpeak_85 : decode cX0_letSpeak 85 = .ok (.getfield 25, 3) := by decide +kernel
theorem dX0_letSpeak_88 : decode cX0_letSpeak 88 = .ok (.iload_n 3, 1) := by decide +kernel
theorem dX0_letSpeak_89 : decode cX0_letSpeak 89 = .ok (.iaload, 1) := by decide +kernel
theorem dX0_letSpeak_90 : decode cX0_letSpeak 90 = .ok (.iconst 1, 1) := by decide +kernel
theorem dX0_letSpeak_91 : decode cX0_letSpeak 91 = .ok (.iadd, 1) := by decide +kernel
theorem dX0_letSpeak_92 : decode cX0_letSpeak 92 = .ok (.invokestatic 107, 3) := by decide +kernel
theorem dX0_letSpeak_95 : decode cX0_letSpeak 95 = .ok (.iastore, 1) := by decide +kernel
theorem dX0_letSpeak_96 : decode cX0_letSpeak 96 = .ok (.iinc 3 1, 3) := by decide +kernel
theorem dX0_letSpeak_99 : decode cX0_letSpeak 99 = .ok (.goto (-87), 3) := by decide +kernel
theorem dX0_letSpeak_102 : decode cX0_letSpeak 102 = .ok (.return_, 1) := by decide +kernel
theorem dX1_isKind_0 : decode cX1_isKind 0 = .ok (.iload_n 0, 1) := by decide +kernel
theorem dX1_isKind_1 : decode cX1_isKind 1 = .ok (.ifCond .lt 13, 3) := by decide +kernel
theorem dX1_isKind_4 : decode cX1_isKind 4 = .ok (.iload_n 0, 1) := by decide +kernel
theorem dX1_isKind_5 : decode cX1_isKind 5 = .ok (.bipush 6, 2) := by decide +kernel
theorem dX1_isKind_7 : decode cX1_isKind 7 = .ok (.if_icmp .ge 7, 3) := by decide +kernel
theorem dX1_isKind_10 : decode cX1_isKind 10 = .ok (.iconst 1, 1) := by decide +kernel
theorem dX1_isKind_11 : decode cX1_isKind 11 = .ok (.goto 4, 3) := by decide +kernel
theorem dX1_isKind_14 : decode cX1_isKind 14 = .ok (.iconst 0, 1) := by decide +kernel
theorem dX1_isKind_15 : decode cX1_isKind 15 = .ok (.ireturn, 1) := by decide +kernel
set_option maxRecDepth 20000 in
theorem ggX1_isUnder_X1_kindAbove : GoodIn wsX1_isUnder wsX1_kindAbove := goodIn_r _ [4] (by decide +kernel) (by decide +kernel)
set_option maxRecDepth 20000 in
theorem gX1_isUnder_X1_kindAbove : GoodIn wsX1_isUnder (va_wsS RX1 9 yX1_kindAbove wsX1_kindAbove) := goodIn_app (goodIn_of _ (by decide +kernel)) ggX1_isUnder_X1_kindAbove
theorem dX1_isUnder_0 : decode cX1_isUnder 0 = .ok (.iload_n 0, 1) := by decide +kernel
theorem dX1_isUnder_1 : decode cX1_isUnder 1 = .ok (.iload_n 1, 1) := by decide +kernel
theorem dX1_isUnder_2 : decode cX1_isUnder 2 = .ok (.if_icmp .eq 15, 3) := by decide +kernel
theorem dX1_isUnder_5 : decode cX1_isUnder 5 = .ok (.iload_n 1, 1) := by decide +kernel
theorem dX1_isUnder_6 : decode cX1_isUnder 6 = .ok (.ifCond .eq 11, 3) := by decide +kernel
theorem dX1_isUnder_9 : decode cX1_isUnder 9 = .ok (.iload_n 0, 1) := by decide +kernel
theorem dX1_isUnder_10 : decode cX1_isUnder 10 = .ok (.invokestatic 9, 3) := by decide +kernel
theorem dX1_isUnder_13 : decode cX1_isUnder 13 = .ok (.iload_n 1, 1) := by decide +kernel
theorem dX1_isUnder_14 : decode cX1_isUnder 14 = .ok (.if_icmp .ne 7, 3) := by decide +kernel
theorem dX1_isUnder_17 : decode cX1_isUnder 17 = .ok (.iconst 1, 1) := by decide +kernel
theorem dX1_isUnder_18 : decode cX1_isUnder 18 = .ok (.goto 4, 3) := by decide +kernel
theorem dX1_isUnder_21 : decode cX1_isUnder 21 = .ok (.iconst 0, 1) := by decide +kernel
theorem dX1_isUnder_22 : decode cX1_isUnder 22 = .ok (.ireturn, 1) := by decide +kernel
theorem dX1_kindAbove_0 : decode cX1_kindAbove 0 = .ok (.iload_n 0, 1) := by decide +kernel
theorem dX1_kindAbove_1 : decode cX1_kindAbove 1 = .ok (.lookupswitch 31 #[(4, 27), (5, 29)], 27) := by decide +kernel
theorem dX1_kindAbove_28 : decode cX1_kindAbove 28 = .ok (.iconst 1, 1) := by decide +kernel
theorem dX1_kindAbove_29 : decode cX1_kindAbove 29 = .ok (.ireturn, 1) := by decide +kernel
theorem dX1_kindAbove_30 : decode cX1_kindAbove 30 = .ok (.iconst 2, 1) := by decide +kernel
theorem dX1_kindAbove_31 : decode cX1_kindAbove 31 = .ok (.ireturn, 1) := by decide +kernel
theorem dX1_kindAbove_32 : decode cX1_kindAbove 32 = .ok (.iconst 0, 1) := by decide +kernel
theorem dX1_kindAbove_33 : decode cX1_kindAbove 33 = .ok (.ireturn, 1) := by decide +kernel
theorem dX1_keeps_0 : decode cX1_keeps 0 = .ok (.iload_n 1, 1) := by decide +kernel
theorem dX1_keeps_1 : decode cX1_keeps 1 = .ok (.iconst 5, 1) := by decide +kernel
theorem dX1_keeps_2 : decode cX1_keeps 2 = .ok (.idiv, 1) := by decide +kernel
theorem dX1_keeps_3 : decode cX1_keeps 3 = .ok (.iload_n 2, 1) := by decide +kernel
theorem dX1_keeps_4 : decode cX1_keeps 4 = .ok (.iadd, 1) := by decide +kernel
theorem dX1_keeps_5 : decode cX1_keeps 5 = .ok (.istore 5, 2) := by decide +kernel
theorem dX1_keeps_7 : decode cX1_keeps 7 = .ok (.iload_n 1, 1) := by decide +kernel
theorem dX1_keeps_8 : decode cX1_keeps 8 = .ok (.iconst 2, 1) := by decide +kernel
theorem dX1_keeps_9 : decode cX1_keeps 9 = .ok (.idiv, 1) := by decide +kernel
theorem dX1_keeps_10 : decode cX1_keeps 10 = .ok (.iload_n 2, 1) := by decide +kernel
theorem dX1_keeps_11 : decode cX1_keeps 11 = .ok (.iadd, 1) := by decide +kernel
theorem dX1_keeps_12 : decode cX1_keeps 12 = .ok (.istore 6, 2) := by decide +kernel
theorem dX1_keeps_14 : decode cX1_keeps 14 = .ok (.iload_n 3, 1) := by decide +kernel
theorem dX1_keeps_15 : decode cX1_keeps 15 = .ok (.ifCond .ne 7, 3) := by decide +kernel
theorem dX1_keeps_18 : decode cX1_keeps 18 = .ok (.iconst 0, 1) := by decide +kernel
theorem dX1_keeps_19 : decode cX1_keeps 19 = .ok (.goto 5, 3) := by decide +kernel
theorem dX1_keeps_22 : decode cX1_keeps 22 = .ok (.iload 5, 2) := by decide +kernel
theorem dX1_keeps_24 : decode cX1_keeps 24 = .ok (.istore 7, 2) := by decide +kernel
theorem dX1_keeps_26 : decode cX1_keeps 26 = .ok (.iload_n 0, 1) := by decide +kernel
theorem dX1_keeps_27 : decode cX1_keeps 27 = .ok (.tableswitch 66 1 5 #[33, 36, 39, 43, 59], 33) := by decide +kernel
theorem dX1_keeps_60 : decode cX1_keeps 60 = .ok (.iload 6, 2) := by decide +kernel
theorem dX1_keeps_62 : decode cX1_keeps 62 = .ok (.ireturn, 1) := by decide +kernel
theorem dX1_keeps_63 : decode cX1_keeps 63 = .ok (.iload 7, 2) := by decide +kernel
theorem dX1_keeps_65 : decode cX1_keeps 65 = .ok (.ireturn, 1) := by decide +kernel
theorem dX1_keeps_66 : decode cX1_keeps 66 = .ok (.iconst 2, 1) := by decide +kernel
theorem dX1_keeps_67 : decode cX1_keeps 67 = .ok (.iload_n 1, 1) := by decide +kernel
theorem dX1_keeps_68 : decode cX1_keeps 68 = .ok (.imul, 1) := by decide +kernel
theorem dX1_keeps_69 : decode cX1_keeps 69 = .ok (.ireturn, 1) := by decide +kernel
theorem dX1_keeps_70 : decode cX1_keeps 70 = .ok (.iload 4, 2) := by decide +kernel
theorem dX1_keeps_72 : decode cX1_keeps 72 = .ok (.ifCond .eq 11, 3) := by decide +kernel
theorem dX1_keeps_75 : decode cX1_keeps 75 = .ok (.iload 6, 2) := by decide +kernel
theorem dX1_keeps_77 : decode cX1_keeps 77 = .ok (.bipush 10, 2) := by decide +kernel
theorem dX1_keeps_79 : decode cX1_keeps 79 = .ok (.iadd, 1) := by decide +kernel
theorem dX1_keeps_80 : decode cX1_keeps 80 = .ok (.goto 5, 3) := by decide +kernel
theorem dX1_keeps_83 : decode cX1_keeps 83 = .ok (.iload 6, 2) := by decide +kernel
theorem dX1_keeps_85 : decode cX1_keeps 85 = .ok (.ireturn, 1) := by decide +kernel
theorem dX1_keeps_86 : decode cX1_keeps 86 = .ok (.iload 7, 2) := by decide +kernel
theorem dX1_keeps_88 : decode cX1_keeps 88 = .ok (.iconst 3, 1) := by decide +kernel
theorem dX1_keeps_89 : decode cX1_keeps 89 = .ok (.iload_n 3, 1) := by decide +kernel
theorem dX1_keeps_90 : decode cX1_keeps 90 = .ok (.imul, 1) := by decide +kernel
theorem dX1_keeps_91 : decode cX1_keeps 91 = .ok (.iadd, 1) := by decide +kernel
theorem dX1_keeps_92 : decode cX1_keeps 92 = .ok (.ireturn, 1) := by decide +kernel
theorem dX1_keeps_93 : decode cX1_keeps 93 = .ok (.iload 5, 2) := by decide +kernel
theorem dX1_keeps_95 : decode cX1_keeps 95 = .ok (.ireturn, 1) := by decide +kernel
theorem dX1_speaks_0 : decode cX1_speaks 0 = .ok (.iload_n 1, 1) := by decide +kernel
theorem dX1_speaks_1 : decode cX1_speaks 1 = .ok (.bipush 15, 2) := by decide +kernel
theorem dX1_speaks_3 : decode cX1_speaks 3 = .ok (.if_icmp .lt 7, 3) := by decide +kernel
theorem dX1_speaks_6 : decode cX1_speaks 6 = .ok (.iconst 1, 1) := by decide +kernel
theorem dX1_speaks_7 : decode cX1_speaks 7 = .ok (.goto 4, 3) := by decide +kernel
theorem dX1_speaks_10 : decode cX1_speaks 10 = .ok (.iconst 0, 1) := by decide +kernel
theorem dX1_speaks_11 : decode cX1_speaks 11 = .ok (.istore 5, 2) := by decide +kernel
theorem dX1_speaks_13 : decode cX1_speaks 13 = .ok (.iload_n 1, 1) := by decide +kernel
theorem dX1_speaks_14 : decode cX1_speaks 14 = .ok (.iconst 3, 1) := by decide +kernel
theorem dX1_speaks_15 : decode cX1_speaks 15 = .ok (.if_icmp .lt 11, 3) := by decide +kernel
theorem dX1_speaks_18 : decode cX1_speaks 18 = .ok (.iload_n 2, 1) := by decide +kernel
theorem dX1_speaks_19 : decode cX1_speaks 19 = .ok (.ifCond .le 7, 3) := by decide +kernel
theorem dX1_speaks_22 : decode cX1_speaks 22 = .ok (.iconst 1, 1) := by decide +kernel
theorem dX1_speaks_23 : decode cX1_speaks 23 = .ok (.goto 4, 3) := by decide +kernel
theorem dX1_speaks_26 : decode cX1_speaks 26 = .ok (.iconst 0, 1) := by decide +kernel
theorem dX1_speaks_27 : decode cX1_speaks 27 = .ok (.istore 6, 2) := by decide +kernel
theorem dX1_speaks_29 : decode cX1_speaks 29 = .ok (.iload_n 0, 1) := by decide +kernel
theorem dX1_speaks_30 : decode cX1_speaks 30 = .ok (.tableswitch 75 1 5 #[34, 37, 40, 42, 57], 34) := by decide +kernel
theorem dX1_speaks_64 : decode cX1_speaks 64 = .ok (.iload 5, 2) := by decide +kernel
theorem dX1_speaks_66 : decode cX1_speaks 66 = .ok (.ireturn, 1) := by decide +kernel
theorem dX1_speaks_67 : decode cX1_speaks 67 = .ok (.iload 6, 2) := by decide +kernel
theorem dX1_speaks_69 : decode cX1_speaks 69 = .ok (.ireturn, 1) := by decide +kernel
theorem dX1_speaks_70 : decode cX1_speaks 70 = .ok (.iconst 0, 1) := by decide +kernel
theorem dX1_speaks_71 : decode cX1_speaks 71 = .ok (.ireturn, 1) := by decide +kernel
theorem dX1_speaks_72 : decode cX1_speaks 72 = .ok (.iload 5, 2) := by decide +kernel
theorem dX1_speaks_74 : decode cX1_speaks 74 = .ok (.ifCond .eq 11, 3) := by decide +kernel
theorem dX1_speaks_77 : decode cX1_speaks 77 = .ok (.iload_n 3, 1) := by decide +kernel
theorem dX1_speaks_78 : decode cX1_speaks 78 = .ok (.ifCond .ne 7, 3) := by decide +kernel
theorem dX1_speaks_81 : decode cX1_speaks 81 = .ok (.iconst 1, 1) := by decide +kernel
theorem dX1_speaks_82 : decode cX1_speaks 82 = .ok (.goto 4, 3) := by decide +kernel
theorem dX1_speaks_85 : decode cX1_speaks 85 = .ok (.iconst 0, 1) := by decide +kernel
theorem dX1_speaks_86 : decode cX1_speaks 86 = .ok (.ireturn, 1) := by decide +kernel
theorem dX1_speaks_87 : decode cX1_speaks 87 = .ok (.iload 6, 2) := by decide +kernel
theorem dX1_speaks_89 : decode cX1_speaks 89 = .ok (.ifCond .ne 10, 3) := by decide +kernel
theorem dX1_speaks_92 : decode cX1_speaks 92 = .ok (.iload 4, 2) := by decide +kernel
theorem dX1_speaks_94 : decode cX1_speaks 94 = .ok (.bipush 100, 2) := by decide +kernel
theorem dX1_speaks_96 : decode cX1_speaks 96 = .ok (.if_icmp .le 7, 3) := by decide +kernel
theorem dX1_speaks_99 : decode cX1_speaks 99 = .ok (.iconst 1, 1) := by decide +kernel
theorem dX1_speaks_100 : decode cX1_speaks 100 = .ok (.goto 4, 3) := by decide +kernel
theorem dX1_speaks_103 : decode cX1_speaks 103 = .ok (.iconst 0, 1) := by decide +kernel
theorem dX1_speaks_104 : decode cX1_speaks 104 = .ok (.ireturn, 1) := by decide +kernel
theorem dX1_speaks_105 : decode cX1_speaks 105 = .ok (.iload_n 1, 1) := by decide +kernel
theorem dX1_speaks_106 : decode cX1_speaks 106 = .ok (.bipush 9, 2) := by decide +kernel
theorem dX1_speaks_108 : decode cX1_speaks 108 = .ok (.if_icmp .lt 7, 3) := by decide +kernel
theorem dX1_speaks_111 : decode cX1_speaks 111 = .ok (.iconst 1, 1) := by decide +kernel
theorem dX1_speaks_112 : decode cX1_speaks 112 = .ok (.goto 4, 3) := by decide +kernel
theorem dX1_speaks_115 : decode cX1_speaks 115 = .ok (.iconst 0, 1) := by decide +kernel
theorem dX1_speaks_116 : decode cX1_speaks 116 = .ok (.ireturn, 1) := by decide +kernel
theorem dX1_tells_0 : decode cX1_tells 0 = .ok (.iconst 3, 1) := by decide +kernel
theorem dX1_tells_1 : decode cX1_tells 1 = .ok (.istore_n 1, 1) := by decide +kernel
theorem dX1_tells_2 : decode cX1_tells 2 = .ok (.iload_n 1, 1) := by decide +kernel
theorem dX1_tells_3 : decode cX1_tells 3 = .ok (.iconst 1, 1) := by decide +kernel
theorem dX1_tells_4 : decode cX1_tells 4 = .ok (.isub, 1) := by decide +kernel
theorem dX1_tells_5 : decode cX1_tells 5 = .ok (.istore_n 2, 1) := by decide +kernel
theorem dX1_tells_6 : decode cX1_tells 6 = .ok (.iconst 2, 1) := by decide +kernel
theorem dX1_tells_7 : decode cX1_tells 7 = .ok (.iload_n 1, 1) := by decide +kernel
theorem dX1_tells_8 : decode cX1_tells 8 = .ok (.imul, 1) := by decide +kernel
theorem dX1_tells_9 : decode cX1_tells 9 = .ok (.istore_n 3, 1) := by decide +kernel
theorem dX1_tells_10 : decode cX1_tells 10 = .ok (.iload_n 0, 1) := by decide +kernel
theorem dX1_tells_11 : decode cX1_tells 11 = .ok (.tableswitch 45 1 5 #[33, 35, 37, 39, 41], 33) := by decide +kernel
theorem dX1_tells_44 : decode cX1_tells 44 = .ok (.iload_n 2, 1) := by decide +kernel
theorem dX1_tells_45 : decode cX1_tells 45 = .ok (.ireturn, 1) := by decide +kernel
theorem dX1_tells_46 : decode cX1_tells 46 = .ok (.iload_n 3, 1) := by decide +kernel
theorem dX1_tells_47 : decode cX1_tells 47 = .ok (.ireturn, 1) := by decide +kernel
theorem dX1_tells_48 : decode cX1_tells 48 = .ok (.iconst 0, 1) := by decide +kernel
theorem dX1_tells_49 : decode cX1_tells 49 = .ok (.ireturn, 1) := by decide +kernel
theorem dX1_tells_50 : decode cX1_tells 50 = .ok (.iload_n 2, 1) := by decide +kernel
theorem dX1_tells_51 : decode cX1_tells 51 = .ok (.ireturn, 1) := by decide +kernel
theorem dX1_tells_52 : decode cX1_tells 52 = .ok (.iload_n 3, 1) := by decide +kernel
theorem dX1_tells_53 : decode cX1_tells 53 = .ok (.iconst 1, 1) := by decide +kernel
theorem dX1_tells_54 : decode cX1_tells 54 = .ok (.iadd, 1) := by decide +kernel
theorem dX1_tells_55 : decode cX1_tells 55 = .ok (.ireturn, 1) := by decide +kernel
theorem dX1_tells_56 : decode cX1_tells 56 = .ok (.iload_n 1, 1) := by decide +kernel
theorem dX1_tells_57 : decode cX1_tells 57 = .ok (.ireturn, 1) := by decide +kernel
theorem dX2_init_0 : decode cX2_init 0 = .ok (.aload_n 0, 1) := by decide +kernel
theorem dX2_init_1 : decode cX2_init 1 = .ok (.invokespecial 1, 3) := by decide +kernel
theorem dX2_init_4 : decode cX2_init 4 = .ok (.aload_n 0, 1) := by decide +kernel
theorem dX2_init_5 : decode cX2_init 5 = .ok (.iconst 4, 1) := by decide +kernel
theorem dX2_init_6 : decode cX2_init 6 = .ok (.newarray .int, 2) := by decide +kernel
theorem dX2_init_8 : decode cX2_init 8 = .ok (.putfield 9, 3) := by decide +kernel
theorem dX2_init_11 : decode cX2_init 11 = .ok (.aload_n 0, 1) := by decide +kernel
theorem dX2_init_12 : decode cX2_init 12 = .ok (.iconst 4, 1) := by decide +kernel
theorem dX2_init_13 : decode cX2_init 13 = .ok (.newarray .int, 2) := by decide +kernel
theorem dX2_init_15 : decode cX2_init 15 = .ok (.putfield 13, 3) := by decide +kernel
theorem dX2_init_18 : decode cX2_init 18 = .ok (.aload_n 0, 1) := by decide +kernel
theorem dX2_init_19 : decode cX2_init 19 = .ok (.sipush 160, 3) := by decide +kernel
theorem dX2_init_22 : decode cX2_init 22 = .ok (.newarray .long, 2) := by decide +kernel
theorem dX2_init_24 : decode cX2_init 24 = .ok (.putfield 16, 3) := by decide +kernel
theorem dX2_init_27 : decode cX2_init 27 = .ok (.return_, 1) := by decide +kernel
theorem dX2_isSheet_0 : decode cX2_isSheet 0 = .ok (.iload_n 1, 1) := by decide +kernel
theorem dX2_isSheet_1 : decode cX2_isSheet 1 = .ok (.ifCond .lt 12, 3) := by decide +kernel
theorem dX2_isSheet_4 : decode cX2_isSheet 4 = .ok (.iload_n 1, 1) := by decide +kernel
theorem dX2_isSheet_5 : decode cX2_isSheet 5 = .ok (.iconst 4, 1) := by decide +kernel
theorem dX2_isSheet_6 : decode cX2_isSheet 6 = .ok (.if_icmp .ge 7, 3) := by decide +kernel
theorem dX2_isSheet_9 : decode cX2_isSheet 9 = .ok (.iconst 1, 1) := by decide +kernel
theorem dX2_isSheet_10 : decode cX2_isSheet 10 = .ok (.goto 4, 3) := by decide +kernel
theorem dX2_isSheet_13 : decode cX2_isSheet 13 = .ok (.iconst 0, 1) := by decide +kernel
theorem dX2_isSheet_14 : decode cX2_isSheet 14 = .ok (.ireturn, 1) := by decide +kernel
theorem dX2_isMissing_0 : decode cX2_isMissing 0 = .ok (.aload_n 0, 1) := by decide +kernel
theorem dX2_isMissing_1 : decode cX2_isMissing 1 = .ok (.getfield 9, 3) := by decide +kernel
theorem dX2_isMissing_4 : decode cX2_isMissing 4 = .ok (.iload_n 1, 1) := by decide +kernel
theorem dX2_isMissing_5 : decode cX2_isMissing 5 = .ok (.iaload, 1) := by decide +kernel
theorem dX2_isMissing_6 : decode cX2_isMissing 6 = .ok (.ifCond .ne 7, 3) := by decide +kernel
theorem dX2_isMissing_9 : decode cX2_isMissing 9 = .ok (.iconst 1, 1) := by decide +kernel
theorem dX2_isMissing_10 : decode cX2_isMissing 10 = .ok (.goto 4, 3) := by decide +kernel
theorem dX2_isMissing_13 : decode cX2_isMissing 13 = .ok (.iconst 0, 1) := by decide +kernel
theorem dX2_isMissing_14 : decode cX2_isMissing 14 = .ok (.ireturn, 1) := by decide +kernel
theorem dX2_hasRange_0 : decode cX2_hasRange 0 = .ok (.iload_n 2, 1) := by decide +kernel
theorem dX2_hasRange_1 : decode cX2_hasRange 1 = .ok (.ifCond .lt 33, 3) := by decide +kernel
theorem dX2_hasRange_4 : decode cX2_hasRange 4 = .ok (.iload_n 3, 1) := by decide +kernel
theorem dX2_hasRange_5 : decode cX2_hasRange 5 = .ok (.ifCond .lt 29, 3) := by decide +kernel
theorem dX2_hasRange_8 : decode cX2_hasRange 8 = .ok (.iload_n 3, 1) := by decide +kernel
theorem dX2_hasRange_9 : decode cX2_hasRange 9 = .ok (.aload_n 0, 1) := by decide +kernel
theorem dX2_hasRange_10 : decode cX2_hasRange 10 = .ok (.getfield 13, 3) := by decide +kernel
theorem dX2_hasRange_13 : decode cX2_hasRange 13 = .ok (.iload_n 1, 1) := by decide +kernel
theorem dX2_hasRange_14 : decode cX2_hasRange 14 = .ok (.iaload, 1) := by decide +kernel
theorem dX2_hasRange_15 : decode cX2_hasRange 15 = .ok (.if_icmp .gt 19, 3) := by decide +kernel
theorem dX2_hasRange_18 : decode cX2_hasRange 18 = .ok (.iload_n 2, 1) := by decide +kernel
theorem dX2_hasRange_19 : decode cX2_hasRange 19 = .ok (.aload_n 0, 1) := by decide +kernel
theorem dX2_hasRange_20 : decode cX2_hasRange 20 = .ok (.getfield 13, 3) := by decide +kernel
theorem dX2_hasRange_23 : decode cX2_hasRange 23 = .ok (.iload_n 1, 1) := by decide +kernel
theorem dX2_hasRange_24 : decode cX2_hasRange 24 = .ok (.iaload, 1) := by decide +kernel
theorem dX2_hasRange_25 : decode cX2_hasRange 25 = .ok (.iload_n 3, 1) := by decide +kernel
theorem dX2_hasRange_26 : decode cX2_hasRange 26 = .ok (.isub, 1) := by decide +kernel
theorem dX2_hasRange_27 : decode cX2_hasRange 27 = .ok (.if_icmp .gt 7, 3) := by decide +kernel
theorem dX2_hasRange_30 : decode cX2_hasRange 30 = .ok (.iconst 1, 1) := by decide +kernel
theorem dX2_hasRange_31 : decode cX2_hasRange 31 = .ok (.goto 4, 3) := by decide +kernel
theorem dX2_hasRange_34 : decode cX2_hasRange 34 = .ok (.iconst 0, 1) := by decide +kernel
theorem dX2_hasRange_35 : decode cX2_hasRange 35 = .ok (.ireturn, 1) := by decide +kernel
theorem dX2_lay_0 : decode cX2_lay 0 = .ok (.aload_n 0, 1) := by decide +kernel
theorem dX2_lay_1 : decode cX2_lay 1 = .ok (.getfield 9, 3) := by decide +kernel
theorem dX2_lay_4 : decode cX2_lay 4 = .ok (.iload_n 1, 1) := by decide +kernel
theorem dX2_lay_5 : decode cX2_lay 5 = .ok (.iload_n 2, 1) := by decide +kernel
theorem dX2_lay_6 : decode cX2_lay 6 = .ok (.iastore, 1) := by decide +kernel
theorem dX2_lay_7 : decode cX2_lay 7 = .ok (.aload_n 0, 1) := by decide +kernel
theorem dX2_lay_8 : decode cX2_lay 8 = .ok (.getfield 13, 3) := by decide +kernel
theorem dX2_lay_11 : decode cX2_lay 11 = .ok (.iload_n 1, 1) := by decide +kernel
theorem dX2_lay_12 : decode cX2_lay 12 = .ok (.iload_n 3, 1) := by decide +kernel
theorem dX2_lay_13 : decode cX2_lay 13 = .ok (.iastore, 1) := by decide +kernel
theorem dX2_lay_14 : decode cX2_lay 14 = .ok (.iconst 0, 1) := by decide +kernel
theorem dX2_lay_15 : decode cX2_lay 15 = .ok (.istore 4, 2) := by decide +kernel
theorem dX2_lay_17 : decode cX2_lay 17 = .ok (.iload 4, 2) := by decide +kernel
theorem dX2_lay_19 : decode cX2_lay 19 = .ok (.bipush 40, 2) := by decide +kernel
theorem dX2_lay_21 : decode cX2_lay 21 = .ok (.if_icmp .ge 22, 3) := by decide +kernel
theorem dX2_lay_24 : decode cX2_lay 24 = .ok (.aload_n 0, 1) := by decide +kernel
theorem dX2_lay_25 : decode cX2_lay 25 = .ok (.getfield 16, 3) := by decide +kernel
theorem dX2_lay_28 : decode cX2_lay 28 = .ok (.iload_n 1, 1) := by decide +kernel
theorem dX2_lay_29 : decode cX2_lay 29 = .ok (.bipush 40, 2) := by decide +kernel
theorem dX2_lay_31 : decode cX2_lay 31 = .ok (.imul, 1) := by decide +kernel
theorem dX2_lay_32 : decode cX2_lay 32 = .ok (.iload 4, 2) := by decide +kernel
theorem dX2_lay_34 : decode cX2_lay 34 = .ok (.iadd, 1) := by decide +kernel
theorem dX2_lay_35 : decode cX2_lay 35 = .ok (.lconst 0, 1) := by decide +kernel
theorem dX2_lay_36 : decode cX2_lay 36 = .ok (.lastore, 1) := by decide +kernel
theorem dX2_lay_37 : decode cX2_lay 37 = .ok (.iinc 4 1, 3) := by decide +kernel
theorem dX2_lay_40 : decode cX2_lay 40 = .ok (.goto (-23), 3) := by decide +kernel
theorem dX2_lay_43 : decode cX2_lay 43 = .ok (.iload_n 3, 1) := by decide +kernel
theorem dX2_lay_44 : decode cX2_lay 44 = .ok (.ireturn, 1) := by decide +kernel
theorem dX2_numberAt_0 : decode cX2_numberAt 0 = .ok (.aload_n 0, 1) := by decide +kernel
theorem dX2_numberAt_1 : decode cX2_numberAt 1 = .ok (.getfield 16, 3) := by decide +kernel
theorem dX2_numberAt_4 : decode cX2_numberAt 4 = .ok (.iload_n 1, 1) := by decide +kernel
theorem dX2_numberAt_5 : decode cX2_numberAt 5 = .ok (.bipush 40, 2) := by decide +kernel
theorem dX2_numberAt_7 : decode cX2_numberAt 7 = .ok (.imul, 1) := by decide +kernel
theorem dX2_numberAt_8 : decode cX2_numberAt 8 = .ok (.iload_n 2, 1) := by decide +kernel
theorem dX2_numberAt_9 : decode cX2_numberAt 9 = .ok (.iadd, 1) := by decide +kernel
theorem dX2_numberAt_10 : decode cX2_numberAt 10 = .ok (.laload, 1) := by decide +kernel
theorem dX2_numberAt_11 : decode cX2_numberAt 11 = .ok (.lreturn, 1) := by decide +kernel
theorem dX2_put_0 : decode cX2_put 0 = .ok (.lload_n 3, 1) := by decide +kernel
theorem dX2_put_1 : decode cX2_put 1 = .ok (.lstore 5, 2) := by decide +kernel
theorem dX2_put_3 : decode cX2_put 3 = .ok (.aload_n 0, 1) := by decide +kernel
theorem dX2_put_4 : decode cX2_put 4 = .ok (.getfield 9, 3) := by decide +kernel
theorem dX2_put_7 : decode cX2_put 7 = .ok (.iload_n 1, 1) := by decide +kernel
theorem dX2_put_8 : decode cX2_put 8 = .ok (.iaload, 1) := by decide +kernel
theorem dX2_put_9 : decode cX2_put 9 = .ok (.bipush 8, 2) := by decide +kernel
theorem dX2_put_11 : decode cX2_put 11 = .ok (.if_icmp .ne 12, 3) := by decide +kernel
theorem dX2_put_14 : decode cX2_put 14 = .ok (.lload_n 3, 1) := by decide +kernel
theorem dX2_put_15 : decode cX2_put 15 = .ok (.l2i, 1) := by decide +kernel
theorem dX2_put_16 : decode cX2_put 16 = .ok (.i2b, 1) := by decide +kernel
theorem dX2_put_17 : decode cX2_put 17 = .ok (.i2l, 1) := by decide +kernel
theorem dX2_put_18 : decode cX2_put 18 = .ok (.lstore 5, 2) := by decide +kernel
theorem dX2_put_20 : decode cX2_put 20 = .ok (.goto 20, 3) := by decide +kernel
theorem dX2_put_23 : decode cX2_put 23 = .ok (.aload_n 0, 1) := by decide +kernel
theorem dX2_put_24 : decode cX2_put 24 = .ok (.getfield 9, 3) := by decide +kernel
theorem dX2_put_27 : decode cX2_put 27 = .ok (.iload_n 1, 1) := by decide +kernel
theorem dX2_put_28 : decode cX2_put 28 = .ok (.iaload, 1) := by decide +kernel
theorem dX2_put_29 : decode cX2_put 29 = .ok (.bipush 16, 2) := by decide +kernel
theorem dX2_put_31 : decode cX2_put 31 = .ok (.if_icmp .ne 9, 3) := by decide +kernel
theorem dX2_put_34 : decode cX2_put 34 = .ok (.lload_n 3, 1) := by decide +kernel
theorem dX2_put_35 : decode cX2_put 35 = .ok (.l2i, 1) := by decide +kernel
theorem dX2_put_36 : decode cX2_put 36 = .ok (.i2s, 1) := by decide +kernel
theorem dX2_put_37 : decode cX2_put 37 = .ok (.i2l, 1) := by decide +kernel
theorem dX2_put_38 : decode cX2_put 38 = .ok (.lstore 5, 2) := by decide +kernel
theorem dX2_put_40 : decode cX2_put 40 = .ok (.aload_n 0, 1) := by decide +kernel
theorem dX2_put_41 : decode cX2_put 41 = .ok (.getfield 16, 3) := by decide +kernel
theorem dX2_put_44 : decode cX2_put 44 = .ok (.iload_n 1, 1) := by decide +kernel
theorem dX2_put_45 : decode cX2_put 45 = .ok (.bipush 40, 2) := by decide +kernel
theorem dX2_put_47 : decode cX2_put 47 = .ok (.imul, 1) := by decide +kernel
theorem dX2_put_48 : decode cX2_put 48 = .ok (.iload_n 2, 1) := by decide +kernel
theorem dX2_put_49 : decode cX2_put 49 = .ok (.iadd, 1) := by decide +kernel
theorem dX2_put_50 : decode cX2_put 50 = .ok (.lload 5, 2) := by decide +kernel
theorem dX2_put_52 : decode cX2_put 52 = .ok (.lastore, 1) := by decide +kernel
theorem dX2_put_53 : decode cX2_put 53 = .ok (.return_, 1) := by decide +kernel
theorem dX2_move_0 : decode cX2_move 0 = .ok (.aload_n 0, 1) := by decide +kernel
theorem dX2_move_1 : decode cX2_move 1 = .ok (.getfield 16, 3) := by decide +kernel
theorem dX2_move_4 : decode cX2_move 4 = .ok (.iload_n 1, 1) := by decide +kernel
theorem dX2_move_5 : decode cX2_move 5 = .ok (.bipush 40, 2) := by decide +kernel
theorem dX2_move_7 : decode cX2_move 7 = .ok (.imul, 1) := by decide +kernel
theorem dX2_move_8 : decode cX2_move 8 = .ok (.iload_n 2, 1) := by decide +kernel
theorem dX2_move_9 : decode cX2_move 9 = .ok (.iadd, 1) := by decide +kernel
theorem dX2_move_10 : decode cX2_move 10 = .ok (.aload_n 0, 1) := by decide +kernel
theorem dX2_move_11 : decode cX2_move 11 = .ok (.getfield 16, 3) := by decide +kernel
theorem dX2_move_14 : decode cX2_move 14 = .ok (.iload_n 3, 1) := by decide +kernel
theorem dX2_move_15 : decode cX2_move 15 = .ok (.bipush 40, 2) := by decide +kernel
theorem dX2_move_17 : decode cX2_move 17 = .ok (.imul, 1) := by decide +kernel
theorem dX2_move_18 : decode cX2_move 18 = .ok (.iload 4, 2) := by decide +kernel
theorem dX2_move_20 : decode cX2_move 20 = .ok (.iadd, 1) := by decide +kernel
theorem dX2_move_21 : decode cX2_move 21 = .ok (.iload 5, 2) := by decide +kernel
theorem dX2_move_23 : decode cX2_move 23 = .ok (.invokestatic 20, 3) := by decide +kernel
theorem dX2_move_26 : decode cX2_move 26 = .ok (.return_, 1) := by decide +kernel
theorem dX3_init_0 : decode cX3_init 0 = .ok (.aload_n 0, 1) := by decide +kernel
theorem dX3_init_1 : decode cX3_init 1 = .ok (.invokespecial 3, 3) := by decide +kernel
theorem dX3_init_4 : decode cX3_init 4 = .ok (.aload_n 0, 1) := by decide +kernel
theorem dX3_init_5 : decode cX3_init 5 = .ok (.bipush 120, 2) := by decide +kernel
theorem dX3_init_7 : decode cX3_init 7 = .ok (.newarray .int, 2) := by decide +kernel
theorem dX3_init_9 : decode cX3_init 9 = .ok (.putfield 11, 3) := by decide +kernel
theorem dX3_init_12 : decode cX3_init 12 = .ok (.return_, 1) := by decide +kernel
set_option maxRecDepth 20000 in
theorem ggX3_addItems_X3_advance : GoodIn wsX3_addItems wsX3_advance := goodIn_r _ [8, 1, 9, 2, 3, 10, 11, 12, 13, 14, 15, 16, 17, 7, 18, 19, 20, 21, 22, 130, 131, 132, 133, 134, 135] (by decide +kernel) (by decide +kernel)
set_option maxRecDepth 20000 in
theorem gX3_addItems_X3_advance : GoodIn wsX3_addItems (wsV RX3 19 RX3 yX3_advance wsX3_advance) := goodIn_app (goodIn_of _ (by decide +kernel)) ggX3_addItems_X3_advance
set_option maxRecDepth 20000 in
theorem ggX3_addItems_X3_takeItem : GoodIn wsX3_addItems wsX3_takeItem := goodIn_r _ [26, 27, 28, 29, 7, 30, 31, 32, 33, 34, 3, 1, 2, 35, 36, 37, 38, 39, 40, 41, 42, 43, 44, 45, 46, 15, 16, 17, 18, 19, 47, 48, 49, 50, 51, 52, 53, 54, 55, 56, 57, 58, 59, 60, 61, 62, 63, 64, 65, 66, 67, 68, 69, 70, 71, 72, 73, 74, 75, 76, 77, 78, 79, 80, 81, 82, 83, 84, 85, 86, 87, 88, 10, 4, 5, 6, 8, 9, 11, 12, 13, 14, 20, 21, 22, 89, 90, 91, 92, 93, 94, 95, 96, 97, 98, 99, 100, 101, 102, 103, 104, 105, 106, 107, 108, 109, 110, 111, 112, 113, 114, 115, 116, 117, 118, 119, 120, 121, 122, 123, 124, 125, 126, 127, 128, 129, 130, 131, 132, 133, 134, 135, 136, 137, 138, 139, 140, 141, 142, 143, 144, 145, 146, 147, 148, 149] (by decide +kernel) (by decide +kernel)
set_option maxRecDepth 20000 in
theorem gX3_addItems_X3_takeItem : GoodIn wsX3_addItems (wsV RX3 22 RX3 yX3_takeItem wsX3_takeItem) := goodIn_app (goodIn_of _ (by decide +kernel)) ggX3_addItems_X3_takeItem
theorem dX3_addItems_0 : decode cX3_addItems 0 = .ok (.aload_n 0, 1) := by decide +kernel
theorem dX3_addItems_1 : decode cX3_addItems 1 = .ok (.iconst 0, 1) := by decide +kernel
theorem dX3_addItems_2 : decode cX3_addItems 2 = .ok (.putfield 15, 3) := by decide +kernel
theorem dX3_addItems_5 : decode cX3_addItems 5 = .ok (.aload_n 0, 1) := by decide +kernel
theorem dX3_addItems_6 : decode cX3_addItems 6 = .ok (.invokevirtual 19, 3) := by decide +kernel
theorem dX3_addItems_9 : decode cX3_addItems 9 = .ok (.iconst 1, 1) := by decide +kernel
theorem dX3_addItems_10 : decode cX3_addItems 10 = .ok (.istore_n 2, 1) := by decide +kernel
theorem dX3_addItems_11 : decode cX3_addItems 11 = .ok (.iload_n 2, 1) := by decide +kernel
theorem dX3_addItems_12 : decode cX3_addItems 12 = .ok (.bipush 120, 2) := by decide +kernel
theorem dX3_addItems_14 : decode cX3_addItems 14 = .ok (.if_icmp .gt 52, 3) := by decide +kernel
theorem dX3_addItems_17 : decode cX3_addItems 17 = .ok (.aload_n 0, 1) := by decide +kernel
theorem dX3_addItems_18 : decode cX3_addItems 18 = .ok (.aload_n 1, 1) := by decide +kernel
theorem dX3_addItems_19 : decode cX3_addItems 19 = .ok (.invokevirtual 22, 3) := by decide +kernel
theorem dX3_addItems_22 : decode cX3_addItems 22 = .ok (.ifCond .ne 10, 3) := by decide +kernel
theorem dX3_addItems_25 : decode cX3_addItems 25 = .ok (.iconst (-1), 1) := by decide +kernel
theorem dX3_addItems_26 : decode cX3_addItems 26 = .ok (.aload_n 0, 1) := by decide +kernel
theorem dX3_addItems_27 : decode cX3_addItems 27 = .ok (.getfield 26, 3) := by decide +kernel
theorem dX3_addItems_30 : decode cX3_addItems 30 = .ok (.isub, 1) := by decide +kernel
theorem dX3_addItems_31 : decode cX3_addItems 31 = .ok (.ireturn, 1) := by decide +kernel
theorem dX3_addItems_32 : decode cX3_addItems 32 = .ok (.aload_n 0, 1) := by decide +kernel
theorem dX3_addItems_33 : decode cX3_addItems 33 = .ok (.getfield 29, 3) := by decide +kernel
theorem dX3_addItems_36 : decode cX3_addItems 36 = .ok (.ifCond .ne 5, 3) := by decide +kernel
theorem dX3_addItems_39 : decode cX3_addItems 39 = .ok (.iload_n 2, 1) := by decide +kernel
theorem dX3_addItems_40 : decode cX3_addItems 40 = .ok (.ireturn, 1) := by decide +kernel
theorem dX3_addItems_41 : decode cX3_addItems 41 = .ok (.aload_n 0, 1) := by decide +kernel
theorem dX3_addItems_42 : decode cX3_addItems 42 = .ok (.getfield 29, 3) := by decide +kernel
theorem dX3_addItems_45 : decode cX3_addItems 45 = .ok (.iconst 3, 1) := by decide +kernel
theorem dX3_addItems_46 : decode cX3_addItems 46 = .ok (.if_icmp .eq 10, 3) := by decide +kernel
theorem dX3_addItems_49 : decode cX3_addItems 49 = .ok (.iconst (-1), 1) := by decide +kernel
theorem dX3_addItems_50 : decode cX3_addItems 50 = .ok (.aload_n 0, 1) := by decide +kernel
theorem dX3_addItems_51 : decode cX3_addItems 51 = .ok (.getfield 26, 3) := by decide +kernel
theorem dX3_addItems_54 : decode cX3_addItems 54 = .ok (.isub, 1) := by decide +kernel
theorem dX3_addItems_55 : decode cX3_addItems 55 = .ok (.ireturn, 1) := by decide +kernel
theorem dX3_addItems_56 : decode cX3_addItems 56 = .ok (.aload_n 0, 1) := by decide +kernel
theorem dX3_addItems_57 : decode cX3_addItems 57 = .ok (.invokevirtual 19, 3) := by decide +kernel
theorem dX3_addItems_60 : decode cX3_addItems 60 = .ok (.iinc 2 1, 3) := by decide +kernel
theorem dX3_addItems_63 : decode cX3_addItems 63 = .ok (.goto (-52), 3) := by decide +kernel
theorem dX3_addItems_66 : decode cX3_addItems 66 = .ok (.iconst (-1), 1) := by decide +kernel
theorem dX3_addItems_67 : decode cX3_addItems 67 = .ok (.aload_n 0, 1) := by decide +kernel
theorem dX3_addItems_68 : decode cX3_addItems 68 = .ok (.getfield 26, 3) := by decide +kernel
theorem dX3_addItems_71 : decode cX3_addItems 71 = .ok (.isub, 1) := by decide +kernel
theorem dX3_addItems_72 : decode cX3_addItems 72 = .ok (.ireturn, 1) := by decide +kernel
set_option maxRecDepth 20000 in
theorem ggX3_takeItem_X3_kindNamed : GoodIn wsX3_takeItem wsX3_kindNamed := goodIn_r _ [5, 6, 7, 8, 4, 9, 10, 11, 12, 13, 14, 15, 16, 17, 18, 19, 20, 21, 22, 23, 24, 25, 26, 27, 28, 29, 30, 31, 32, 33, 34, 35, 36, 37, 38, 39, 40, 41, 42, 43, 44, 45, 46, 47, 48, 49, 50, 51, 52, 53, 54, 55, 56, 57, 58, 59, 60, 61, 62, 63, 64, 65, 66, 126, 127, 128, 129, 130, 131] (by decide +kernel) (by decide +kernel)
set_option maxRecDepth 20000 in
theorem gX3_takeItem_X3_kindNamed : GoodIn wsX3_takeItem (wsV RX3 32 RX3 yX3_kindNamed wsX3_kindNamed) := goodIn_app (goodIn_of _ (by decide +kernel)) ggX3_takeItem_X3_kindNamed
set_option maxRecDepth 20000 in
theorem ggX3_takeItem_X3_takeMother : GoodIn wsX3_takeItem wsX3_takeMother := goodIn_r _ [70, 71, 72, 73, 74, 75, 4, 76, 11, 77, 12, 10, 78, 79, 80, 81, 25, 26, 27, 28, 29, 82, 83, 84, 6, 7, 8, 9, 13, 14, 15, 16, 17, 18, 19, 20, 21, 22, 23, 24, 30, 31, 32, 33, 34, 35, 36, 37, 38, 39, 40, 41, 42, 43, 44, 45, 46, 47, 48, 49, 50, 51, 52, 53, 54, 55, 56, 57, 58, 59, 60, 61, 62, 63, 64, 65, 66, 85, 86, 87, 88, 89, 90, 91, 92, 93, 94, 95, 96, 97, 98, 132, 133, 134, 135, 136, 137, 138, 139, 140, 141, 142, 143, 144, 145, 126, 127, 128, 129, 130, 131] (by decide +kernel) (by decide +kernel)
set_option maxRecDepth 20000 in
theorem gX3_takeItem_X3_takeMother : GoodIn wsX3_takeItem (wsV RX3 36 RX3 yX3_takeMother wsX3_takeMother) := goodIn_app (goodIn_of _ (by decide +kernel)) ggX3_takeItem_X3_takeMother
set_option maxRecDepth 20000 in
theorem ggX3_takeItem_X3_isWord : GoodIn wsX3_takeItem wsX3_isWord := goodIn_r _ [9, 10, 11, 12, 13, 14, 15, 16, 17, 18, 19, 20, 21, 22, 23, 24, 25, 26, 27, 4, 28, 29, 30, 31, 32, 33, 34, 35, 36, 37, 38, 39, 40, 41, 42, 43, 44, 45, 46, 47, 48, 49, 50, 51, 52, 53, 54, 55, 56, 57, 58, 59, 60, 61, 62, 63, 64, 65, 66, 126, 127, 128, 129, 130, 131] (by decide +kernel) (by decide +kernel)
set_option maxRecDepth 20000 in
theorem gX3_takeItem_X3_isWord : GoodIn wsX3_takeItem (wsV RX3 42 RX3 yX3_isWord wsX3_isWord) := goodIn_app (goodIn_of _ (by decide +kernel)) ggX3_takeItem_X3_isWord
set_option maxRecDepth 20000 in
theorem ggX3_takeItem_X3_takeChild : GoodIn wsX3_takeItem wsX3_takeChild := goodIn_r _ [102, 103, 72, 85, 86, 87, 4, 88, 10, 73, 74, 75, 76, 11, 77, 12, 78, 79, 80, 81, 25, 26, 27, 28, 29, 82, 83, 84, 6, 7, 8, 9, 13, 14, 15, 16, 17, 18, 19, 20, 21, 22, 23, 24, 30, 31, 32, 33, 34, 35, 36, 37, 38, 39, 40, 41, 42, 43, 44, 45, 46, 47, 48, 49, 50, 51, 52, 53, 54, 55, 56, 57, 58, 59, 60, 61, 62, 63, 64, 65, 66, 104, 105, 106, 92, 107, 108, 109, 110, 111, 132, 133, 134, 135, 136, 137, 138, 139, 140, 141, 142, 143, 144, 145, 126, 127, 128, 129, 130, 131] (by decide +kernel) (by decide +kernel)
set_option maxRecDepth 20000 in
theorem gX3_takeItem_X3_takeChild : GoodIn wsX3_takeItem (wsV RX3 46 RX3 yX3_takeChild wsX3_takeChild) := goodIn_app (goodIn_of _ (by decide +kernel)) ggX3_takeItem_X3_takeChild
set_option maxRecDepth 20000 in
theorem ggX3_takeItem_X3_takeWet : GoodIn wsX3_takeItem wsX3_takeWet := goodIn_r _ [115, 116, 72, 85, 86, 87, 4, 88, 10, 73, 74, 75, 76, 11, 77, 12, 78, 79, 80, 81, 25, 26, 27, 28, 29, 82, 83, 84, 132, 133, 134, 135, 136, 137, 138, 139, 140, 141, 142, 143, 144, 145, 126, 127, 128, 129, 130, 131] (by decide +kernel) (by decide +kernel)
set_option maxRecDepth 20000 in
theorem gX3_takeItem_X3_takeWet : GoodIn wsX3_takeItem (wsV RX3 51 RX3 yX3_takeWet wsX3_takeWet) := goodIn_app (goodIn_of _ (by decide +kernel)) ggX3_takeItem_X3_takeWet
set_option maxRecDepth 20000 in
theorem ggX3_takeItem_X3_takeDry : GoodIn wsX3_takeItem wsX3_takeDry := goodIn_r _ [120, 116, 72, 85, 86, 87, 4, 88, 10, 73, 74, 75, 76, 11, 77, 12, 78, 79, 80, 81, 25, 26, 27, 28, 29, 82, 83, 84, 132, 133, 134, 135, 136, 137, 138, 139, 140, 141, 142, 143, 144, 145, 126, 127, 128, 129, 130, 131] (by decide +kernel) (by decide +kernel)
set_option maxRecDepth 20000 in
theorem gX3_takeItem_X3_takeDry : GoodIn wsX3_takeItem (wsV RX3 56 RX3 yX3_takeDry wsX3_takeDry) := goodIn_app (goodIn_of _ (by decide +kernel)) ggX3_takeItem_X3_takeDry
set_option maxRecDepth 20000 in
theorem ggX3_takeItem_X3_takeHeavy : GoodIn wsX3_takeItem wsX3_takeHeavy := goodIn_r _ [124, 72, 125, 85, 86, 87, 4, 88, 10, 73, 74, 75, 76, 11, 77, 12, 78, 79, 80, 81, 25, 26, 27, 28, 29, 82, 83, 84, 126, 127, 128, 129, 130, 131, 132, 133, 134, 135, 136, 137, 138, 139, 140, 141, 142, 143, 144, 145] (by decide +kernel) (by decide +kernel)
set_option maxRecDepth 20000 in
theorem gX3_takeItem_X3_takeHeavy : GoodIn wsX3_takeItem (wsV RX3 61 RX3 yX3_takeHeavy wsX3_takeHeavy) := goodIn_app (goodIn_of _ (by decide +kernel)) ggX3_takeItem_X3_takeHeavy
theorem dX3_takeItem_0 : decode cX3_takeItem 0 = .ok (.aload_n 0, 1) := by decide +kernel
theorem dX3_takeItem_1 : decode cX3_takeItem 1 = .ok (.invokevirtual 32, 3) := by decide +kernel
theorem dX3_takeItem_4 : decode cX3_takeItem 4 = .ok (.istore_n 2, 1) := by decide +kernel
theorem dX3_takeItem_5 : decode cX3_takeItem 5 = .ok (.iload_n 2, 1) := by decide +kernel
theorem dX3_takeItem_6 : decode cX3_takeItem 6 = .ok (.ifCond .lt 10, 3) := by decide +kernel
theorem dX3_takeItem_9 : decode cX3_takeItem 9 = .ok (.aload_n 0, 1) := by decide +kernel
theorem dX3_takeItem_10 : decode cX3_takeItem 10 = .ok (.aload_n 1, 1) := by decide +kernel
theorem dX3_takeItem_11 : decode cX3_takeItem 11 = .ok (.iload_n 2, 1) := by decide +kernel
theorem dX3_takeItem_12 : decode cX3_takeItem 12 = .ok (.invokevirtual 36, 3) := by decide +kernel
theorem dX3_takeItem_15 : decode cX3_takeItem 15 = .ok (.ireturn, 1) := by decide +kernel
theorem dX3_takeItem_16 : decode cX3_takeItem 16 = .ok (.aload_n 0, 1) := by decide +kernel
theorem dX3_takeItem_17 : decode cX3_takeItem 17 = .ok (.ldc 40, 2) := by decide +kernel
theorem dX3_takeItem_19 : decode cX3_takeItem 19 = .ok (.invokevirtual 42, 3) := by decide +kernel
theorem dX3_takeItem_22 : decode cX3_takeItem 22 = .ok (.ifCond .eq 9, 3) := by decide +kernel
theorem dX3_takeItem_25 : decode cX3_takeItem 25 = .ok (.aload_n 0, 1) := by decide +kernel
theorem dX3_takeItem_26 : decode cX3_takeItem 26 = .ok (.aload_n 1, 1) := by decide +kernel
theorem dX3_takeItem_27 : decode cX3_takeItem 27 = .ok (.invokevirtual 46, 3) := by decide +kernel
theorem dX3_takeItem_30 : decode cX3_takeItem 30 = .ok (.ireturn, 1) := by decide +kernel
theorem dX3_takeItem_31 : decode cX3_takeItem 31 = .ok (.aload_n 0, 1) := by decide +kernel
theorem dX3_takeItem_32 : decode cX3_takeItem 32 = .ok (.ldc 49, 2) := by decide +kernel
theorem dX3_takeItem_34 : decode cX3_takeItem 34 = .ok (.invokevirtual 42, 3) := by decide +kernel
theorem dX3_takeItem_37 : decode cX3_takeItem 37 = .ok (.ifCond .eq 9, 3) := by decide +kernel
theorem dX3_takeItem_40 : decode cX3_takeItem 40 = .ok (.aload_n 0, 1) := by decide +kernel
theorem dX3_takeItem_41 : decode cX3_takeItem 41 = .ok (.aload_n 1, 1) := by decide +kernel
theorem dX3_takeItem_42 : decode cX3_takeItem 42 = .ok (.invokevirtual 51, 3) := by decide +kernel
theorem dX3_takeItem_45 : decode cX3_takeItem 45 = .ok (.ireturn, 1) := by decide +kernel
theorem dX3_takeItem_46 : decode cX3_takeItem 46 = .ok (.aload_n 0, 1) := by decide +kernel
theorem dX3_takeItem_47 : decode cX3_takeItem 47 = .ok (.ldc 54, 2) := by decide +kernel
theorem dX3_takeItem_49 : decode cX3_takeItem 49 = .ok (.invokevirtual 42, 3) := by decide +kernel
theorem dX3_takeItem_52 : decode cX3_takeItem 52 = .ok (.ifCond .eq 9, 3) := by decide +kernel
theorem dX3_takeItem_55 : decode cX3_takeItem 55 = .ok (.aload_n 0, 1) := by decide +kernel
theorem dX3_takeItem_56 : decode cX3_takeItem 56 = .ok (.aload_n 1, 1) := by decide +kernel
theorem dX3_takeItem_57 : decode cX3_takeItem 57 = .ok (.invokevirtual 56, 3) := by decide +kernel
theorem dX3_takeItem_60 : decode cX3_takeItem 60 = .ok (.ireturn, 1) := by decide +kernel
theorem dX3_takeItem_61 : decode cX3_takeItem 61 = .ok (.aload_n 0, 1) := by decide +kernel
theorem dX3_takeItem_62 : decode cX3_takeItem 62 = .ok (.ldc 59, 2) := by decide +kernel
theorem dX3_takeItem_64 : decode cX3_takeItem 64 = .ok (.invokevirtual 42, 3) := by decide +kernel
theorem dX3_takeItem_67 : decode cX3_takeItem 67 = .ok (.ifCond .eq 15, 3) := by decide +kernel
theorem dX3_takeItem_70 : decode cX3_takeItem 70 = .ok (.aload_n 0, 1) := by decide +kernel
theorem dX3_takeItem_71 : decode cX3_takeItem 71 = .ok (.aload_n 1, 1) := by decide +kernel
theorem dX3_takeItem_72 : decode cX3_takeItem 72 = .ok (.invokevirtual 61, 3) := by decide +kernel
theorem dX3_takeItem_75 : decode cX3_takeItem 75 = .ok (.ifCond .eq 7, 3) := by decide +kernel
theorem dX3_takeItem_78 : decode cX3_takeItem 78 = .ok (.iconst 1, 1) := by decide +kernel
theorem dX3_takeItem_79 : decode cX3_takeItem 79 = .ok (.goto 4, 3) := by decide +kernel
theorem dX3_takeItem_82 : decode cX3_takeItem 82 = .ok (.iconst 0, 1) := by decide +kernel
theorem dX3_takeItem_83 : decode cX3_takeItem 83 = .ok (.ireturn, 1) := by decide +kernel
set_option maxRecDepth 20000 in
theorem ggX3_kindNamed_X3_isWord : GoodIn wsX3_kindNamed wsX3_isWord := goodIn_r _ [5, 6, 7, 8, 9, 10, 11, 12, 13, 14, 15, 16, 17, 18, 19, 20, 21, 22, 23, 4, 24, 25, 26, 27, 28, 29, 30, 31, 32, 33, 34, 35, 36, 37, 38, 39, 40, 41, 42, 43, 44, 45, 46, 47, 48, 49, 50, 51, 52, 53, 54, 55, 56, 57, 58, 59, 60, 61, 62, 63, 64, 65, 66, 67, 68] (by decide +kernel) (by decide +kernel)
set_option maxRecDepth 20000 in
theorem gX3_kindNamed_X3_isWord : GoodIn wsX3_kindNamed (wsV RX3 42 RX3 yX3_isWord wsX3_isWord) := goodIn_app (goodIn_of _ (by decide +kernel)) ggX3_kindNamed_X3_isWord
theorem dX3_kindNamed_0 : decode cX3_kindNamed 0 = .ok (.aload_n 0, 1) := by decide +kernel
theorem dX3_kindNamed_1 : decode cX3_kindNamed 1 = .ok (.ldc 64, 2) := by decide +kernel
theorem dX3_kindNamed_3 : decode cX3_kindNamed 3 = .ok (.invokevirtual 42, 3) := by decide +kernel
theorem dX3_kindNamed_6 : decode cX3_kindNamed 6 = .ok (.ifCond .eq 5, 3) := by decide +kernel
theorem dX3_kindNamed_9 : decode cX3_kindNamed 9 = .ok (.iconst 0, 1) := by decide +kernel
theorem dX3_kindNamed_10 : decode cX3_kindNamed 10 = .ok (.ireturn, 1) := by decide +kernel
theorem dX3_kindNamed_11 : decode cX3_kindNamed 11 = .ok (.aload_n 0, 1) := by decide +kernel
theorem dX3_kindNamed_12 : decode cX3_kindNamed 12 = .ok (.ldc 68, 2) := by decide +kernel
theorem dX3_kindNamed_14 : decode cX3_kindNamed 14 = .ok (.invokevirtual 42, 3) := by decide +kernel
theorem dX3_kindNamed_17 : decode cX3_kindNamed 17 = .ok (.ifCond .eq 5, 3) := by decide +kernel
theorem dX3_kindNamed_20 : decode cX3_kindNamed 20 = .ok (.iconst 1, 1) := by decide +kernel
theorem dX3_kindNamed_21 : decode cX3_kindNamed 21 = .ok (.ireturn, 1) := by decide +kernel
theorem dX3_kindNamed_22 : decode cX3_kindNamed 22 = .ok (.aload_n 0, 1) := by decide +kernel
theorem dX3_kindNamed_23 : decode cX3_kindNamed 23 = .ok (.ldc 70, 2) := by decide +kernel
theorem dX3_kindNamed_25 : decode cX3_kindNamed 25 = .ok (.invokevirtual 42, 3) := by decide +kernel
theorem dX3_kindNamed_28 : decode cX3_kindNamed 28 = .ok (.ifCond .eq 5, 3) := by decide +kernel
theorem dX3_kindNamed_31 : decode cX3_kindNamed 31 = .ok (.iconst 2, 1) := by decide +kernel
theorem dX3_kindNamed_32 : decode cX3_kindNamed 32 = .ok (.ireturn, 1) := by decide +kernel
theorem dX3_kindNamed_33 : decode cX3_kindNamed 33 = .ok (.aload_n 0, 1) := by decide +kernel
theorem dX3_kindNamed_34 : decode cX3_kindNamed 34 = .ok (.ldc 72, 2) := by decide +kernel
theorem dX3_kindNamed_36 : decode cX3_kindNamed 36 = .ok (.invokevirtual 42, 3) := by decide +kernel
theorem dX3_kindNamed_39 : decode cX3_kindNamed 39 = .ok (.ifCond .eq 5, 3) := by decide +kernel
theorem dX3_kindNamed_42 : decode cX3_kindNamed 42 = .ok (.iconst 3, 1) := by decide +kernel
theorem dX3_kindNamed_43 : decode cX3_kindNamed 43 = .ok (.ireturn, 1) := by decide +kernel
theorem dX3_kindNamed_44 : decode cX3_kindNamed 44 = .ok (.aload_n 0, 1) := by decide +kernel
theorem dX3_kindNamed_45 : decode cX3_kindNamed 45 = .ok (.ldc 74, 2) := by decide +kernel
theorem dX3_kindNamed_47 : decode cX3_kindNamed 47 = .ok (.invokevirtual 42, 3) := by decide +kernel
theorem dX3_kindNamed_50 : decode cX3_kindNamed 50 = .ok (.ifCond .eq 5, 3) := by decide +kernel
theorem dX3_kindNamed_53 : decode cX3_kindNamed 53 = .ok (.iconst 4, 1) := by decide +kernel
theorem dX3_kindNamed_54 : decode cX3_kindNamed 54 = .ok (.ireturn, 1) := by decide +kernel
theorem dX3_kindNamed_55 : decode cX3_kindNamed 55 = .ok (.aload_n 0, 1) := by decide +kernel
theorem dX3_kindNamed_56 : decode cX3_kindNamed 56 = .ok (.ldc 76, 2) := by decide +kernel
theorem dX3_kindNamed_58 : decode cX3_kindNamed 58 = .ok (.invokevirtual 42, 3) := by decide +kernel
theorem dX3_kindNamed_61 : decode cX3_kindNamed 61 = .ok (.ifCond .eq 7, 3) := by decide +kernel
theorem dX3_kindNamed_64 : decode cX3_kindNamed 64 = .ok (.iconst 5, 1) := by decide +kernel
theorem dX3_kindNamed_65 : decode cX3_kindNamed 65 = .ok (.goto 4, 3) := by decide +kernel
theorem dX3_kindNamed_68 : decode cX3_kindNamed 68 = .ok (.iconst (-1), 1) := by decide +kernel
theorem dX3_kindNamed_69 : decode cX3_kindNamed 69 = .ok (.ireturn, 1) := by decide +kernel
set_option maxRecDepth 20000 in
theorem ggX3_takeMother_X3_advance : GoodIn wsX3_takeMother wsX3_advance := goodIn_r _ [7, 8, 9, 10, 11, 2, 12, 13, 14, 15, 16, 17, 18, 6, 19, 20, 21, 22, 23, 105, 106, 107, 108, 109, 110] (by decide +kernel) (by decide +kernel)
set_option maxRecDepth 20000 in
theorem gX3_takeMother_X3_advance : GoodIn wsX3_takeMother (wsV RX3 19 RX3 yX3_advance wsX3_advance) := goodIn_app (goodIn_of _ (by decide +kernel)) ggX3_takeMother_X3_advance
set_option maxRecDepth 20000 in
theorem ggX3_takeMother_X3_isWord : GoodIn wsX3_takeMother wsX3_isWord := goodIn_r _ [27, 11, 8, 10, 28, 29, 30, 31, 32, 33, 34, 35, 36, 37, 38, 39, 16, 17, 18, 6, 19, 20, 40, 41, 42, 43, 44, 45, 46, 47, 48, 49, 50, 51, 52, 53, 54, 55, 56, 57, 58, 59, 60, 61, 62, 63, 64, 65, 66, 67, 68, 69, 70, 71, 72, 73, 74, 75, 76, 105, 106, 107, 108, 109, 110] (by decide +kernel) (by decide +kernel)
set_option maxRecDepth 20000 in
theorem gX3_takeMother_X3_isWord : GoodIn wsX3_takeMother (wsV RX3 42 RX3 yX3_isWord wsX3_isWord) := goodIn_app (goodIn_of _ (by decide +kernel)) ggX3_takeMother_X3_isWord
set_option maxRecDepth 20000 in
theorem ggX3_takeMother_X3_takeNumber : GoodIn wsX3_takeMother wsX3_takeNumber := goodIn_r _ [80, 11, 2, 3, 4, 5, 6, 7, 8, 9, 10, 12, 13, 14, 15, 16, 17, 18, 19, 20, 21, 22, 23, 105, 106, 107, 108, 109, 110] (by decide +kernel) (by decide +kernel)
set_option maxRecDepth 20000 in
theorem gX3_takeMother_X3_takeNumber : GoodIn wsX3_takeMother (wsV RX3 85 RX3 yX3_takeNumber wsX3_takeNumber) := goodIn_app (goodIn_of _ (by decide +kernel)) ggX3_takeMother_X3_takeNumber
set_option maxRecDepth 20000 in
theorem ggX3_takeMother_X0_addMother : GoodIn wsX3_takeMother wsX0_addMother := goodIn_r _ [85, 86, 87, 88, 89, 90, 91, 92, 93, 94, 95, 96, 97, 98, 99, 100, 101, 102, 103, 104] (by decide +kernel) (by decide +kernel)
set_option maxRecDepth 20000 in
theorem gX3_takeMother_X0_addMother : GoodIn wsX3_takeMother (wsV RX3 94 RX0 yX0_addMother wsX0_addMother) := goodIn_app (goodIn_of _ (by decide +kernel)) ggX3_takeMother_X0_addMother
theorem dX3_takeMother_0 : decode cX3_takeMother 0 = .ok (.aload_n 1, 1) := by decide +kernel
theorem dX3_takeMother_1 : decode cX3_takeMother 1 = .ok (.getfield 78, 3) := by decide +kernel
theorem dX3_takeMother_4 : decode cX3_takeMother 4 = .ok (.bipush 8, 2) := by decide +kernel
theorem dX3_takeMother_6 : decode cX3_takeMother 6 = .ok (.if_icmp .lt 5, 3) := by decide +kernel
theorem dX3_takeMother_9 : decode cX3_takeMother 9 = .ok (.iconst 0, 1) := by decide +kernel
theorem dX3_takeMother_10 : decode cX3_takeMother 10 = .ok (.ireturn, 1) := by decide +kernel
theorem dX3_takeMother_11 : decode cX3_takeMother 11 = .ok (.aload_n 0, 1) := by decide +kernel
theorem dX3_takeMother_12 : decode cX3_takeMother 12 = .ok (.invokevirtual 19, 3) := by decide +kernel
theorem dX3_takeMother_15 : decode cX3_takeMother 15 = .ok (.bipush 10, 2) := by decide +kernel
theorem dX3_takeMother_17 : decode cX3_takeMother 17 = .ok (.istore_n 3, 1) := by decide +kernel
theorem dX3_takeMother_18 : decode cX3_takeMother 18 = .ok (.aload_n 0, 1) := by decide +kernel
theorem dX3_takeMother_19 : decode cX3_takeMother 19 = .ok (.ldc 83, 2) := by decide +kernel
theorem dX3_takeMother_21 : decode cX3_takeMother 21 = .ok (.invokevirtual 42, 3) := by decide +kernel
theorem dX3_takeMother_24 : decode cX3_takeMother 24 = .ok (.ifCond .eq 24, 3) := by decide +kernel
theorem dX3_takeMother_27 : decode cX3_takeMother 27 = .ok (.aload_n 0, 1) := by decide +kernel
theorem dX3_takeMother_28 : decode cX3_takeMother 28 = .ok (.iconst 0, 1) := by decide +kernel
theorem dX3_takeMother_29 : decode cX3_takeMother 29 = .ok (.bipush 99, 2) := by decide +kernel
theorem dX3_takeMother_31 : decode cX3_takeMother 31 = .ok (.invokevirtual 85, 3) := by decide +kernel
theorem dX3_takeMother_34 : decode cX3_takeMother 34 = .ok (.ifCond .ne 5, 3) := by decide +kernel
theorem dX3_takeMother_37 : decode cX3_takeMother 37 = .ok (.iconst 0, 1) := by decide +kernel
theorem dX3_takeMother_38 : decode cX3_takeMother 38 = .ok (.ireturn, 1) := by decide +kernel
theorem dX3_takeMother_39 : decode cX3_takeMother 39 = .ok (.aload_n 0, 1) := by decide +kernel
theorem dX3_takeMother_40 : decode cX3_takeMother 40 = .ok (.getfield 89, 3) := by decide +kernel
theorem dX3_takeMother_43 : decode cX3_takeMother 43 = .ok (.istore_n 3, 1) := by decide +kernel
theorem dX3_takeMother_44 : decode cX3_takeMother 44 = .ok (.aload_n 0, 1) := by decide +kernel
theorem dX3_takeMother_45 : decode cX3_takeMother 45 = .ok (.invokevirtual 19, 3) := by decide +kernel
theorem dX3_takeMother_48 : decode cX3_takeMother 48 = .ok (.iconst 0, 1) := by decide +kernel
theorem dX3_takeMother_49 : decode cX3_takeMother 49 = .ok (.istore 4, 2) := by decide +kernel
theorem dX3_takeMother_51 : decode cX3_takeMother 51 = .ok (.aload_n 0, 1) := by decide +kernel
theorem dX3_takeMother_52 : decode cX3_takeMother 52 = .ok (.ldc 92, 2) := by decide +kernel
theorem dX3_takeMother_54 : decode cX3_takeMother 54 = .ok (.invokevirtual 42, 3) := by decide +kernel
theorem dX3_takeMother_57 : decode cX3_takeMother 57 = .ok (.ifCond .eq 10, 3) := by decide +kernel
theorem dX3_takeMother_60 : decode cX3_takeMother 60 = .ok (.iconst 1, 1) := by decide +kernel
theorem dX3_takeMother_61 : decode cX3_takeMother 61 = .ok (.istore 4, 2) := by decide +kernel
theorem dX3_takeMother_63 : decode cX3_takeMother 63 = .ok (.aload_n 0, 1) := by decide +kernel
theorem dX3_takeMother_64 : decode cX3_takeMother 64 = .ok (.invokevirtual 19, 3) := by decide +kernel
theorem dX3_takeMother_67 : decode cX3_takeMother 67 = .ok (.aload_n 1, 1) := by decide +kernel
theorem dX3_takeMother_68 : decode cX3_takeMother 68 = .ok (.iload_n 2, 1) := by decide +kernel
theorem dX3_takeMother_69 : decode cX3_takeMother 69 = .ok (.iload_n 3, 1) := by decide +kernel
theorem dX3_takeMother_70 : decode cX3_takeMother 70 = .ok (.iload 4, 2) := by decide +kernel
theorem dX3_takeMother_72 : decode cX3_takeMother 72 = .ok (.invokevirtual 94, 3) := by decide +kernel
theorem dX3_takeMother_75 : decode cX3_takeMother 75 = .ok (.pop, 1) := by decide +kernel
theorem dX3_takeMother_76 : decode cX3_takeMother 76 = .ok (.iconst 1, 1) := by decide +kernel
theorem dX3_takeMother_77 : decode cX3_takeMother 77 = .ok (.ireturn, 1) := by decide +kernel
set_option maxRecDepth 20000 in
theorem ggX3_takeChild_X3_takeNumber : GoodIn wsX3_takeChild wsX3_takeNumber := goodIn_r _ [7, 8, 2, 9, 10, 11, 6, 12, 13, 14, 15, 16, 17, 18, 19, 20, 21, 22, 23, 24, 25, 26, 27, 104, 105, 106, 107, 108, 109] (by decide +kernel) (by decide +kernel)
set_option maxRecDepth 20000 in
theorem gX3_takeChild_X3_takeNumber : GoodIn wsX3_takeChild (wsV RX3 85 RX3 yX3_takeNumber wsX3_takeNumber) := goodIn_app (goodIn_of _ (by decide +kernel)) ggX3_takeChild_X3_takeNumber
set_option maxRecDepth 20000 in
theorem ggX3_takeChild_X3_advance : GoodIn wsX3_takeChild wsX3_advance := goodIn_r _ [12, 13, 14, 15, 8, 2, 16, 17, 18, 19, 20, 21, 22, 6, 23, 24, 25, 26, 27, 104, 105, 106, 107, 108, 109] (by decide +kernel) (by decide +kernel)
set_option maxRecDepth 20000 in
theorem gX3_takeChild_X3_advance : GoodIn wsX3_takeChild (wsV RX3 19 RX3 yX3_advance wsX3_advance) := goodIn_app (goodIn_of _ (by decide +kernel)) ggX3_takeChild_X3_advance
set_option maxRecDepth 20000 in
theorem ggX3_takeChild_X3_isWord : GoodIn wsX3_takeChild wsX3_isWord := goodIn_r _ [31, 8, 13, 15, 32, 33, 34, 35, 36, 37, 38, 39, 40, 41, 42, 43, 20, 21, 22, 6, 23, 24, 44, 45, 46, 47, 48, 49, 50, 51, 52, 53, 54, 55, 56, 57, 58, 59, 60, 61, 62, 63, 64, 65, 66, 67, 68, 69, 70, 71, 72, 73, 74, 75, 76, 77, 78, 79, 80, 104, 105, 106, 107, 108, 109] (by decide +kernel) (by decide +kernel)
set_option maxRecDepth 20000 in
theorem gX3_takeChild_X3_isWord : GoodIn wsX3_takeChild (wsV RX3 42 RX3 yX3_isWord wsX3_isWord) := goodIn_app (goodIn_of _ (by decide +kernel)) ggX3_takeChild_X3_isWord
set_option maxRecDepth 20000 in
theorem ggX3_takeChild_X0_addChild : GoodIn wsX3_takeChild wsX0_addChild := goodIn_r _ [85, 86, 87, 88, 89, 90, 91, 92, 93, 94, 95, 96, 97, 98, 99, 100, 101, 102, 103] (by decide +kernel) (by decide +kernel)
set_option maxRecDepth 20000 in
theorem gX3_takeChild_X0_addChild : GoodIn wsX3_takeChild (wsV RX3 103 RX0 yX0_addChild wsX0_addChild) := goodIn_app (goodIn_of _ (by decide +kernel)) ggX3_takeChild_X0_addChild
theorem dX3_takeChild_0 : decode cX3_takeChild 0 = .ok (.aload_n 1, 1) := by decide +kernel
theorem dX3_takeChild_1 : decode cX3_takeChild 1 = .ok (.getfield 98, 3) := by decide +kernel
theorem dX3_takeChild_4 : decode cX3_takeChild 4 = .ok (.bipush 6, 2) := by decide +kernel
theorem dX3_takeChild_6 : decode cX3_takeChild 6 = .ok (.if_icmp .ge 14, 3) := by decide +kernel
theorem dX3_takeChild_9 : decode cX3_takeChild 9 = .ok (.aload_n 0, 1) := by decide +kernel
theorem dX3_takeChild_10 : decode cX3_takeChild 10 = .ok (.iconst 0, 1) := by decide +kernel
theorem dX3_takeChild_11 : decode cX3_takeChild 11 = .ok (.sipush 200, 3) := by decide +kernel
theorem dX3_takeChild_14 : decode cX3_takeChild 14 = .ok (.invokevirtual 85, 3) := by decide +kernel
theorem dX3_takeChild_17 : decode cX3_takeChild 17 = .ok (.ifCond .ne 5, 3) := by decide +kernel
theorem dX3_takeChild_20 : decode cX3_takeChild 20 = .ok (.iconst 0, 1) := by decide +kernel
theorem dX3_takeChild_21 : decode cX3_takeChild 21 = .ok (.ireturn, 1) := by decide +kernel
theorem dX3_takeChild_22 : decode cX3_takeChild 22 = .ok (.aload_n 0, 1) := by decide +kernel
theorem dX3_takeChild_23 : decode cX3_takeChild 23 = .ok (.getfield 89, 3) := by decide +kernel
theorem dX3_takeChild_26 : decode cX3_takeChild 26 = .ok (.istore_n 2, 1) := by decide +kernel
theorem dX3_takeChild_27 : decode cX3_takeChild 27 = .ok (.aload_n 0, 1) := by decide +kernel
theorem dX3_takeChild_28 : decode cX3_takeChild 28 = .ok (.invokevirtual 19, 3) := by decide +kernel
theorem dX3_takeChild_31 : decode cX3_takeChild 31 = .ok (.iconst 0, 1) := by decide +kernel
theorem dX3_takeChild_32 : decode cX3_takeChild 32 = .ok (.istore_n 3, 1) := by decide +kernel
theorem dX3_takeChild_33 : decode cX3_takeChild 33 = .ok (.aload_n 0, 1) := by decide +kernel
theorem dX3_takeChild_34 : decode cX3_takeChild 34 = .ok (.ldc 101, 2) := by decide +kernel
theorem dX3_takeChild_36 : decode cX3_takeChild 36 = .ok (.invokevirtual 42, 3) := by decide +kernel
theorem dX3_takeChild_39 : decode cX3_takeChild 39 = .ok (.ifCond .eq 9, 3) := by decide +kernel
theorem dX3_takeChild_42 : decode cX3_takeChild 42 = .ok (.iconst 1, 1) := by decide +kernel
theorem dX3_takeChild_43 : decode cX3_takeChild 43 = .ok (.istore_n 3, 1) := by decide +kernel
theorem dX3_takeChild_44 : decode cX3_takeChild 44 = .ok (.aload_n 0, 1) := by decide +kernel
theorem dX3_takeChild_45 : decode cX3_takeChild 45 = .ok (.invokevirtual 19, 3) := by decide +kernel
theorem dX3_takeChild_48 : decode cX3_takeChild 48 = .ok (.aload_n 1, 1) := by decide +kernel
theorem dX3_takeChild_49 : decode cX3_takeChild 49 = .ok (.iload_n 2, 1) := by decide +kernel
theorem dX3_takeChild_50 : decode cX3_takeChild 50 = .ok (.iload_n 3, 1) := by decide +kernel
theorem dX3_takeChild_51 : decode cX3_takeChild 51 = .ok (.invokevirtual 103, 3) := by decide +kernel
theorem dX3_takeChild_54 : decode cX3_takeChild 54 = .ok (.pop, 1) := by decide +kernel
theorem dX3_takeChild_55 : decode cX3_takeChild 55 = .ok (.iconst 1, 1) := by decide +kernel
theorem dX3_takeChild_56 : decode cX3_takeChild 56 = .ok (.ireturn, 1) := by decide +kernel
set_option maxRecDepth 20000 in
theorem ggX3_takeWet_X3_takeNumber : GoodIn wsX3_takeWet wsX3_takeNumber := goodIn_r _ [7, 8, 2, 9, 10, 11, 6, 12, 13, 14, 15, 16, 17, 18, 19, 20, 21, 22, 23, 24, 25, 26, 27, 42, 43, 44, 45, 46, 47] (by decide +kernel) (by decide +kernel)
set_option maxRecDepth 20000 in
theorem gX3_takeWet_X3_takeNumber : GoodIn wsX3_takeWet (wsV RX3 85 RX3 yX3_takeNumber wsX3_takeNumber) := goodIn_app (goodIn_of _ (by decide +kernel)) ggX3_takeWet_X3_takeNumber
set_option maxRecDepth 20000 in
theorem ggX3_takeWet_X3_advance : GoodIn wsX3_takeWet wsX3_advance := goodIn_r _ [12, 13, 14, 15, 8, 2, 16, 17, 18, 19, 20, 21, 22, 6, 23, 24, 25, 26, 27, 42, 43, 44, 45, 46, 47] (by decide +kernel) (by decide +kernel)
set_option maxRecDepth 20000 in
theorem gX3_takeWet_X3_advance : GoodIn wsX3_takeWet (wsV RX3 19 RX3 yX3_advance wsX3_advance) := goodIn_app (goodIn_of _ (by decide +kernel)) ggX3_takeWet_X3_advance
theorem dX3_takeWet_0 : decode cX3_takeWet 0 = .ok (.aload_n 0, 1) := by decide +kernel
theorem dX3_takeWet_1 : decode cX3_takeWet 1 = .ok (.iconst 0, 1) := by decide +kernel
theorem dX3_takeWet_2 : decode cX3_takeWet 2 = .ok (.iconst 4, 1) := by decide +kernel
theorem dX3_takeWet_3 : decode cX3_takeWet 3 = .ok (.invokevirtual 85, 3) := by decide +kernel
theorem dX3_takeWet_6 : decode cX3_takeWet 6 = .ok (.ifCond .ne 5, 3) := by decide +kernel
theorem dX3_takeWet_9 : decode cX3_takeWet 9 = .ok (.iconst 0, 1) := by decide +kernel
theorem dX3_takeWet_10 : decode cX3_takeWet 10 = .ok (.ireturn, 1) := by decide +kernel
theorem dX3_takeWet_11 : decode cX3_takeWet 11 = .ok (.aload_n 1, 1) := by decide +kernel
theorem dX3_takeWet_12 : decode cX3_takeWet 12 = .ok (.dup, 1) := by decide +kernel
theorem dX3_takeWet_13 : decode cX3_takeWet 13 = .ok (.getfield 107, 3) := by decide +kernel
theorem dX3_takeWet_16 : decode cX3_takeWet 16 = .ok (.iconst 1, 1) := by decide +kernel
theorem dX3_takeWet_17 : decode cX3_takeWet 17 = .ok (.aload_n 0, 1) := by decide +kernel
theorem dX3_takeWet_18 : decode cX3_takeWet 18 = .ok (.getfield 89, 3) := by decide +kernel
theorem dX3_takeWet_21 : decode cX3_takeWet 21 = .ok (.ishl, 1) := by decide +kernel
theorem dX3_takeWet_22 : decode cX3_takeWet 22 = .ok (.ior, 1) := by decide +kernel
theorem dX3_takeWet_23 : decode cX3_takeWet 23 = .ok (.putfield 107, 3) := by decide +kernel
theorem dX3_takeWet_26 : decode cX3_takeWet 26 = .ok (.aload_n 0, 1) := by decide +kernel
theorem dX3_takeWet_27 : decode cX3_takeWet 27 = .ok (.invokevirtual 19, 3) := by decide +kernel
theorem dX3_takeWet_30 : decode cX3_takeWet 30 = .ok (.iconst 1, 1) := by decide +kernel
theorem dX3_takeWet_31 : decode cX3_takeWet 31 = .ok (.ireturn, 1) := by decide +kernel
set_option maxRecDepth 20000 in
theorem ggX3_takeDry_X3_takeNumber : GoodIn wsX3_takeDry wsX3_takeNumber := goodIn_r _ [7, 8, 2, 9, 10, 11, 6, 12, 13, 14, 15, 16, 17, 18, 19, 20, 21, 22, 23, 24, 25, 26, 27, 42, 43, 44, 45, 46, 47] (by decide +kernel) (by decide +kernel)
set_option maxRecDepth 20000 in
theorem gX3_takeDry_X3_takeNumber : GoodIn wsX3_takeDry (wsV RX3 85 RX3 yX3_takeNumber wsX3_takeNumber) := goodIn_app (goodIn_of _ (by decide +kernel)) ggX3_takeDry_X3_takeNumber
set_option maxRecDepth 20000 in
theorem ggX3_takeDry_X3_advance : GoodIn wsX3_takeDry wsX3_advance := goodIn_r _ [12, 13, 14, 15, 8, 2, 16, 17, 18, 19, 20, 21, 22, 6, 23, 24, 25, 26, 27, 42, 43, 44, 45, 46, 47] (by decide +kernel) (by decide +kernel)
set_option maxRecDepth 20000 in
theorem gX3_takeDry_X3_advance : GoodIn wsX3_takeDry (wsV RX3 19 RX3 yX3_advance wsX3_advance) := goodIn_app (goodIn_of _ (by decide +kernel)) ggX3_takeDry_X3_advance
theorem dX3_takeDry_0 : decode cX3_takeDry 0 = .ok (.aload_n 0, 1) := by decide +kernel
theorem dX3_takeDry_1 : decode cX3_takeDry 1 = .ok (.iconst 0, 1) := by decide +kernel
theorem dX3_takeDry_2 : decode cX3_takeDry 2 = .ok (.iconst 4, 1) := by decide +kernel
theorem dX3_takeDry_3 : decode cX3_takeDry 3 = .ok (.invokevirtual 85, 3) := by decide +kernel
theorem dX3_takeDry_6 : decode cX3_takeDry 6 = .ok (.ifCond .ne 5, 3) := by decide +kernel
theorem dX3_takeDry_9 : decode cX3_takeDry 9 = .ok (.iconst 0, 1) := by decide +kernel
theorem dX3_takeDry_10 : decode cX3_takeDry 10 = .ok (.ireturn, 1) := by decide +kernel
theorem dX3_takeDry_11 : decode cX3_takeDry 11 = .ok (.aload_n 1, 1) := by decide +kernel
theorem dX3_takeDry_12 : decode cX3_takeDry 12 = .ok (.dup, 1) := by decide +kernel
theorem dX3_takeDry_13 : decode cX3_takeDry 13 = .ok (.getfield 107, 3) := by decide +kernel
theorem dX3_takeDry_16 : decode cX3_takeDry 16 = .ok (.iconst 1, 1) := by decide +kernel
theorem dX3_takeDry_17 : decode cX3_takeDry 17 = .ok (.aload_n 0, 1) := by decide +kernel
theorem dX3_takeDry_18 : decode cX3_takeDry 18 = .ok (.getfield 89, 3) := by decide +kernel
theorem dX3_takeDry_21 : decode cX3_takeDry 21 = .ok (.ishl, 1) := by decide +kernel
theorem dX3_takeDry_22 : decode cX3_takeDry 22 = .ok (.iconst (-1), 1) := by decide +kernel
theorem dX3_takeDry_23 : decode cX3_takeDry 23 = .ok (.ixor, 1) := by decide +kernel
theorem dX3_takeDry_24 : decode cX3_takeDry 24 = .ok (.iand, 1) := by decide +kernel
theorem dX3_takeDry_25 : decode cX3_takeDry 25 = .ok (.putfield 107, 3) := by decide +kernel
theorem dX3_takeDry_28 : decode cX3_takeDry 28 = .ok (.aload_n 0, 1) := by decide +kernel
theorem dX3_takeDry_29 : decode cX3_takeDry 29 = .ok (.invokevirtual 19, 3) := by decide +kernel
theorem dX3_takeDry_32 : decode cX3_takeDry 32 = .ok (.iconst 1, 1) := by decide +kernel
theorem dX3_takeDry_33 : decode cX3_takeDry 33 = .ok (.ireturn, 1) := by decide +kernel
set_option maxRecDepth 20000 in
theorem ggX3_takeHeavy_X3_takeNumber : GoodIn wsX3_takeHeavy wsX3_takeNumber := goodIn_r _ [7, 8, 1, 9, 10, 11, 6, 12, 13, 14, 15, 16, 17, 18, 19, 20, 21, 22, 23, 24, 25, 26, 27, 28, 29, 30, 31, 32, 33] (by decide +kernel) (by decide +kernel)
set_option maxRecDepth 20000 in
theorem gX3_takeHeavy_X3_takeNumber : GoodIn wsX3_takeHeavy (wsV RX3 85 RX3 yX3_takeNumber wsX3_takeNumber) := goodIn_app (goodIn_of _ (by decide +kernel)) ggX3_takeHeavy_X3_takeNumber
set_option maxRecDepth 20000 in
theorem ggX3_takeHeavy_X3_advance : GoodIn wsX3_takeHeavy wsX3_advance := goodIn_r _ [12, 13, 14, 15, 8, 1, 16, 17, 18, 19, 20, 21, 22, 6, 23, 24, 25, 26, 27, 28, 29, 30, 31, 32, 33] (by decide +kernel) (by decide +kernel)
set_option maxRecDepth 20000 in
theorem gX3_takeHeavy_X3_advance : GoodIn wsX3_takeHeavy (wsV RX3 19 RX3 yX3_advance wsX3_advance) := goodIn_app (goodIn_of _ (by decide +kernel)) ggX3_takeHeavy_X3_advance
theorem dX3_takeHeavy_0 : decode cX3_takeHeavy 0 = .ok (.aload_n 0, 1) := by decide +kernel
theorem dX3_takeHeavy_1 : decode cX3_takeHeavy 1 = .ok (.iconst 1, 1) := by decide +kernel
theorem dX3_takeHeavy_2 : decode cX3_takeHeavy 2 = .ok (.bipush 50, 2) := by decide +kernel
theorem dX3_takeHeavy_4 : decode cX3_takeHeavy 4 = .ok (.invokevirtual 85, 3) := by decide +kernel
theorem dX3_takeHeavy_7 : decode cX3_takeHeavy 7 = .ok (.ifCond .ne 5, 3) := by decide +kernel
theorem dX3_takeHeavy_10 : decode cX3_takeHeavy 10 = .ok (.iconst 0, 1) := by decide +kernel
theorem dX3_takeHeavy_11 : decode cX3_takeHeavy 11 = .ok (.ireturn, 1) := by decide +kernel
theorem dX3_takeHeavy_12 : decode cX3_takeHeavy 12 = .ok (.aload_n 1, 1) := by decide +kernel
theorem dX3_takeHeavy_13 : decode cX3_takeHeavy 13 = .ok (.aload_n 0, 1) := by decide +kernel
theorem dX3_takeHeavy_14 : decode cX3_takeHeavy 14 = .ok (.getfield 89, 3) := by decide +kernel
theorem dX3_takeHeavy_17 : decode cX3_takeHeavy 17 = .ok (.putfield 110, 3) := by decide +kernel
theorem dX3_takeHeavy_20 : decode cX3_takeHeavy 20 = .ok (.aload_n 0, 1) := by decide +kernel
theorem dX3_takeHeavy_21 : decode cX3_takeHeavy 21 = .ok (.invokevirtual 19, 3) := by decide +kernel
theorem dX3_takeHeavy_24 : decode cX3_takeHeavy 24 = .ok (.iconst 1, 1) := by decide +kernel
theorem dX3_takeHeavy_25 : decode cX3_takeHeavy 25 = .ok (.ireturn, 1) := by decide +kernel
set_option maxRecDepth 20000 in
theorem ggX3_takeNumber_X3_advance : GoodIn wsX3_takeNumber wsX3_advance := goodIn_r _ [7, 8, 9, 10, 1, 2, 11, 12, 13, 14, 15, 16, 17, 6, 18, 19, 20, 21, 22, 23, 24, 25, 26, 27, 28] (by decide +kernel) (by decide +kernel)
set_option maxRecDepth 20000 in
theorem gX3_takeNumber_X3_advance : GoodIn wsX3_takeNumber (wsV RX3 19 RX3 yX3_advance wsX3_advance) := goodIn_app (goodIn_of _ (by decide +kernel)) ggX3_takeNumber_X3_advance
theorem dX3_takeNumber_0 : decode cX3_takeNumber 0 = .ok (.aload_n 0, 1) := by decide +kernel
theorem dX3_takeNumber_1 : decode cX3_takeNumber 1 = .ok (.invokevirtual 19, 3) := by decide +kernel
theorem dX3_takeNumber_4 : decode cX3_takeNumber 4 = .ok (.aload_n 0, 1) := by decide +kernel
theorem dX3_takeNumber_5 : decode cX3_takeNumber 5 = .ok (.getfield 29, 3) := by decide +kernel
theorem dX3_takeNumber_8 : decode cX3_takeNumber 8 = .ok (.iconst 2, 1) := by decide +kernel
theorem dX3_takeNumber_9 : decode cX3_takeNumber 9 = .ok (.if_icmp .ne 23, 3) := by decide +kernel
theorem dX3_takeNumber_12 : decode cX3_takeNumber 12 = .ok (.aload_n 0, 1) := by decide +kernel
theorem dX3_takeNumber_13 : decode cX3_takeNumber 13 = .ok (.getfield 89, 3) := by decide +kernel
theorem dX3_takeNumber_16 : decode cX3_takeNumber 16 = .ok (.iload_n 1, 1) := by decide +kernel
theorem dX3_takeNumber_17 : decode cX3_takeNumber 17 = .ok (.if_icmp .lt 15, 3) := by decide +kernel
theorem dX3_takeNumber_20 : decode cX3_takeNumber 20 = .ok (.aload_n 0, 1) := by decide +kernel
theorem dX3_takeNumber_21 : decode cX3_takeNumber 21 = .ok (.getfield 89, 3) := by decide +kernel
theorem dX3_takeNumber_24 : decode cX3_takeNumber 24 = .ok (.iload_n 2, 1) := by decide +kernel
theorem dX3_takeNumber_25 : decode cX3_takeNumber 25 = .ok (.if_icmp .gt 7, 3) := by decide +kernel
theorem dX3_takeNumber_28 : decode cX3_takeNumber 28 = .ok (.iconst 1, 1) := by decide +kernel
theorem dX3_takeNumber_29 : decode cX3_takeNumber 29 = .ok (.goto 4, 3) := by decide +kernel
theorem dX3_takeNumber_32 : decode cX3_takeNumber 32 = .ok (.iconst 0, 1) := by decide +kernel
theorem dX3_takeNumber_33 : decode cX3_takeNumber 33 = .ok (.ireturn, 1) := by decide +kernel
set_option maxRecDepth 20000 in
theorem ggX3_isWord_J0_length_8abf5 : GoodIn wsX3_isWord wsJ0_length_8abf5 := goodIn_r _ [8, 9, 10, 11, 12, 7, 13, 14, 15] (by decide +kernel) (by decide +kernel)
set_option maxRecDepth 20000 in
theorem gX3_isWord_J0_length_8abf5 : GoodIn wsX3_isWord (wsV RX3 113 RJ0 yJ0_length_8abf5 wsJ0_length_8abf5) := goodIn_app (goodIn_of _ (by decide +kernel)) ggX3_isWord_J0_length_8abf5
set_option maxRecDepth 20000 in
theorem ggX3_isWord_X3_byteAt : GoodIn wsX3_isWord wsX3_byteAt := goodIn_r _ [20, 21, 59, 60, 61, 62, 63, 64] (by decide +kernel) (by decide +kernel)
set_option maxRecDepth 20000 in
theorem gX3_isWord_X3_byteAt : GoodIn wsX3_isWord (wsV RX3 118 RX3 yX3_byteAt wsX3_byteAt) := goodIn_app (goodIn_of _ (by decide +kernel)) ggX3_isWord_X3_byteAt
set_option maxRecDepth 20000 in
theorem ggX3_isWord_J0_charAt_5068e : GoodIn wsX3_isWord wsJ0_charAt_5068e := goodIn_r _ [25, 9, 26, 27, 28, 7, 29, 14, 15, 30, 31, 32, 33, 34, 35, 36, 37, 38, 39, 40, 41, 42, 43, 44, 45, 46, 47, 48, 49, 50, 51, 52, 53, 54, 55, 56, 57, 58] (by decide +kernel) (by decide +kernel)
set_option maxRecDepth 20000 in
theorem gX3_isWord_J0_charAt_5068e : GoodIn wsX3_isWord (wsV RX3 122 RJ0 yJ0_charAt_5068e wsJ0_charAt_5068e) := goodIn_app (goodIn_of _ (by decide +kernel)) ggX3_isWord_J0_charAt_5068e
theorem dX3_isWord_0 : decode cX3_isWord 0 = .ok (.aload_n 0, 1) := by decide +kernel
theorem dX3_isWord_1 : decode cX3_isWord 1 = .ok (.getfield 29, 3) := by decide +kernel
theorem dX3_isWord_4 : decode cX3_isWord 4 = .ok (.iconst 1, 1) := by decide +kernel
theorem dX3_isWord_5 : decode cX3_isWord 5 = .ok (.if_icmp .ne 19, 3) := by decide +kernel
theorem dX3_isWord_8 : decode cX3_isWord 8 = .ok (.aload_n 0, 1) := by decide +kernel
theorem dX3_isWord_9 : decode cX3_isWord 9 = .ok (.getfield 15, 3) := by decide +kernel
theorem dX3_isWord_12 : decode cX3_isWord 12 = .ok (.aload_n 0, 1) := by decide +kernel
theorem dX3_isWord_13 : decode cX3_isWord 13 = .ok (.getfield 26, 3) := by decide +kernel
theorem dX3_isWord_16 : decode cX3_isWord 16 = .ok (.isub, 1) := by decide +kernel
theorem dX3_isWord_17 : decode cX3_isWord 17 = .ok (.aload_n 1, 1) := by decide +kernel
theorem dX3_isWord_18 : decode cX3_isWord 18 = .ok (.invokevirtual 113, 3) := by decide +kernel
theorem dX3_isWord_21 : decode cX3_isWord 21 = .ok (.if_icmp .eq 5, 3) := by decide +kernel
theorem dX3_isWord_24 : decode cX3_isWord 24 = .ok (.iconst 0, 1) := by decide +kernel
theorem dX3_isWord_25 : decode cX3_isWord 25 = .ok (.ireturn, 1) := by decide +kernel
theorem dX3_isWord_26 : decode cX3_isWord 26 = .ok (.iconst 0, 1) := by decide +kernel
theorem dX3_isWord_27 : decode cX3_isWord 27 = .ok (.istore_n 2, 1) := by decide +kernel
theorem dX3_isWord_28 : decode cX3_isWord 28 = .ok (.iload_n 2, 1) := by decide +kernel
theorem dX3_isWord_29 : decode cX3_isWord 29 = .ok (.aload_n 1, 1) := by decide +kernel
theorem dX3_isWord_30 : decode cX3_isWord 30 = .ok (.invokevirtual 113, 3) := by decide +kernel
theorem dX3_isWord_33 : decode cX3_isWord 33 = .ok (.if_icmp .ge 29, 3) := by decide +kernel
theorem dX3_isWord_36 : decode cX3_isWord 36 = .ok (.aload_n 0, 1) := by decide +kernel
theorem dX3_isWord_37 : decode cX3_isWord 37 = .ok (.aload_n 0, 1) := by decide +kernel
theorem dX3_isWord_38 : decode cX3_isWord 38 = .ok (.getfield 26, 3) := by decide +kernel
theorem dX3_isWord_41 : decode cX3_isWord 41 = .ok (.iload_n 2, 1) := by decide +kernel
theorem dX3_isWord_42 : decode cX3_isWord 42 = .ok (.iadd, 1) := by decide +kernel
theorem dX3_isWord_43 : decode cX3_isWord 43 = .ok (.invokevirtual 118, 3) := by decide +kernel
theorem dX3_isWord_46 : decode cX3_isWord 46 = .ok (.aload_n 1, 1) := by decide +kernel
theorem dX3_isWord_47 : decode cX3_isWord 47 = .ok (.iload_n 2, 1) := by decide +kernel
theorem dX3_isWord_48 : decode cX3_isWord 48 = .ok (.invokevirtual 122, 3) := by decide +kernel
theorem dX3_isWord_51 : decode cX3_isWord 51 = .ok (.if_icmp .eq 5, 3) := by decide +kernel
theorem dX3_isWord_54 : decode cX3_isWord 54 = .ok (.iconst 0, 1) := by decide +kernel
theorem dX3_isWord_55 : decode cX3_isWord 55 = .ok (.ireturn, 1) := by decide +kernel
theorem dX3_isWord_56 : decode cX3_isWord 56 = .ok (.iinc 2 1, 3) := by decide +kernel
theorem dX3_isWord_59 : decode cX3_isWord 59 = .ok (.goto (-31), 3) := by decide +kernel
theorem dX3_isWord_62 : decode cX3_isWord 62 = .ok (.iconst 1, 1) := by decide +kernel
theorem dX3_isWord_63 : decode cX3_isWord 63 = .ok (.ireturn, 1) := by decide +kernel
set_option maxRecDepth 20000 in
theorem ggX3_advance_X3_byteAt : GoodIn wsX3_advance wsX3_byteAt := goodIn_r _ [14, 15, 19, 20, 21, 22, 23, 24] (by decide +kernel) (by decide +kernel)
set_option maxRecDepth 20000 in
theorem gX3_advance_X3_byteAt : GoodIn wsX3_advance (wsV RX3 118 RX3 yX3_byteAt wsX3_byteAt) := goodIn_app (goodIn_of _ (by decide +kernel)) ggX3_advance_X3_byteAt
set_option maxRecDepth 20000 in
theorem ggX3_advance_X3_sortOf : GoodIn wsX3_advance wsX3_sortOf := goodIn_r _ [18] (by decide +kernel) (by decide +kernel)
set_option maxRecDepth 20000 in
theorem gX3_advance_X3_sortOf : GoodIn wsX3_advance (va_wsS RX3 128 yX3_sortOf wsX3_sortOf) := goodIn_app (goodIn_of _ (by decide +kernel)) ggX3_advance_X3_sortOf
theorem dX3_advance_0 : decode cX3_advance 0 = .ok (.aload_n 0, 1) := by decide +kernel
theorem dX3_advance_1 : decode cX3_advance 1 = .ok (.getfield 15, 3) := by decide +kernel
theorem dX3_advance_4 : decode cX3_advance 4 = .ok (.istore_n 1, 1) := by decide +kernel
theorem dX3_advance_5 : decode cX3_advance 5 = .ok (.iload_n 1, 1) := by decide +kernel
theorem dX3_advance_6 : decode cX3_advance 6 = .ok (.aload_n 0, 1) := by decide +kernel
theorem dX3_advance_7 : decode cX3_advance 7 = .ok (.getfield 126, 3) := by decide +kernel
theorem dX3_advance_10 : decode cX3_advance 10 = .ok (.if_icmp .ge 19, 3) := by decide +kernel
theorem dX3_advance_13 : decode cX3_advance 13 = .ok (.aload_n 0, 1) := by decide +kernel
theorem dX3_advance_14 : decode cX3_advance 14 = .ok (.iload_n 1, 1) := by decide +kernel
theorem dX3_advance_15 : decode cX3_advance 15 = .ok (.invokevirtual 118, 3) := by decide +kernel
theorem dX3_advance_18 : decode cX3_advance 18 = .ok (.bipush 32, 2) := by decide +kernel
theorem dX3_advance_20 : decode cX3_advance 20 = .ok (.if_icmp .ne 9, 3) := by decide +kernel
theorem dX3_advance_23 : decode cX3_advance 23 = .ok (.iinc 1 1, 3) := by decide +kernel
theorem dX3_advance_26 : decode cX3_advance 26 = .ok (.goto (-21), 3) := by decide +kernel
theorem dX3_advance_29 : decode cX3_advance 29 = .ok (.aload_n 0, 1) := by decide +kernel
theorem dX3_advance_30 : decode cX3_advance 30 = .ok (.iload_n 1, 1) := by decide +kernel
theorem dX3_advance_31 : decode cX3_advance 31 = .ok (.putfield 26, 3) := by decide +kernel
theorem dX3_advance_34 : decode cX3_advance 34 = .ok (.aload_n 0, 1) := by decide +kernel
theorem dX3_advance_35 : decode cX3_advance 35 = .ok (.iload_n 1, 1) := by decide +kernel
theorem dX3_advance_36 : decode cX3_advance 36 = .ok (.aload_n 0, 1) := by decide +kernel
theorem dX3_advance_37 : decode cX3_advance 37 = .ok (.getfield 126, 3) := by decide +kernel
theorem dX3_advance_40 : decode cX3_advance 40 = .ok (.if_icmp .ge 14, 3) := by decide +kernel
theorem dX3_advance_43 : decode cX3_advance 43 = .ok (.aload_n 0, 1) := by decide +kernel
theorem dX3_advance_44 : decode cX3_advance 44 = .ok (.iload_n 1, 1) := by decide +kernel
theorem dX3_advance_45 : decode cX3_advance 45 = .ok (.invokevirtual 118, 3) := by decide +kernel
theorem dX3_advance_48 : decode cX3_advance 48 = .ok (.invokestatic 128, 3) := by decide +kernel
theorem dX3_advance_51 : decode cX3_advance 51 = .ok (.goto 4, 3) := by decide +kernel
theorem dX3_advance_54 : decode cX3_advance 54 = .ok (.iconst 0, 1) := by decide +kernel
theorem dX3_advance_55 : decode cX3_advance 55 = .ok (.putfield 29, 3) := by decide +kernel
theorem dX3_advance_58 : decode cX3_advance 58 = .ok (.aload_n 0, 1) := by decide +kernel
theorem dX3_advance_59 : decode cX3_advance 59 = .ok (.iconst 0, 1) := by decide +kernel
theorem dX3_advance_60 : decode cX3_advance 60 = .ok (.putfield 89, 3) := by decide +kernel
theorem dX3_advance_63 : decode cX3_advance 63 = .ok (.aload_n 0, 1) := by decide +kernel
theorem dX3_advance_64 : decode cX3_advance 64 = .ok (.getfield 29, 3) := by decide +kernel
theorem dX3_advance_67 : decode cX3_advance 67 = .ok (.iconst 1, 1) := by decide +kernel
theorem dX3_advance_68 : decode cX3_advance 68 = .ok (.if_icmp .eq 11, 3) := by decide +kernel
theorem dX3_advance_71 : decode cX3_advance 71 = .ok (.aload_n 0, 1) := by decide +kernel
theorem dX3_advance_72 : decode cX3_advance 72 = .ok (.getfield 29, 3) := by decide +kernel
theorem dX3_advance_75 : decode cX3_advance 75 = .ok (.iconst 2, 1) := by decide +kernel
theorem dX3_advance_76 : decode cX3_advance 76 = .ok (.if_icmp .ne 7, 3) := by decide +kernel
theorem dX3_advance_79 : decode cX3_advance 79 = .ok (.iconst 1, 1) := by decide +kernel
theorem dX3_advance_80 : decode cX3_advance 80 = .ok (.goto 4, 3) := by decide +kernel
theorem dX3_advance_83 : decode cX3_advance 83 = .ok (.iconst 0, 1) := by decide +kernel
theorem dX3_advance_84 : decode cX3_advance 84 = .ok (.istore_n 2, 1) := by decide +kernel
theorem dX3_advance_85 : decode cX3_advance 85 = .ok (.iload_n 1, 1) := by decide +kernel
theorem dX3_advance_86 : decode cX3_advance 86 = .ok (.aload_n 0, 1) := by decide +kernel
theorem dX3_advance_87 : decode cX3_advance 87 = .ok (.getfield 126, 3) := by decide +kernel
theorem dX3_advance_90 : decode cX3_advance 90 = .ok (.if_icmp .ge 70, 3) := by decide +kernel
theorem dX3_advance_93 : decode cX3_advance 93 = .ok (.aload_n 0, 1) := by decide +kernel
theorem dX3_advance_94 : decode cX3_advance 94 = .ok (.iload_n 1, 1) := by decide +kernel
theorem dX3_advance_95 : decode cX3_advance 95 = .ok (.invokevirtual 118, 3) := by decide +kernel
theorem dX3_advance_98 : decode cX3_advance 98 = .ok (.invokestatic 128, 3) := by decide +kernel
theorem dX3_advance_101 : decode cX3_advance 101 = .ok (.aload_n 0, 1) := by decide +kernel
theorem dX3_advance_102 : decode cX3_advance 102 = .ok (.getfield 29, 3) := by decide +kernel
theorem dX3_advance_105 : decode cX3_advance 105 = .ok (.if_icmp .ne 55, 3) := by decide +kernel
theorem dX3_advance_108 : decode cX3_advance 108 = .ok (.iload_n 2, 1) := by decide +kernel
theorem dX3_advance_109 : decode cX3_advance 109 = .ok (.ifCond .ne 11, 3) := by decide +kernel
theorem dX3_advance_112 : decode cX3_advance 112 = .ok (.iload_n 1, 1) := by decide +kernel
theorem dX3_advance_113 : decode cX3_advance 113 = .ok (.aload_n 0, 1) := by decide +kernel
theorem dX3_advance_114 : decode cX3_advance 114 = .ok (.getfield 26, 3) := by decide +kernel
theorem dX3_advance_117 : decode cX3_advance 117 = .ok (.if_icmp .ne 43, 3) := by decide +kernel
theorem dX3_advance_120 : decode cX3_advance 120 = .ok (.aload_n 0, 1) := by decide +kernel
theorem dX3_advance_121 : decode cX3_advance 121 = .ok (.getfield 29, 3) := by decide +kernel
theorem dX3_advance_124 : decode cX3_advance 124 = .ok (.iconst 2, 1) := by decide +kernel
theorem dX3_advance_125 : decode cX3_advance 125 = .ok (.if_icmp .ne 29, 3) := by decide +kernel
theorem dX3_advance_128 : decode cX3_advance 128 = .ok (.aload_n 0, 1) := by decide +kernel
theorem dX3_advance_129 : decode cX3_advance 129 = .ok (.sipush 1000, 3) := by decide +kernel
theorem dX3_advance_132 : decode cX3_advance 132 = .ok (.bipush 10, 2) := by decide +kernel
theorem dX3_advance_134 : decode cX3_advance 134 = .ok (.aload_n 0, 1) := by decide +kernel
theorem dX3_advance_135 : decode cX3_advance 135 = .ok (.getfield 89, 3) := by decide +kernel
theorem dX3_advance_138 : decode cX3_advance 138 = .ok (.imul, 1) := by decide +kernel
theorem dX3_advance_139 : decode cX3_advance 139 = .ok (.aload_n 0, 1) := by decide +kernel
theorem dX3_advance_140 : decode cX3_advance 140 = .ok (.iload_n 1, 1) := by decide +kernel
theorem dX3_advance_141 : decode cX3_advance 141 = .ok (.invokevirtual 118, 3) := by decide +kernel
theorem dX3_advance_144 : decode cX3_advance 144 = .ok (.iadd, 1) := by decide +kernel
theorem dX3_advance_145 : decode cX3_advance 145 = .ok (.bipush 48, 2) := by decide +kernel
theorem dX3_advance_147 : decode cX3_advance 147 = .ok (.isub, 1) := by decide +kernel
theorem dX3_advance_148 : decode cX3_advance 148 = .ok (.invokestatic 131, 3) := by decide +kernel
theorem dX3_advance_151 : decode cX3_advance 151 = .ok (.putfield 89, 3) := by decide +kernel
theorem dX3_advance_154 : decode cX3_advance 154 = .ok (.iinc 1 1, 3) := by decide +kernel
theorem dX3_advance_157 : decode cX3_advance 157 = .ok (.goto (-72), 3) := by decide +kernel
theorem dX3_advance_160 : decode cX3_advance 160 = .ok (.aload_n 0, 1) := by decide +kernel
theorem dX3_advance_161 : decode cX3_advance 161 = .ok (.iload_n 1, 1) := by decide +kernel
theorem dX3_advance_162 : decode cX3_advance 162 = .ok (.putfield 15, 3) := by decide +kernel
theorem dX3_advance_165 : decode cX3_advance 165 = .ok (.return_, 1) := by decide +kernel
theorem dX3_sortOf_0 : decode cX3_sortOf 0 = .ok (.iload_n 0, 1) := by decide +kernel
theorem dX3_sortOf_1 : decode cX3_sortOf 1 = .ok (.bipush 97, 2) := by decide +kernel
theorem dX3_sortOf_3 : decode cX3_sortOf 3 = .ok (.if_icmp .lt 11, 3) := by decide +kernel
theorem dX3_sortOf_6 : decode cX3_sortOf 6 = .ok (.iload_n 0, 1) := by decide +kernel
theorem dX3_sortOf_7 : decode cX3_sortOf 7 = .ok (.bipush 122, 2) := by decide +kernel
theorem dX3_sortOf_9 : decode cX3_sortOf 9 = .ok (.if_icmp .gt 5, 3) := by decide +kernel
theorem dX3_sortOf_12 : decode cX3_sortOf 12 = .ok (.iconst 1, 1) := by decide +kernel
theorem dX3_sortOf_13 : decode cX3_sortOf 13 = .ok (.ireturn, 1) := by decide +kernel
theorem dX3_sortOf_14 : decode cX3_sortOf 14 = .ok (.iload_n 0, 1) := by decide +kernel
theorem dX3_sortOf_15 : decode cX3_sortOf 15 = .ok (.bipush 48, 2) := by decide +kernel
theorem dX3_sortOf_17 : decode cX3_sortOf 17 = .ok (.if_icmp .lt 11, 3) := by decide +kernel
theorem dX3_sortOf_20 : decode cX3_sortOf 20 = .ok (.iload_n 0, 1) := by decide +kernel
theorem dX3_sortOf_21 : decode cX3_sortOf 21 = .ok (.bipush 57, 2) := by decide +kernel
theorem dX3_sortOf_23 : decode cX3_sortOf 23 = .ok (.if_icmp .gt 5, 3) := by decide +kernel
theorem dX3_sortOf_26 : decode cX3_sortOf 26 = .ok (.iconst 2, 1) := by decide +kernel
theorem dX3_sortOf_27 : decode cX3_sortOf 27 = .ok (.ireturn, 1) := by decide +kernel
theorem dX3_sortOf_28 : decode cX3_sortOf 28 = .ok (.iload_n 0, 1) := by decide +kernel
theorem dX3_sortOf_29 : decode cX3_sortOf 29 = .ok (.bipush 59, 2) := by decide +kernel
theorem dX3_sortOf_31 : decode cX3_sortOf 31 = .ok (.if_icmp .ne 7, 3) := by decide +kernel
theorem dX3_sortOf_34 : decode cX3_sortOf 34 = .ok (.iconst 3, 1) := by decide +kernel
theorem dX3_sortOf_35 : decode cX3_sortOf 35 = .ok (.goto 4, 3) := by decide +kernel
theorem dX3_sortOf_38 : decode cX3_sortOf 38 = .ok (.iconst 4, 1) := by decide +kernel
theorem dX3_sortOf_39 : decode cX3_sortOf 39 = .ok (.ireturn, 1) := by decide +kernel
theorem dX3_byteAt_0 : decode cX3_byteAt 0 = .ok (.iload_n 1, 1) := by decide +kernel
theorem dX3_byteAt_1 : decode cX3_byteAt 1 = .ok (.ifCond .lt 18, 3) := by decide +kernel
theorem dX3_byteAt_4 : decode cX3_byteAt 4 = .ok (.iload_n 1, 1) := by decide +kernel
theorem dX3_byteAt_5 : decode cX3_byteAt 5 = .ok (.bipush 120, 2) := by decide +kernel
theorem dX3_byteAt_7 : decode cX3_byteAt 7 = .ok (.if_icmp .ge 12, 3) := by decide +kernel
theorem dX3_byteAt_10 : decode cX3_byteAt 10 = .ok (.aload_n 0, 1) := by decide +kernel
theorem dX3_byteAt_11 : decode cX3_byteAt 11 = .ok (.getfield 11, 3) := by decide +kernel
theorem dX3_byteAt_14 : decode cX3_byteAt 14 = .ok (.iload_n 1, 1) := by decide +kernel
theorem dX3_byteAt_15 : decode cX3_byteAt 15 = .ok (.iaload, 1) := by decide +kernel
theorem dX3_byteAt_16 : decode cX3_byteAt 16 = .ok (.goto 4, 3) := by decide +kernel
theorem dX3_byteAt_19 : decode cX3_byteAt 19 = .ok (.iconst 0, 1) := by decide +kernel
theorem dX3_byteAt_20 : decode cX3_byteAt 20 = .ok (.ireturn, 1) := by decide +kernel
theorem dJ6_bitCount_0f7a4_0 : decode cJ6_bitCount_0f7a4 0 = .ok (.iload_n 0, 1) := by decide +kernel
theorem dJ6_bitCount_0f7a4_1 : decode cJ6_bitCount_0f7a4 1 = .ok (.iload_n 0, 1) := by decide +kernel
theorem dJ6_bitCount_0f7a4_2 : decode cJ6_bitCount_0f7a4 2 = .ok (.iconst 1, 1) := by decide +kernel
theorem dJ6_bitCount_0f7a4_3 : decode cJ6_bitCount_0f7a4 3 = .ok (.iushr, 1) := by decide +kernel
theorem dJ6_bitCount_0f7a4_4 : decode cJ6_bitCount_0f7a4 4 = .ok (.ldc_w 265, 3) := by decide +kernel
theorem dJ6_bitCount_0f7a4_7 : decode cJ6_bitCount_0f7a4 7 = .ok (.iand, 1) := by decide +kernel
theorem dJ6_bitCount_0f7a4_8 : decode cJ6_bitCount_0f7a4 8 = .ok (.isub, 1) := by decide +kernel
theorem dJ6_bitCount_0f7a4_9 : decode cJ6_bitCount_0f7a4 9 = .ok (.istore_n 0, 1) := by decide +kernel
theorem dJ6_bitCount_0f7a4_10 : decode cJ6_bitCount_0f7a4 10 = .ok (.iload_n 0, 1) := by decide +kernel
theorem dJ6_bitCount_0f7a4_11 : decode cJ6_bitCount_0f7a4 11 = .ok (.ldc_w 266, 3) := by decide +kernel
theorem dJ6_bitCount_0f7a4_14 : decode cJ6_bitCount_0f7a4 14 = .ok (.iand, 1) := by decide +kernel
theorem dJ6_bitCount_0f7a4_15 : decode cJ6_bitCount_0f7a4 15 = .ok (.iload_n 0, 1) := by decide +kernel
theorem dJ6_bitCount_0f7a4_16 : decode cJ6_bitCount_0f7a4 16 = .ok (.iconst 2, 1) := by decide +kernel
theorem dJ6_bitCount_0f7a4_17 : decode cJ6_bitCount_0f7a4 17 = .ok (.iushr, 1) := by decide +kernel
theorem dJ6_bitCount_0f7a4_18 : decode cJ6_bitCount_0f7a4 18 = .ok (.ldc_w 266, 3) := by decide +kernel
theorem dJ6_bitCount_0f7a4_21 : decode cJ6_bitCount_0f7a4 21 = .ok (.iand, 1) := by decide +kernel
theorem dJ6_bitCount_0f7a4_22 : decode cJ6_bitCount_0f7a4 22 = .ok (.iadd, 1) := by decide +kernel
theorem dJ6_bitCount_0f7a4_23 : decode cJ6_bitCount_0f7a4 23 = .ok (.istore_n 0, 1) := by decide +kernel
theorem dJ6_bitCount_0f7a4_24 : decode cJ6_bitCount_0f7a4 24 = .ok (.iload_n 0, 1) := by decide +kernel
theorem dJ6_bitCount_0f7a4_25 : decode cJ6_bitCount_0f7a4 25 = .ok (.iload_n 0, 1) := by decide +kernel
theorem dJ6_bitCount_0f7a4_26 : decode cJ6_bitCount_0f7a4 26 = .ok (.iconst 4, 1) := by decide +kernel
theorem dJ6_bitCount_0f7a4_27 : decode cJ6_bitCount_0f7a4 27 = .ok (.iushr, 1) := by decide +kernel
theorem dJ6_bitCount_0f7a4_28 : decode cJ6_bitCount_0f7a4 28 = .ok (.iadd, 1) := by decide +kernel
theorem dJ6_bitCount_0f7a4_29 : decode cJ6_bitCount_0f7a4 29 = .ok (.ldc_w 267, 3) := by decide +kernel
theorem dJ6_bitCount_0f7a4_32 : decode cJ6_bitCount_0f7a4 32 = .ok (.iand, 1) := by decide +kernel
theorem dJ6_bitCount_0f7a4_33 : decode cJ6_bitCount_0f7a4 33 = .ok (.istore_n 0, 1) := by decide +kernel
theorem dJ6_bitCount_0f7a4_34 : decode cJ6_bitCount_0f7a4 34 = .ok (.iload_n 0, 1) := by decide +kernel
theorem dJ6_bitCount_0f7a4_35 : decode cJ6_bitCount_0f7a4 35 = .ok (.iload_n 0, 1) := by decide +kernel
theorem dJ6_bitCount_0f7a4_36 : decode cJ6_bitCount_0f7a4 36 = .ok (.bipush 8, 2) := by decide +kernel
theorem dJ6_bitCount_0f7a4_38 : decode cJ6_bitCount_0f7a4 38 = .ok (.iushr, 1) := by decide +kernel
theorem dJ6_bitCount_0f7a4_39 : decode cJ6_bitCount_0f7a4 39 = .ok (.iadd, 1) := by decide +kernel
theorem dJ6_bitCount_0f7a4_40 : decode cJ6_bitCount_0f7a4 40 = .ok (.istore_n 0, 1) := by decide +kernel
theorem dJ6_bitCount_0f7a4_41 : decode cJ6_bitCount_0f7a4 41 = .ok (.iload_n 0, 1) := by decide +kernel
theorem dJ6_bitCount_0f7a4_42 : decode cJ6_bitCount_0f7a4 42 = .ok (.iload_n 0, 1) := by decide +kernel
theorem dJ6_bitCount_0f7a4_43 : decode cJ6_bitCount_0f7a4 43 = .ok (.bipush 16, 2) := by decide +kernel
theorem dJ6_bitCount_0f7a4_45 : decode cJ6_bitCount_0f7a4 45 = .ok (.iushr, 1) := by decide +kernel
theorem dJ6_bitCount_0f7a4_46 : decode cJ6_bitCount_0f7a4 46 = .ok (.iadd, 1) := by decide +kernel
theorem dJ6_bitCount_0f7a4_47 : decode cJ6_bitCount_0f7a4 47 = .ok (.istore_n 0, 1) := by decide +kernel
theorem dJ6_bitCount_0f7a4_48 : decode cJ6_bitCount_0f7a4 48 = .ok (.iload_n 0, 1) := by decide +kernel
theorem dJ6_bitCount_0f7a4_49 : decode cJ6_bitCount_0f7a4 49 = .ok (.bipush 63, 2) := by decide +kernel
theorem dJ6_bitCount_0f7a4_51 : decode cJ6_bitCount_0f7a4 51 = .ok (.iand, 1) := by decide +kernel
theorem dJ6_bitCount_0f7a4_52 : decode cJ6_bitCount_0f7a4 52 = .ok (.ireturn, 1) := by decide +kernel
theorem dJ9_abs_0f7a4_0 : decode cJ9_abs_0f7a4 0 = .ok (.iload_n 0, 1) := by decide +kernel
theorem dJ9_abs_0f7a4_1 : decode cJ9_abs_0f7a4 1 = .ok (.ifCond .ge 8, 3) := by decide +kernel
theorem dJ9_abs_0f7a4_4 : decode cJ9_abs_0f7a4 4 = .ok (.iload_n 0, 1) := by decide +kernel
theorem dJ9_abs_0f7a4_5 : decode cJ9_abs_0f7a4 5 = .ok (.ineg, 1) := by decide +kernel
theorem dJ9_abs_0f7a4_6 : decode cJ9_abs_0f7a4 6 = .ok (.goto 4, 3) := by decide +kernel
theorem dJ9_abs_0f7a4_9 : decode cJ9_abs_0f7a4 9 = .ok (.iload_n 0, 1) := by decide +kernel
theorem dJ9_abs_0f7a4_10 : decode cJ9_abs_0f7a4 10 = .ok (.ireturn, 1) := by decide +kernel
theorem dJ9_max_7cf53_0 : decode cJ9_max_7cf53 0 = .ok (.iload_n 0, 1) := by decide +kernel
theorem dJ9_max_7cf53_1 : decode cJ9_max_7cf53 1 = .ok (.iload_n 1, 1) := by decide +kernel
theorem dJ9_max_7cf53_2 : decode cJ9_max_7cf53 2 = .ok (.if_icmp .lt 7, 3) := by decide +kernel
theorem dJ9_max_7cf53_5 : decode cJ9_max_7cf53 5 = .ok (.iload_n 0, 1) := by decide +kernel
theorem dJ9_max_7cf53_6 : decode cJ9_max_7cf53 6 = .ok (.goto 4, 3) := by decide +kernel
theorem dJ9_max_7cf53_9 : decode cJ9_max_7cf53 9 = .ok (.iload_n 1, 1) := by decide +kernel
theorem dJ9_max_7cf53_10 : decode cJ9_max_7cf53 10 = .ok (.ireturn, 1) := by decide +kernel
theorem dJ9_min_7cf53_0 : decode cJ9_min_7cf53 0 = .ok (.iload_n 0, 1) := by decide +kernel
theorem dJ9_min_7cf53_1 : decode cJ9_min_7cf53 1 = .ok (.iload_n 1, 1) := by decide +kernel
theorem dJ9_min_7cf53_2 : decode cJ9_min_7cf53 2 = .ok (.if_icmp .gt 7, 3) := by decide +kernel
theorem dJ9_min_7cf53_5 : decode cJ9_min_7cf53 5 = .ok (.iload_n 0, 1) := by decide +kernel
theorem dJ9_min_7cf53_6 : decode cJ9_min_7cf53 6 = .ok (.goto 4, 3) := by decide +kernel
theorem dJ9_min_7cf53_9 : decode cJ9_min_7cf53 9 = .ok (.iload_n 1, 1) := by decide +kernel
theorem dJ9_min_7cf53_10 : decode cJ9_min_7cf53 10 = .ok (.ireturn, 1) := by decide +kernel
set_option maxRecDepth 20000 in
theorem ggJ0_length_8abf5_J0_coder_7d493 : GoodIn wsJ0_length_8abf5 wsJ0_coder_7d493 := goodIn_r _ [6, 7, 8] (by decide +kernel) (by decide +kernel)
set_option maxRecDepth 20000 in
theorem gJ0_length_8abf5_J0_coder_7d493 : GoodIn wsJ0_length_8abf5 (wsV RJ0 335 RJ0 yJ0_coder_7d493 wsJ0_coder_7d493) := goodIn_app (goodIn_of _ (by decide +kernel)) ggJ0_length_8abf5_J0_coder_7d493
theorem dJ0_length_8abf5_0 : decode cJ0_length_8abf5 0 = .ok (.aload_n 0, 1) := by decide +kernel
theorem dJ0_length_8abf5_1 : decode cJ0_length_8abf5 1 = .ok (.getfield 9, 3) := by decide +kernel
theorem dJ0_length_8abf5_4 : decode cJ0_length_8abf5 4 = .ok (.arraylength, 1) := by decide +kernel
theorem dJ0_length_8abf5_5 : decode cJ0_length_8abf5 5 = .ok (.aload_n 0, 1) := by decide +kernel
theorem dJ0_length_8abf5_6 : decode cJ0_length_8abf5 6 = .ok (.invokevirtual 335, 3) := by decide +kernel
theorem dJ0_length_8abf5_9 : decode cJ0_length_8abf5 9 = .ok (.ishr, 1) := by decide +kernel
theorem dJ0_length_8abf5_10 : decode cJ0_length_8abf5 10 = .ok (.ireturn, 1) := by decide +kernel
set_option maxRecDepth 20000 in
theorem ggJ0_charAt_5068e_J0_isLatin1_aae02 : GoodIn wsJ0_charAt_5068e wsJ0_isLatin1_aae02 := goodIn_r _ [6, 7, 8] (by decide +kernel) (by decide +kernel)
set_option maxRecDepth 20000 in
theorem gJ0_charAt_5068e_J0_isLatin1_aae02 : GoodIn wsJ0_charAt_5068e (wsV RJ0 492 RJ0 yJ0_isLatin1_aae02 wsJ0_isLatin1_aae02) := goodIn_app (goodIn_of _ (by decide +kernel)) ggJ0_charAt_5068e_J0_isLatin1_aae02
set_option maxRecDepth 20000 in
theorem ggJ0_charAt_5068e_J1_charAt_3b067 : GoodIn wsJ0_charAt_5068e wsJ1_charAt_3b067 := goodIn_r _ [12, 13, 14, 5, 15, 16, 17, 18, 19, 20] (by decide +kernel) (by decide +kernel)
set_option maxRecDepth 20000 in
theorem gJ0_charAt_5068e_J1_charAt_3b067 : GoodIn wsJ0_charAt_5068e (va_wsS RJ0 495 yJ1_charAt_3b067 wsJ1_charAt_3b067) := goodIn_app (goodIn_of _ (by decide +kernel)) ggJ0_charAt_5068e_J1_charAt_3b067
set_option maxRecDepth 20000 in
theorem ggJ0_charAt_5068e_J2_charAt_3b067 : GoodIn wsJ0_charAt_5068e wsJ2_charAt_3b067 := goodIn_r _ [24, 25, 26, 23, 27, 28, 29, 30, 31, 14, 5, 15, 16, 17, 18, 19, 20, 32, 33, 34, 35, 36, 37] (by decide +kernel) (by decide +kernel)
set_option maxRecDepth 20000 in
theorem gJ0_charAt_5068e_J2_charAt_3b067 : GoodIn wsJ0_charAt_5068e (va_wsS RJ0 498 yJ2_charAt_3b067 wsJ2_charAt_3b067) := goodIn_app (goodIn_of _ (by decide +kernel)) ggJ0_charAt_5068e_J2_charAt_3b067
theorem dJ0_charAt_5068e_0 : decode cJ0_charAt_5068e 0 = .ok (.aload_n 0, 1) := by decide +kernel
theorem dJ0_charAt_5068e_1 : decode cJ0_charAt_5068e 1 = .ok (.invokevirtual 492, 3) := by decide +kernel
theorem dJ0_charAt_5068e_4 : decode cJ0_charAt_5068e 4 = .ok (.ifCond .eq 12, 3) := by decide +kernel
theorem dJ0_charAt_5068e_7 : decode cJ0_charAt_5068e 7 = .ok (.aload_n 0, 1) := by decide +kernel
theorem dJ0_charAt_5068e_8 : decode cJ0_charAt_5068e 8 = .ok (.getfield 9, 3) := by decide +kernel
theorem dJ0_charAt_5068e_11 : decode cJ0_charAt_5068e 11 = .ok (.iload_n 1, 1) := by decide +kernel
theorem dJ0_charAt_5068e_12 : decode cJ0_charAt_5068e 12 = .ok (.invokestatic 495, 3) := by decide +kernel
theorem dJ0_charAt_5068e_15 : decode cJ0_charAt_5068e 15 = .ok (.ireturn, 1) := by decide +kernel
theorem dJ0_charAt_5068e_16 : decode cJ0_charAt_5068e 16 = .ok (.aload_n 0, 1) := by decide +kernel
theorem dJ0_charAt_5068e_17 : decode cJ0_charAt_5068e 17 = .ok (.getfield 9, 3) := by decide +kernel
theorem dJ0_charAt_5068e_20 : decode cJ0_charAt_5068e 20 = .ok (.iload_n 1, 1) := by decide +kernel
theorem dJ0_charAt_5068e_21 : decode cJ0_charAt_5068e 21 = .ok (.invokestatic 498, 3) := by decide +kernel
theorem dJ0_charAt_5068e_24 : decode cJ0_charAt_5068e 24 = .ok (.ireturn, 1) := by decide +kernel
theorem dJ0_coder_7d493_0 : decode cJ0_coder_7d493 0 = .ok (.getstatic 38, 3) := by decide +kernel
theorem dJ0_coder_7d493_3 : decode cJ0_coder_7d493 3 = .ok (.ifCond .eq 10, 3) := by decide +kernel
theorem dJ0_coder_7d493_6 : decode cJ0_coder_7d493 6 = .ok (.aload_n 0, 1) := by decide +kernel
theorem dJ0_coder_7d493_7 : decode cJ0_coder_7d493 7 = .ok (.getfield 15, 3) := by decide +kernel
theorem dJ0_coder_7d493_10 : decode cJ0_coder_7d493 10 = .ok (.goto 4, 3) := by decide +kernel
theorem dJ0_coder_7d493_13 : decode cJ0_coder_7d493 13 = .ok (.iconst 1, 1) := by decide +kernel
theorem dJ0_coder_7d493_14 : decode cJ0_coder_7d493 14 = .ok (.ireturn, 1) := by decide +kernel
theorem dJ0_isLatin1_aae02_0 : decode cJ0_isLatin1_aae02 0 = .ok (.getstatic 38, 3) := by decide +kernel
theorem dJ0_isLatin1_aae02_3 : decode cJ0_isLatin1_aae02 3 = .ok (.ifCond .eq 14, 3) := by decide +kernel
theorem dJ0_isLatin1_aae02_6 : decode cJ0_isLatin1_aae02 6 = .ok (.aload_n 0, 1) := by decide +kernel
theorem dJ0_isLatin1_aae02_7 : decode cJ0_isLatin1_aae02 7 = .ok (.getfield 15, 3) := by decide +kernel
theorem dJ0_isLatin1_aae02_10 : decode cJ0_isLatin1_aae02 10 = .ok (.ifCond .ne 7, 3) := by decide +kernel
theorem dJ0_isLatin1_aae02_13 : decode cJ0_isLatin1_aae02 13 = .ok (.iconst 1, 1) := by decide +kernel
theorem dJ0_isLatin1_aae02_14 : decode cJ0_isLatin1_aae02 14 = .ok (.goto 4, 3) := by decide +kernel
theorem dJ0_isLatin1_aae02_17 : decode cJ0_isLatin1_aae02 17 = .ok (.iconst 0, 1) := by decide +kernel
theorem dJ0_isLatin1_aae02_18 : decode cJ0_isLatin1_aae02 18 = .ok (.ireturn, 1) := by decide +kernel
set_option maxRecDepth 20000 in
theorem ggJ0_checkIndex_df160_J3_checkIndex_8e157 : GoodIn wsJ0_checkIndex_df160 wsJ3_checkIndex_8e157 := goodIn_r _ [5] (by decide +kernel) (by decide +kernel)
set_option maxRecDepth 20000 in
theorem gJ0_checkIndex_df160_J3_checkIndex_8e157 : GoodIn wsJ0_checkIndex_df160 (va_wsS RJ0 1059 yJ3_checkIndex_8e157 wsJ3_checkIndex_8e157) := goodIn_app (goodIn_of _ (by decide +kernel)) ggJ0_checkIndex_df160_J3_checkIndex_8e157
theorem dJ0_checkIndex_df160_0 : decode cJ0_checkIndex_df160 0 = .ok (.iload_n 0, 1) := by decide +kernel
theorem dJ0_checkIndex_df160_1 : decode cJ0_checkIndex_df160 1 = .ok (.iload_n 1, 1) := by decide +kernel
theorem dJ0_checkIndex_df160_2 : decode cJ0_checkIndex_df160 2 = .ok (.getstatic 1053, 3) := by decide +kernel
theorem dJ0_checkIndex_df160_5 : decode cJ0_checkIndex_df160 5 = .ok (.invokestatic 1059, 3) := by decide +kernel
theorem dJ0_checkIndex_df160_8 : decode cJ0_checkIndex_df160 8 = .ok (.pop, 1) := by decide +kernel
theorem dJ0_checkIndex_df160_9 : decode cJ0_checkIndex_df160 9 = .ok (.return_, 1) := by decide +kernel
set_option maxRecDepth 20000 in
theorem ggJ1_charAt_3b067_J0_checkIndex_df160 : GoodIn wsJ1_charAt_3b067 wsJ0_checkIndex_df160 := goodIn_r _ [4, 5, 6, 7, 8, 9] (by decide +kernel) (by decide +kernel)
set_option maxRecDepth 20000 in
theorem gJ1_charAt_3b067_J0_checkIndex_df160 : GoodIn wsJ1_charAt_3b067 (va_wsS RJ1 9 yJ0_checkIndex_df160 wsJ0_checkIndex_df160) := goodIn_app (goodIn_of _ (by decide +kernel)) ggJ1_charAt_3b067_J0_checkIndex_df160
theorem dJ1_charAt_3b067_0 : decode cJ1_charAt_3b067 0 = .ok (.iload_n 1, 1) := by decide +kernel
theorem dJ1_charAt_3b067_1 : decode cJ1_charAt_3b067 1 = .ok (.aload_n 0, 1) := by decide +kernel
theorem dJ1_charAt_3b067_2 : decode cJ1_charAt_3b067 2 = .ok (.arraylength, 1) := by decide +kernel
theorem dJ1_charAt_3b067_3 : decode cJ1_charAt_3b067 3 = .ok (.invokestatic 9, 3) := by decide +kernel
theorem dJ1_charAt_3b067_6 : decode cJ1_charAt_3b067 6 = .ok (.aload_n 0, 1) := by decide +kernel
theorem dJ1_charAt_3b067_7 : decode cJ1_charAt_3b067 7 = .ok (.iload_n 1, 1) := by decide +kernel
theorem dJ1_charAt_3b067_8 : decode cJ1_charAt_3b067 8 = .ok (.baload, 1) := by decide +kernel
theorem dJ1_charAt_3b067_9 : decode cJ1_charAt_3b067 9 = .ok (.sipush 255, 3) := by decide +kernel
theorem dJ1_charAt_3b067_12 : decode cJ1_charAt_3b067 12 = .ok (.iand, 1) := by decide +kernel
theorem dJ1_charAt_3b067_13 : decode cJ1_charAt_3b067 13 = .ok (.i2c, 1) := by decide +kernel
theorem dJ1_charAt_3b067_14 : decode cJ1_charAt_3b067 14 = .ok (.ireturn, 1) := by decide +kernel
set_option maxRecDepth 20000 in
theorem ggJ2_getChar_3b067_J2_length_9d52b : GoodIn wsJ2_getChar_3b067 wsJ2_length_9d52b := goodIn_r _ [7] (by decide +kernel) (by decide +kernel)
set_option maxRecDepth 20000 in
theorem gJ2_getChar_3b067_J2_length_9d52b : GoodIn wsJ2_getChar_3b067 (va_wsS RJ2 48 yJ2_length_9d52b wsJ2_length_9d52b) := goodIn_app (goodIn_of _ (by decide +kernel)) ggJ2_getChar_3b067_J2_length_9d52b
theorem dJ2_getChar_3b067_0 : decode cJ2_getChar_3b067 0 = .ok (.getstatic 44, 3) := by decide +kernel
theorem dJ2_getChar_3b067_3 : decode cJ2_getChar_3b067 3 = .ok (.ifCond .ne 25, 3) := by decide +kernel
theorem dJ2_getChar_3b067_6 : decode cJ2_getChar_3b067 6 = .ok (.iload_n 1, 1) := by decide +kernel
theorem dJ2_getChar_3b067_7 : decode cJ2_getChar_3b067 7 = .ok (.ifCond .lt 11, 3) := by decide +kernel
theorem dJ2_getChar_3b067_10 : decode cJ2_getChar_3b067 10 = .ok (.iload_n 1, 1) := by decide +kernel
theorem dJ2_getChar_3b067_11 : decode cJ2_getChar_3b067 11 = .ok (.aload_n 0, 1) := by decide +kernel
theorem dJ2_getChar_3b067_12 : decode cJ2_getChar_3b067 12 = .ok (.invokestatic 48, 3) := by decide +kernel
theorem dJ2_getChar_3b067_15 : decode cJ2_getChar_3b067 15 = .ok (.if_icmp .lt 13, 3) := by decide +kernel
theorem dJ2_getChar_3b067_18 : decode cJ2_getChar_3b067 18 = .ok (.new 52, 3) := by decide +kernel
theorem dJ2_getChar_3b067_21 : decode cJ2_getChar_3b067 21 = .ok (.dup, 1) := by decide +kernel
theorem dJ2_getChar_3b067_22 : decode cJ2_getChar_3b067 22 = .ok (.ldc 54, 2) := by decide +kernel
theorem dJ2_getChar_3b067_24 : decode cJ2_getChar_3b067 24 = .ok (.invokespecial 56, 3) := by decide +kernel
theorem dJ2_getChar_3b067_27 : decode cJ2_getChar_3b067 27 = .ok (.athrow, 1) := by decide +kernel
theorem dJ2_getChar_3b067_28 : decode cJ2_getChar_3b067 28 = .ok (.iload_n 1, 1) := by decide +kernel
theorem dJ2_getChar_3b067_29 : decode cJ2_getChar_3b067 29 = .ok (.iconst 1, 1) := by decide +kernel
theorem dJ2_getChar_3b067_30 : decode cJ2_getChar_3b067 30 = .ok (.ishl, 1) := by decide +kernel
theorem dJ2_getChar_3b067_31 : decode cJ2_getChar_3b067 31 = .ok (.istore_n 1, 1) := by decide +kernel
theorem dJ2_getChar_3b067_32 : decode cJ2_getChar_3b067 32 = .ok (.aload_n 0, 1) := by decide +kernel
theorem dJ2_getChar_3b067_33 : decode cJ2_getChar_3b067 33 = .ok (.iload_n 1, 1) := by decide +kernel
theorem dJ2_getChar_3b067_34 : decode cJ2_getChar_3b067 34 = .ok (.iinc 1 1, 3) := by decide +kernel
theorem dJ2_getChar_3b067_37 : decode cJ2_getChar_3b067 37 = .ok (.baload, 1) := by decide +kernel
theorem dJ2_getChar_3b067_38 : decode cJ2_getChar_3b067 38 = .ok (.sipush 255, 3) := by decide +kernel
theorem dJ2_getChar_3b067_41 : decode cJ2_getChar_3b067 41 = .ok (.iand, 1) := by decide +kernel
theorem dJ2_getChar_3b067_42 : decode cJ2_getChar_3b067 42 = .ok (.getstatic 59, 3) := by decide +kernel
theorem dJ2_getChar_3b067_45 : decode cJ2_getChar_3b067 45 = .ok (.ishl, 1) := by decide +kernel
theorem dJ2_getChar_3b067_46 : decode cJ2_getChar_3b067 46 = .ok (.aload_n 0, 1) := by decide +kernel
theorem dJ2_getChar_3b067_47 : decode cJ2_getChar_3b067 47 = .ok (.iload_n 1, 1) := by decide +kernel
theorem dJ2_getChar_3b067_48 : decode cJ2_getChar_3b067 48 = .ok (.baload, 1) := by decide +kernel
theorem dJ2_getChar_3b067_49 : decode cJ2_getChar_3b067 49 = .ok (.sipush 255, 3) := by decide +kernel
theorem dJ2_getChar_3b067_52 : decode cJ2_getChar_3b067 52 = .ok (.iand, 1) := by decide +kernel
theorem dJ2_getChar_3b067_53 : decode cJ2_getChar_3b067 53 = .ok (.getstatic 63, 3) := by decide +kernel
theorem dJ2_getChar_3b067_56 : decode cJ2_getChar_3b067 56 = .ok (.ishl, 1) := by decide +kernel
theorem dJ2_getChar_3b067_57 : decode cJ2_getChar_3b067 57 = .ok (.ior, 1) := by decide +kernel
theorem dJ2_getChar_3b067_58 : decode cJ2_getChar_3b067 58 = .ok (.i2c, 1) := by decide +kernel
theorem dJ2_getChar_3b067_59 : decode cJ2_getChar_3b067 59 = .ok (.ireturn, 1) := by decide +kernel
theorem dJ2_length_9d52b_0 : decode cJ2_length_9d52b 0 = .ok (.aload_n 0, 1) := by decide +kernel
theorem dJ2_length_9d52b_1 : decode cJ2_length_9d52b 1 = .ok (.arraylength, 1) := by decide +kernel
theorem dJ2_length_9d52b_2 : decode cJ2_length_9d52b 2 = .ok (.iconst 1, 1) := by decide +kernel
theorem dJ2_length_9d52b_3 : decode cJ2_length_9d52b 3 = .ok (.ishr, 1) := by decide +kernel
theorem dJ2_length_9d52b_4 : decode cJ2_length_9d52b 4 = .ok (.ireturn, 1) := by decide +kernel
set_option maxRecDepth 20000 in
theorem ggJ2_charAt_3b067_J2_checkIndex_2214a : GoodIn wsJ2_charAt_3b067 wsJ2_checkIndex_2214a := goodIn_r _ [4, 5, 6, 3, 7, 8, 9, 10, 11, 12, 13, 14, 15, 16] (by decide +kernel) (by decide +kernel)
set_option maxRecDepth 20000 in
theorem gJ2_charAt_3b067_J2_checkIndex_2214a : GoodIn wsJ2_charAt_3b067 (va_wsS RJ2 67 yJ2_checkIndex_2214a wsJ2_checkIndex_2214a) := goodIn_app (goodIn_of _ (by decide +kernel)) ggJ2_charAt_3b067_J2_checkIndex_2214a
set_option maxRecDepth 20000 in
theorem ggJ2_charAt_3b067_J2_getChar_3b067 : GoodIn wsJ2_charAt_3b067 wsJ2_getChar_3b067 := goodIn_r _ [19, 20, 21, 22, 5, 6, 3, 7] (by decide +kernel) (by decide +kernel)
set_option maxRecDepth 20000 in
theorem gJ2_charAt_3b067_J2_getChar_3b067 : GoodIn wsJ2_charAt_3b067 (va_wsS RJ2 71 yJ2_getChar_3b067 wsJ2_getChar_3b067) := goodIn_app (goodIn_of _ (by decide +kernel)) ggJ2_charAt_3b067_J2_getChar_3b067
theorem dJ2_charAt_3b067_0 : decode cJ2_charAt_3b067 0 = .ok (.iload_n 1, 1) := by decide +kernel
theorem dJ2_charAt_3b067_1 : decode cJ2_charAt_3b067 1 = .ok (.aload_n 0, 1) := by decide +kernel
theorem dJ2_charAt_3b067_2 : decode cJ2_charAt_3b067 2 = .ok (.invokestatic 67, 3) := by decide +kernel
theorem dJ2_charAt_3b067_5 : decode cJ2_charAt_3b067 5 = .ok (.aload_n 0, 1) := by decide +kernel
theorem dJ2_charAt_3b067_6 : decode cJ2_charAt_3b067 6 = .ok (.iload_n 1, 1) := by decide +kernel
theorem dJ2_charAt_3b067_7 : decode cJ2_charAt_3b067 7 = .ok (.invokestatic 71, 3) := by decide +kernel
theorem dJ2_charAt_3b067_10 : decode cJ2_charAt_3b067 10 = .ok (.ireturn, 1) := by decide +kernel
set_option maxRecDepth 20000 in
theorem ggJ2_checkIndex_2214a_J2_length_9d52b : GoodIn wsJ2_checkIndex_2214a wsJ2_length_9d52b := goodIn_r _ [4] (by decide +kernel) (by decide +kernel)
set_option maxRecDepth 20000 in
theorem gJ2_checkIndex_2214a_J2_length_9d52b : GoodIn wsJ2_checkIndex_2214a (va_wsS RJ2 48 yJ2_length_9d52b wsJ2_length_9d52b) := goodIn_app (goodIn_of _ (by decide +kernel)) ggJ2_checkIndex_2214a_J2_length_9d52b
set_option maxRecDepth 20000 in
theorem ggJ2_checkIndex_2214a_J0_checkIndex_df160 : GoodIn wsJ2_checkIndex_2214a wsJ0_checkIndex_df160 := goodIn_r _ [8, 9, 10, 11, 12, 13] (by decide +kernel) (by decide +kernel)
set_option maxRecDepth 20000 in
theorem gJ2_checkIndex_2214a_J0_checkIndex_df160 : GoodIn wsJ2_checkIndex_2214a (va_wsS RJ2 414 yJ0_checkIndex_df160 wsJ0_checkIndex_df160) := goodIn_app (goodIn_of _ (by decide +kernel)) ggJ2_checkIndex_2214a_J0_checkIndex_df160
theorem dJ2_checkIndex_2214a_0 : decode cJ2_checkIndex_2214a 0 = .ok (.iload_n 0, 1) := by decide +kernel
theorem dJ2_checkIndex_2214a_1 : decode cJ2_checkIndex_2214a 1 = .ok (.aload_n 1, 1) := by decide +kernel
theorem dJ2_checkIndex_2214a_2 : decode cJ2_checkIndex_2214a 2 = .ok (.invokestatic 48, 3) := by decide +kernel
theorem dJ2_checkIndex_2214a_5 : decode cJ2_checkIndex_2214a 5 = .ok (.invokestatic 414, 3) := by decide +kernel
theorem dJ2_checkIndex_2214a_8 : decode cJ2_checkIndex_2214a 8 = .ok (.return_, 1) := by decide +kernel
theorem dJ3_checkIndex_8e157_0 : decode cJ3_checkIndex_8e157 0 = .ok (.iload_n 0, 1) := by decide +kernel
theorem dJ3_checkIndex_8e157_1 : decode cJ3_checkIndex_8e157 1 = .ok (.ifCond .lt 8, 3) := by decide +kernel
theorem dJ3_checkIndex_8e157_4 : decode cJ3_checkIndex_8e157 4 = .ok (.iload_n 0, 1) := by decide +kernel
theorem dJ3_checkIndex_8e157_5 : decode cJ3_checkIndex_8e157 5 = .ok (.iload_n 1, 1) := by decide +kernel
theorem dJ3_checkIndex_8e157_6 : decode cJ3_checkIndex_8e157 6 = .ok (.if_icmp .lt 10, 3) := by decide +kernel
theorem dJ3_checkIndex_8e157_9 : decode cJ3_checkIndex_8e157 9 = .ok (.aload_n 2, 1) := by decide +kernel
theorem dJ3_checkIndex_8e157_10 : decode cJ3_checkIndex_8e157 10 = .ok (.iload_n 0, 1) := by decide +kernel
theorem dJ3_checkIndex_8e157_11 : decode cJ3_checkIndex_8e157 11 = .ok (.iload_n 1, 1) := by decide +kernel
theorem dJ3_checkIndex_8e157_12 : decode cJ3_checkIndex_8e157 12 = .ok (.invokestatic 95, 3) := by decide +kernel
theorem dJ3_checkIndex_8e157_15 : decode cJ3_checkIndex_8e157 15 = .ok (.athrow, 1) := by decide +kernel
theorem dJ3_checkIndex_8e157_16 : decode cJ3_checkIndex_8e157 16 = .ok (.iload_n 0, 1) := by decide +kernel
theorem dJ3_checkIndex_8e157_17 : decode cJ3_checkIndex_8e157 17 = .ok (.ireturn, 1) := by decide +kernel
