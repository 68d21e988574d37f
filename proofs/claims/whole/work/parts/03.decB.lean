theorem dX9_init_0 : decode cX9_init 0 = .ok (.aload_n 0, 1) := by decide +kernel
theorem dX9_init_1 : decode cX9_init 1 = .ok (.invokespecial 1, 3) := by decide +kernel
theorem dX9_init_4 : decode cX9_init 4 = .ok (.aload_n 0, 1) := by decide +kernel
theorem dX9_init_5 : decode cX9_init 5 = .ok (.bipush 8, 2) := by decide +kernel
theorem dX9_init_7 : decode cX9_init 7 = .ok (.newarray .int, 2) := by decide +kernel
theorem dX9_init_9 : decode cX9_init 9 = .ok (.dup, 1) := by decide +kernel
theorem dX9_init_10 : decode cX9_init 10 = .ok (.iconst 0, 1) := by decide +kernel
theorem dX9_init_11 : decode cX9_init 11 = .ok (.iconst 1, 1) := by decide +kernel
theorem dX9_init_12 : decode cX9_init 12 = .ok (.iastore, 1) := by decide +kernel
theorem dX9_init_13 : decode cX9_init 13 = .ok (.dup, 1) := by decide +kernel
theorem dX9_init_14 : decode cX9_init 14 = .ok (.iconst 1, 1) := by decide +kernel
theorem dX9_init_15 : decode cX9_init 15 = .ok (.sipush 250, 3) := by decide +kernel
theorem dX9_init_18 : decode cX9_init 18 = .ok (.iastore, 1) := by decide +kernel
theorem dX9_init_19 : decode cX9_init 19 = .ok (.dup, 1) := by decide +kernel
theorem dX9_init_20 : decode cX9_init 20 = .ok (.iconst 2, 1) := by decide +kernel
theorem dX9_init_21 : decode cX9_init 21 = .ok (.sipush 244, 3) := by decide +kernel
theorem dX9_init_24 : decode cX9_init 24 = .ok (.iastore, 1) := by decide +kernel
theorem dX9_init_25 : decode cX9_init 25 = .ok (.dup, 1) := by decide +kernel
theorem dX9_init_26 : decode cX9_init 26 = .ok (.iconst 3, 1) := by decide +kernel
theorem dX9_init_27 : decode cX9_init 27 = .ok (.sipush 248, 3) := by decide +kernel
theorem dX9_init_30 : decode cX9_init 30 = .ok (.iastore, 1) := by decide +kernel
theorem dX9_init_31 : decode cX9_init 31 = .ok (.dup, 1) := by decide +kernel
theorem dX9_init_32 : decode cX9_init 32 = .ok (.iconst 4, 1) := by decide +kernel
theorem dX9_init_33 : decode cX9_init 33 = .ok (.sipush 240, 3) := by decide +kernel
theorem dX9_init_36 : decode cX9_init 36 = .ok (.iastore, 1) := by decide +kernel
theorem dX9_init_37 : decode cX9_init 37 = .ok (.dup, 1) := by decide +kernel
theorem dX9_init_38 : decode cX9_init 38 = .ok (.iconst 5, 1) := by decide +kernel
theorem dX9_init_39 : decode cX9_init 39 = .ok (.sipush 224, 3) := by decide +kernel
theorem dX9_init_42 : decode cX9_init 42 = .ok (.iastore, 1) := by decide +kernel
theorem dX9_init_43 : decode cX9_init 43 = .ok (.dup, 1) := by decide +kernel
theorem dX9_init_44 : decode cX9_init 44 = .ok (.bipush 6, 2) := by decide +kernel
theorem dX9_init_46 : decode cX9_init 46 = .ok (.sipush 192, 3) := by decide +kernel
theorem dX9_init_49 : decode cX9_init 49 = .ok (.iastore, 1) := by decide +kernel
theorem dX9_init_50 : decode cX9_init 50 = .ok (.dup, 1) := by decide +kernel
theorem dX9_init_51 : decode cX9_init 51 = .ok (.bipush 7, 2) := by decide +kernel
theorem dX9_init_53 : decode cX9_init 53 = .ok (.sipush 128, 3) := by decide +kernel
theorem dX9_init_56 : decode cX9_init 56 = .ok (.iastore, 1) := by decide +kernel
theorem dX9_init_57 : decode cX9_init 57 = .ok (.putfield 7, 3) := by decide +kernel
theorem dX9_init_60 : decode cX9_init 60 = .ok (.aload_n 0, 1) := by decide +kernel
theorem dX9_init_61 : decode cX9_init 61 = .ok (.sipush 513, 3) := by decide +kernel
theorem dX9_init_64 : decode cX9_init 64 = .ok (.newarray .int, 2) := by decide +kernel
theorem dX9_init_66 : decode cX9_init 66 = .ok (.putfield 13, 3) := by decide +kernel
theorem dX9_init_69 : decode cX9_init 69 = .ok (.aload_n 0, 1) := by decide +kernel
theorem dX9_init_70 : decode cX9_init 70 = .ok (.sipush 513, 3) := by decide +kernel
theorem dX9_init_73 : decode cX9_init 73 = .ok (.newarray .int, 2) := by decide +kernel
theorem dX9_init_75 : decode cX9_init 75 = .ok (.putfield 16, 3) := by decide +kernel
theorem dX9_init_78 : decode cX9_init 78 = .ok (.aload_n 0, 1) := by decide +kernel
theorem dX9_init_79 : decode cX9_init 79 = .ok (.sipush 513, 3) := by decide +kernel
theorem dX9_init_82 : decode cX9_init 82 = .ok (.newarray .int, 2) := by decide +kernel
theorem dX9_init_84 : decode cX9_init 84 = .ok (.putfield 19, 3) := by decide +kernel
theorem dX9_init_87 : decode cX9_init 87 = .ok (.aload_n 0, 1) := by decide +kernel
theorem dX9_init_88 : decode cX9_init 88 = .ok (.sipush 12312, 3) := by decide +kernel
theorem dX9_init_91 : decode cX9_init 91 = .ok (.newarray .long, 2) := by decide +kernel
theorem dX9_init_93 : decode cX9_init 93 = .ok (.putfield 22, 3) := by decide +kernel
theorem dX9_init_96 : decode cX9_init 96 = .ok (.aload_n 0, 1) := by decide +kernel
theorem dX9_init_97 : decode cX9_init 97 = .ok (.sipush 12312, 3) := by decide +kernel
theorem dX9_init_100 : decode cX9_init 100 = .ok (.newarray .double, 2) := by decide +kernel
theorem dX9_init_102 : decode cX9_init 102 = .ok (.putfield 26, 3) := by decide +kernel
theorem dX9_init_105 : decode cX9_init 105 = .ok (.aload_n 0, 1) := by decide +kernel
theorem dX9_init_106 : decode cX9_init 106 = .ok (.bipush 12, 2) := by decide +kernel
theorem dX9_init_108 : decode cX9_init 108 = .ok (.newarray .int, 2) := by decide +kernel
theorem dX9_init_110 : decode cX9_init 110 = .ok (.putfield 30, 3) := by decide +kernel
theorem dX9_init_113 : decode cX9_init 113 = .ok (.aload_n 0, 1) := by decide +kernel
theorem dX9_init_114 : decode cX9_init 114 = .ok (.bipush 24, 2) := by decide +kernel
theorem dX9_init_116 : decode cX9_init 116 = .ok (.newarray .int, 2) := by decide +kernel
theorem dX9_init_118 : decode cX9_init 118 = .ok (.putfield 33, 3) := by decide +kernel
theorem dX9_init_121 : decode cX9_init 121 = .ok (.aload_n 0, 1) := by decide +kernel
theorem dX9_init_122 : decode cX9_init 122 = .ok (.bipush 24, 2) := by decide +kernel
theorem dX9_init_124 : decode cX9_init 124 = .ok (.newarray .long, 2) := by decide +kernel
theorem dX9_init_126 : decode cX9_init 126 = .ok (.putfield 36, 3) := by decide +kernel
theorem dX9_init_129 : decode cX9_init 129 = .ok (.aload_n 0, 1) := by decide +kernel
theorem dX9_init_130 : decode cX9_init 130 = .ok (.bipush 24, 2) := by decide +kernel
theorem dX9_init_132 : decode cX9_init 132 = .ok (.newarray .double, 2) := by decide +kernel
theorem dX9_init_134 : decode cX9_init 134 = .ok (.putfield 39, 3) := by decide +kernel
theorem dX9_init_137 : decode cX9_init 137 = .ok (.aload_n 0, 1) := by decide +kernel
theorem dX9_init_138 : decode cX9_init 138 = .ok (.bipush 24, 2) := by decide +kernel
theorem dX9_init_140 : decode cX9_init 140 = .ok (.newarray .int, 2) := by decide +kernel
theorem dX9_init_142 : decode cX9_init 142 = .ok (.putfield 42, 3) := by decide +kernel
theorem dX9_init_145 : decode cX9_init 145 = .ok (.aload_n 0, 1) := by decide +kernel
theorem dX9_init_146 : decode cX9_init 146 = .ok (.bipush 24, 2) := by decide +kernel
theorem dX9_init_148 : decode cX9_init 148 = .ok (.newarray .int, 2) := by decide +kernel
theorem dX9_init_150 : decode cX9_init 150 = .ok (.putfield 45, 3) := by decide +kernel
theorem dX9_init_153 : decode cX9_init 153 = .ok (.return_, 1) := by decide +kernel
theorem dX9_refuse_0 : decode cX9_refuse 0 = .ok (.aload_n 0, 1) := by decide +kernel
theorem dX9_refuse_1 : decode cX9_refuse 1 = .ok (.iload_n 1, 1) := by decide +kernel
theorem dX9_refuse_2 : decode cX9_refuse 2 = .ok (.putfield 48, 3) := by decide +kernel
theorem dX9_refuse_5 : decode cX9_refuse 5 = .ok (.iconst 0, 1) := by decide +kernel
theorem dX9_refuse_6 : decode cX9_refuse 6 = .ok (.ireturn, 1) := by decide +kernel
theorem dX9_isIn_0 : decode cX9_isIn 0 = .ok (.iload_n 0, 1) := by decide +kernel
theorem dX9_isIn_1 : decode cX9_isIn 1 = .ok (.iload_n 1, 1) := by decide +kernel
theorem dX9_isIn_2 : decode cX9_isIn 2 = .ok (.if_icmp .lt 12, 3) := by decide +kernel
theorem dX9_isIn_5 : decode cX9_isIn 5 = .ok (.iload_n 0, 1) := by decide +kernel
theorem dX9_isIn_6 : decode cX9_isIn 6 = .ok (.iload_n 2, 1) := by decide +kernel
theorem dX9_isIn_7 : decode cX9_isIn 7 = .ok (.if_icmp .gt 7, 3) := by decide +kernel
theorem dX9_isIn_10 : decode cX9_isIn 10 = .ok (.iconst 1, 1) := by decide +kernel
theorem dX9_isIn_11 : decode cX9_isIn 11 = .ok (.goto 4, 3) := by decide +kernel
theorem dX9_isIn_14 : decode cX9_isIn 14 = .ok (.iconst 0, 1) := by decide +kernel
theorem dX9_isIn_15 : decode cX9_isIn 15 = .ok (.ireturn, 1) := by decide +kernel
theorem dX9_isColumn_0 : decode cX9_isColumn 0 = .ok (.iload_n 0, 1) := by decide +kernel
theorem dX9_isColumn_1 : decode cX9_isColumn 1 = .ok (.iconst 0, 1) := by decide +kernel
theorem dX9_isColumn_2 : decode cX9_isColumn 2 = .ok (.bipush 11, 2) := by decide +kernel
theorem dX9_isColumn_4 : decode cX9_isColumn 4 = .ok (.invokestatic 52, 3) := by decide +kernel
theorem dX9_isColumn_7 : decode cX9_isColumn 7 = .ok (.ireturn, 1) := by decide +kernel
theorem dX9_in_0 : decode cX9_in 0 = .ok (.aload_n 0, 1) := by decide +kernel
theorem dX9_in_1 : decode cX9_in 1 = .ok (.getfield 30, 3) := by decide +kernel
theorem dX9_in_4 : decode cX9_in 4 = .ok (.iload_n 1, 1) := by decide +kernel
theorem dX9_in_5 : decode cX9_in 5 = .ok (.iaload, 1) := by decide +kernel
theorem dX9_in_6 : decode cX9_in 6 = .ok (.iconst 1, 1) := by decide +kernel
theorem dX9_in_7 : decode cX9_in 7 = .ok (.isub, 1) := by decide +kernel
theorem dX9_in_8 : decode cX9_in 8 = .ok (.ireturn, 1) := by decide +kernel
theorem dX9_isRow_0 : decode cX9_isRow 0 = .ok (.aload_n 0, 1) := by decide +kernel
theorem dX9_isRow_1 : decode cX9_isRow 1 = .ok (.getfield 13, 3) := by decide +kernel
theorem dX9_isRow_4 : decode cX9_isRow 4 = .ok (.iload_n 1, 1) := by decide +kernel
theorem dX9_isRow_5 : decode cX9_isRow 5 = .ok (.iaload, 1) := by decide +kernel
theorem dX9_isRow_6 : decode cX9_isRow 6 = .ok (.bipush 12, 2) := by decide +kernel
theorem dX9_isRow_8 : decode cX9_isRow 8 = .ok (.if_icmp .ge 7, 3) := by decide +kernel
theorem dX9_isRow_11 : decode cX9_isRow 11 = .ok (.iconst 1, 1) := by decide +kernel
theorem dX9_isRow_12 : decode cX9_isRow 12 = .ok (.goto 4, 3) := by decide +kernel
theorem dX9_isRow_15 : decode cX9_isRow 15 = .ok (.iconst 0, 1) := by decide +kernel
theorem dX9_isRow_16 : decode cX9_isRow 16 = .ok (.ireturn, 1) := by decide +kernel
theorem dX9_isPlain_0 : decode cX9_isPlain 0 = .ok (.aload_n 0, 1) := by decide +kernel
theorem dX9_isPlain_1 : decode cX9_isPlain 1 = .ok (.getfield 13, 3) := by decide +kernel
theorem dX9_isPlain_4 : decode cX9_isPlain 4 = .ok (.iload_n 1, 1) := by decide +kernel
theorem dX9_isPlain_5 : decode cX9_isPlain 5 = .ok (.iaload, 1) := by decide +kernel
theorem dX9_isPlain_6 : decode cX9_isPlain 6 = .ok (.bipush 8, 2) := by decide +kernel
theorem dX9_isPlain_8 : decode cX9_isPlain 8 = .ok (.if_icmp .ge 7, 3) := by decide +kernel
theorem dX9_isPlain_11 : decode cX9_isPlain 11 = .ok (.iconst 1, 1) := by decide +kernel
theorem dX9_isPlain_12 : decode cX9_isPlain 12 = .ok (.goto 4, 3) := by decide +kernel
theorem dX9_isPlain_15 : decode cX9_isPlain 15 = .ok (.iconst 0, 1) := by decide +kernel
theorem dX9_isPlain_16 : decode cX9_isPlain 16 = .ok (.ireturn, 1) := by decide +kernel
theorem dX9_hasPlace_0 : decode cX9_hasPlace 0 = .ok (.iload_n 2, 1) := by decide +kernel
theorem dX9_hasPlace_1 : decode cX9_hasPlace 1 = .ok (.ifCond .lt 17, 3) := by decide +kernel
theorem dX9_hasPlace_4 : decode cX9_hasPlace 4 = .ok (.iload_n 2, 1) := by decide +kernel
theorem dX9_hasPlace_5 : decode cX9_hasPlace 5 = .ok (.aload_n 0, 1) := by decide +kernel
theorem dX9_hasPlace_6 : decode cX9_hasPlace 6 = .ok (.getfield 16, 3) := by decide +kernel
theorem dX9_hasPlace_9 : decode cX9_hasPlace 9 = .ok (.iload_n 1, 1) := by decide +kernel
theorem dX9_hasPlace_10 : decode cX9_hasPlace 10 = .ok (.iaload, 1) := by decide +kernel
theorem dX9_hasPlace_11 : decode cX9_hasPlace 11 = .ok (.if_icmp .ge 7, 3) := by decide +kernel
theorem dX9_hasPlace_14 : decode cX9_hasPlace 14 = .ok (.iconst 1, 1) := by decide +kernel
theorem dX9_hasPlace_15 : decode cX9_hasPlace 15 = .ok (.goto 4, 3) := by decide +kernel
theorem dX9_hasPlace_18 : decode cX9_hasPlace 18 = .ok (.iconst 0, 1) := by decide +kernel
theorem dX9_hasPlace_19 : decode cX9_hasPlace 19 = .ok (.ireturn, 1) := by decide +kernel
theorem dX9_reasonOfRow_0 : decode cX9_reasonOfRow 0 = .ok (.aload_n 0, 1) := by decide +kernel
theorem dX9_reasonOfRow_1 : decode cX9_reasonOfRow 1 = .ok (.iload_n 1, 1) := by decide +kernel
theorem dX9_reasonOfRow_2 : decode cX9_reasonOfRow 2 = .ok (.invokevirtual 56, 3) := by decide +kernel
theorem dX9_reasonOfRow_5 : decode cX9_reasonOfRow 5 = .ok (.ifCond .ge 5, 3) := by decide +kernel
theorem dX9_reasonOfRow_8 : decode cX9_reasonOfRow 8 = .ok (.iconst 2, 1) := by decide +kernel
theorem dX9_reasonOfRow_9 : decode cX9_reasonOfRow 9 = .ok (.ireturn, 1) := by decide +kernel
theorem dX9_reasonOfRow_10 : decode cX9_reasonOfRow 10 = .ok (.aload_n 0, 1) := by decide +kernel
theorem dX9_reasonOfRow_11 : decode cX9_reasonOfRow 11 = .ok (.aload_n 0, 1) := by decide +kernel
theorem dX9_reasonOfRow_12 : decode cX9_reasonOfRow 12 = .ok (.iload_n 1, 1) := by decide +kernel
theorem dX9_reasonOfRow_13 : decode cX9_reasonOfRow 13 = .ok (.invokevirtual 56, 3) := by decide +kernel
theorem dX9_reasonOfRow_16 : decode cX9_reasonOfRow 16 = .ok (.invokevirtual 60, 3) := by decide +kernel
theorem dX9_reasonOfRow_19 : decode cX9_reasonOfRow 19 = .ok (.ifCond .eq 7, 3) := by decide +kernel
theorem dX9_reasonOfRow_22 : decode cX9_reasonOfRow 22 = .ok (.iconst 0, 1) := by decide +kernel
theorem dX9_reasonOfRow_23 : decode cX9_reasonOfRow 23 = .ok (.goto 4, 3) := by decide +kernel
theorem dX9_reasonOfRow_26 : decode cX9_reasonOfRow 26 = .ok (.iconst 3, 1) := by decide +kernel
theorem dX9_reasonOfRow_27 : decode cX9_reasonOfRow 27 = .ok (.ireturn, 1) := by decide +kernel
theorem dX9_reasonOfRows_0 : decode cX9_reasonOfRows 0 = .ok (.aload_n 0, 1) := by decide +kernel
theorem dX9_reasonOfRows_1 : decode cX9_reasonOfRows 1 = .ok (.iload_n 1, 1) := by decide +kernel
theorem dX9_reasonOfRows_2 : decode cX9_reasonOfRows 2 = .ok (.invokevirtual 56, 3) := by decide +kernel
theorem dX9_reasonOfRows_5 : decode cX9_reasonOfRows 5 = .ok (.ifCond .lt 19, 3) := by decide +kernel
theorem dX9_reasonOfRows_8 : decode cX9_reasonOfRows 8 = .ok (.aload_n 0, 1) := by decide +kernel
theorem dX9_reasonOfRows_9 : decode cX9_reasonOfRows 9 = .ok (.iload_n 2, 1) := by decide +kernel
theorem dX9_reasonOfRows_10 : decode cX9_reasonOfRows 10 = .ok (.invokevirtual 56, 3) := by decide +kernel
theorem dX9_reasonOfRows_13 : decode cX9_reasonOfRows 13 = .ok (.ifCond .lt 11, 3) := by decide +kernel
theorem dX9_reasonOfRows_16 : decode cX9_reasonOfRows 16 = .ok (.aload_n 0, 1) := by decide +kernel
theorem dX9_reasonOfRows_17 : decode cX9_reasonOfRows 17 = .ok (.iload_n 3, 1) := by decide +kernel
theorem dX9_reasonOfRows_18 : decode cX9_reasonOfRows 18 = .ok (.invokevirtual 56, 3) := by decide +kernel
theorem dX9_reasonOfRows_21 : decode cX9_reasonOfRows 21 = .ok (.ifCond .ge 5, 3) := by decide +kernel
theorem dX9_reasonOfRows_24 : decode cX9_reasonOfRows 24 = .ok (.iconst 2, 1) := by decide +kernel
theorem dX9_reasonOfRows_25 : decode cX9_reasonOfRows 25 = .ok (.ireturn, 1) := by decide +kernel
theorem dX9_reasonOfRows_26 : decode cX9_reasonOfRows 26 = .ok (.aload_n 0, 1) := by decide +kernel
theorem dX9_reasonOfRows_27 : decode cX9_reasonOfRows 27 = .ok (.aload_n 0, 1) := by decide +kernel
theorem dX9_reasonOfRows_28 : decode cX9_reasonOfRows 28 = .ok (.iload_n 1, 1) := by decide +kernel
theorem dX9_reasonOfRows_29 : decode cX9_reasonOfRows 29 = .ok (.invokevirtual 56, 3) := by decide +kernel
theorem dX9_reasonOfRows_32 : decode cX9_reasonOfRows 32 = .ok (.invokevirtual 60, 3) := by decide +kernel
theorem dX9_reasonOfRows_35 : decode cX9_reasonOfRows 35 = .ok (.ifCond .eq 31, 3) := by decide +kernel
theorem dX9_reasonOfRows_38 : decode cX9_reasonOfRows 38 = .ok (.aload_n 0, 1) := by decide +kernel
theorem dX9_reasonOfRows_39 : decode cX9_reasonOfRows 39 = .ok (.aload_n 0, 1) := by decide +kernel
theorem dX9_reasonOfRows_40 : decode cX9_reasonOfRows 40 = .ok (.iload_n 2, 1) := by decide +kernel
theorem dX9_reasonOfRows_41 : decode cX9_reasonOfRows 41 = .ok (.invokevirtual 56, 3) := by decide +kernel
theorem dX9_reasonOfRows_44 : decode cX9_reasonOfRows 44 = .ok (.invokevirtual 60, 3) := by decide +kernel
theorem dX9_reasonOfRows_47 : decode cX9_reasonOfRows 47 = .ok (.ifCond .eq 19, 3) := by decide +kernel
theorem dX9_reasonOfRows_50 : decode cX9_reasonOfRows 50 = .ok (.aload_n 0, 1) := by decide +kernel
theorem dX9_reasonOfRows_51 : decode cX9_reasonOfRows 51 = .ok (.aload_n 0, 1) := by decide +kernel
theorem dX9_reasonOfRows_52 : decode cX9_reasonOfRows 52 = .ok (.iload_n 3, 1) := by decide +kernel
theorem dX9_reasonOfRows_53 : decode cX9_reasonOfRows 53 = .ok (.invokevirtual 56, 3) := by decide +kernel
theorem dX9_reasonOfRows_56 : decode cX9_reasonOfRows 56 = .ok (.invokevirtual 60, 3) := by decide +kernel
theorem dX9_reasonOfRows_59 : decode cX9_reasonOfRows 59 = .ok (.ifCond .eq 7, 3) := by decide +kernel
theorem dX9_reasonOfRows_62 : decode cX9_reasonOfRows 62 = .ok (.iconst 0, 1) := by decide +kernel
theorem dX9_reasonOfRows_63 : decode cX9_reasonOfRows 63 = .ok (.goto 4, 3) := by decide +kernel
theorem dX9_reasonOfRows_66 : decode cX9_reasonOfRows 66 = .ok (.iconst 3, 1) := by decide +kernel
theorem dX9_reasonOfRows_67 : decode cX9_reasonOfRows 67 = .ok (.ireturn, 1) := by decide +kernel
theorem dX9_tell_0 : decode cX9_tell 0 = .ok (.iload_n 2, 1) := by decide +kernel
theorem dX9_tell_1 : decode cX9_tell 1 = .ok (.i2l, 1) := by decide +kernel
theorem dX9_tell_2 : decode cX9_tell 2 = .ok (.bipush 32, 2) := by decide +kernel
theorem dX9_tell_4 : decode cX9_tell 4 = .ok (.lshl, 1) := by decide +kernel
theorem dX9_tell_5 : decode cX9_tell 5 = .ok (.iload_n 3, 1) := by decide +kernel
theorem dX9_tell_6 : decode cX9_tell 6 = .ok (.i2l, 1) := by decide +kernel
theorem dX9_tell_7 : decode cX9_tell 7 = .ok (.ldc2_w 64, 3) := by decide +kernel
theorem dX9_tell_10 : decode cX9_tell 10 = .ok (.land, 1) := by decide +kernel
theorem dX9_tell_11 : decode cX9_tell 11 = .ok (.lor, 1) := by decide +kernel
theorem dX9_tell_12 : decode cX9_tell 12 = .ok (.lstore 4, 2) := by decide +kernel
theorem dX9_tell_14 : decode cX9_tell 14 = .ok (.aload_n 0, 1) := by decide +kernel
theorem dX9_tell_15 : decode cX9_tell 15 = .ok (.iload_n 1, 1) := by decide +kernel
theorem dX9_tell_16 : decode cX9_tell 16 = .ok (.putfield 66, 3) := by decide +kernel
theorem dX9_tell_19 : decode cX9_tell 19 = .ok (.aload_n 0, 1) := by decide +kernel
theorem dX9_tell_20 : decode cX9_tell 20 = .ok (.lconst 0, 1) := by decide +kernel
theorem dX9_tell_21 : decode cX9_tell 21 = .ok (.putfield 69, 3) := by decide +kernel
theorem dX9_tell_24 : decode cX9_tell 24 = .ok (.aload_n 0, 1) := by decide +kernel
theorem dX9_tell_25 : decode cX9_tell 25 = .ok (.dconst 0, 1) := by decide +kernel
theorem dX9_tell_26 : decode cX9_tell 26 = .ok (.putfield 73, 3) := by decide +kernel
theorem dX9_tell_29 : decode cX9_tell 29 = .ok (.iload_n 1, 1) := by decide +kernel
theorem dX9_tell_30 : decode cX9_tell 30 = .ok (.tableswitch 123 0 6 #[42, 53, 65, 77, 89, 100, 109], 42) := by decide +kernel
theorem dX9_tell_72 : decode cX9_tell 72 = .ok (.aload_n 0, 1) := by decide +kernel
theorem dX9_tell_73 : decode cX9_tell 73 = .ok (.lload 4, 2) := by decide +kernel
theorem dX9_tell_75 : decode cX9_tell 75 = .ok (.lconst 1, 1) := by decide +kernel
theorem dX9_tell_76 : decode cX9_tell 76 = .ok (.land, 1) := by decide +kernel
theorem dX9_tell_77 : decode cX9_tell 77 = .ok (.putfield 69, 3) := by decide +kernel
theorem dX9_tell_80 : decode cX9_tell 80 = .ok (.goto 84, 3) := by decide +kernel
theorem dX9_tell_83 : decode cX9_tell 83 = .ok (.aload_n 0, 1) := by decide +kernel
theorem dX9_tell_84 : decode cX9_tell 84 = .ok (.lload 4, 2) := by decide +kernel
theorem dX9_tell_86 : decode cX9_tell 86 = .ok (.l2i, 1) := by decide +kernel
theorem dX9_tell_87 : decode cX9_tell 87 = .ok (.i2b, 1) := by decide +kernel
theorem dX9_tell_88 : decode cX9_tell 88 = .ok (.i2l, 1) := by decide +kernel
theorem dX9_tell_89 : decode cX9_tell 89 = .ok (.putfield 69, 3) := by decide +kernel
theorem dX9_tell_92 : decode cX9_tell 92 = .ok (.goto 72, 3) := by decide +kernel
theorem dX9_tell_95 : decode cX9_tell 95 = .ok (.aload_n 0, 1) := by decide +kernel
theorem dX9_tell_96 : decode cX9_tell 96 = .ok (.lload 4, 2) := by decide +kernel
theorem dX9_tell_98 : decode cX9_tell 98 = .ok (.l2i, 1) := by decide +kernel
theorem dX9_tell_99 : decode cX9_tell 99 = .ok (.i2c, 1) := by decide +kernel
theorem dX9_tell_100 : decode cX9_tell 100 = .ok (.i2l, 1) := by decide +kernel
theorem dX9_tell_101 : decode cX9_tell 101 = .ok (.putfield 69, 3) := by decide +kernel
theorem dX9_tell_104 : decode cX9_tell 104 = .ok (.goto 60, 3) := by decide +kernel
theorem dX9_tell_107 : decode cX9_tell 107 = .ok (.aload_n 0, 1) := by decide +kernel
theorem dX9_tell_108 : decode cX9_tell 108 = .ok (.lload 4, 2) := by decide +kernel
theorem dX9_tell_110 : decode cX9_tell 110 = .ok (.l2i, 1) := by decide +kernel
theorem dX9_tell_111 : decode cX9_tell 111 = .ok (.i2s, 1) := by decide +kernel
theorem dX9_tell_112 : decode cX9_tell 112 = .ok (.i2l, 1) := by decide +kernel
theorem dX9_tell_113 : decode cX9_tell 113 = .ok (.putfield 69, 3) := by decide +kernel
theorem dX9_tell_116 : decode cX9_tell 116 = .ok (.goto 48, 3) := by decide +kernel
theorem dX9_tell_119 : decode cX9_tell 119 = .ok (.aload_n 0, 1) := by decide +kernel
theorem dX9_tell_120 : decode cX9_tell 120 = .ok (.lload 4, 2) := by decide +kernel
theorem dX9_tell_122 : decode cX9_tell 122 = .ok (.l2i, 1) := by decide +kernel
theorem dX9_tell_123 : decode cX9_tell 123 = .ok (.i2l, 1) := by decide +kernel
theorem dX9_tell_124 : decode cX9_tell 124 = .ok (.putfield 69, 3) := by decide +kernel
theorem dX9_tell_127 : decode cX9_tell 127 = .ok (.goto 37, 3) := by decide +kernel
theorem dX9_tell_130 : decode cX9_tell 130 = .ok (.aload_n 0, 1) := by decide +kernel
theorem dX9_tell_131 : decode cX9_tell 131 = .ok (.lload 4, 2) := by decide +kernel
theorem dX9_tell_133 : decode cX9_tell 133 = .ok (.putfield 69, 3) := by decide +kernel
theorem dX9_tell_136 : decode cX9_tell 136 = .ok (.goto 28, 3) := by decide +kernel
theorem dX9_tell_139 : decode cX9_tell 139 = .ok (.aload_n 0, 1) := by decide +kernel
theorem dX9_tell_140 : decode cX9_tell 140 = .ok (.lload 4, 2) := by decide +kernel
theorem dX9_tell_142 : decode cX9_tell 142 = .ok (.l2f, 1) := by decide +kernel
theorem dX9_tell_143 : decode cX9_tell 143 = .ok (.ldc 77, 2) := by decide +kernel
theorem dX9_tell_145 : decode cX9_tell 145 = .ok (.fdiv, 1) := by decide +kernel
theorem dX9_tell_146 : decode cX9_tell 146 = .ok (.f2d, 1) := by decide +kernel
theorem dX9_tell_147 : decode cX9_tell 147 = .ok (.putfield 73, 3) := by decide +kernel
theorem dX9_tell_150 : decode cX9_tell 150 = .ok (.goto 14, 3) := by decide +kernel
theorem dX9_tell_153 : decode cX9_tell 153 = .ok (.aload_n 0, 1) := by decide +kernel
theorem dX9_tell_154 : decode cX9_tell 154 = .ok (.lload 4, 2) := by decide +kernel
theorem dX9_tell_156 : decode cX9_tell 156 = .ok (.l2d, 1) := by decide +kernel
theorem dX9_tell_157 : decode cX9_tell 157 = .ok (.ldc2_w 78, 3) := by decide +kernel
theorem dX9_tell_160 : decode cX9_tell 160 = .ok (.ddiv, 1) := by decide +kernel
theorem dX9_tell_161 : decode cX9_tell 161 = .ok (.putfield 73, 3) := by decide +kernel
theorem dX9_tell_164 : decode cX9_tell 164 = .ok (.return_, 1) := by decide +kernel
theorem dX9_get_0 : decode cX9_get 0 = .ok (.aload_n 0, 1) := by decide +kernel
theorem dX9_get_1 : decode cX9_get 1 = .ok (.aload_n 0, 1) := by decide +kernel
theorem dX9_get_2 : decode cX9_get 2 = .ok (.getfield 13, 3) := by decide +kernel
theorem dX9_get_5 : decode cX9_get 5 = .ok (.iload_n 1, 1) := by decide +kernel
theorem dX9_get_6 : decode cX9_get 6 = .ok (.iaload, 1) := by decide +kernel
theorem dX9_get_7 : decode cX9_get 7 = .ok (.putfield 66, 3) := by decide +kernel
theorem dX9_get_10 : decode cX9_get 10 = .ok (.aload_n 0, 1) := by decide +kernel
theorem dX9_get_11 : decode cX9_get 11 = .ok (.aload_n 0, 1) := by decide +kernel
theorem dX9_get_12 : decode cX9_get 12 = .ok (.getfield 22, 3) := by decide +kernel
theorem dX9_get_15 : decode cX9_get 15 = .ok (.bipush 24, 2) := by decide +kernel
theorem dX9_get_17 : decode cX9_get 17 = .ok (.iload_n 1, 1) := by decide +kernel
theorem dX9_get_18 : decode cX9_get 18 = .ok (.imul, 1) := by decide +kernel
theorem dX9_get_19 : decode cX9_get 19 = .ok (.iload_n 2, 1) := by decide +kernel
theorem dX9_get_20 : decode cX9_get 20 = .ok (.iadd, 1) := by decide +kernel
theorem dX9_get_21 : decode cX9_get 21 = .ok (.laload, 1) := by decide +kernel
theorem dX9_get_22 : decode cX9_get 22 = .ok (.putfield 69, 3) := by decide +kernel
theorem dX9_get_25 : decode cX9_get 25 = .ok (.aload_n 0, 1) := by decide +kernel
theorem dX9_get_26 : decode cX9_get 26 = .ok (.aload_n 0, 1) := by decide +kernel
theorem dX9_get_27 : decode cX9_get 27 = .ok (.getfield 26, 3) := by decide +kernel
theorem dX9_get_30 : decode cX9_get 30 = .ok (.bipush 24, 2) := by decide +kernel
theorem dX9_get_32 : decode cX9_get 32 = .ok (.iload_n 1, 1) := by decide +kernel
theorem dX9_get_33 : decode cX9_get 33 = .ok (.imul, 1) := by decide +kernel
theorem dX9_get_34 : decode cX9_get 34 = .ok (.iload_n 2, 1) := by decide +kernel
theorem dX9_get_35 : decode cX9_get 35 = .ok (.iadd, 1) := by decide +kernel
theorem dX9_get_36 : decode cX9_get 36 = .ok (.daload, 1) := by decide +kernel
theorem dX9_get_37 : decode cX9_get 37 = .ok (.putfield 73, 3) := by decide +kernel
theorem dX9_get_40 : decode cX9_get 40 = .ok (.return_, 1) := by decide +kernel
theorem dX9_goesInto_0 : decode cX9_goesInto 0 = .ok (.aload_n 0, 1) := by decide +kernel
theorem dX9_goesInto_1 : decode cX9_goesInto 1 = .ok (.getfield 7, 3) := by decide +kernel
theorem dX9_goesInto_4 : decode cX9_goesInto 4 = .ok (.iload_n 1, 1) := by decide +kernel
theorem dX9_goesInto_5 : decode cX9_goesInto 5 = .ok (.iaload, 1) := by decide +kernel
theorem dX9_goesInto_6 : decode cX9_goesInto 6 = .ok (.iload_n 2, 1) := by decide +kernel
theorem dX9_goesInto_7 : decode cX9_goesInto 7 = .ok (.ishr, 1) := by decide +kernel
theorem dX9_goesInto_8 : decode cX9_goesInto 8 = .ok (.iconst 1, 1) := by decide +kernel
theorem dX9_goesInto_9 : decode cX9_goesInto 9 = .ok (.iand, 1) := by decide +kernel
theorem dX9_goesInto_10 : decode cX9_goesInto 10 = .ok (.iconst 1, 1) := by decide +kernel
theorem dX9_goesInto_11 : decode cX9_goesInto 11 = .ok (.if_icmp .ne 7, 3) := by decide +kernel
theorem dX9_goesInto_14 : decode cX9_goesInto 14 = .ok (.iconst 1, 1) := by decide +kernel
theorem dX9_goesInto_15 : decode cX9_goesInto 15 = .ok (.goto 4, 3) := by decide +kernel
theorem dX9_goesInto_18 : decode cX9_goesInto 18 = .ok (.iconst 0, 1) := by decide +kernel
theorem dX9_goesInto_19 : decode cX9_goesInto 19 = .ok (.ireturn, 1) := by decide +kernel
theorem dX9_widen_0 : decode cX9_widen 0 = .ok (.iload_n 1, 1) := by decide +kernel
theorem dX9_widen_1 : decode cX9_widen 1 = .ok (.bipush 6, 2) := by decide +kernel
theorem dX9_widen_3 : decode cX9_widen 3 = .ok (.if_icmp .lt 40, 3) := by decide +kernel
theorem dX9_widen_6 : decode cX9_widen 6 = .ok (.aload_n 0, 1) := by decide +kernel
theorem dX9_widen_7 : decode cX9_widen 7 = .ok (.getfield 66, 3) := by decide +kernel
theorem dX9_widen_10 : decode cX9_widen 10 = .ok (.iconst 5, 1) := by decide +kernel
theorem dX9_widen_11 : decode cX9_widen 11 = .ok (.if_icmp .gt 32, 3) := by decide +kernel
theorem dX9_widen_14 : decode cX9_widen 14 = .ok (.aload_n 0, 1) := by decide +kernel
theorem dX9_widen_15 : decode cX9_widen 15 = .ok (.iload_n 1, 1) := by decide +kernel
theorem dX9_widen_16 : decode cX9_widen 16 = .ok (.bipush 6, 2) := by decide +kernel
theorem dX9_widen_18 : decode cX9_widen 18 = .ok (.if_icmp .ne 12, 3) := by decide +kernel
theorem dX9_widen_21 : decode cX9_widen 21 = .ok (.aload_n 0, 1) := by decide +kernel
theorem dX9_widen_22 : decode cX9_widen 22 = .ok (.getfield 69, 3) := by decide +kernel
theorem dX9_widen_25 : decode cX9_widen 25 = .ok (.l2f, 1) := by decide +kernel
theorem dX9_widen_26 : decode cX9_widen 26 = .ok (.f2d, 1) := by decide +kernel
theorem dX9_widen_27 : decode cX9_widen 27 = .ok (.goto 8, 3) := by decide +kernel
theorem dX9_widen_30 : decode cX9_widen 30 = .ok (.aload_n 0, 1) := by decide +kernel
theorem dX9_widen_31 : decode cX9_widen 31 = .ok (.getfield 69, 3) := by decide +kernel
theorem dX9_widen_34 : decode cX9_widen 34 = .ok (.l2d, 1) := by decide +kernel
theorem dX9_widen_35 : decode cX9_widen 35 = .ok (.putfield 73, 3) := by decide +kernel
theorem dX9_widen_38 : decode cX9_widen 38 = .ok (.aload_n 0, 1) := by decide +kernel
theorem dX9_widen_39 : decode cX9_widen 39 = .ok (.lconst 0, 1) := by decide +kernel
theorem dX9_widen_40 : decode cX9_widen 40 = .ok (.putfield 69, 3) := by decide +kernel
theorem dX9_widen_43 : decode cX9_widen 43 = .ok (.aload_n 0, 1) := by decide +kernel
theorem dX9_widen_44 : decode cX9_widen 44 = .ok (.iload_n 1, 1) := by decide +kernel
theorem dX9_widen_45 : decode cX9_widen 45 = .ok (.putfield 66, 3) := by decide +kernel
theorem dX9_widen_48 : decode cX9_widen 48 = .ok (.return_, 1) := by decide +kernel
theorem dX9_set_0 : decode cX9_set 0 = .ok (.aload_n 0, 1) := by decide +kernel
theorem dX9_set_1 : decode cX9_set 1 = .ok (.getfield 22, 3) := by decide +kernel
theorem dX9_set_4 : decode cX9_set 4 = .ok (.bipush 24, 2) := by decide +kernel
theorem dX9_set_6 : decode cX9_set 6 = .ok (.iload_n 1, 1) := by decide +kernel
theorem dX9_set_7 : decode cX9_set 7 = .ok (.imul, 1) := by decide +kernel
theorem dX9_set_8 : decode cX9_set 8 = .ok (.iload_n 2, 1) := by decide +kernel
theorem dX9_set_9 : decode cX9_set 9 = .ok (.iadd, 1) := by decide +kernel
theorem dX9_set_10 : decode cX9_set 10 = .ok (.aload_n 0, 1) := by decide +kernel
theorem dX9_set_11 : decode cX9_set 11 = .ok (.getfield 69, 3) := by decide +kernel
theorem dX9_set_14 : decode cX9_set 14 = .ok (.lastore, 1) := by decide +kernel
theorem dX9_set_15 : decode cX9_set 15 = .ok (.aload_n 0, 1) := by decide +kernel
theorem dX9_set_16 : decode cX9_set 16 = .ok (.getfield 26, 3) := by decide +kernel
theorem dX9_set_19 : decode cX9_set 19 = .ok (.bipush 24, 2) := by decide +kernel
theorem dX9_set_21 : decode cX9_set 21 = .ok (.iload_n 1, 1) := by decide +kernel
theorem dX9_set_22 : decode cX9_set 22 = .ok (.imul, 1) := by decide +kernel
theorem dX9_set_23 : decode cX9_set 23 = .ok (.iload_n 2, 1) := by decide +kernel
theorem dX9_set_24 : decode cX9_set 24 = .ok (.iadd, 1) := by decide +kernel
theorem dX9_set_25 : decode cX9_set 25 = .ok (.aload_n 0, 1) := by decide +kernel
theorem dX9_set_26 : decode cX9_set 26 = .ok (.getfield 73, 3) := by decide +kernel
theorem dX9_set_29 : decode cX9_set 29 = .ok (.dastore, 1) := by decide +kernel
theorem dX9_set_30 : decode cX9_set 30 = .ok (.return_, 1) := by decide +kernel
theorem dX9_isFloating_0 : decode cX9_isFloating 0 = .ok (.iload_n 0, 1) := by decide +kernel
theorem dX9_isFloating_1 : decode cX9_isFloating 1 = .ok (.bipush 6, 2) := by decide +kernel
theorem dX9_isFloating_3 : decode cX9_isFloating 3 = .ok (.if_icmp .lt 7, 3) := by decide +kernel
theorem dX9_isFloating_6 : decode cX9_isFloating 6 = .ok (.iconst 1, 1) := by decide +kernel
theorem dX9_isFloating_7 : decode cX9_isFloating 7 = .ok (.goto 4, 3) := by decide +kernel
theorem dX9_isFloating_10 : decode cX9_isFloating 10 = .ok (.iconst 0, 1) := by decide +kernel
theorem dX9_isFloating_11 : decode cX9_isFloating 11 = .ok (.ireturn, 1) := by decide +kernel
theorem dX9_doubleOf_0 : decode cX9_doubleOf 0 = .ok (.iload_n 0, 1) := by decide +kernel
theorem dX9_doubleOf_1 : decode cX9_doubleOf 1 = .ok (.iconst 5, 1) := by decide +kernel
theorem dX9_doubleOf_2 : decode cX9_doubleOf 2 = .ok (.if_icmp .gt 8, 3) := by decide +kernel
theorem dX9_doubleOf_5 : decode cX9_doubleOf 5 = .ok (.lload_n 1, 1) := by decide +kernel
theorem dX9_doubleOf_6 : decode cX9_doubleOf 6 = .ok (.l2d, 1) := by decide +kernel
theorem dX9_doubleOf_7 : decode cX9_doubleOf 7 = .ok (.goto 4, 3) := by decide +kernel
theorem dX9_doubleOf_10 : decode cX9_doubleOf 10 = .ok (.dload_n 3, 1) := by decide +kernel
theorem dX9_doubleOf_11 : decode cX9_doubleOf 11 = .ok (.dreturn, 1) := by decide +kernel
theorem dX9_order_0 : decode cX9_order 0 = .ok (.iload_n 0, 1) := by decide +kernel
theorem dX9_order_1 : decode cX9_order 1 = .ok (.ifCond .ne 7, 3) := by decide +kernel
theorem dX9_order_4 : decode cX9_order 4 = .ok (.iconst 1, 1) := by decide +kernel
theorem dX9_order_5 : decode cX9_order 5 = .ok (.goto 4, 3) := by decide +kernel
theorem dX9_order_8 : decode cX9_order 8 = .ok (.iconst 0, 1) := by decide +kernel
theorem dX9_order_9 : decode cX9_order 9 = .ok (.iload_n 3, 1) := by decide +kernel
theorem dX9_order_10 : decode cX9_order 10 = .ok (.ifCond .ne 7, 3) := by decide +kernel
theorem dX9_order_13 : decode cX9_order 13 = .ok (.iconst 1, 1) := by decide +kernel
theorem dX9_order_14 : decode cX9_order 14 = .ok (.goto 4, 3) := by decide +kernel
theorem dX9_order_17 : decode cX9_order 17 = .ok (.iconst 0, 1) := by decide +kernel
theorem dX9_order_18 : decode cX9_order 18 = .ok (.if_icmp .eq 5, 3) := by decide +kernel
theorem dX9_order_21 : decode cX9_order 21 = .ok (.iconst 2, 1) := by decide +kernel
theorem dX9_order_22 : decode cX9_order 22 = .ok (.ireturn, 1) := by decide +kernel
theorem dX9_order_23 : decode cX9_order 23 = .ok (.lload_n 1, 1) := by decide +kernel
theorem dX9_order_24 : decode cX9_order 24 = .ok (.lload 4, 2) := by decide +kernel
theorem dX9_order_26 : decode cX9_order 26 = .ok (.lcmp, 1) := by decide +kernel
theorem dX9_order_27 : decode cX9_order 27 = .ok (.ifCond .ge 7, 3) := by decide +kernel
theorem dX9_order_30 : decode cX9_order 30 = .ok (.iconst (-1), 1) := by decide +kernel
theorem dX9_order_31 : decode cX9_order 31 = .ok (.goto 15, 3) := by decide +kernel
theorem dX9_order_34 : decode cX9_order 34 = .ok (.lload_n 1, 1) := by decide +kernel
theorem dX9_order_35 : decode cX9_order 35 = .ok (.lload 4, 2) := by decide +kernel
theorem dX9_order_37 : decode cX9_order 37 = .ok (.lcmp, 1) := by decide +kernel
theorem dX9_order_38 : decode cX9_order 38 = .ok (.ifCond .le 7, 3) := by decide +kernel
theorem dX9_order_41 : decode cX9_order 41 = .ok (.iconst 1, 1) := by decide +kernel
theorem dX9_order_42 : decode cX9_order 42 = .ok (.goto 4, 3) := by decide +kernel
theorem dX9_order_45 : decode cX9_order 45 = .ok (.iconst 0, 1) := by decide +kernel
theorem dX9_order_46 : decode cX9_order 46 = .ok (.ireturn, 1) := by decide +kernel
theorem dX9_against_0 : decode cX9_against 0 = .ok (.aload_n 0, 1) := by decide +kernel
theorem dX9_against_1 : decode cX9_against 1 = .ok (.getfield 66, 3) := by decide +kernel
theorem dX9_against_4 : decode cX9_against 4 = .ok (.ifCond .eq 76, 3) := by decide +kernel
theorem dX9_against_7 : decode cX9_against 7 = .ok (.iload_n 1, 1) := by decide +kernel
theorem dX9_against_8 : decode cX9_against 8 = .ok (.ifCond .eq 72, 3) := by decide +kernel
theorem dX9_against_11 : decode cX9_against 11 = .ok (.aload_n 0, 1) := by decide +kernel
theorem dX9_against_12 : decode cX9_against 12 = .ok (.getfield 66, 3) := by decide +kernel
theorem dX9_against_15 : decode cX9_against 15 = .ok (.invokestatic 80, 3) := by decide +kernel
theorem dX9_against_18 : decode cX9_against 18 = .ok (.ifCond .ne 10, 3) := by decide +kernel
theorem dX9_against_21 : decode cX9_against 21 = .ok (.iload_n 1, 1) := by decide +kernel
theorem dX9_against_22 : decode cX9_against 22 = .ok (.invokestatic 80, 3) := by decide +kernel
theorem dX9_against_25 : decode cX9_against 25 = .ok (.ifCond .eq 55, 3) := by decide +kernel
theorem dX9_against_28 : decode cX9_against 28 = .ok (.aload_n 0, 1) := by decide +kernel
theorem dX9_against_29 : decode cX9_against 29 = .ok (.getfield 66, 3) := by decide +kernel
theorem dX9_against_32 : decode cX9_against 32 = .ok (.aload_n 0, 1) := by decide +kernel
theorem dX9_against_33 : decode cX9_against 33 = .ok (.getfield 69, 3) := by decide +kernel
theorem dX9_against_36 : decode cX9_against 36 = .ok (.aload_n 0, 1) := by decide +kernel
theorem dX9_against_37 : decode cX9_against 37 = .ok (.getfield 73, 3) := by decide +kernel
theorem dX9_against_40 : decode cX9_against 40 = .ok (.invokestatic 83, 3) := by decide +kernel
theorem dX9_against_43 : decode cX9_against 43 = .ok (.dstore 6, 2) := by decide +kernel
theorem dX9_against_45 : decode cX9_against 45 = .ok (.iload_n 1, 1) := by decide +kernel
theorem dX9_against_46 : decode cX9_against 46 = .ok (.lload_n 2, 1) := by decide +kernel
theorem dX9_against_47 : decode cX9_against 47 = .ok (.dload 4, 2) := by decide +kernel
theorem dX9_against_49 : decode cX9_against 49 = .ok (.invokestatic 83, 3) := by decide +kernel
theorem dX9_against_52 : decode cX9_against 52 = .ok (.dstore 8, 2) := by decide +kernel
theorem dX9_against_54 : decode cX9_against 54 = .ok (.dload 6, 2) := by decide +kernel
theorem dX9_against_56 : decode cX9_against 56 = .ok (.dload 8, 2) := by decide +kernel
theorem dX9_against_58 : decode cX9_against 58 = .ok (.dcmp .g, 1) := by decide +kernel
theorem dX9_against_59 : decode cX9_against 59 = .ok (.ifCond .ge 7, 3) := by decide +kernel
theorem dX9_against_62 : decode cX9_against 62 = .ok (.iconst (-1), 1) := by decide +kernel
theorem dX9_against_63 : decode cX9_against 63 = .ok (.goto 16, 3) := by decide +kernel
theorem dX9_against_66 : decode cX9_against 66 = .ok (.dload 6, 2) := by decide +kernel
theorem dX9_against_68 : decode cX9_against 68 = .ok (.dload 8, 2) := by decide +kernel
theorem dX9_against_70 : decode cX9_against 70 = .ok (.dcmp .l, 1) := by decide +kernel
theorem dX9_against_71 : decode cX9_against 71 = .ok (.ifCond .le 7, 3) := by decide +kernel
theorem dX9_against_74 : decode cX9_against 74 = .ok (.iconst 1, 1) := by decide +kernel
theorem dX9_against_75 : decode cX9_against 75 = .ok (.goto 4, 3) := by decide +kernel
theorem dX9_against_78 : decode cX9_against 78 = .ok (.iconst 0, 1) := by decide +kernel
theorem dX9_against_79 : decode cX9_against 79 = .ok (.ireturn, 1) := by decide +kernel
theorem dX9_against_80 : decode cX9_against 80 = .ok (.aload_n 0, 1) := by decide +kernel
theorem dX9_against_81 : decode cX9_against 81 = .ok (.getfield 66, 3) := by decide +kernel
theorem dX9_against_84 : decode cX9_against 84 = .ok (.aload_n 0, 1) := by decide +kernel
theorem dX9_against_85 : decode cX9_against 85 = .ok (.getfield 69, 3) := by decide +kernel
theorem dX9_against_88 : decode cX9_against 88 = .ok (.iload_n 1, 1) := by decide +kernel
theorem dX9_against_89 : decode cX9_against 89 = .ok (.lload_n 2, 1) := by decide +kernel
theorem dX9_against_90 : decode cX9_against 90 = .ok (.invokestatic 87, 3) := by decide +kernel
theorem dX9_against_93 : decode cX9_against 93 = .ok (.ireturn, 1) := by decide +kernel
theorem dX9_fits_0 : decode cX9_fits 0 = .ok (.lload_n 2, 1) := by decide +kernel
theorem dX9_fits_1 : decode cX9_fits 1 = .ok (.lconst 0, 1) := by decide +kernel
theorem dX9_fits_2 : decode cX9_fits 2 = .ok (.lcmp, 1) := by decide +kernel
theorem dX9_fits_3 : decode cX9_fits 3 = .ok (.ifCond .ne 5, 3) := by decide +kernel
theorem dX9_fits_6 : decode cX9_fits 6 = .ok (.iconst 1, 1) := by decide +kernel
theorem dX9_fits_7 : decode cX9_fits 7 = .ok (.ireturn, 1) := by decide +kernel
theorem dX9_fits_8 : decode cX9_fits 8 = .ok (.aload_n 0, 1) := by decide +kernel
theorem dX9_fits_9 : decode cX9_fits 9 = .ok (.getfield 13, 3) := by decide +kernel
theorem dX9_fits_12 : decode cX9_fits 12 = .ok (.lload_n 2, 1) := by decide +kernel
theorem dX9_fits_13 : decode cX9_fits 13 = .ok (.l2i, 1) := by decide +kernel
theorem dX9_fits_14 : decode cX9_fits 14 = .ok (.iconst 1, 1) := by decide +kernel
theorem dX9_fits_15 : decode cX9_fits 15 = .ok (.isub, 1) := by decide +kernel
theorem dX9_fits_16 : decode cX9_fits 16 = .ok (.iaload, 1) := by decide +kernel
theorem dX9_fits_17 : decode cX9_fits 17 = .ok (.istore 4, 2) := by decide +kernel
theorem dX9_fits_19 : decode cX9_fits 19 = .ok (.aload_n 0, 1) := by decide +kernel
theorem dX9_fits_20 : decode cX9_fits 20 = .ok (.getfield 13, 3) := by decide +kernel
theorem dX9_fits_23 : decode cX9_fits 23 = .ok (.iload_n 1, 1) := by decide +kernel
theorem dX9_fits_24 : decode cX9_fits 24 = .ok (.iaload, 1) := by decide +kernel
theorem dX9_fits_25 : decode cX9_fits 25 = .ok (.tableswitch 65 8 10 #[27, 40, 53], 27) := by decide +kernel
theorem dX9_fits_52 : decode cX9_fits 52 = .ok (.iload 4, 2) := by decide +kernel
theorem dX9_fits_54 : decode cX9_fits 54 = .ok (.bipush 12, 2) := by decide +kernel
theorem dX9_fits_56 : decode cX9_fits 56 = .ok (.if_icmp .lt 7, 3) := by decide +kernel
theorem dX9_fits_59 : decode cX9_fits 59 = .ok (.iconst 1, 1) := by decide +kernel
theorem dX9_fits_60 : decode cX9_fits 60 = .ok (.goto 4, 3) := by decide +kernel
theorem dX9_fits_63 : decode cX9_fits 63 = .ok (.iconst 0, 1) := by decide +kernel
theorem dX9_fits_64 : decode cX9_fits 64 = .ok (.ireturn, 1) := by decide +kernel
theorem dX9_fits_65 : decode cX9_fits 65 = .ok (.iload 4, 2) := by decide +kernel
theorem dX9_fits_67 : decode cX9_fits 67 = .ok (.bipush 14, 2) := by decide +kernel
theorem dX9_fits_69 : decode cX9_fits 69 = .ok (.if_icmp .ne 7, 3) := by decide +kernel
theorem dX9_fits_72 : decode cX9_fits 72 = .ok (.iconst 1, 1) := by decide +kernel
theorem dX9_fits_73 : decode cX9_fits 73 = .ok (.goto 4, 3) := by decide +kernel
theorem dX9_fits_76 : decode cX9_fits 76 = .ok (.iconst 0, 1) := by decide +kernel
theorem dX9_fits_77 : decode cX9_fits 77 = .ok (.ireturn, 1) := by decide +kernel
theorem dX9_fits_78 : decode cX9_fits 78 = .ok (.iload 4, 2) := by decide +kernel
theorem dX9_fits_80 : decode cX9_fits 80 = .ok (.iconst 4, 1) := by decide +kernel
theorem dX9_fits_81 : decode cX9_fits 81 = .ok (.if_icmp .ne 7, 3) := by decide +kernel
theorem dX9_fits_84 : decode cX9_fits 84 = .ok (.iconst 1, 1) := by decide +kernel
theorem dX9_fits_85 : decode cX9_fits 85 = .ok (.goto 4, 3) := by decide +kernel
theorem dX9_fits_88 : decode cX9_fits 88 = .ok (.iconst 0, 1) := by decide +kernel
theorem dX9_fits_89 : decode cX9_fits 89 = .ok (.ireturn, 1) := by decide +kernel
theorem dX9_fits_90 : decode cX9_fits 90 = .ok (.iload 4, 2) := by decide +kernel
theorem dX9_fits_92 : decode cX9_fits 92 = .ok (.bipush 8, 2) := by decide +kernel
theorem dX9_fits_94 : decode cX9_fits 94 = .ok (.if_icmp .eq 10, 3) := by decide +kernel
theorem dX9_fits_97 : decode cX9_fits 97 = .ok (.iload 4, 2) := by decide +kernel
theorem dX9_fits_99 : decode cX9_fits 99 = .ok (.bipush 9, 2) := by decide +kernel
theorem dX9_fits_101 : decode cX9_fits 101 = .ok (.if_icmp .ne 7, 3) := by decide +kernel
theorem dX9_fits_104 : decode cX9_fits 104 = .ok (.iconst 1, 1) := by decide +kernel
theorem dX9_fits_105 : decode cX9_fits 105 = .ok (.goto 4, 3) := by decide +kernel
theorem dX9_fits_108 : decode cX9_fits 108 = .ok (.iconst 0, 1) := by decide +kernel
theorem dX9_fits_109 : decode cX9_fits 109 = .ok (.ireturn, 1) := by decide +kernel
theorem dX9_goesIn_0 : decode cX9_goesIn 0 = .ok (.aload_n 0, 1) := by decide +kernel
theorem dX9_goesIn_1 : decode cX9_goesIn 1 = .ok (.getfield 66, 3) := by decide +kernel
theorem dX9_goesIn_4 : decode cX9_goesIn 4 = .ok (.bipush 8, 2) := by decide +kernel
theorem dX9_goesIn_6 : decode cX9_goesIn 6 = .ok (.if_icmp .ge 7, 3) := by decide +kernel
theorem dX9_goesIn_9 : decode cX9_goesIn 9 = .ok (.iconst 1, 1) := by decide +kernel
theorem dX9_goesIn_10 : decode cX9_goesIn 10 = .ok (.goto 4, 3) := by decide +kernel
theorem dX9_goesIn_13 : decode cX9_goesIn 13 = .ok (.iconst 0, 1) := by decide +kernel
theorem dX9_goesIn_14 : decode cX9_goesIn 14 = .ok (.istore_n 2, 1) := by decide +kernel
theorem dX9_goesIn_15 : decode cX9_goesIn 15 = .ok (.iload_n 2, 1) := by decide +kernel
theorem dX9_goesIn_16 : decode cX9_goesIn 16 = .ok (.aload_n 0, 1) := by decide +kernel
theorem dX9_goesIn_17 : decode cX9_goesIn 17 = .ok (.iload_n 1, 1) := by decide +kernel
theorem dX9_goesIn_18 : decode cX9_goesIn 18 = .ok (.invokevirtual 91, 3) := by decide +kernel
theorem dX9_goesIn_21 : decode cX9_goesIn 21 = .ok (.if_icmp .eq 5, 3) := by decide +kernel
theorem dX9_goesIn_24 : decode cX9_goesIn 24 = .ok (.iconst 0, 1) := by decide +kernel
theorem dX9_goesIn_25 : decode cX9_goesIn 25 = .ok (.ireturn, 1) := by decide +kernel
theorem dX9_goesIn_26 : decode cX9_goesIn 26 = .ok (.iload_n 2, 1) := by decide +kernel
theorem dX9_goesIn_27 : decode cX9_goesIn 27 = .ok (.ifCond .eq 20, 3) := by decide +kernel
theorem dX9_goesIn_30 : decode cX9_goesIn 30 = .ok (.aload_n 0, 1) := by decide +kernel
theorem dX9_goesIn_31 : decode cX9_goesIn 31 = .ok (.aload_n 0, 1) := by decide +kernel
theorem dX9_goesIn_32 : decode cX9_goesIn 32 = .ok (.getfield 66, 3) := by decide +kernel
theorem dX9_goesIn_35 : decode cX9_goesIn 35 = .ok (.aload_n 0, 1) := by decide +kernel
theorem dX9_goesIn_36 : decode cX9_goesIn 36 = .ok (.getfield 13, 3) := by decide +kernel
theorem dX9_goesIn_39 : decode cX9_goesIn 39 = .ok (.iload_n 1, 1) := by decide +kernel
theorem dX9_goesIn_40 : decode cX9_goesIn 40 = .ok (.iaload, 1) := by decide +kernel
theorem dX9_goesIn_41 : decode cX9_goesIn 41 = .ok (.invokevirtual 94, 3) := by decide +kernel
theorem dX9_goesIn_44 : decode cX9_goesIn 44 = .ok (.goto 12, 3) := by decide +kernel
theorem dX9_goesIn_47 : decode cX9_goesIn 47 = .ok (.aload_n 0, 1) := by decide +kernel
theorem dX9_goesIn_48 : decode cX9_goesIn 48 = .ok (.iload_n 1, 1) := by decide +kernel
theorem dX9_goesIn_49 : decode cX9_goesIn 49 = .ok (.aload_n 0, 1) := by decide +kernel
theorem dX9_goesIn_50 : decode cX9_goesIn 50 = .ok (.getfield 69, 3) := by decide +kernel
theorem dX9_goesIn_53 : decode cX9_goesIn 53 = .ok (.invokevirtual 98, 3) := by decide +kernel
theorem dX9_goesIn_56 : decode cX9_goesIn 56 = .ok (.ireturn, 1) := by decide +kernel
theorem dX9_make_0 : decode cX9_make 0 = .ok (.aload_n 0, 1) := by decide +kernel
theorem dX9_make_1 : decode cX9_make 1 = .ok (.iconst 0, 1) := by decide +kernel
theorem dX9_make_2 : decode cX9_make 2 = .ok (.putfield 48, 3) := by decide +kernel
theorem dX9_make_5 : decode cX9_make 5 = .ok (.iload_n 1, 1) := by decide +kernel
theorem dX9_make_6 : decode cX9_make 6 = .ok (.invokestatic 102, 3) := by decide +kernel
theorem dX9_make_9 : decode cX9_make 9 = .ok (.ifCond .eq 29, 3) := by decide +kernel
theorem dX9_make_12 : decode cX9_make 12 = .ok (.iload_n 2, 1) := by decide +kernel
theorem dX9_make_13 : decode cX9_make 13 = .ok (.iconst 0, 1) := by decide +kernel
theorem dX9_make_14 : decode cX9_make 14 = .ok (.bipush 14, 2) := by decide +kernel
theorem dX9_make_16 : decode cX9_make 16 = .ok (.invokestatic 52, 3) := by decide +kernel
theorem dX9_make_19 : decode cX9_make 19 = .ok (.ifCond .eq 19, 3) := by decide +kernel
theorem dX9_make_22 : decode cX9_make 22 = .ok (.iload_n 2, 1) := by decide +kernel
theorem dX9_make_23 : decode cX9_make 23 = .ok (.bipush 12, 2) := by decide +kernel
theorem dX9_make_25 : decode cX9_make 25 = .ok (.if_icmp .ge 19, 3) := by decide +kernel
theorem dX9_make_28 : decode cX9_make 28 = .ok (.iload_n 3, 1) := by decide +kernel
theorem dX9_make_29 : decode cX9_make 29 = .ok (.iconst 0, 1) := by decide +kernel
theorem dX9_make_30 : decode cX9_make 30 = .ok (.bipush 24, 2) := by decide +kernel
theorem dX9_make_32 : decode cX9_make 32 = .ok (.invokestatic 52, 3) := by decide +kernel
theorem dX9_make_35 : decode cX9_make 35 = .ok (.ifCond .ne 9, 3) := by decide +kernel
theorem dX9_make_38 : decode cX9_make 38 = .ok (.aload_n 0, 1) := by decide +kernel
theorem dX9_make_39 : decode cX9_make 39 = .ok (.iconst 1, 1) := by decide +kernel
theorem dX9_make_40 : decode cX9_make 40 = .ok (.invokevirtual 105, 3) := by decide +kernel
theorem dX9_make_43 : decode cX9_make 43 = .ok (.ireturn, 1) := by decide +kernel
theorem dX9_make_44 : decode cX9_make 44 = .ok (.aload_n 0, 1) := by decide +kernel
theorem dX9_make_45 : decode cX9_make 45 = .ok (.getfield 13, 3) := by decide +kernel
theorem dX9_make_48 : decode cX9_make 48 = .ok (.aload_n 0, 1) := by decide +kernel
theorem dX9_make_49 : decode cX9_make 49 = .ok (.getfield 108, 3) := by decide +kernel
theorem dX9_make_52 : decode cX9_make 52 = .ok (.iload_n 2, 1) := by decide +kernel
theorem dX9_make_53 : decode cX9_make 53 = .ok (.iastore, 1) := by decide +kernel
theorem dX9_make_54 : decode cX9_make 54 = .ok (.aload_n 0, 1) := by decide +kernel
theorem dX9_make_55 : decode cX9_make 55 = .ok (.getfield 16, 3) := by decide +kernel
theorem dX9_make_58 : decode cX9_make 58 = .ok (.aload_n 0, 1) := by decide +kernel
theorem dX9_make_59 : decode cX9_make 59 = .ok (.getfield 108, 3) := by decide +kernel
theorem dX9_make_62 : decode cX9_make 62 = .ok (.iload_n 2, 1) := by decide +kernel
theorem dX9_make_63 : decode cX9_make 63 = .ok (.bipush 12, 2) := by decide +kernel
theorem dX9_make_65 : decode cX9_make 65 = .ok (.if_icmp .ge 7, 3) := by decide +kernel
theorem dX9_make_68 : decode cX9_make 68 = .ok (.iload_n 3, 1) := by decide +kernel
theorem dX9_make_69 : decode cX9_make 69 = .ok (.goto 4, 3) := by decide +kernel
theorem dX9_make_72 : decode cX9_make 72 = .ok (.iconst 0, 1) := by decide +kernel
theorem dX9_make_73 : decode cX9_make 73 = .ok (.iastore, 1) := by decide +kernel
theorem dX9_make_74 : decode cX9_make 74 = .ok (.aload_n 0, 1) := by decide +kernel
theorem dX9_make_75 : decode cX9_make 75 = .ok (.getfield 19, 3) := by decide +kernel
theorem dX9_make_78 : decode cX9_make 78 = .ok (.aload_n 0, 1) := by decide +kernel
theorem dX9_make_79 : decode cX9_make 79 = .ok (.getfield 108, 3) := by decide +kernel
theorem dX9_make_82 : decode cX9_make 82 = .ok (.iload_n 3, 1) := by decide +kernel
theorem dX9_make_83 : decode cX9_make 83 = .ok (.iastore, 1) := by decide +kernel
theorem dX9_make_84 : decode cX9_make 84 = .ok (.aload_n 0, 1) := by decide +kernel
theorem dX9_make_85 : decode cX9_make 85 = .ok (.dup, 1) := by decide +kernel
theorem dX9_make_86 : decode cX9_make 86 = .ok (.getfield 108, 3) := by decide +kernel
theorem dX9_make_89 : decode cX9_make 89 = .ok (.iconst 1, 1) := by decide +kernel
theorem dX9_make_90 : decode cX9_make 90 = .ok (.iadd, 1) := by decide +kernel
theorem dX9_make_91 : decode cX9_make 91 = .ok (.putfield 108, 3) := by decide +kernel
theorem dX9_make_94 : decode cX9_make 94 = .ok (.aload_n 0, 1) := by decide +kernel
theorem dX9_make_95 : decode cX9_make 95 = .ok (.getfield 30, 3) := by decide +kernel
theorem dX9_make_98 : decode cX9_make 98 = .ok (.iload_n 1, 1) := by decide +kernel
theorem dX9_make_99 : decode cX9_make 99 = .ok (.aload_n 0, 1) := by decide +kernel
theorem dX9_make_100 : decode cX9_make 100 = .ok (.getfield 108, 3) := by decide +kernel
theorem dX9_make_103 : decode cX9_make 103 = .ok (.iastore, 1) := by decide +kernel
theorem dX9_make_104 : decode cX9_make 104 = .ok (.iconst 1, 1) := by decide +kernel
theorem dX9_make_105 : decode cX9_make 105 = .ok (.ireturn, 1) := by decide +kernel
theorem dX9_lay_0 : decode cX9_lay 0 = .ok (.aload_n 0, 1) := by decide +kernel
theorem dX9_lay_1 : decode cX9_lay 1 = .ok (.iconst 0, 1) := by decide +kernel
theorem dX9_lay_2 : decode cX9_lay 2 = .ok (.putfield 48, 3) := by decide +kernel
theorem dX9_lay_5 : decode cX9_lay 5 = .ok (.iload_n 1, 1) := by decide +kernel
theorem dX9_lay_6 : decode cX9_lay 6 = .ok (.invokestatic 102, 3) := by decide +kernel
theorem dX9_lay_9 : decode cX9_lay 9 = .ok (.ifCond .eq 10, 3) := by decide +kernel
theorem dX9_lay_12 : decode cX9_lay 12 = .ok (.iload_n 2, 1) := by decide +kernel
theorem dX9_lay_13 : decode cX9_lay 13 = .ok (.invokestatic 102, 3) := by decide +kernel
theorem dX9_lay_16 : decode cX9_lay 16 = .ok (.ifCond .ne 9, 3) := by decide +kernel
theorem dX9_lay_19 : decode cX9_lay 19 = .ok (.aload_n 0, 1) := by decide +kernel
theorem dX9_lay_20 : decode cX9_lay 20 = .ok (.iconst 1, 1) := by decide +kernel
theorem dX9_lay_21 : decode cX9_lay 21 = .ok (.invokevirtual 105, 3) := by decide +kernel
theorem dX9_lay_24 : decode cX9_lay 24 = .ok (.ireturn, 1) := by decide +kernel
theorem dX9_lay_25 : decode cX9_lay 25 = .ok (.aload_n 0, 1) := by decide +kernel
theorem dX9_lay_26 : decode cX9_lay 26 = .ok (.getfield 30, 3) := by decide +kernel
theorem dX9_lay_29 : decode cX9_lay 29 = .ok (.iload_n 2, 1) := by decide +kernel
theorem dX9_lay_30 : decode cX9_lay 30 = .ok (.aload_n 0, 1) := by decide +kernel
theorem dX9_lay_31 : decode cX9_lay 31 = .ok (.getfield 30, 3) := by decide +kernel
theorem dX9_lay_34 : decode cX9_lay 34 = .ok (.iload_n 1, 1) := by decide +kernel
theorem dX9_lay_35 : decode cX9_lay 35 = .ok (.iaload, 1) := by decide +kernel
theorem dX9_lay_36 : decode cX9_lay 36 = .ok (.iastore, 1) := by decide +kernel
theorem dX9_lay_37 : decode cX9_lay 37 = .ok (.aload_n 0, 1) := by decide +kernel
theorem dX9_lay_38 : decode cX9_lay 38 = .ok (.getfield 30, 3) := by decide +kernel
theorem dX9_lay_41 : decode cX9_lay 41 = .ok (.iload_n 2, 1) := by decide +kernel
theorem dX9_lay_42 : decode cX9_lay 42 = .ok (.iaload, 1) := by decide +kernel
theorem dX9_lay_43 : decode cX9_lay 43 = .ok (.ifCond .le 7, 3) := by decide +kernel
theorem dX9_lay_46 : decode cX9_lay 46 = .ok (.iconst 1, 1) := by decide +kernel
theorem dX9_lay_47 : decode cX9_lay 47 = .ok (.goto 4, 3) := by decide +kernel
theorem dX9_lay_50 : decode cX9_lay 50 = .ok (.iconst 0, 1) := by decide +kernel
theorem dX9_lay_51 : decode cX9_lay 51 = .ok (.ireturn, 1) := by decide +kernel
theorem dX9_places_0 : decode cX9_places 0 = .ok (.aload_n 0, 1) := by decide +kernel
theorem dX9_places_1 : decode cX9_places 1 = .ok (.iconst 0, 1) := by decide +kernel
theorem dX9_places_2 : decode cX9_places 2 = .ok (.putfield 48, 3) := by decide +kernel
theorem dX9_places_5 : decode cX9_places 5 = .ok (.iload_n 1, 1) := by decide +kernel
theorem dX9_places_6 : decode cX9_places 6 = .ok (.invokestatic 102, 3) := by decide +kernel
theorem dX9_places_9 : decode cX9_places 9 = .ok (.ifCond .ne 9, 3) := by decide +kernel
theorem dX9_places_12 : decode cX9_places 12 = .ok (.aload_n 0, 1) := by decide +kernel
theorem dX9_places_13 : decode cX9_places 13 = .ok (.iconst 1, 1) := by decide +kernel
theorem dX9_places_14 : decode cX9_places 14 = .ok (.invokevirtual 105, 3) := by decide +kernel
theorem dX9_places_17 : decode cX9_places 17 = .ok (.ireturn, 1) := by decide +kernel
theorem dX9_places_18 : decode cX9_places 18 = .ok (.aload_n 0, 1) := by decide +kernel
theorem dX9_places_19 : decode cX9_places 19 = .ok (.iload_n 1, 1) := by decide +kernel
theorem dX9_places_20 : decode cX9_places 20 = .ok (.invokevirtual 111, 3) := by decide +kernel
theorem dX9_places_23 : decode cX9_places 23 = .ok (.istore_n 2, 1) := by decide +kernel
theorem dX9_places_24 : decode cX9_places 24 = .ok (.iload_n 2, 1) := by decide +kernel
theorem dX9_places_25 : decode cX9_places 25 = .ok (.ifCond .le 11, 3) := by decide +kernel
theorem dX9_places_28 : decode cX9_places 28 = .ok (.aload_n 0, 1) := by decide +kernel
theorem dX9_places_29 : decode cX9_places 29 = .ok (.iload_n 2, 1) := by decide +kernel
theorem dX9_places_30 : decode cX9_places 30 = .ok (.invokevirtual 105, 3) := by decide +kernel
theorem dX9_places_33 : decode cX9_places 33 = .ok (.goto 13, 3) := by decide +kernel
theorem dX9_places_36 : decode cX9_places 36 = .ok (.aload_n 0, 1) := by decide +kernel
theorem dX9_places_37 : decode cX9_places 37 = .ok (.getfield 16, 3) := by decide +kernel
theorem dX9_places_40 : decode cX9_places 40 = .ok (.aload_n 0, 1) := by decide +kernel
theorem dX9_places_41 : decode cX9_places 41 = .ok (.iload_n 1, 1) := by decide +kernel
theorem dX9_places_42 : decode cX9_places 42 = .ok (.invokevirtual 56, 3) := by decide +kernel
theorem dX9_places_45 : decode cX9_places 45 = .ok (.iaload, 1) := by decide +kernel
theorem dX9_places_46 : decode cX9_places 46 = .ok (.ireturn, 1) := by decide +kernel
theorem dX9_kind_0 : decode cX9_kind 0 = .ok (.aload_n 0, 1) := by decide +kernel
theorem dX9_kind_1 : decode cX9_kind 1 = .ok (.iconst 0, 1) := by decide +kernel
theorem dX9_kind_2 : decode cX9_kind 2 = .ok (.putfield 48, 3) := by decide +kernel
theorem dX9_kind_5 : decode cX9_kind 5 = .ok (.iload_n 1, 1) := by decide +kernel
theorem dX9_kind_6 : decode cX9_kind 6 = .ok (.invokestatic 102, 3) := by decide +kernel
theorem dX9_kind_9 : decode cX9_kind 9 = .ok (.ifCond .ne 9, 3) := by decide +kernel
theorem dX9_kind_12 : decode cX9_kind 12 = .ok (.aload_n 0, 1) := by decide +kernel
theorem dX9_kind_13 : decode cX9_kind 13 = .ok (.iconst 1, 1) := by decide +kernel
theorem dX9_kind_14 : decode cX9_kind 14 = .ok (.invokevirtual 105, 3) := by decide +kernel
theorem dX9_kind_17 : decode cX9_kind 17 = .ok (.ireturn, 1) := by decide +kernel
theorem dX9_kind_18 : decode cX9_kind 18 = .ok (.aload_n 0, 1) := by decide +kernel
theorem dX9_kind_19 : decode cX9_kind 19 = .ok (.iload_n 1, 1) := by decide +kernel
theorem dX9_kind_20 : decode cX9_kind 20 = .ok (.invokevirtual 56, 3) := by decide +kernel
theorem dX9_kind_23 : decode cX9_kind 23 = .ok (.ifCond .ge 7, 3) := by decide +kernel
theorem dX9_kind_26 : decode cX9_kind 26 = .ok (.iconst (-1), 1) := by decide +kernel
theorem dX9_kind_27 : decode cX9_kind 27 = .ok (.goto 13, 3) := by decide +kernel
theorem dX9_kind_30 : decode cX9_kind 30 = .ok (.aload_n 0, 1) := by decide +kernel
theorem dX9_kind_31 : decode cX9_kind 31 = .ok (.getfield 13, 3) := by decide +kernel
theorem dX9_kind_34 : decode cX9_kind 34 = .ok (.aload_n 0, 1) := by decide +kernel
theorem dX9_kind_35 : decode cX9_kind 35 = .ok (.iload_n 1, 1) := by decide +kernel
theorem dX9_kind_36 : decode cX9_kind 36 = .ok (.invokevirtual 56, 3) := by decide +kernel
theorem dX9_kind_39 : decode cX9_kind 39 = .ok (.iaload, 1) := by decide +kernel
theorem dX9_kind_40 : decode cX9_kind 40 = .ok (.ireturn, 1) := by decide +kernel
theorem dX9_isCard_0 : decode cX9_isCard 0 = .ok (.aload_n 0, 1) := by decide +kernel
theorem dX9_isCard_1 : decode cX9_isCard 1 = .ok (.iload_n 1, 1) := by decide +kernel
theorem dX9_isCard_2 : decode cX9_isCard 2 = .ok (.invokevirtual 56, 3) := by decide +kernel
theorem dX9_isCard_5 : decode cX9_isCard 5 = .ok (.ifCond .lt 19, 3) := by decide +kernel
theorem dX9_isCard_8 : decode cX9_isCard 8 = .ok (.aload_n 0, 1) := by decide +kernel
theorem dX9_isCard_9 : decode cX9_isCard 9 = .ok (.aload_n 0, 1) := by decide +kernel
theorem dX9_isCard_10 : decode cX9_isCard 10 = .ok (.iload_n 1, 1) := by decide +kernel
theorem dX9_isCard_11 : decode cX9_isCard 11 = .ok (.invokevirtual 56, 3) := by decide +kernel
theorem dX9_isCard_14 : decode cX9_isCard 14 = .ok (.invokevirtual 60, 3) := by decide +kernel
theorem dX9_isCard_17 : decode cX9_isCard 17 = .ok (.ifCond .ne 7, 3) := by decide +kernel
theorem dX9_isCard_20 : decode cX9_isCard 20 = .ok (.iconst 1, 1) := by decide +kernel
theorem dX9_isCard_21 : decode cX9_isCard 21 = .ok (.goto 4, 3) := by decide +kernel
theorem dX9_isCard_24 : decode cX9_isCard 24 = .ok (.iconst 0, 1) := by decide +kernel
theorem dX9_isCard_25 : decode cX9_isCard 25 = .ok (.ireturn, 1) := by decide +kernel
theorem dX9_tag_0 : decode cX9_tag 0 = .ok (.aload_n 0, 1) := by decide +kernel
theorem dX9_tag_1 : decode cX9_tag 1 = .ok (.iconst 0, 1) := by decide +kernel
theorem dX9_tag_2 : decode cX9_tag 2 = .ok (.putfield 48, 3) := by decide +kernel
theorem dX9_tag_5 : decode cX9_tag 5 = .ok (.iload_n 1, 1) := by decide +kernel
theorem dX9_tag_6 : decode cX9_tag 6 = .ok (.invokestatic 102, 3) := by decide +kernel
theorem dX9_tag_9 : decode cX9_tag 9 = .ok (.ifCond .ne 9, 3) := by decide +kernel
theorem dX9_tag_12 : decode cX9_tag 12 = .ok (.aload_n 0, 1) := by decide +kernel
theorem dX9_tag_13 : decode cX9_tag 13 = .ok (.iconst 1, 1) := by decide +kernel
theorem dX9_tag_14 : decode cX9_tag 14 = .ok (.invokevirtual 105, 3) := by decide +kernel
theorem dX9_tag_17 : decode cX9_tag 17 = .ok (.ireturn, 1) := by decide +kernel
theorem dX9_tag_18 : decode cX9_tag 18 = .ok (.aload_n 0, 1) := by decide +kernel
theorem dX9_tag_19 : decode cX9_tag 19 = .ok (.iload_n 1, 1) := by decide +kernel
theorem dX9_tag_20 : decode cX9_tag 20 = .ok (.invokevirtual 114, 3) := by decide +kernel
theorem dX9_tag_23 : decode cX9_tag 23 = .ok (.ifCond .eq 16, 3) := by decide +kernel
theorem dX9_tag_26 : decode cX9_tag 26 = .ok (.aload_n 0, 1) := by decide +kernel
theorem dX9_tag_27 : decode cX9_tag 27 = .ok (.getfield 19, 3) := by decide +kernel
theorem dX9_tag_30 : decode cX9_tag 30 = .ok (.aload_n 0, 1) := by decide +kernel
theorem dX9_tag_31 : decode cX9_tag 31 = .ok (.iload_n 1, 1) := by decide +kernel
theorem dX9_tag_32 : decode cX9_tag 32 = .ok (.invokevirtual 56, 3) := by decide +kernel
theorem dX9_tag_35 : decode cX9_tag 35 = .ok (.iaload, 1) := by decide +kernel
theorem dX9_tag_36 : decode cX9_tag 36 = .ok (.goto 8, 3) := by decide +kernel
theorem dX9_tag_39 : decode cX9_tag 39 = .ok (.aload_n 0, 1) := by decide +kernel
theorem dX9_tag_40 : decode cX9_tag 40 = .ok (.iconst 5, 1) := by decide +kernel
theorem dX9_tag_41 : decode cX9_tag 41 = .ok (.invokevirtual 105, 3) := by decide +kernel
theorem dX9_tag_44 : decode cX9_tag 44 = .ok (.ireturn, 1) := by decide +kernel
theorem dX9_load_0 : decode cX9_load 0 = .ok (.aload_n 0, 1) := by decide +kernel
theorem dX9_load_1 : decode cX9_load 1 = .ok (.iconst 0, 1) := by decide +kernel
theorem dX9_load_2 : decode cX9_load 2 = .ok (.putfield 48, 3) := by decide +kernel
theorem dX9_load_5 : decode cX9_load 5 = .ok (.iload_n 1, 1) := by decide +kernel
theorem dX9_load_6 : decode cX9_load 6 = .ok (.invokestatic 102, 3) := by decide +kernel
theorem dX9_load_9 : decode cX9_load 9 = .ok (.ifCond .ne 9, 3) := by decide +kernel
theorem dX9_load_12 : decode cX9_load 12 = .ok (.aload_n 0, 1) := by decide +kernel
theorem dX9_load_13 : decode cX9_load 13 = .ok (.iconst 1, 1) := by decide +kernel
theorem dX9_load_14 : decode cX9_load 14 = .ok (.invokevirtual 105, 3) := by decide +kernel
theorem dX9_load_17 : decode cX9_load 17 = .ok (.ireturn, 1) := by decide +kernel
theorem dX9_load_18 : decode cX9_load 18 = .ok (.aload_n 0, 1) := by decide +kernel
theorem dX9_load_19 : decode cX9_load 19 = .ok (.iload_n 1, 1) := by decide +kernel
theorem dX9_load_20 : decode cX9_load 20 = .ok (.invokevirtual 114, 3) := by decide +kernel
theorem dX9_load_23 : decode cX9_load 23 = .ok (.ifCond .ne 9, 3) := by decide +kernel
theorem dX9_load_26 : decode cX9_load 26 = .ok (.aload_n 0, 1) := by decide +kernel
theorem dX9_load_27 : decode cX9_load 27 = .ok (.iconst 5, 1) := by decide +kernel
theorem dX9_load_28 : decode cX9_load 28 = .ok (.invokevirtual 105, 3) := by decide +kernel
theorem dX9_load_31 : decode cX9_load 31 = .ok (.ireturn, 1) := by decide +kernel
theorem dX9_load_32 : decode cX9_load 32 = .ok (.aload_n 0, 1) := by decide +kernel
theorem dX9_load_33 : decode cX9_load 33 = .ok (.getfield 13, 3) := by decide +kernel
theorem dX9_load_36 : decode cX9_load 36 = .ok (.aload_n 0, 1) := by decide +kernel
theorem dX9_load_37 : decode cX9_load 37 = .ok (.iload_n 1, 1) := by decide +kernel
theorem dX9_load_38 : decode cX9_load 38 = .ok (.invokevirtual 56, 3) := by decide +kernel
theorem dX9_load_41 : decode cX9_load 41 = .ok (.iaload, 1) := by decide +kernel
theorem dX9_load_42 : decode cX9_load 42 = .ok (.bipush 14, 2) := by decide +kernel
theorem dX9_load_44 : decode cX9_load 44 = .ok (.if_icmp .ne 20, 3) := by decide +kernel
theorem dX9_load_47 : decode cX9_load 47 = .ok (.iconst 2, 1) := by decide +kernel
theorem dX9_load_48 : decode cX9_load 48 = .ok (.aload_n 0, 1) := by decide +kernel
theorem dX9_load_49 : decode cX9_load 49 = .ok (.getfield 19, 3) := by decide +kernel
theorem dX9_load_52 : decode cX9_load 52 = .ok (.aload_n 0, 1) := by decide +kernel
theorem dX9_load_53 : decode cX9_load 53 = .ok (.iload_n 1, 1) := by decide +kernel
theorem dX9_load_54 : decode cX9_load 54 = .ok (.invokevirtual 56, 3) := by decide +kernel
theorem dX9_load_57 : decode cX9_load 57 = .ok (.iaload, 1) := by decide +kernel
theorem dX9_load_58 : decode cX9_load 58 = .ok (.imul, 1) := by decide +kernel
theorem dX9_load_59 : decode cX9_load 59 = .ok (.iconst 1, 1) := by decide +kernel
theorem dX9_load_60 : decode cX9_load 60 = .ok (.iadd, 1) := by decide +kernel
theorem dX9_load_61 : decode cX9_load 61 = .ok (.goto 13, 3) := by decide +kernel
theorem dX9_load_64 : decode cX9_load 64 = .ok (.aload_n 0, 1) := by decide +kernel
theorem dX9_load_65 : decode cX9_load 65 = .ok (.getfield 19, 3) := by decide +kernel
theorem dX9_load_68 : decode cX9_load 68 = .ok (.aload_n 0, 1) := by decide +kernel
theorem dX9_load_69 : decode cX9_load 69 = .ok (.iload_n 1, 1) := by decide +kernel
theorem dX9_load_70 : decode cX9_load 70 = .ok (.invokevirtual 56, 3) := by decide +kernel
theorem dX9_load_73 : decode cX9_load 73 = .ok (.iaload, 1) := by decide +kernel
theorem dX9_load_74 : decode cX9_load 74 = .ok (.ireturn, 1) := by decide +kernel
theorem dX9_reasonOfPlace_0 : decode cX9_reasonOfPlace 0 = .ok (.aload_n 0, 1) := by decide +kernel
theorem dX9_reasonOfPlace_1 : decode cX9_reasonOfPlace 1 = .ok (.iload_n 1, 1) := by decide +kernel
theorem dX9_reasonOfPlace_2 : decode cX9_reasonOfPlace 2 = .ok (.invokevirtual 111, 3) := by decide +kernel
theorem dX9_reasonOfPlace_5 : decode cX9_reasonOfPlace 5 = .ok (.istore_n 3, 1) := by decide +kernel
theorem dX9_reasonOfPlace_6 : decode cX9_reasonOfPlace 6 = .ok (.iload_n 3, 1) := by decide +kernel
theorem dX9_reasonOfPlace_7 : decode cX9_reasonOfPlace 7 = .ok (.ifCond .le 5, 3) := by decide +kernel
theorem dX9_reasonOfPlace_10 : decode cX9_reasonOfPlace 10 = .ok (.iload_n 3, 1) := by decide +kernel
theorem dX9_reasonOfPlace_11 : decode cX9_reasonOfPlace 11 = .ok (.ireturn, 1) := by decide +kernel
theorem dX9_reasonOfPlace_12 : decode cX9_reasonOfPlace 12 = .ok (.aload_n 0, 1) := by decide +kernel
theorem dX9_reasonOfPlace_13 : decode cX9_reasonOfPlace 13 = .ok (.aload_n 0, 1) := by decide +kernel
theorem dX9_reasonOfPlace_14 : decode cX9_reasonOfPlace 14 = .ok (.iload_n 1, 1) := by decide +kernel
theorem dX9_reasonOfPlace_15 : decode cX9_reasonOfPlace 15 = .ok (.invokevirtual 56, 3) := by decide +kernel
theorem dX9_reasonOfPlace_18 : decode cX9_reasonOfPlace 18 = .ok (.iload_n 2, 1) := by decide +kernel
theorem dX9_reasonOfPlace_19 : decode cX9_reasonOfPlace 19 = .ok (.invokevirtual 117, 3) := by decide +kernel
theorem dX9_reasonOfPlace_22 : decode cX9_reasonOfPlace 22 = .ok (.ifCond .eq 7, 3) := by decide +kernel
theorem dX9_reasonOfPlace_25 : decode cX9_reasonOfPlace 25 = .ok (.iconst 0, 1) := by decide +kernel
theorem dX9_reasonOfPlace_26 : decode cX9_reasonOfPlace 26 = .ok (.goto 4, 3) := by decide +kernel
theorem dX9_reasonOfPlace_29 : decode cX9_reasonOfPlace 29 = .ok (.iconst 4, 1) := by decide +kernel
theorem dX9_reasonOfPlace_30 : decode cX9_reasonOfPlace 30 = .ok (.ireturn, 1) := by decide +kernel
theorem dX9_put_0 : decode cX9_put 0 = .ok (.aload_n 0, 1) := by decide +kernel
theorem dX9_put_1 : decode cX9_put 1 = .ok (.iconst 0, 1) := by decide +kernel
theorem dX9_put_2 : decode cX9_put 2 = .ok (.putfield 48, 3) := by decide +kernel
theorem dX9_put_5 : decode cX9_put 5 = .ok (.iload_n 1, 1) := by decide +kernel
theorem dX9_put_6 : decode cX9_put 6 = .ok (.invokestatic 102, 3) := by decide +kernel
theorem dX9_put_9 : decode cX9_put 9 = .ok (.ifCond .eq 13, 3) := by decide +kernel
theorem dX9_put_12 : decode cX9_put 12 = .ok (.iload_n 3, 1) := by decide +kernel
theorem dX9_put_13 : decode cX9_put 13 = .ok (.iconst 0, 1) := by decide +kernel
theorem dX9_put_14 : decode cX9_put 14 = .ok (.bipush 7, 2) := by decide +kernel
theorem dX9_put_16 : decode cX9_put 16 = .ok (.invokestatic 52, 3) := by decide +kernel
theorem dX9_put_19 : decode cX9_put 19 = .ok (.ifCond .ne 9, 3) := by decide +kernel
theorem dX9_put_22 : decode cX9_put 22 = .ok (.aload_n 0, 1) := by decide +kernel
theorem dX9_put_23 : decode cX9_put 23 = .ok (.iconst 1, 1) := by decide +kernel
theorem dX9_put_24 : decode cX9_put 24 = .ok (.invokevirtual 105, 3) := by decide +kernel
theorem dX9_put_27 : decode cX9_put 27 = .ok (.ireturn, 1) := by decide +kernel
theorem dX9_put_28 : decode cX9_put 28 = .ok (.aload_n 0, 1) := by decide +kernel
theorem dX9_put_29 : decode cX9_put 29 = .ok (.iload_n 1, 1) := by decide +kernel
theorem dX9_put_30 : decode cX9_put 30 = .ok (.iload_n 2, 1) := by decide +kernel
theorem dX9_put_31 : decode cX9_put 31 = .ok (.invokevirtual 120, 3) := by decide +kernel
theorem dX9_put_34 : decode cX9_put 34 = .ok (.istore 6, 2) := by decide +kernel
theorem dX9_put_36 : decode cX9_put 36 = .ok (.iload 6, 2) := by decide +kernel
theorem dX9_put_38 : decode cX9_put 38 = .ok (.ifCond .le 10, 3) := by decide +kernel
theorem dX9_put_41 : decode cX9_put 41 = .ok (.aload_n 0, 1) := by decide +kernel
theorem dX9_put_42 : decode cX9_put 42 = .ok (.iload 6, 2) := by decide +kernel
theorem dX9_put_44 : decode cX9_put 44 = .ok (.invokevirtual 105, 3) := by decide +kernel
theorem dX9_put_47 : decode cX9_put 47 = .ok (.ireturn, 1) := by decide +kernel
theorem dX9_put_48 : decode cX9_put 48 = .ok (.aload_n 0, 1) := by decide +kernel
theorem dX9_put_49 : decode cX9_put 49 = .ok (.iload_n 3, 1) := by decide +kernel
theorem dX9_put_50 : decode cX9_put 50 = .ok (.iload 4, 2) := by decide +kernel
theorem dX9_put_52 : decode cX9_put 52 = .ok (.iload 5, 2) := by decide +kernel
theorem dX9_put_54 : decode cX9_put 54 = .ok (.invokevirtual 124, 3) := by decide +kernel
theorem dX9_put_57 : decode cX9_put 57 = .ok (.aload_n 0, 1) := by decide +kernel
theorem dX9_put_58 : decode cX9_put 58 = .ok (.aload_n 0, 1) := by decide +kernel
theorem dX9_put_59 : decode cX9_put 59 = .ok (.iload_n 1, 1) := by decide +kernel
theorem dX9_put_60 : decode cX9_put 60 = .ok (.invokevirtual 56, 3) := by decide +kernel
theorem dX9_put_63 : decode cX9_put 63 = .ok (.invokevirtual 128, 3) := by decide +kernel
theorem dX9_put_66 : decode cX9_put 66 = .ok (.ifCond .ne 9, 3) := by decide +kernel
theorem dX9_put_69 : decode cX9_put 69 = .ok (.aload_n 0, 1) := by decide +kernel
theorem dX9_put_70 : decode cX9_put 70 = .ok (.iconst 5, 1) := by decide +kernel
theorem dX9_put_71 : decode cX9_put 71 = .ok (.invokevirtual 105, 3) := by decide +kernel
theorem dX9_put_74 : decode cX9_put 74 = .ok (.ireturn, 1) := by decide +kernel
theorem dX9_put_75 : decode cX9_put 75 = .ok (.aload_n 0, 1) := by decide +kernel
theorem dX9_put_76 : decode cX9_put 76 = .ok (.aload_n 0, 1) := by decide +kernel
theorem dX9_put_77 : decode cX9_put 77 = .ok (.getfield 13, 3) := by decide +kernel
theorem dX9_put_80 : decode cX9_put 80 = .ok (.aload_n 0, 1) := by decide +kernel
theorem dX9_put_81 : decode cX9_put 81 = .ok (.iload_n 1, 1) := by decide +kernel
theorem dX9_put_82 : decode cX9_put 82 = .ok (.invokevirtual 56, 3) := by decide +kernel
theorem dX9_put_85 : decode cX9_put 85 = .ok (.iaload, 1) := by decide +kernel
theorem dX9_put_86 : decode cX9_put 86 = .ok (.invokevirtual 131, 3) := by decide +kernel
theorem dX9_put_89 : decode cX9_put 89 = .ok (.aload_n 0, 1) := by decide +kernel
theorem dX9_put_90 : decode cX9_put 90 = .ok (.aload_n 0, 1) := by decide +kernel
theorem dX9_put_91 : decode cX9_put 91 = .ok (.iload_n 1, 1) := by decide +kernel
theorem dX9_put_92 : decode cX9_put 92 = .ok (.invokevirtual 56, 3) := by decide +kernel
theorem dX9_put_95 : decode cX9_put 95 = .ok (.iload_n 2, 1) := by decide +kernel
theorem dX9_put_96 : decode cX9_put 96 = .ok (.invokevirtual 135, 3) := by decide +kernel
theorem dX9_put_99 : decode cX9_put 99 = .ok (.iconst 1, 1) := by decide +kernel
theorem dX9_put_100 : decode cX9_put 100 = .ok (.ireturn, 1) := by decide +kernel
theorem dX9_putBoxed_0 : decode cX9_putBoxed 0 = .ok (.aload_n 0, 1) := by decide +kernel
theorem dX9_putBoxed_1 : decode cX9_putBoxed 1 = .ok (.iload_n 1, 1) := by decide +kernel
theorem dX9_putBoxed_2 : decode cX9_putBoxed 2 = .ok (.iload_n 2, 1) := by decide +kernel
theorem dX9_putBoxed_3 : decode cX9_putBoxed 3 = .ok (.iload_n 3, 1) := by decide +kernel
theorem dX9_putBoxed_4 : decode cX9_putBoxed 4 = .ok (.iload 4, 2) := by decide +kernel
theorem dX9_putBoxed_6 : decode cX9_putBoxed 6 = .ok (.iload 5, 2) := by decide +kernel
theorem dX9_putBoxed_8 : decode cX9_putBoxed 8 = .ok (.invokevirtual 139, 3) := by decide +kernel
theorem dX9_putBoxed_11 : decode cX9_putBoxed 11 = .ok (.ireturn, 1) := by decide +kernel
theorem dX9_putThing_0 : decode cX9_putThing 0 = .ok (.aload_n 0, 1) := by decide +kernel
theorem dX9_putThing_1 : decode cX9_putThing 1 = .ok (.iconst 0, 1) := by decide +kernel
theorem dX9_putThing_2 : decode cX9_putThing 2 = .ok (.putfield 48, 3) := by decide +kernel
theorem dX9_putThing_5 : decode cX9_putThing 5 = .ok (.iload_n 1, 1) := by decide +kernel
theorem dX9_putThing_6 : decode cX9_putThing 6 = .ok (.invokestatic 102, 3) := by decide +kernel
theorem dX9_putThing_9 : decode cX9_putThing 9 = .ok (.ifCond .eq 10, 3) := by decide +kernel
theorem dX9_putThing_12 : decode cX9_putThing 12 = .ok (.iload_n 3, 1) := by decide +kernel
theorem dX9_putThing_13 : decode cX9_putThing 13 = .ok (.invokestatic 102, 3) := by decide +kernel
theorem dX9_putThing_16 : decode cX9_putThing 16 = .ok (.ifCond .ne 9, 3) := by decide +kernel
theorem dX9_putThing_19 : decode cX9_putThing 19 = .ok (.aload_n 0, 1) := by decide +kernel
theorem dX9_putThing_20 : decode cX9_putThing 20 = .ok (.iconst 1, 1) := by decide +kernel
theorem dX9_putThing_21 : decode cX9_putThing 21 = .ok (.invokevirtual 105, 3) := by decide +kernel
theorem dX9_putThing_24 : decode cX9_putThing 24 = .ok (.ireturn, 1) := by decide +kernel
theorem dX9_putThing_25 : decode cX9_putThing 25 = .ok (.aload_n 0, 1) := by decide +kernel
theorem dX9_putThing_26 : decode cX9_putThing 26 = .ok (.iload_n 1, 1) := by decide +kernel
theorem dX9_putThing_27 : decode cX9_putThing 27 = .ok (.iload_n 2, 1) := by decide +kernel
theorem dX9_putThing_28 : decode cX9_putThing 28 = .ok (.invokevirtual 120, 3) := by decide +kernel
theorem dX9_putThing_31 : decode cX9_putThing 31 = .ok (.istore 4, 2) := by decide +kernel
theorem dX9_putThing_33 : decode cX9_putThing 33 = .ok (.iload 4, 2) := by decide +kernel
theorem dX9_putThing_35 : decode cX9_putThing 35 = .ok (.ifCond .le 10, 3) := by decide +kernel
theorem dX9_putThing_38 : decode cX9_putThing 38 = .ok (.aload_n 0, 1) := by decide +kernel
theorem dX9_putThing_39 : decode cX9_putThing 39 = .ok (.iload 4, 2) := by decide +kernel
theorem dX9_putThing_41 : decode cX9_putThing 41 = .ok (.invokevirtual 105, 3) := by decide +kernel
theorem dX9_putThing_44 : decode cX9_putThing 44 = .ok (.ireturn, 1) := by decide +kernel
theorem dX9_putThing_45 : decode cX9_putThing 45 = .ok (.aload_n 0, 1) := by decide +kernel
theorem dX9_putThing_46 : decode cX9_putThing 46 = .ok (.aload_n 0, 1) := by decide +kernel
theorem dX9_putThing_47 : decode cX9_putThing 47 = .ok (.iload_n 1, 1) := by decide +kernel
theorem dX9_putThing_48 : decode cX9_putThing 48 = .ok (.invokevirtual 56, 3) := by decide +kernel
theorem dX9_putThing_51 : decode cX9_putThing 51 = .ok (.invokevirtual 91, 3) := by decide +kernel
theorem dX9_putThing_54 : decode cX9_putThing 54 = .ok (.ifCond .ne 22, 3) := by decide +kernel
theorem dX9_putThing_57 : decode cX9_putThing 57 = .ok (.aload_n 0, 1) := by decide +kernel
theorem dX9_putThing_58 : decode cX9_putThing 58 = .ok (.aload_n 0, 1) := by decide +kernel
theorem dX9_putThing_59 : decode cX9_putThing 59 = .ok (.iload_n 1, 1) := by decide +kernel
theorem dX9_putThing_60 : decode cX9_putThing 60 = .ok (.invokevirtual 56, 3) := by decide +kernel
theorem dX9_putThing_63 : decode cX9_putThing 63 = .ok (.aload_n 0, 1) := by decide +kernel
theorem dX9_putThing_64 : decode cX9_putThing 64 = .ok (.getfield 30, 3) := by decide +kernel
theorem dX9_putThing_67 : decode cX9_putThing 67 = .ok (.iload_n 3, 1) := by decide +kernel
theorem dX9_putThing_68 : decode cX9_putThing 68 = .ok (.iaload, 1) := by decide +kernel
theorem dX9_putThing_69 : decode cX9_putThing 69 = .ok (.i2l, 1) := by decide +kernel
theorem dX9_putThing_70 : decode cX9_putThing 70 = .ok (.invokevirtual 98, 3) := by decide +kernel
theorem dX9_putThing_73 : decode cX9_putThing 73 = .ok (.ifCond .ne 9, 3) := by decide +kernel
theorem dX9_putThing_76 : decode cX9_putThing 76 = .ok (.aload_n 0, 1) := by decide +kernel
theorem dX9_putThing_77 : decode cX9_putThing 77 = .ok (.iconst 5, 1) := by decide +kernel
theorem dX9_putThing_78 : decode cX9_putThing 78 = .ok (.invokevirtual 105, 3) := by decide +kernel
theorem dX9_putThing_81 : decode cX9_putThing 81 = .ok (.ireturn, 1) := by decide +kernel
theorem dX9_putThing_82 : decode cX9_putThing 82 = .ok (.aload_n 0, 1) := by decide +kernel
theorem dX9_putThing_83 : decode cX9_putThing 83 = .ok (.getfield 22, 3) := by decide +kernel
theorem dX9_putThing_86 : decode cX9_putThing 86 = .ok (.bipush 24, 2) := by decide +kernel
theorem dX9_putThing_88 : decode cX9_putThing 88 = .ok (.aload_n 0, 1) := by decide +kernel
theorem dX9_putThing_89 : decode cX9_putThing 89 = .ok (.iload_n 1, 1) := by decide +kernel
theorem dX9_putThing_90 : decode cX9_putThing 90 = .ok (.invokevirtual 56, 3) := by decide +kernel
theorem dX9_putThing_93 : decode cX9_putThing 93 = .ok (.imul, 1) := by decide +kernel
theorem dX9_putThing_94 : decode cX9_putThing 94 = .ok (.iload_n 2, 1) := by decide +kernel
theorem dX9_putThing_95 : decode cX9_putThing 95 = .ok (.iadd, 1) := by decide +kernel
theorem dX9_putThing_96 : decode cX9_putThing 96 = .ok (.aload_n 0, 1) := by decide +kernel
theorem dX9_putThing_97 : decode cX9_putThing 97 = .ok (.getfield 30, 3) := by decide +kernel
theorem dX9_putThing_100 : decode cX9_putThing 100 = .ok (.iload_n 3, 1) := by decide +kernel
theorem dX9_putThing_101 : decode cX9_putThing 101 = .ok (.iaload, 1) := by decide +kernel
theorem dX9_putThing_102 : decode cX9_putThing 102 = .ok (.i2l, 1) := by decide +kernel
theorem dX9_putThing_103 : decode cX9_putThing 103 = .ok (.lastore, 1) := by decide +kernel
theorem dX9_putThing_104 : decode cX9_putThing 104 = .ok (.aload_n 0, 1) := by decide +kernel
theorem dX9_putThing_105 : decode cX9_putThing 105 = .ok (.getfield 30, 3) := by decide +kernel
theorem dX9_putThing_108 : decode cX9_putThing 108 = .ok (.iload_n 3, 1) := by decide +kernel
theorem dX9_putThing_109 : decode cX9_putThing 109 = .ok (.iaload, 1) := by decide +kernel
theorem dX9_putThing_110 : decode cX9_putThing 110 = .ok (.ifCond .le 7, 3) := by decide +kernel
theorem dX9_putThing_113 : decode cX9_putThing 113 = .ok (.iconst 1, 1) := by decide +kernel
theorem dX9_putThing_114 : decode cX9_putThing 114 = .ok (.goto 4, 3) := by decide +kernel
theorem dX9_putThing_117 : decode cX9_putThing 117 = .ok (.iconst 0, 1) := by decide +kernel
theorem dX9_putThing_118 : decode cX9_putThing 118 = .ok (.ireturn, 1) := by decide +kernel
theorem dX9_reasonOfValue_0 : decode cX9_reasonOfValue 0 = .ok (.aload_n 0, 1) := by decide +kernel
theorem dX9_reasonOfValue_1 : decode cX9_reasonOfValue 1 = .ok (.iload_n 1, 1) := by decide +kernel
theorem dX9_reasonOfValue_2 : decode cX9_reasonOfValue 2 = .ok (.iload_n 2, 1) := by decide +kernel
theorem dX9_reasonOfValue_3 : decode cX9_reasonOfValue 3 = .ok (.invokevirtual 120, 3) := by decide +kernel
theorem dX9_reasonOfValue_6 : decode cX9_reasonOfValue 6 = .ok (.istore 4, 2) := by decide +kernel
theorem dX9_reasonOfValue_8 : decode cX9_reasonOfValue 8 = .ok (.iload 4, 2) := by decide +kernel
theorem dX9_reasonOfValue_10 : decode cX9_reasonOfValue 10 = .ok (.ifCond .le 6, 3) := by decide +kernel
theorem dX9_reasonOfValue_13 : decode cX9_reasonOfValue 13 = .ok (.iload 4, 2) := by decide +kernel
theorem dX9_reasonOfValue_15 : decode cX9_reasonOfValue 15 = .ok (.ireturn, 1) := by decide +kernel
theorem dX9_reasonOfValue_16 : decode cX9_reasonOfValue 16 = .ok (.aload_n 0, 1) := by decide +kernel
theorem dX9_reasonOfValue_17 : decode cX9_reasonOfValue 17 = .ok (.aload_n 0, 1) := by decide +kernel
theorem dX9_reasonOfValue_18 : decode cX9_reasonOfValue 18 = .ok (.iload_n 1, 1) := by decide +kernel
theorem dX9_reasonOfValue_19 : decode cX9_reasonOfValue 19 = .ok (.invokevirtual 56, 3) := by decide +kernel
theorem dX9_reasonOfValue_22 : decode cX9_reasonOfValue 22 = .ok (.invokevirtual 91, 3) := by decide +kernel
theorem dX9_reasonOfValue_25 : decode cX9_reasonOfValue 25 = .ok (.ifCond .eq 21, 3) := by decide +kernel
theorem dX9_reasonOfValue_28 : decode cX9_reasonOfValue 28 = .ok (.aload_n 0, 1) := by decide +kernel
theorem dX9_reasonOfValue_29 : decode cX9_reasonOfValue 29 = .ok (.aload_n 0, 1) := by decide +kernel
theorem dX9_reasonOfValue_30 : decode cX9_reasonOfValue 30 = .ok (.getfield 13, 3) := by decide +kernel
theorem dX9_reasonOfValue_33 : decode cX9_reasonOfValue 33 = .ok (.aload_n 0, 1) := by decide +kernel
theorem dX9_reasonOfValue_34 : decode cX9_reasonOfValue 34 = .ok (.iload_n 1, 1) := by decide +kernel
theorem dX9_reasonOfValue_35 : decode cX9_reasonOfValue 35 = .ok (.invokevirtual 56, 3) := by decide +kernel
theorem dX9_reasonOfValue_38 : decode cX9_reasonOfValue 38 = .ok (.iaload, 1) := by decide +kernel
theorem dX9_reasonOfValue_39 : decode cX9_reasonOfValue 39 = .ok (.iload_n 3, 1) := by decide +kernel
theorem dX9_reasonOfValue_40 : decode cX9_reasonOfValue 40 = .ok (.invokevirtual 94, 3) := by decide +kernel
theorem dX9_reasonOfValue_43 : decode cX9_reasonOfValue 43 = .ok (.ifCond .ne 5, 3) := by decide +kernel
theorem dX9_reasonOfValue_46 : decode cX9_reasonOfValue 46 = .ok (.iconst 5, 1) := by decide +kernel
theorem dX9_reasonOfValue_47 : decode cX9_reasonOfValue 47 = .ok (.ireturn, 1) := by decide +kernel
theorem dX9_reasonOfValue_48 : decode cX9_reasonOfValue 48 = .ok (.aload_n 0, 1) := by decide +kernel
theorem dX9_reasonOfValue_49 : decode cX9_reasonOfValue 49 = .ok (.aload_n 0, 1) := by decide +kernel
theorem dX9_reasonOfValue_50 : decode cX9_reasonOfValue 50 = .ok (.iload_n 1, 1) := by decide +kernel
theorem dX9_reasonOfValue_51 : decode cX9_reasonOfValue 51 = .ok (.invokevirtual 56, 3) := by decide +kernel
theorem dX9_reasonOfValue_54 : decode cX9_reasonOfValue 54 = .ok (.iload_n 2, 1) := by decide +kernel
theorem dX9_reasonOfValue_55 : decode cX9_reasonOfValue 55 = .ok (.invokevirtual 143, 3) := by decide +kernel
theorem dX9_reasonOfValue_58 : decode cX9_reasonOfValue 58 = .ok (.aload_n 0, 1) := by decide +kernel
theorem dX9_reasonOfValue_59 : decode cX9_reasonOfValue 59 = .ok (.iload_n 3, 1) := by decide +kernel
theorem dX9_reasonOfValue_60 : decode cX9_reasonOfValue 60 = .ok (.invokevirtual 131, 3) := by decide +kernel
theorem dX9_reasonOfValue_63 : decode cX9_reasonOfValue 63 = .ok (.iconst 0, 1) := by decide +kernel
theorem dX9_reasonOfValue_64 : decode cX9_reasonOfValue 64 = .ok (.ireturn, 1) := by decide +kernel
theorem dX9_number_0 : decode cX9_number 0 = .ok (.aload_n 0, 1) := by decide +kernel
theorem dX9_number_1 : decode cX9_number 1 = .ok (.iconst 0, 1) := by decide +kernel
theorem dX9_number_2 : decode cX9_number 2 = .ok (.putfield 48, 3) := by decide +kernel
theorem dX9_number_5 : decode cX9_number 5 = .ok (.iload_n 1, 1) := by decide +kernel
theorem dX9_number_6 : decode cX9_number 6 = .ok (.invokestatic 102, 3) := by decide +kernel
theorem dX9_number_9 : decode cX9_number 9 = .ok (.ifCond .eq 12, 3) := by decide +kernel
theorem dX9_number_12 : decode cX9_number 12 = .ok (.iload_n 3, 1) := by decide +kernel
theorem dX9_number_13 : decode cX9_number 13 = .ok (.iconst 0, 1) := by decide +kernel
theorem dX9_number_14 : decode cX9_number 14 = .ok (.iconst 5, 1) := by decide +kernel
theorem dX9_number_15 : decode cX9_number 15 = .ok (.invokestatic 52, 3) := by decide +kernel
theorem dX9_number_18 : decode cX9_number 18 = .ok (.ifCond .ne 10, 3) := by decide +kernel
theorem dX9_number_21 : decode cX9_number 21 = .ok (.aload_n 0, 1) := by decide +kernel
theorem dX9_number_22 : decode cX9_number 22 = .ok (.iconst 1, 1) := by decide +kernel
theorem dX9_number_23 : decode cX9_number 23 = .ok (.invokevirtual 105, 3) := by decide +kernel
theorem dX9_number_26 : decode cX9_number 26 = .ok (.i2l, 1) := by decide +kernel
theorem dX9_number_27 : decode cX9_number 27 = .ok (.lreturn, 1) := by decide +kernel
theorem dX9_number_28 : decode cX9_number 28 = .ok (.aload_n 0, 1) := by decide +kernel
theorem dX9_number_29 : decode cX9_number 29 = .ok (.iload_n 1, 1) := by decide +kernel
theorem dX9_number_30 : decode cX9_number 30 = .ok (.iload_n 2, 1) := by decide +kernel
theorem dX9_number_31 : decode cX9_number 31 = .ok (.iload_n 3, 1) := by decide +kernel
theorem dX9_number_32 : decode cX9_number 32 = .ok (.invokevirtual 146, 3) := by decide +kernel
theorem dX9_number_35 : decode cX9_number 35 = .ok (.istore 4, 2) := by decide +kernel
theorem dX9_number_37 : decode cX9_number 37 = .ok (.iload 4, 2) := by decide +kernel
theorem dX9_number_39 : decode cX9_number 39 = .ok (.ifCond .le 13, 3) := by decide +kernel
theorem dX9_number_42 : decode cX9_number 42 = .ok (.aload_n 0, 1) := by decide +kernel
theorem dX9_number_43 : decode cX9_number 43 = .ok (.iload 4, 2) := by decide +kernel
theorem dX9_number_45 : decode cX9_number 45 = .ok (.invokevirtual 105, 3) := by decide +kernel
theorem dX9_number_48 : decode cX9_number 48 = .ok (.i2l, 1) := by decide +kernel
theorem dX9_number_49 : decode cX9_number 49 = .ok (.goto 7, 3) := by decide +kernel
theorem dX9_number_52 : decode cX9_number 52 = .ok (.aload_n 0, 1) := by decide +kernel
theorem dX9_number_53 : decode cX9_number 53 = .ok (.getfield 69, 3) := by decide +kernel
theorem dX9_number_56 : decode cX9_number 56 = .ok (.lreturn, 1) := by decide +kernel
theorem dX9_point_0 : decode cX9_point 0 = .ok (.aload_n 0, 1) := by decide +kernel
theorem dX9_point_1 : decode cX9_point 1 = .ok (.iconst 0, 1) := by decide +kernel
theorem dX9_point_2 : decode cX9_point 2 = .ok (.putfield 48, 3) := by decide +kernel
theorem dX9_point_5 : decode cX9_point 5 = .ok (.iload_n 1, 1) := by decide +kernel
theorem dX9_point_6 : decode cX9_point 6 = .ok (.invokestatic 102, 3) := by decide +kernel
theorem dX9_point_9 : decode cX9_point 9 = .ok (.ifCond .eq 14, 3) := by decide +kernel
theorem dX9_point_12 : decode cX9_point 12 = .ok (.iload_n 3, 1) := by decide +kernel
theorem dX9_point_13 : decode cX9_point 13 = .ok (.bipush 6, 2) := by decide +kernel
theorem dX9_point_15 : decode cX9_point 15 = .ok (.bipush 7, 2) := by decide +kernel
theorem dX9_point_17 : decode cX9_point 17 = .ok (.invokestatic 52, 3) := by decide +kernel
theorem dX9_point_20 : decode cX9_point 20 = .ok (.ifCond .ne 10, 3) := by decide +kernel
theorem dX9_point_23 : decode cX9_point 23 = .ok (.aload_n 0, 1) := by decide +kernel
theorem dX9_point_24 : decode cX9_point 24 = .ok (.iconst 1, 1) := by decide +kernel
theorem dX9_point_25 : decode cX9_point 25 = .ok (.invokevirtual 105, 3) := by decide +kernel
theorem dX9_point_28 : decode cX9_point 28 = .ok (.i2d, 1) := by decide +kernel
theorem dX9_point_29 : decode cX9_point 29 = .ok (.dreturn, 1) := by decide +kernel
theorem dX9_point_30 : decode cX9_point 30 = .ok (.aload_n 0, 1) := by decide +kernel
theorem dX9_point_31 : decode cX9_point 31 = .ok (.iload_n 1, 1) := by decide +kernel
theorem dX9_point_32 : decode cX9_point 32 = .ok (.iload_n 2, 1) := by decide +kernel
theorem dX9_point_33 : decode cX9_point 33 = .ok (.iload_n 3, 1) := by decide +kernel
theorem dX9_point_34 : decode cX9_point 34 = .ok (.invokevirtual 146, 3) := by decide +kernel
theorem dX9_point_37 : decode cX9_point 37 = .ok (.istore 4, 2) := by decide +kernel
theorem dX9_point_39 : decode cX9_point 39 = .ok (.iload 4, 2) := by decide +kernel
theorem dX9_point_41 : decode cX9_point 41 = .ok (.ifCond .le 13, 3) := by decide +kernel
theorem dX9_point_44 : decode cX9_point 44 = .ok (.aload_n 0, 1) := by decide +kernel
theorem dX9_point_45 : decode cX9_point 45 = .ok (.iload 4, 2) := by decide +kernel
theorem dX9_point_47 : decode cX9_point 47 = .ok (.invokevirtual 105, 3) := by decide +kernel
theorem dX9_point_50 : decode cX9_point 50 = .ok (.i2d, 1) := by decide +kernel
theorem dX9_point_51 : decode cX9_point 51 = .ok (.goto 7, 3) := by decide +kernel
theorem dX9_point_54 : decode cX9_point 54 = .ok (.aload_n 0, 1) := by decide +kernel
theorem dX9_point_55 : decode cX9_point 55 = .ok (.getfield 73, 3) := by decide +kernel
theorem dX9_point_58 : decode cX9_point 58 = .ok (.dreturn, 1) := by decide +kernel
theorem dX9_kindOf_0 : decode cX9_kindOf 0 = .ok (.lload_n 1, 1) := by decide +kernel
theorem dX9_kindOf_1 : decode cX9_kindOf 1 = .ok (.lconst 0, 1) := by decide +kernel
theorem dX9_kindOf_2 : decode cX9_kindOf 2 = .ok (.lcmp, 1) := by decide +kernel
theorem dX9_kindOf_3 : decode cX9_kindOf 3 = .ok (.ifCond .ne 7, 3) := by decide +kernel
theorem dX9_kindOf_6 : decode cX9_kindOf 6 = .ok (.iconst (-1), 1) := by decide +kernel
theorem dX9_kindOf_7 : decode cX9_kindOf 7 = .ok (.goto 12, 3) := by decide +kernel
theorem dX9_kindOf_10 : decode cX9_kindOf 10 = .ok (.aload_n 0, 1) := by decide +kernel
theorem dX9_kindOf_11 : decode cX9_kindOf 11 = .ok (.getfield 13, 3) := by decide +kernel
theorem dX9_kindOf_14 : decode cX9_kindOf 14 = .ok (.lload_n 1, 1) := by decide +kernel
theorem dX9_kindOf_15 : decode cX9_kindOf 15 = .ok (.l2i, 1) := by decide +kernel
theorem dX9_kindOf_16 : decode cX9_kindOf 16 = .ok (.iconst 1, 1) := by decide +kernel
theorem dX9_kindOf_17 : decode cX9_kindOf 17 = .ok (.isub, 1) := by decide +kernel
theorem dX9_kindOf_18 : decode cX9_kindOf 18 = .ok (.iaload, 1) := by decide +kernel
theorem dX9_kindOf_19 : decode cX9_kindOf 19 = .ok (.ireturn, 1) := by decide +kernel
theorem dX9_what_0 : decode cX9_what 0 = .ok (.aload_n 0, 1) := by decide +kernel
theorem dX9_what_1 : decode cX9_what 1 = .ok (.iconst 0, 1) := by decide +kernel
theorem dX9_what_2 : decode cX9_what 2 = .ok (.putfield 48, 3) := by decide +kernel
theorem dX9_what_5 : decode cX9_what 5 = .ok (.iload_n 1, 1) := by decide +kernel
theorem dX9_what_6 : decode cX9_what 6 = .ok (.invokestatic 102, 3) := by decide +kernel
theorem dX9_what_9 : decode cX9_what 9 = .ok (.ifCond .ne 9, 3) := by decide +kernel
theorem dX9_what_12 : decode cX9_what 12 = .ok (.aload_n 0, 1) := by decide +kernel
theorem dX9_what_13 : decode cX9_what 13 = .ok (.iconst 1, 1) := by decide +kernel
theorem dX9_what_14 : decode cX9_what 14 = .ok (.invokevirtual 105, 3) := by decide +kernel
theorem dX9_what_17 : decode cX9_what 17 = .ok (.ireturn, 1) := by decide +kernel
theorem dX9_what_18 : decode cX9_what 18 = .ok (.aload_n 0, 1) := by decide +kernel
theorem dX9_what_19 : decode cX9_what 19 = .ok (.iload_n 1, 1) := by decide +kernel
theorem dX9_what_20 : decode cX9_what 20 = .ok (.iload_n 2, 1) := by decide +kernel
theorem dX9_what_21 : decode cX9_what 21 = .ok (.invokevirtual 120, 3) := by decide +kernel
theorem dX9_what_24 : decode cX9_what 24 = .ok (.istore_n 3, 1) := by decide +kernel
theorem dX9_what_25 : decode cX9_what 25 = .ok (.iload_n 3, 1) := by decide +kernel
theorem dX9_what_26 : decode cX9_what 26 = .ok (.ifCond .le 9, 3) := by decide +kernel
theorem dX9_what_29 : decode cX9_what 29 = .ok (.aload_n 0, 1) := by decide +kernel
theorem dX9_what_30 : decode cX9_what 30 = .ok (.iload_n 3, 1) := by decide +kernel
theorem dX9_what_31 : decode cX9_what 31 = .ok (.invokevirtual 105, 3) := by decide +kernel
theorem dX9_what_34 : decode cX9_what 34 = .ok (.ireturn, 1) := by decide +kernel
theorem dX9_what_35 : decode cX9_what 35 = .ok (.aload_n 0, 1) := by decide +kernel
theorem dX9_what_36 : decode cX9_what 36 = .ok (.aload_n 0, 1) := by decide +kernel
theorem dX9_what_37 : decode cX9_what 37 = .ok (.iload_n 1, 1) := by decide +kernel
theorem dX9_what_38 : decode cX9_what 38 = .ok (.invokevirtual 56, 3) := by decide +kernel
theorem dX9_what_41 : decode cX9_what 41 = .ok (.invokevirtual 91, 3) := by decide +kernel
theorem dX9_what_44 : decode cX9_what 44 = .ok (.ifCond .eq 16, 3) := by decide +kernel
theorem dX9_what_47 : decode cX9_what 47 = .ok (.aload_n 0, 1) := by decide +kernel
theorem dX9_what_48 : decode cX9_what 48 = .ok (.getfield 13, 3) := by decide +kernel
theorem dX9_what_51 : decode cX9_what 51 = .ok (.aload_n 0, 1) := by decide +kernel
theorem dX9_what_52 : decode cX9_what 52 = .ok (.iload_n 1, 1) := by decide +kernel
theorem dX9_what_53 : decode cX9_what 53 = .ok (.invokevirtual 56, 3) := by decide +kernel
theorem dX9_what_56 : decode cX9_what 56 = .ok (.iaload, 1) := by decide +kernel
theorem dX9_what_57 : decode cX9_what 57 = .ok (.goto 22, 3) := by decide +kernel
theorem dX9_what_60 : decode cX9_what 60 = .ok (.aload_n 0, 1) := by decide +kernel
theorem dX9_what_61 : decode cX9_what 61 = .ok (.aload_n 0, 1) := by decide +kernel
theorem dX9_what_62 : decode cX9_what 62 = .ok (.getfield 22, 3) := by decide +kernel
theorem dX9_what_65 : decode cX9_what 65 = .ok (.bipush 24, 2) := by decide +kernel
theorem dX9_what_67 : decode cX9_what 67 = .ok (.aload_n 0, 1) := by decide +kernel
theorem dX9_what_68 : decode cX9_what 68 = .ok (.iload_n 1, 1) := by decide +kernel
theorem dX9_what_69 : decode cX9_what 69 = .ok (.invokevirtual 56, 3) := by decide +kernel
theorem dX9_what_72 : decode cX9_what 72 = .ok (.imul, 1) := by decide +kernel
theorem dX9_what_73 : decode cX9_what 73 = .ok (.iload_n 2, 1) := by decide +kernel
theorem dX9_what_74 : decode cX9_what 74 = .ok (.iadd, 1) := by decide +kernel
theorem dX9_what_75 : decode cX9_what 75 = .ok (.laload, 1) := by decide +kernel
theorem dX9_what_76 : decode cX9_what 76 = .ok (.invokevirtual 150, 3) := by decide +kernel
theorem dX9_what_79 : decode cX9_what 79 = .ok (.ireturn, 1) := by decide +kernel
theorem dX9_take_0 : decode cX9_take 0 = .ok (.aload_n 0, 1) := by decide +kernel
theorem dX9_take_1 : decode cX9_take 1 = .ok (.iconst 0, 1) := by decide +kernel
theorem dX9_take_2 : decode cX9_take 2 = .ok (.putfield 48, 3) := by decide +kernel
theorem dX9_take_5 : decode cX9_take 5 = .ok (.iload_n 1, 1) := by decide +kernel
theorem dX9_take_6 : decode cX9_take 6 = .ok (.invokestatic 102, 3) := by decide +kernel
theorem dX9_take_9 : decode cX9_take 9 = .ok (.ifCond .eq 10, 3) := by decide +kernel
theorem dX9_take_12 : decode cX9_take 12 = .ok (.iload_n 3, 1) := by decide +kernel
theorem dX9_take_13 : decode cX9_take 13 = .ok (.invokestatic 102, 3) := by decide +kernel
theorem dX9_take_16 : decode cX9_take 16 = .ok (.ifCond .ne 9, 3) := by decide +kernel
theorem dX9_take_19 : decode cX9_take 19 = .ok (.aload_n 0, 1) := by decide +kernel
theorem dX9_take_20 : decode cX9_take 20 = .ok (.iconst 1, 1) := by decide +kernel
theorem dX9_take_21 : decode cX9_take 21 = .ok (.invokevirtual 105, 3) := by decide +kernel
theorem dX9_take_24 : decode cX9_take 24 = .ok (.ireturn, 1) := by decide +kernel
theorem dX9_take_25 : decode cX9_take 25 = .ok (.aload_n 0, 1) := by decide +kernel
theorem dX9_take_26 : decode cX9_take 26 = .ok (.iload_n 1, 1) := by decide +kernel
theorem dX9_take_27 : decode cX9_take 27 = .ok (.invokevirtual 111, 3) := by decide +kernel
theorem dX9_take_30 : decode cX9_take 30 = .ok (.istore 4, 2) := by decide +kernel
theorem dX9_take_32 : decode cX9_take 32 = .ok (.iload 4, 2) := by decide +kernel
theorem dX9_take_34 : decode cX9_take 34 = .ok (.ifCond .le 10, 3) := by decide +kernel
theorem dX9_take_37 : decode cX9_take 37 = .ok (.aload_n 0, 1) := by decide +kernel
theorem dX9_take_38 : decode cX9_take 38 = .ok (.iload 4, 2) := by decide +kernel
theorem dX9_take_40 : decode cX9_take 40 = .ok (.invokevirtual 105, 3) := by decide +kernel
theorem dX9_take_43 : decode cX9_take 43 = .ok (.ireturn, 1) := by decide +kernel
theorem dX9_take_44 : decode cX9_take 44 = .ok (.aload_n 0, 1) := by decide +kernel
theorem dX9_take_45 : decode cX9_take 45 = .ok (.aload_n 0, 1) := by decide +kernel
theorem dX9_take_46 : decode cX9_take 46 = .ok (.iload_n 1, 1) := by decide +kernel
theorem dX9_take_47 : decode cX9_take 47 = .ok (.invokevirtual 56, 3) := by decide +kernel
theorem dX9_take_50 : decode cX9_take 50 = .ok (.invokevirtual 91, 3) := by decide +kernel
theorem dX9_take_53 : decode cX9_take 53 = .ok (.ifCond .eq 10, 3) := by decide +kernel
theorem dX9_take_56 : decode cX9_take 56 = .ok (.aload_n 0, 1) := by decide +kernel
theorem dX9_take_57 : decode cX9_take 57 = .ok (.bipush 6, 2) := by decide +kernel
theorem dX9_take_59 : decode cX9_take 59 = .ok (.invokevirtual 105, 3) := by decide +kernel
theorem dX9_take_62 : decode cX9_take 62 = .ok (.ireturn, 1) := by decide +kernel
theorem dX9_take_63 : decode cX9_take 63 = .ok (.aload_n 0, 1) := by decide +kernel
theorem dX9_take_64 : decode cX9_take 64 = .ok (.aload_n 0, 1) := by decide +kernel
theorem dX9_take_65 : decode cX9_take 65 = .ok (.iload_n 1, 1) := by decide +kernel
theorem dX9_take_66 : decode cX9_take 66 = .ok (.invokevirtual 56, 3) := by decide +kernel
theorem dX9_take_69 : decode cX9_take 69 = .ok (.iload_n 2, 1) := by decide +kernel
theorem dX9_take_70 : decode cX9_take 70 = .ok (.invokevirtual 117, 3) := by decide +kernel
theorem dX9_take_73 : decode cX9_take 73 = .ok (.ifCond .ne 9, 3) := by decide +kernel
theorem dX9_take_76 : decode cX9_take 76 = .ok (.aload_n 0, 1) := by decide +kernel
theorem dX9_take_77 : decode cX9_take 77 = .ok (.iconst 4, 1) := by decide +kernel
theorem dX9_take_78 : decode cX9_take 78 = .ok (.invokevirtual 105, 3) := by decide +kernel
theorem dX9_take_81 : decode cX9_take 81 = .ok (.ireturn, 1) := by decide +kernel
theorem dX9_take_82 : decode cX9_take 82 = .ok (.aload_n 0, 1) := by decide +kernel
theorem dX9_take_83 : decode cX9_take 83 = .ok (.getfield 30, 3) := by decide +kernel
theorem dX9_take_86 : decode cX9_take 86 = .ok (.iload_n 3, 1) := by decide +kernel
theorem dX9_take_87 : decode cX9_take 87 = .ok (.aload_n 0, 1) := by decide +kernel
theorem dX9_take_88 : decode cX9_take 88 = .ok (.getfield 22, 3) := by decide +kernel
theorem dX9_take_91 : decode cX9_take 91 = .ok (.bipush 24, 2) := by decide +kernel
theorem dX9_take_93 : decode cX9_take 93 = .ok (.aload_n 0, 1) := by decide +kernel
theorem dX9_take_94 : decode cX9_take 94 = .ok (.iload_n 1, 1) := by decide +kernel
theorem dX9_take_95 : decode cX9_take 95 = .ok (.invokevirtual 56, 3) := by decide +kernel
theorem dX9_take_98 : decode cX9_take 98 = .ok (.imul, 1) := by decide +kernel
theorem dX9_take_99 : decode cX9_take 99 = .ok (.iload_n 2, 1) := by decide +kernel
theorem dX9_take_100 : decode cX9_take 100 = .ok (.iadd, 1) := by decide +kernel
theorem dX9_take_101 : decode cX9_take 101 = .ok (.laload, 1) := by decide +kernel
theorem dX9_take_102 : decode cX9_take 102 = .ok (.l2i, 1) := by decide +kernel
theorem dX9_take_103 : decode cX9_take 103 = .ok (.iastore, 1) := by decide +kernel
theorem dX9_take_104 : decode cX9_take 104 = .ok (.aload_n 0, 1) := by decide +kernel
theorem dX9_take_105 : decode cX9_take 105 = .ok (.getfield 30, 3) := by decide +kernel
theorem dX9_take_108 : decode cX9_take 108 = .ok (.iload_n 3, 1) := by decide +kernel
theorem dX9_take_109 : decode cX9_take 109 = .ok (.iaload, 1) := by decide +kernel
theorem dX9_take_110 : decode cX9_take 110 = .ok (.ifCond .le 7, 3) := by decide +kernel
theorem dX9_take_113 : decode cX9_take 113 = .ok (.iconst 1, 1) := by decide +kernel
theorem dX9_take_114 : decode cX9_take 114 = .ok (.goto 4, 3) := by decide +kernel
theorem dX9_take_117 : decode cX9_take 117 = .ok (.iconst 0, 1) := by decide +kernel
theorem dX9_take_118 : decode cX9_take 118 = .ok (.ireturn, 1) := by decide +kernel
theorem dX9_carry_0 : decode cX9_carry 0 = .ok (.iconst 0, 1) := by decide +kernel
theorem dX9_carry_1 : decode cX9_carry 1 = .ok (.istore 4, 2) := by decide +kernel
theorem dX9_carry_3 : decode cX9_carry 3 = .ok (.iload 4, 2) := by decide +kernel
theorem dX9_carry_5 : decode cX9_carry 5 = .ok (.iload_n 3, 1) := by decide +kernel
theorem dX9_carry_6 : decode cX9_carry 6 = .ok (.if_icmp .ge 112, 3) := by decide +kernel
theorem dX9_carry_9 : decode cX9_carry 9 = .ok (.aload_n 0, 1) := by decide +kernel
theorem dX9_carry_10 : decode cX9_carry 10 = .ok (.iload_n 1, 1) := by decide +kernel
theorem dX9_carry_11 : decode cX9_carry 11 = .ok (.aload_n 0, 1) := by decide +kernel
theorem dX9_carry_12 : decode cX9_carry 12 = .ok (.getfield 42, 3) := by decide +kernel
theorem dX9_carry_15 : decode cX9_carry 15 = .ok (.iload 4, 2) := by decide +kernel
theorem dX9_carry_17 : decode cX9_carry 17 = .ok (.iaload, 1) := by decide +kernel
theorem dX9_carry_18 : decode cX9_carry 18 = .ok (.invokevirtual 117, 3) := by decide +kernel
theorem dX9_carry_21 : decode cX9_carry 21 = .ok (.ifCond .eq 18, 3) := by decide +kernel
theorem dX9_carry_24 : decode cX9_carry 24 = .ok (.aload_n 0, 1) := by decide +kernel
theorem dX9_carry_25 : decode cX9_carry 25 = .ok (.iload_n 2, 1) := by decide +kernel
theorem dX9_carry_26 : decode cX9_carry 26 = .ok (.aload_n 0, 1) := by decide +kernel
theorem dX9_carry_27 : decode cX9_carry 27 = .ok (.getfield 45, 3) := by decide +kernel
theorem dX9_carry_30 : decode cX9_carry 30 = .ok (.iload 4, 2) := by decide +kernel
theorem dX9_carry_32 : decode cX9_carry 32 = .ok (.iaload, 1) := by decide +kernel
theorem dX9_carry_33 : decode cX9_carry 33 = .ok (.invokevirtual 117, 3) := by decide +kernel
theorem dX9_carry_36 : decode cX9_carry 36 = .ok (.ifCond .ne 9, 3) := by decide +kernel
theorem dX9_carry_39 : decode cX9_carry 39 = .ok (.aload_n 0, 1) := by decide +kernel
theorem dX9_carry_40 : decode cX9_carry 40 = .ok (.iconst 4, 1) := by decide +kernel
theorem dX9_carry_41 : decode cX9_carry 41 = .ok (.invokevirtual 105, 3) := by decide +kernel
theorem dX9_carry_44 : decode cX9_carry 44 = .ok (.ireturn, 1) := by decide +kernel
theorem dX9_carry_45 : decode cX9_carry 45 = .ok (.aload_n 0, 1) := by decide +kernel
theorem dX9_carry_46 : decode cX9_carry 46 = .ok (.iload_n 1, 1) := by decide +kernel
theorem dX9_carry_47 : decode cX9_carry 47 = .ok (.aload_n 0, 1) := by decide +kernel
theorem dX9_carry_48 : decode cX9_carry 48 = .ok (.getfield 42, 3) := by decide +kernel
theorem dX9_carry_51 : decode cX9_carry 51 = .ok (.iload 4, 2) := by decide +kernel
theorem dX9_carry_53 : decode cX9_carry 53 = .ok (.iaload, 1) := by decide +kernel
theorem dX9_carry_54 : decode cX9_carry 54 = .ok (.invokevirtual 143, 3) := by decide +kernel
theorem dX9_carry_57 : decode cX9_carry 57 = .ok (.aload_n 0, 1) := by decide +kernel
theorem dX9_carry_58 : decode cX9_carry 58 = .ok (.iload_n 2, 1) := by decide +kernel
theorem dX9_carry_59 : decode cX9_carry 59 = .ok (.invokevirtual 128, 3) := by decide +kernel
theorem dX9_carry_62 : decode cX9_carry 62 = .ok (.ifCond .ne 9, 3) := by decide +kernel
theorem dX9_carry_65 : decode cX9_carry 65 = .ok (.aload_n 0, 1) := by decide +kernel
theorem dX9_carry_66 : decode cX9_carry 66 = .ok (.iconst 5, 1) := by decide +kernel
theorem dX9_carry_67 : decode cX9_carry 67 = .ok (.invokevirtual 105, 3) := by decide +kernel
theorem dX9_carry_70 : decode cX9_carry 70 = .ok (.ireturn, 1) := by decide +kernel
theorem dX9_carry_71 : decode cX9_carry 71 = .ok (.aload_n 0, 1) := by decide +kernel
theorem dX9_carry_72 : decode cX9_carry 72 = .ok (.getfield 66, 3) := by decide +kernel
theorem dX9_carry_75 : decode cX9_carry 75 = .ok (.bipush 8, 2) := by decide +kernel
theorem dX9_carry_77 : decode cX9_carry 77 = .ok (.if_icmp .ge 13, 3) := by decide +kernel
theorem dX9_carry_80 : decode cX9_carry 80 = .ok (.aload_n 0, 1) := by decide +kernel
theorem dX9_carry_81 : decode cX9_carry 81 = .ok (.aload_n 0, 1) := by decide +kernel
theorem dX9_carry_82 : decode cX9_carry 82 = .ok (.getfield 13, 3) := by decide +kernel
theorem dX9_carry_85 : decode cX9_carry 85 = .ok (.iload_n 2, 1) := by decide +kernel
theorem dX9_carry_86 : decode cX9_carry 86 = .ok (.iaload, 1) := by decide +kernel
theorem dX9_carry_87 : decode cX9_carry 87 = .ok (.invokevirtual 131, 3) := by decide +kernel
theorem dX9_carry_90 : decode cX9_carry 90 = .ok (.aload_n 0, 1) := by decide +kernel
theorem dX9_carry_91 : decode cX9_carry 91 = .ok (.getfield 36, 3) := by decide +kernel
theorem dX9_carry_94 : decode cX9_carry 94 = .ok (.iload 4, 2) := by decide +kernel
theorem dX9_carry_96 : decode cX9_carry 96 = .ok (.aload_n 0, 1) := by decide +kernel
theorem dX9_carry_97 : decode cX9_carry 97 = .ok (.getfield 69, 3) := by decide +kernel
theorem dX9_carry_100 : decode cX9_carry 100 = .ok (.lastore, 1) := by decide +kernel
theorem dX9_carry_101 : decode cX9_carry 101 = .ok (.aload_n 0, 1) := by decide +kernel
theorem dX9_carry_102 : decode cX9_carry 102 = .ok (.getfield 39, 3) := by decide +kernel
theorem dX9_carry_105 : decode cX9_carry 105 = .ok (.iload 4, 2) := by decide +kernel
theorem dX9_carry_107 : decode cX9_carry 107 = .ok (.aload_n 0, 1) := by decide +kernel
theorem dX9_carry_108 : decode cX9_carry 108 = .ok (.getfield 73, 3) := by decide +kernel
theorem dX9_carry_111 : decode cX9_carry 111 = .ok (.dastore, 1) := by decide +kernel
theorem dX9_carry_112 : decode cX9_carry 112 = .ok (.iinc 4 1, 3) := by decide +kernel
theorem dX9_carry_115 : decode cX9_carry 115 = .ok (.goto (-112), 3) := by decide +kernel
theorem dX9_carry_118 : decode cX9_carry 118 = .ok (.iconst 0, 1) := by decide +kernel
theorem dX9_carry_119 : decode cX9_carry 119 = .ok (.istore 4, 2) := by decide +kernel
theorem dX9_carry_121 : decode cX9_carry 121 = .ok (.iload 4, 2) := by decide +kernel
theorem dX9_carry_123 : decode cX9_carry 123 = .ok (.iload_n 3, 1) := by decide +kernel
theorem dX9_carry_124 : decode cX9_carry 124 = .ok (.if_icmp .ge 57, 3) := by decide +kernel
theorem dX9_carry_127 : decode cX9_carry 127 = .ok (.aload_n 0, 1) := by decide +kernel
theorem dX9_carry_128 : decode cX9_carry 128 = .ok (.getfield 22, 3) := by decide +kernel
theorem dX9_carry_131 : decode cX9_carry 131 = .ok (.bipush 24, 2) := by decide +kernel
theorem dX9_carry_133 : decode cX9_carry 133 = .ok (.iload_n 2, 1) := by decide +kernel
theorem dX9_carry_134 : decode cX9_carry 134 = .ok (.imul, 1) := by decide +kernel
theorem dX9_carry_135 : decode cX9_carry 135 = .ok (.aload_n 0, 1) := by decide +kernel
theorem dX9_carry_136 : decode cX9_carry 136 = .ok (.getfield 45, 3) := by decide +kernel
theorem dX9_carry_139 : decode cX9_carry 139 = .ok (.iload 4, 2) := by decide +kernel
theorem dX9_carry_141 : decode cX9_carry 141 = .ok (.iaload, 1) := by decide +kernel
theorem dX9_carry_142 : decode cX9_carry 142 = .ok (.iadd, 1) := by decide +kernel
theorem dX9_carry_143 : decode cX9_carry 143 = .ok (.aload_n 0, 1) := by decide +kernel
theorem dX9_carry_144 : decode cX9_carry 144 = .ok (.getfield 36, 3) := by decide +kernel
theorem dX9_carry_147 : decode cX9_carry 147 = .ok (.iload 4, 2) := by decide +kernel
theorem dX9_carry_149 : decode cX9_carry 149 = .ok (.laload, 1) := by decide +kernel
theorem dX9_carry_150 : decode cX9_carry 150 = .ok (.lastore, 1) := by decide +kernel
theorem dX9_carry_151 : decode cX9_carry 151 = .ok (.aload_n 0, 1) := by decide +kernel
theorem dX9_carry_152 : decode cX9_carry 152 = .ok (.getfield 26, 3) := by decide +kernel
theorem dX9_carry_155 : decode cX9_carry 155 = .ok (.bipush 24, 2) := by decide +kernel
theorem dX9_carry_157 : decode cX9_carry 157 = .ok (.iload_n 2, 1) := by decide +kernel
theorem dX9_carry_158 : decode cX9_carry 158 = .ok (.imul, 1) := by decide +kernel
theorem dX9_carry_159 : decode cX9_carry 159 = .ok (.aload_n 0, 1) := by decide +kernel
theorem dX9_carry_160 : decode cX9_carry 160 = .ok (.getfield 45, 3) := by decide +kernel
theorem dX9_carry_163 : decode cX9_carry 163 = .ok (.iload 4, 2) := by decide +kernel
theorem dX9_carry_165 : decode cX9_carry 165 = .ok (.iaload, 1) := by decide +kernel
theorem dX9_carry_166 : decode cX9_carry 166 = .ok (.iadd, 1) := by decide +kernel
theorem dX9_carry_167 : decode cX9_carry 167 = .ok (.aload_n 0, 1) := by decide +kernel
theorem dX9_carry_168 : decode cX9_carry 168 = .ok (.getfield 39, 3) := by decide +kernel
theorem dX9_carry_171 : decode cX9_carry 171 = .ok (.iload 4, 2) := by decide +kernel
theorem dX9_carry_173 : decode cX9_carry 173 = .ok (.daload, 1) := by decide +kernel
theorem dX9_carry_174 : decode cX9_carry 174 = .ok (.dastore, 1) := by decide +kernel
theorem dX9_carry_175 : decode cX9_carry 175 = .ok (.iinc 4 1, 3) := by decide +kernel
theorem dX9_carry_178 : decode cX9_carry 178 = .ok (.goto (-57), 3) := by decide +kernel
theorem dX9_carry_181 : decode cX9_carry 181 = .ok (.iload_n 3, 1) := by decide +kernel
theorem dX9_carry_182 : decode cX9_carry 182 = .ok (.ireturn, 1) := by decide +kernel
theorem dX9_copy_0 : decode cX9_copy 0 = .ok (.aload_n 0, 1) := by decide +kernel
theorem dX9_copy_1 : decode cX9_copy 1 = .ok (.iconst 0, 1) := by decide +kernel
theorem dX9_copy_2 : decode cX9_copy 2 = .ok (.putfield 48, 3) := by decide +kernel
theorem dX9_copy_5 : decode cX9_copy 5 = .ok (.iload_n 1, 1) := by decide +kernel
theorem dX9_copy_6 : decode cX9_copy 6 = .ok (.invokestatic 102, 3) := by decide +kernel
theorem dX9_copy_9 : decode cX9_copy 9 = .ok (.ifCond .eq 10, 3) := by decide +kernel
theorem dX9_copy_12 : decode cX9_copy 12 = .ok (.iload_n 2, 1) := by decide +kernel
theorem dX9_copy_13 : decode cX9_copy 13 = .ok (.invokestatic 102, 3) := by decide +kernel
theorem dX9_copy_16 : decode cX9_copy 16 = .ok (.ifCond .ne 9, 3) := by decide +kernel
theorem dX9_copy_19 : decode cX9_copy 19 = .ok (.aload_n 0, 1) := by decide +kernel
theorem dX9_copy_20 : decode cX9_copy 20 = .ok (.iconst 1, 1) := by decide +kernel
theorem dX9_copy_21 : decode cX9_copy 21 = .ok (.invokevirtual 105, 3) := by decide +kernel
theorem dX9_copy_24 : decode cX9_copy 24 = .ok (.ireturn, 1) := by decide +kernel
theorem dX9_copy_25 : decode cX9_copy 25 = .ok (.aload_n 0, 1) := by decide +kernel
theorem dX9_copy_26 : decode cX9_copy 26 = .ok (.iload_n 1, 1) := by decide +kernel
theorem dX9_copy_27 : decode cX9_copy 27 = .ok (.iload_n 2, 1) := by decide +kernel
theorem dX9_copy_28 : decode cX9_copy 28 = .ok (.iload_n 2, 1) := by decide +kernel
theorem dX9_copy_29 : decode cX9_copy 29 = .ok (.invokevirtual 154, 3) := by decide +kernel
theorem dX9_copy_32 : decode cX9_copy 32 = .ok (.istore_n 3, 1) := by decide +kernel
theorem dX9_copy_33 : decode cX9_copy 33 = .ok (.iload_n 3, 1) := by decide +kernel
theorem dX9_copy_34 : decode cX9_copy 34 = .ok (.ifCond .le 9, 3) := by decide +kernel
theorem dX9_copy_37 : decode cX9_copy 37 = .ok (.aload_n 0, 1) := by decide +kernel
theorem dX9_copy_38 : decode cX9_copy 38 = .ok (.iload_n 3, 1) := by decide +kernel
theorem dX9_copy_39 : decode cX9_copy 39 = .ok (.invokevirtual 105, 3) := by decide +kernel
theorem dX9_copy_42 : decode cX9_copy 42 = .ok (.ireturn, 1) := by decide +kernel
theorem dX9_copy_43 : decode cX9_copy 43 = .ok (.aload_n 0, 1) := by decide +kernel
theorem dX9_copy_44 : decode cX9_copy 44 = .ok (.getfield 16, 3) := by decide +kernel
theorem dX9_copy_47 : decode cX9_copy 47 = .ok (.aload_n 0, 1) := by decide +kernel
theorem dX9_copy_48 : decode cX9_copy 48 = .ok (.iload_n 1, 1) := by decide +kernel
theorem dX9_copy_49 : decode cX9_copy 49 = .ok (.invokevirtual 56, 3) := by decide +kernel
theorem dX9_copy_52 : decode cX9_copy 52 = .ok (.iaload, 1) := by decide +kernel
theorem dX9_copy_53 : decode cX9_copy 53 = .ok (.istore 4, 2) := by decide +kernel
theorem dX9_copy_55 : decode cX9_copy 55 = .ok (.iload 4, 2) := by decide +kernel
theorem dX9_copy_57 : decode cX9_copy 57 = .ok (.aload_n 0, 1) := by decide +kernel
theorem dX9_copy_58 : decode cX9_copy 58 = .ok (.getfield 16, 3) := by decide +kernel
theorem dX9_copy_61 : decode cX9_copy 61 = .ok (.aload_n 0, 1) := by decide +kernel
theorem dX9_copy_62 : decode cX9_copy 62 = .ok (.iload_n 2, 1) := by decide +kernel
theorem dX9_copy_63 : decode cX9_copy 63 = .ok (.invokevirtual 56, 3) := by decide +kernel
theorem dX9_copy_66 : decode cX9_copy 66 = .ok (.iaload, 1) := by decide +kernel
theorem dX9_copy_67 : decode cX9_copy 67 = .ok (.if_icmp .eq 9, 3) := by decide +kernel
theorem dX9_copy_70 : decode cX9_copy 70 = .ok (.aload_n 0, 1) := by decide +kernel
theorem dX9_copy_71 : decode cX9_copy 71 = .ok (.iconst 4, 1) := by decide +kernel
theorem dX9_copy_72 : decode cX9_copy 72 = .ok (.invokevirtual 105, 3) := by decide +kernel
theorem dX9_copy_75 : decode cX9_copy 75 = .ok (.ireturn, 1) := by decide +kernel
theorem dX9_copy_76 : decode cX9_copy 76 = .ok (.iconst 0, 1) := by decide +kernel
theorem dX9_copy_77 : decode cX9_copy 77 = .ok (.istore 5, 2) := by decide +kernel
theorem dX9_copy_79 : decode cX9_copy 79 = .ok (.iload 5, 2) := by decide +kernel
theorem dX9_copy_81 : decode cX9_copy 81 = .ok (.iload 4, 2) := by decide +kernel
theorem dX9_copy_83 : decode cX9_copy 83 = .ok (.if_icmp .ge 27, 3) := by decide +kernel
theorem dX9_copy_86 : decode cX9_copy 86 = .ok (.aload_n 0, 1) := by decide +kernel
theorem dX9_copy_87 : decode cX9_copy 87 = .ok (.getfield 42, 3) := by decide +kernel
theorem dX9_copy_90 : decode cX9_copy 90 = .ok (.iload 5, 2) := by decide +kernel
theorem dX9_copy_92 : decode cX9_copy 92 = .ok (.iload 5, 2) := by decide +kernel
theorem dX9_copy_94 : decode cX9_copy 94 = .ok (.iastore, 1) := by decide +kernel
theorem dX9_copy_95 : decode cX9_copy 95 = .ok (.aload_n 0, 1) := by decide +kernel
theorem dX9_copy_96 : decode cX9_copy 96 = .ok (.getfield 45, 3) := by decide +kernel
theorem dX9_copy_99 : decode cX9_copy 99 = .ok (.iload 5, 2) := by decide +kernel
theorem dX9_copy_101 : decode cX9_copy 101 = .ok (.iload 5, 2) := by decide +kernel
theorem dX9_copy_103 : decode cX9_copy 103 = .ok (.iastore, 1) := by decide +kernel
theorem dX9_copy_104 : decode cX9_copy 104 = .ok (.iinc 5 1, 3) := by decide +kernel
theorem dX9_copy_107 : decode cX9_copy 107 = .ok (.goto (-28), 3) := by decide +kernel
theorem dX9_copy_110 : decode cX9_copy 110 = .ok (.aload_n 0, 1) := by decide +kernel
theorem dX9_copy_111 : decode cX9_copy 111 = .ok (.aload_n 0, 1) := by decide +kernel
theorem dX9_copy_112 : decode cX9_copy 112 = .ok (.iload_n 1, 1) := by decide +kernel
theorem dX9_copy_113 : decode cX9_copy 113 = .ok (.invokevirtual 56, 3) := by decide +kernel
theorem dX9_copy_116 : decode cX9_copy 116 = .ok (.aload_n 0, 1) := by decide +kernel
theorem dX9_copy_117 : decode cX9_copy 117 = .ok (.iload_n 2, 1) := by decide +kernel
theorem dX9_copy_118 : decode cX9_copy 118 = .ok (.invokevirtual 56, 3) := by decide +kernel
theorem dX9_copy_121 : decode cX9_copy 121 = .ok (.iload 4, 2) := by decide +kernel
theorem dX9_copy_123 : decode cX9_copy 123 = .ok (.invokevirtual 157, 3) := by decide +kernel
theorem dX9_copy_126 : decode cX9_copy 126 = .ok (.ireturn, 1) := by decide +kernel
theorem dX9_tellsPlaces_0 : decode cX9_tellsPlaces 0 = .ok (.aload_n 0, 1) := by decide +kernel
theorem dX9_tellsPlaces_1 : decode cX9_tellsPlaces 1 = .ok (.iload_n 1, 1) := by decide +kernel
theorem dX9_tellsPlaces_2 : decode cX9_tellsPlaces 2 = .ok (.invokevirtual 91, 3) := by decide +kernel
theorem dX9_tellsPlaces_5 : decode cX9_tellsPlaces 5 = .ok (.ifCond .eq 21, 3) := by decide +kernel
theorem dX9_tellsPlaces_8 : decode cX9_tellsPlaces 8 = .ok (.aload_n 0, 1) := by decide +kernel
theorem dX9_tellsPlaces_9 : decode cX9_tellsPlaces 9 = .ok (.aload_n 0, 1) := by decide +kernel
theorem dX9_tellsPlaces_10 : decode cX9_tellsPlaces 10 = .ok (.getfield 13, 3) := by decide +kernel
theorem dX9_tellsPlaces_13 : decode cX9_tellsPlaces 13 = .ok (.iload_n 1, 1) := by decide +kernel
theorem dX9_tellsPlaces_14 : decode cX9_tellsPlaces 14 = .ok (.iaload, 1) := by decide +kernel
theorem dX9_tellsPlaces_15 : decode cX9_tellsPlaces 15 = .ok (.iconst 4, 1) := by decide +kernel
theorem dX9_tellsPlaces_16 : decode cX9_tellsPlaces 16 = .ok (.invokevirtual 94, 3) := by decide +kernel
theorem dX9_tellsPlaces_19 : decode cX9_tellsPlaces 19 = .ok (.ifCond .eq 7, 3) := by decide +kernel
theorem dX9_tellsPlaces_22 : decode cX9_tellsPlaces 22 = .ok (.iconst 1, 1) := by decide +kernel
theorem dX9_tellsPlaces_23 : decode cX9_tellsPlaces 23 = .ok (.goto 4, 3) := by decide +kernel
theorem dX9_tellsPlaces_26 : decode cX9_tellsPlaces 26 = .ok (.iconst 0, 1) := by decide +kernel
theorem dX9_tellsPlaces_27 : decode cX9_tellsPlaces 27 = .ok (.ireturn, 1) := by decide +kernel
theorem dX9_gather_0 : decode cX9_gather 0 = .ok (.aload_n 0, 1) := by decide +kernel
theorem dX9_gather_1 : decode cX9_gather 1 = .ok (.iconst 0, 1) := by decide +kernel
theorem dX9_gather_2 : decode cX9_gather 2 = .ok (.putfield 48, 3) := by decide +kernel
theorem dX9_gather_5 : decode cX9_gather 5 = .ok (.iload_n 1, 1) := by decide +kernel
theorem dX9_gather_6 : decode cX9_gather 6 = .ok (.invokestatic 102, 3) := by decide +kernel
theorem dX9_gather_9 : decode cX9_gather 9 = .ok (.ifCond .eq 17, 3) := by decide +kernel
theorem dX9_gather_12 : decode cX9_gather 12 = .ok (.iload_n 2, 1) := by decide +kernel
theorem dX9_gather_13 : decode cX9_gather 13 = .ok (.invokestatic 102, 3) := by decide +kernel
theorem dX9_gather_16 : decode cX9_gather 16 = .ok (.ifCond .eq 10, 3) := by decide +kernel
theorem dX9_gather_19 : decode cX9_gather 19 = .ok (.iload_n 3, 1) := by decide +kernel
theorem dX9_gather_20 : decode cX9_gather 20 = .ok (.invokestatic 102, 3) := by decide +kernel
theorem dX9_gather_23 : decode cX9_gather 23 = .ok (.ifCond .ne 9, 3) := by decide +kernel
theorem dX9_gather_26 : decode cX9_gather 26 = .ok (.aload_n 0, 1) := by decide +kernel
theorem dX9_gather_27 : decode cX9_gather 27 = .ok (.iconst 1, 1) := by decide +kernel
theorem dX9_gather_28 : decode cX9_gather 28 = .ok (.invokevirtual 105, 3) := by decide +kernel
theorem dX9_gather_31 : decode cX9_gather 31 = .ok (.ireturn, 1) := by decide +kernel
theorem dX9_gather_32 : decode cX9_gather 32 = .ok (.aload_n 0, 1) := by decide +kernel
theorem dX9_gather_33 : decode cX9_gather 33 = .ok (.iload_n 1, 1) := by decide +kernel
theorem dX9_gather_34 : decode cX9_gather 34 = .ok (.iload_n 2, 1) := by decide +kernel
theorem dX9_gather_35 : decode cX9_gather 35 = .ok (.iload_n 3, 1) := by decide +kernel
theorem dX9_gather_36 : decode cX9_gather 36 = .ok (.invokevirtual 154, 3) := by decide +kernel
theorem dX9_gather_39 : decode cX9_gather 39 = .ok (.istore 4, 2) := by decide +kernel
theorem dX9_gather_41 : decode cX9_gather 41 = .ok (.iload 4, 2) := by decide +kernel
theorem dX9_gather_43 : decode cX9_gather 43 = .ok (.ifCond .le 10, 3) := by decide +kernel
theorem dX9_gather_46 : decode cX9_gather 46 = .ok (.aload_n 0, 1) := by decide +kernel
theorem dX9_gather_47 : decode cX9_gather 47 = .ok (.iload 4, 2) := by decide +kernel
theorem dX9_gather_49 : decode cX9_gather 49 = .ok (.invokevirtual 105, 3) := by decide +kernel
theorem dX9_gather_52 : decode cX9_gather 52 = .ok (.ireturn, 1) := by decide +kernel
theorem dX9_gather_53 : decode cX9_gather 53 = .ok (.aload_n 0, 1) := by decide +kernel
theorem dX9_gather_54 : decode cX9_gather 54 = .ok (.aload_n 0, 1) := by decide +kernel
theorem dX9_gather_55 : decode cX9_gather 55 = .ok (.iload_n 2, 1) := by decide +kernel
theorem dX9_gather_56 : decode cX9_gather 56 = .ok (.invokevirtual 56, 3) := by decide +kernel
theorem dX9_gather_59 : decode cX9_gather 59 = .ok (.invokevirtual 160, 3) := by decide +kernel
theorem dX9_gather_62 : decode cX9_gather 62 = .ok (.ifCond .ne 10, 3) := by decide +kernel
theorem dX9_gather_65 : decode cX9_gather 65 = .ok (.aload_n 0, 1) := by decide +kernel
theorem dX9_gather_66 : decode cX9_gather 66 = .ok (.bipush 6, 2) := by decide +kernel
theorem dX9_gather_68 : decode cX9_gather 68 = .ok (.invokevirtual 105, 3) := by decide +kernel
theorem dX9_gather_71 : decode cX9_gather 71 = .ok (.ireturn, 1) := by decide +kernel
theorem dX9_gather_72 : decode cX9_gather 72 = .ok (.aload_n 0, 1) := by decide +kernel
theorem dX9_gather_73 : decode cX9_gather 73 = .ok (.getfield 16, 3) := by decide +kernel
theorem dX9_gather_76 : decode cX9_gather 76 = .ok (.aload_n 0, 1) := by decide +kernel
theorem dX9_gather_77 : decode cX9_gather 77 = .ok (.iload_n 2, 1) := by decide +kernel
theorem dX9_gather_78 : decode cX9_gather 78 = .ok (.invokevirtual 56, 3) := by decide +kernel
theorem dX9_gather_81 : decode cX9_gather 81 = .ok (.iaload, 1) := by decide +kernel
theorem dX9_gather_82 : decode cX9_gather 82 = .ok (.istore 5, 2) := by decide +kernel
theorem dX9_gather_84 : decode cX9_gather 84 = .ok (.iload 5, 2) := by decide +kernel
theorem dX9_gather_86 : decode cX9_gather 86 = .ok (.aload_n 0, 1) := by decide +kernel
theorem dX9_gather_87 : decode cX9_gather 87 = .ok (.getfield 16, 3) := by decide +kernel
theorem dX9_gather_90 : decode cX9_gather 90 = .ok (.aload_n 0, 1) := by decide +kernel
theorem dX9_gather_91 : decode cX9_gather 91 = .ok (.iload_n 3, 1) := by decide +kernel
theorem dX9_gather_92 : decode cX9_gather 92 = .ok (.invokevirtual 56, 3) := by decide +kernel
theorem dX9_gather_95 : decode cX9_gather 95 = .ok (.iaload, 1) := by decide +kernel
theorem dX9_gather_96 : decode cX9_gather 96 = .ok (.if_icmp .eq 9, 3) := by decide +kernel
theorem dX9_gather_99 : decode cX9_gather 99 = .ok (.aload_n 0, 1) := by decide +kernel
theorem dX9_gather_100 : decode cX9_gather 100 = .ok (.iconst 4, 1) := by decide +kernel
theorem dX9_gather_101 : decode cX9_gather 101 = .ok (.invokevirtual 105, 3) := by decide +kernel
theorem dX9_gather_104 : decode cX9_gather 104 = .ok (.ireturn, 1) := by decide +kernel
theorem dX9_gather_105 : decode cX9_gather 105 = .ok (.iconst 0, 1) := by decide +kernel
theorem dX9_gather_106 : decode cX9_gather 106 = .ok (.istore 6, 2) := by decide +kernel
theorem dX9_gather_108 : decode cX9_gather 108 = .ok (.iload 6, 2) := by decide +kernel
theorem dX9_gather_110 : decode cX9_gather 110 = .ok (.iload 5, 2) := by decide +kernel
theorem dX9_gather_112 : decode cX9_gather 112 = .ok (.if_icmp .ge 42, 3) := by decide +kernel
theorem dX9_gather_115 : decode cX9_gather 115 = .ok (.aload_n 0, 1) := by decide +kernel
theorem dX9_gather_116 : decode cX9_gather 116 = .ok (.getfield 42, 3) := by decide +kernel
theorem dX9_gather_119 : decode cX9_gather 119 = .ok (.iload 6, 2) := by decide +kernel
theorem dX9_gather_121 : decode cX9_gather 121 = .ok (.aload_n 0, 1) := by decide +kernel
theorem dX9_gather_122 : decode cX9_gather 122 = .ok (.getfield 22, 3) := by decide +kernel
theorem dX9_gather_125 : decode cX9_gather 125 = .ok (.bipush 24, 2) := by decide +kernel
theorem dX9_gather_127 : decode cX9_gather 127 = .ok (.aload_n 0, 1) := by decide +kernel
theorem dX9_gather_128 : decode cX9_gather 128 = .ok (.iload_n 2, 1) := by decide +kernel
theorem dX9_gather_129 : decode cX9_gather 129 = .ok (.invokevirtual 56, 3) := by decide +kernel
theorem dX9_gather_132 : decode cX9_gather 132 = .ok (.imul, 1) := by decide +kernel
theorem dX9_gather_133 : decode cX9_gather 133 = .ok (.iload 6, 2) := by decide +kernel
theorem dX9_gather_135 : decode cX9_gather 135 = .ok (.iadd, 1) := by decide +kernel
theorem dX9_gather_136 : decode cX9_gather 136 = .ok (.laload, 1) := by decide +kernel
theorem dX9_gather_137 : decode cX9_gather 137 = .ok (.l2i, 1) := by decide +kernel
theorem dX9_gather_138 : decode cX9_gather 138 = .ok (.iastore, 1) := by decide +kernel
theorem dX9_gather_139 : decode cX9_gather 139 = .ok (.aload_n 0, 1) := by decide +kernel
theorem dX9_gather_140 : decode cX9_gather 140 = .ok (.getfield 45, 3) := by decide +kernel
theorem dX9_gather_143 : decode cX9_gather 143 = .ok (.iload 6, 2) := by decide +kernel
theorem dX9_gather_145 : decode cX9_gather 145 = .ok (.iload 6, 2) := by decide +kernel
theorem dX9_gather_147 : decode cX9_gather 147 = .ok (.iastore, 1) := by decide +kernel
theorem dX9_gather_148 : decode cX9_gather 148 = .ok (.iinc 6 1, 3) := by decide +kernel
theorem dX9_gather_151 : decode cX9_gather 151 = .ok (.goto (-43), 3) := by decide +kernel
theorem dX9_gather_154 : decode cX9_gather 154 = .ok (.aload_n 0, 1) := by decide +kernel
theorem dX9_gather_155 : decode cX9_gather 155 = .ok (.aload_n 0, 1) := by decide +kernel
theorem dX9_gather_156 : decode cX9_gather 156 = .ok (.iload_n 1, 1) := by decide +kernel
theorem dX9_gather_157 : decode cX9_gather 157 = .ok (.invokevirtual 56, 3) := by decide +kernel
theorem dX9_gather_160 : decode cX9_gather 160 = .ok (.aload_n 0, 1) := by decide +kernel
theorem dX9_gather_161 : decode cX9_gather 161 = .ok (.iload_n 3, 1) := by decide +kernel
theorem dX9_gather_162 : decode cX9_gather 162 = .ok (.invokevirtual 56, 3) := by decide +kernel
theorem dX9_gather_165 : decode cX9_gather 165 = .ok (.iload 5, 2) := by decide +kernel
theorem dX9_gather_167 : decode cX9_gather 167 = .ok (.invokevirtual 157, 3) := by decide +kernel
theorem dX9_gather_170 : decode cX9_gather 170 = .ok (.ireturn, 1) := by decide +kernel
theorem dX9_scatter_0 : decode cX9_scatter 0 = .ok (.aload_n 0, 1) := by decide +kernel
theorem dX9_scatter_1 : decode cX9_scatter 1 = .ok (.iconst 0, 1) := by decide +kernel
theorem dX9_scatter_2 : decode cX9_scatter 2 = .ok (.putfield 48, 3) := by decide +kernel
theorem dX9_scatter_5 : decode cX9_scatter 5 = .ok (.iload_n 1, 1) := by decide +kernel
theorem dX9_scatter_6 : decode cX9_scatter 6 = .ok (.invokestatic 102, 3) := by decide +kernel
theorem dX9_scatter_9 : decode cX9_scatter 9 = .ok (.ifCond .eq 17, 3) := by decide +kernel
theorem dX9_scatter_12 : decode cX9_scatter 12 = .ok (.iload_n 2, 1) := by decide +kernel
theorem dX9_scatter_13 : decode cX9_scatter 13 = .ok (.invokestatic 102, 3) := by decide +kernel
theorem dX9_scatter_16 : decode cX9_scatter 16 = .ok (.ifCond .eq 10, 3) := by decide +kernel
theorem dX9_scatter_19 : decode cX9_scatter 19 = .ok (.iload_n 3, 1) := by decide +kernel
theorem dX9_scatter_20 : decode cX9_scatter 20 = .ok (.invokestatic 102, 3) := by decide +kernel
theorem dX9_scatter_23 : decode cX9_scatter 23 = .ok (.ifCond .ne 9, 3) := by decide +kernel
theorem dX9_scatter_26 : decode cX9_scatter 26 = .ok (.aload_n 0, 1) := by decide +kernel
theorem dX9_scatter_27 : decode cX9_scatter 27 = .ok (.iconst 1, 1) := by decide +kernel
theorem dX9_scatter_28 : decode cX9_scatter 28 = .ok (.invokevirtual 105, 3) := by decide +kernel
theorem dX9_scatter_31 : decode cX9_scatter 31 = .ok (.ireturn, 1) := by decide +kernel
theorem dX9_scatter_32 : decode cX9_scatter 32 = .ok (.aload_n 0, 1) := by decide +kernel
theorem dX9_scatter_33 : decode cX9_scatter 33 = .ok (.iload_n 1, 1) := by decide +kernel
theorem dX9_scatter_34 : decode cX9_scatter 34 = .ok (.iload_n 2, 1) := by decide +kernel
theorem dX9_scatter_35 : decode cX9_scatter 35 = .ok (.iload_n 3, 1) := by decide +kernel
theorem dX9_scatter_36 : decode cX9_scatter 36 = .ok (.invokevirtual 154, 3) := by decide +kernel
theorem dX9_scatter_39 : decode cX9_scatter 39 = .ok (.istore 4, 2) := by decide +kernel
theorem dX9_scatter_41 : decode cX9_scatter 41 = .ok (.iload 4, 2) := by decide +kernel
theorem dX9_scatter_43 : decode cX9_scatter 43 = .ok (.ifCond .le 10, 3) := by decide +kernel
theorem dX9_scatter_46 : decode cX9_scatter 46 = .ok (.aload_n 0, 1) := by decide +kernel
theorem dX9_scatter_47 : decode cX9_scatter 47 = .ok (.iload 4, 2) := by decide +kernel
theorem dX9_scatter_49 : decode cX9_scatter 49 = .ok (.invokevirtual 105, 3) := by decide +kernel
theorem dX9_scatter_52 : decode cX9_scatter 52 = .ok (.ireturn, 1) := by decide +kernel
theorem dX9_scatter_53 : decode cX9_scatter 53 = .ok (.aload_n 0, 1) := by decide +kernel
theorem dX9_scatter_54 : decode cX9_scatter 54 = .ok (.aload_n 0, 1) := by decide +kernel
theorem dX9_scatter_55 : decode cX9_scatter 55 = .ok (.iload_n 2, 1) := by decide +kernel
theorem dX9_scatter_56 : decode cX9_scatter 56 = .ok (.invokevirtual 56, 3) := by decide +kernel
theorem dX9_scatter_59 : decode cX9_scatter 59 = .ok (.invokevirtual 160, 3) := by decide +kernel
theorem dX9_scatter_62 : decode cX9_scatter 62 = .ok (.ifCond .ne 10, 3) := by decide +kernel
theorem dX9_scatter_65 : decode cX9_scatter 65 = .ok (.aload_n 0, 1) := by decide +kernel
theorem dX9_scatter_66 : decode cX9_scatter 66 = .ok (.bipush 6, 2) := by decide +kernel
theorem dX9_scatter_68 : decode cX9_scatter 68 = .ok (.invokevirtual 105, 3) := by decide +kernel
theorem dX9_scatter_71 : decode cX9_scatter 71 = .ok (.ireturn, 1) := by decide +kernel
theorem dX9_scatter_72 : decode cX9_scatter 72 = .ok (.aload_n 0, 1) := by decide +kernel
theorem dX9_scatter_73 : decode cX9_scatter 73 = .ok (.getfield 16, 3) := by decide +kernel
theorem dX9_scatter_76 : decode cX9_scatter 76 = .ok (.aload_n 0, 1) := by decide +kernel
theorem dX9_scatter_77 : decode cX9_scatter 77 = .ok (.iload_n 2, 1) := by decide +kernel
theorem dX9_scatter_78 : decode cX9_scatter 78 = .ok (.invokevirtual 56, 3) := by decide +kernel
theorem dX9_scatter_81 : decode cX9_scatter 81 = .ok (.iaload, 1) := by decide +kernel
theorem dX9_scatter_82 : decode cX9_scatter 82 = .ok (.istore 5, 2) := by decide +kernel
theorem dX9_scatter_84 : decode cX9_scatter 84 = .ok (.iload 5, 2) := by decide +kernel
theorem dX9_scatter_86 : decode cX9_scatter 86 = .ok (.aload_n 0, 1) := by decide +kernel
theorem dX9_scatter_87 : decode cX9_scatter 87 = .ok (.getfield 16, 3) := by decide +kernel
theorem dX9_scatter_90 : decode cX9_scatter 90 = .ok (.aload_n 0, 1) := by decide +kernel
theorem dX9_scatter_91 : decode cX9_scatter 91 = .ok (.iload_n 1, 1) := by decide +kernel
theorem dX9_scatter_92 : decode cX9_scatter 92 = .ok (.invokevirtual 56, 3) := by decide +kernel
theorem dX9_scatter_95 : decode cX9_scatter 95 = .ok (.iaload, 1) := by decide +kernel
theorem dX9_scatter_96 : decode cX9_scatter 96 = .ok (.if_icmp .eq 9, 3) := by decide +kernel
theorem dX9_scatter_99 : decode cX9_scatter 99 = .ok (.aload_n 0, 1) := by decide +kernel
theorem dX9_scatter_100 : decode cX9_scatter 100 = .ok (.iconst 4, 1) := by decide +kernel
theorem dX9_scatter_101 : decode cX9_scatter 101 = .ok (.invokevirtual 105, 3) := by decide +kernel
theorem dX9_scatter_104 : decode cX9_scatter 104 = .ok (.ireturn, 1) := by decide +kernel
theorem dX9_scatter_105 : decode cX9_scatter 105 = .ok (.iconst 0, 1) := by decide +kernel
theorem dX9_scatter_106 : decode cX9_scatter 106 = .ok (.istore 6, 2) := by decide +kernel
theorem dX9_scatter_108 : decode cX9_scatter 108 = .ok (.iload 6, 2) := by decide +kernel
theorem dX9_scatter_110 : decode cX9_scatter 110 = .ok (.iload 5, 2) := by decide +kernel
theorem dX9_scatter_112 : decode cX9_scatter 112 = .ok (.if_icmp .ge 42, 3) := by decide +kernel
theorem dX9_scatter_115 : decode cX9_scatter 115 = .ok (.aload_n 0, 1) := by decide +kernel
theorem dX9_scatter_116 : decode cX9_scatter 116 = .ok (.getfield 42, 3) := by decide +kernel
theorem dX9_scatter_119 : decode cX9_scatter 119 = .ok (.iload 6, 2) := by decide +kernel
theorem dX9_scatter_121 : decode cX9_scatter 121 = .ok (.iload 6, 2) := by decide +kernel
theorem dX9_scatter_123 : decode cX9_scatter 123 = .ok (.iastore, 1) := by decide +kernel
theorem dX9_scatter_124 : decode cX9_scatter 124 = .ok (.aload_n 0, 1) := by decide +kernel
theorem dX9_scatter_125 : decode cX9_scatter 125 = .ok (.getfield 45, 3) := by decide +kernel
theorem dX9_scatter_128 : decode cX9_scatter 128 = .ok (.iload 6, 2) := by decide +kernel
theorem dX9_scatter_130 : decode cX9_scatter 130 = .ok (.aload_n 0, 1) := by decide +kernel
theorem dX9_scatter_131 : decode cX9_scatter 131 = .ok (.getfield 22, 3) := by decide +kernel
theorem dX9_scatter_134 : decode cX9_scatter 134 = .ok (.bipush 24, 2) := by decide +kernel
theorem dX9_scatter_136 : decode cX9_scatter 136 = .ok (.aload_n 0, 1) := by decide +kernel
theorem dX9_scatter_137 : decode cX9_scatter 137 = .ok (.iload_n 2, 1) := by decide +kernel
theorem dX9_scatter_138 : decode cX9_scatter 138 = .ok (.invokevirtual 56, 3) := by decide +kernel
theorem dX9_scatter_141 : decode cX9_scatter 141 = .ok (.imul, 1) := by decide +kernel
theorem dX9_scatter_142 : decode cX9_scatter 142 = .ok (.iload 6, 2) := by decide +kernel
theorem dX9_scatter_144 : decode cX9_scatter 144 = .ok (.iadd, 1) := by decide +kernel
theorem dX9_scatter_145 : decode cX9_scatter 145 = .ok (.laload, 1) := by decide +kernel
theorem dX9_scatter_146 : decode cX9_scatter 146 = .ok (.l2i, 1) := by decide +kernel
theorem dX9_scatter_147 : decode cX9_scatter 147 = .ok (.iastore, 1) := by decide +kernel
theorem dX9_scatter_148 : decode cX9_scatter 148 = .ok (.iinc 6 1, 3) := by decide +kernel
theorem dX9_scatter_151 : decode cX9_scatter 151 = .ok (.goto (-43), 3) := by decide +kernel
theorem dX9_scatter_154 : decode cX9_scatter 154 = .ok (.aload_n 0, 1) := by decide +kernel
theorem dX9_scatter_155 : decode cX9_scatter 155 = .ok (.aload_n 0, 1) := by decide +kernel
theorem dX9_scatter_156 : decode cX9_scatter 156 = .ok (.iload_n 1, 1) := by decide +kernel
theorem dX9_scatter_157 : decode cX9_scatter 157 = .ok (.invokevirtual 56, 3) := by decide +kernel
theorem dX9_scatter_160 : decode cX9_scatter 160 = .ok (.aload_n 0, 1) := by decide +kernel
theorem dX9_scatter_161 : decode cX9_scatter 161 = .ok (.iload_n 3, 1) := by decide +kernel
theorem dX9_scatter_162 : decode cX9_scatter 162 = .ok (.invokevirtual 56, 3) := by decide +kernel
theorem dX9_scatter_165 : decode cX9_scatter 165 = .ok (.iload 5, 2) := by decide +kernel
theorem dX9_scatter_167 : decode cX9_scatter 167 = .ok (.invokevirtual 157, 3) := by decide +kernel
theorem dX9_scatter_170 : decode cX9_scatter 170 = .ok (.ireturn, 1) := by decide +kernel
theorem dX9_mergeAll_0 : decode cX9_mergeAll 0 = .ok (.iconst 0, 1) := by decide +kernel
theorem dX9_mergeAll_1 : decode cX9_mergeAll 1 = .ok (.istore_n 3, 1) := by decide +kernel
theorem dX9_mergeAll_2 : decode cX9_mergeAll 2 = .ok (.iconst 0, 1) := by decide +kernel
theorem dX9_mergeAll_3 : decode cX9_mergeAll 3 = .ok (.istore 4, 2) := by decide +kernel
theorem dX9_mergeAll_5 : decode cX9_mergeAll 5 = .ok (.iload_n 3, 1) := by decide +kernel
theorem dX9_mergeAll_6 : decode cX9_mergeAll 6 = .ok (.aload_n 0, 1) := by decide +kernel
theorem dX9_mergeAll_7 : decode cX9_mergeAll 7 = .ok (.getfield 16, 3) := by decide +kernel
theorem dX9_mergeAll_10 : decode cX9_mergeAll 10 = .ok (.iload_n 1, 1) := by decide +kernel
theorem dX9_mergeAll_11 : decode cX9_mergeAll 11 = .ok (.iaload, 1) := by decide +kernel
theorem dX9_mergeAll_12 : decode cX9_mergeAll 12 = .ok (.if_icmp .lt 14, 3) := by decide +kernel
theorem dX9_mergeAll_15 : decode cX9_mergeAll 15 = .ok (.iload 4, 2) := by decide +kernel
theorem dX9_mergeAll_17 : decode cX9_mergeAll 17 = .ok (.aload_n 0, 1) := by decide +kernel
theorem dX9_mergeAll_18 : decode cX9_mergeAll 18 = .ok (.getfield 16, 3) := by decide +kernel
theorem dX9_mergeAll_21 : decode cX9_mergeAll 21 = .ok (.iload_n 2, 1) := by decide +kernel
theorem dX9_mergeAll_22 : decode cX9_mergeAll 22 = .ok (.iaload, 1) := by decide +kernel
theorem dX9_mergeAll_23 : decode cX9_mergeAll 23 = .ok (.if_icmp .ge 177, 3) := by decide +kernel
theorem dX9_mergeAll_26 : decode cX9_mergeAll 26 = .ok (.iload_n 3, 1) := by decide +kernel
theorem dX9_mergeAll_27 : decode cX9_mergeAll 27 = .ok (.aload_n 0, 1) := by decide +kernel
theorem dX9_mergeAll_28 : decode cX9_mergeAll 28 = .ok (.getfield 16, 3) := by decide +kernel
theorem dX9_mergeAll_31 : decode cX9_mergeAll 31 = .ok (.iload_n 1, 1) := by decide +kernel
theorem dX9_mergeAll_32 : decode cX9_mergeAll 32 = .ok (.iaload, 1) := by decide +kernel
theorem dX9_mergeAll_33 : decode cX9_mergeAll 33 = .ok (.if_icmp .ne 7, 3) := by decide +kernel
theorem dX9_mergeAll_36 : decode cX9_mergeAll 36 = .ok (.iconst 1, 1) := by decide +kernel
theorem dX9_mergeAll_37 : decode cX9_mergeAll 37 = .ok (.goto 4, 3) := by decide +kernel
theorem dX9_mergeAll_40 : decode cX9_mergeAll 40 = .ok (.iconst 0, 1) := by decide +kernel
theorem dX9_mergeAll_41 : decode cX9_mergeAll 41 = .ok (.istore 5, 2) := by decide +kernel
theorem dX9_mergeAll_43 : decode cX9_mergeAll 43 = .ok (.iload 5, 2) := by decide +kernel
theorem dX9_mergeAll_45 : decode cX9_mergeAll 45 = .ok (.ifCond .ne 64, 3) := by decide +kernel
theorem dX9_mergeAll_48 : decode cX9_mergeAll 48 = .ok (.iload 4, 2) := by decide +kernel
theorem dX9_mergeAll_50 : decode cX9_mergeAll 50 = .ok (.aload_n 0, 1) := by decide +kernel
theorem dX9_mergeAll_51 : decode cX9_mergeAll 51 = .ok (.getfield 16, 3) := by decide +kernel
theorem dX9_mergeAll_54 : decode cX9_mergeAll 54 = .ok (.iload_n 2, 1) := by decide +kernel
theorem dX9_mergeAll_55 : decode cX9_mergeAll 55 = .ok (.iaload, 1) := by decide +kernel
theorem dX9_mergeAll_56 : decode cX9_mergeAll 56 = .ok (.if_icmp .ge 53, 3) := by decide +kernel
theorem dX9_mergeAll_59 : decode cX9_mergeAll 59 = .ok (.aload_n 0, 1) := by decide +kernel
theorem dX9_mergeAll_60 : decode cX9_mergeAll 60 = .ok (.iload_n 2, 1) := by decide +kernel
theorem dX9_mergeAll_61 : decode cX9_mergeAll 61 = .ok (.iload 4, 2) := by decide +kernel
theorem dX9_mergeAll_63 : decode cX9_mergeAll 63 = .ok (.invokevirtual 143, 3) := by decide +kernel
theorem dX9_mergeAll_66 : decode cX9_mergeAll 66 = .ok (.aload_n 0, 1) := by decide +kernel
theorem dX9_mergeAll_67 : decode cX9_mergeAll 67 = .ok (.aload_n 0, 1) := by decide +kernel
theorem dX9_mergeAll_68 : decode cX9_mergeAll 68 = .ok (.getfield 13, 3) := by decide +kernel
theorem dX9_mergeAll_71 : decode cX9_mergeAll 71 = .ok (.iload_n 1, 1) := by decide +kernel
theorem dX9_mergeAll_72 : decode cX9_mergeAll 72 = .ok (.iaload, 1) := by decide +kernel
theorem dX9_mergeAll_73 : decode cX9_mergeAll 73 = .ok (.aload_n 0, 1) := by decide +kernel
theorem dX9_mergeAll_74 : decode cX9_mergeAll 74 = .ok (.getfield 22, 3) := by decide +kernel
theorem dX9_mergeAll_77 : decode cX9_mergeAll 77 = .ok (.bipush 24, 2) := by decide +kernel
theorem dX9_mergeAll_79 : decode cX9_mergeAll 79 = .ok (.iload_n 1, 1) := by decide +kernel
theorem dX9_mergeAll_80 : decode cX9_mergeAll 80 = .ok (.imul, 1) := by decide +kernel
theorem dX9_mergeAll_81 : decode cX9_mergeAll 81 = .ok (.iload_n 3, 1) := by decide +kernel
theorem dX9_mergeAll_82 : decode cX9_mergeAll 82 = .ok (.iadd, 1) := by decide +kernel
theorem dX9_mergeAll_83 : decode cX9_mergeAll 83 = .ok (.laload, 1) := by decide +kernel
theorem dX9_mergeAll_84 : decode cX9_mergeAll 84 = .ok (.aload_n 0, 1) := by decide +kernel
theorem dX9_mergeAll_85 : decode cX9_mergeAll 85 = .ok (.getfield 26, 3) := by decide +kernel
theorem dX9_mergeAll_88 : decode cX9_mergeAll 88 = .ok (.bipush 24, 2) := by decide +kernel
theorem dX9_mergeAll_90 : decode cX9_mergeAll 90 = .ok (.iload_n 1, 1) := by decide +kernel
theorem dX9_mergeAll_91 : decode cX9_mergeAll 91 = .ok (.imul, 1) := by decide +kernel
theorem dX9_mergeAll_92 : decode cX9_mergeAll 92 = .ok (.iload_n 3, 1) := by decide +kernel
theorem dX9_mergeAll_93 : decode cX9_mergeAll 93 = .ok (.iadd, 1) := by decide +kernel
theorem dX9_mergeAll_94 : decode cX9_mergeAll 94 = .ok (.daload, 1) := by decide +kernel
theorem dX9_mergeAll_95 : decode cX9_mergeAll 95 = .ok (.invokevirtual 163, 3) := by decide +kernel
theorem dX9_mergeAll_98 : decode cX9_mergeAll 98 = .ok (.iconst (-1), 1) := by decide +kernel
theorem dX9_mergeAll_99 : decode cX9_mergeAll 99 = .ok (.if_icmp .ne 7, 3) := by decide +kernel
theorem dX9_mergeAll_102 : decode cX9_mergeAll 102 = .ok (.iconst 1, 1) := by decide +kernel
theorem dX9_mergeAll_103 : decode cX9_mergeAll 103 = .ok (.goto 4, 3) := by decide +kernel
theorem dX9_mergeAll_106 : decode cX9_mergeAll 106 = .ok (.iconst 0, 1) := by decide +kernel
theorem dX9_mergeAll_107 : decode cX9_mergeAll 107 = .ok (.istore 5, 2) := by decide +kernel
theorem dX9_mergeAll_109 : decode cX9_mergeAll 109 = .ok (.iload 5, 2) := by decide +kernel
theorem dX9_mergeAll_111 : decode cX9_mergeAll 111 = .ok (.ifCond .eq 13, 3) := by decide +kernel
theorem dX9_mergeAll_114 : decode cX9_mergeAll 114 = .ok (.aload_n 0, 1) := by decide +kernel
theorem dX9_mergeAll_115 : decode cX9_mergeAll 115 = .ok (.iload_n 2, 1) := by decide +kernel
theorem dX9_mergeAll_116 : decode cX9_mergeAll 116 = .ok (.iload 4, 2) := by decide +kernel
theorem dX9_mergeAll_118 : decode cX9_mergeAll 118 = .ok (.invokevirtual 143, 3) := by decide +kernel
theorem dX9_mergeAll_121 : decode cX9_mergeAll 121 = .ok (.goto 9, 3) := by decide +kernel
theorem dX9_mergeAll_124 : decode cX9_mergeAll 124 = .ok (.aload_n 0, 1) := by decide +kernel
theorem dX9_mergeAll_125 : decode cX9_mergeAll 125 = .ok (.iload_n 1, 1) := by decide +kernel
theorem dX9_mergeAll_126 : decode cX9_mergeAll 126 = .ok (.iload_n 3, 1) := by decide +kernel
theorem dX9_mergeAll_127 : decode cX9_mergeAll 127 = .ok (.invokevirtual 143, 3) := by decide +kernel
theorem dX9_mergeAll_130 : decode cX9_mergeAll 130 = .ok (.aload_n 0, 1) := by decide +kernel
theorem dX9_mergeAll_131 : decode cX9_mergeAll 131 = .ok (.getfield 33, 3) := by decide +kernel
theorem dX9_mergeAll_134 : decode cX9_mergeAll 134 = .ok (.iload_n 3, 1) := by decide +kernel
theorem dX9_mergeAll_135 : decode cX9_mergeAll 135 = .ok (.iload 4, 2) := by decide +kernel
theorem dX9_mergeAll_137 : decode cX9_mergeAll 137 = .ok (.iadd, 1) := by decide +kernel
theorem dX9_mergeAll_138 : decode cX9_mergeAll 138 = .ok (.aload_n 0, 1) := by decide +kernel
theorem dX9_mergeAll_139 : decode cX9_mergeAll 139 = .ok (.getfield 66, 3) := by decide +kernel
theorem dX9_mergeAll_142 : decode cX9_mergeAll 142 = .ok (.iastore, 1) := by decide +kernel
theorem dX9_mergeAll_143 : decode cX9_mergeAll 143 = .ok (.aload_n 0, 1) := by decide +kernel
theorem dX9_mergeAll_144 : decode cX9_mergeAll 144 = .ok (.getfield 36, 3) := by decide +kernel
theorem dX9_mergeAll_147 : decode cX9_mergeAll 147 = .ok (.iload_n 3, 1) := by decide +kernel
theorem dX9_mergeAll_148 : decode cX9_mergeAll 148 = .ok (.iload 4, 2) := by decide +kernel
theorem dX9_mergeAll_150 : decode cX9_mergeAll 150 = .ok (.iadd, 1) := by decide +kernel
theorem dX9_mergeAll_151 : decode cX9_mergeAll 151 = .ok (.aload_n 0, 1) := by decide +kernel
theorem dX9_mergeAll_152 : decode cX9_mergeAll 152 = .ok (.getfield 69, 3) := by decide +kernel
theorem dX9_mergeAll_155 : decode cX9_mergeAll 155 = .ok (.lastore, 1) := by decide +kernel
theorem dX9_mergeAll_156 : decode cX9_mergeAll 156 = .ok (.aload_n 0, 1) := by decide +kernel
theorem dX9_mergeAll_157 : decode cX9_mergeAll 157 = .ok (.getfield 39, 3) := by decide +kernel
theorem dX9_mergeAll_160 : decode cX9_mergeAll 160 = .ok (.iload_n 3, 1) := by decide +kernel
theorem dX9_mergeAll_161 : decode cX9_mergeAll 161 = .ok (.iload 4, 2) := by decide +kernel
theorem dX9_mergeAll_163 : decode cX9_mergeAll 163 = .ok (.iadd, 1) := by decide +kernel
theorem dX9_mergeAll_164 : decode cX9_mergeAll 164 = .ok (.aload_n 0, 1) := by decide +kernel
theorem dX9_mergeAll_165 : decode cX9_mergeAll 165 = .ok (.getfield 73, 3) := by decide +kernel
theorem dX9_mergeAll_168 : decode cX9_mergeAll 168 = .ok (.dastore, 1) := by decide +kernel
theorem dX9_mergeAll_169 : decode cX9_mergeAll 169 = .ok (.iload_n 3, 1) := by decide +kernel
theorem dX9_mergeAll_170 : decode cX9_mergeAll 170 = .ok (.iload 5, 2) := by decide +kernel
theorem dX9_mergeAll_172 : decode cX9_mergeAll 172 = .ok (.ifCond .eq 7, 3) := by decide +kernel
theorem dX9_mergeAll_175 : decode cX9_mergeAll 175 = .ok (.iconst 0, 1) := by decide +kernel
theorem dX9_mergeAll_176 : decode cX9_mergeAll 176 = .ok (.goto 4, 3) := by decide +kernel
theorem dX9_mergeAll_179 : decode cX9_mergeAll 179 = .ok (.iconst 1, 1) := by decide +kernel
theorem dX9_mergeAll_180 : decode cX9_mergeAll 180 = .ok (.iadd, 1) := by decide +kernel
theorem dX9_mergeAll_181 : decode cX9_mergeAll 181 = .ok (.istore_n 3, 1) := by decide +kernel
theorem dX9_mergeAll_182 : decode cX9_mergeAll 182 = .ok (.iload 4, 2) := by decide +kernel
theorem dX9_mergeAll_184 : decode cX9_mergeAll 184 = .ok (.iload 5, 2) := by decide +kernel
theorem dX9_mergeAll_186 : decode cX9_mergeAll 186 = .ok (.ifCond .eq 7, 3) := by decide +kernel
theorem dX9_mergeAll_189 : decode cX9_mergeAll 189 = .ok (.iconst 1, 1) := by decide +kernel
theorem dX9_mergeAll_190 : decode cX9_mergeAll 190 = .ok (.goto 4, 3) := by decide +kernel
theorem dX9_mergeAll_193 : decode cX9_mergeAll 193 = .ok (.iconst 0, 1) := by decide +kernel
theorem dX9_mergeAll_194 : decode cX9_mergeAll 194 = .ok (.iadd, 1) := by decide +kernel
theorem dX9_mergeAll_195 : decode cX9_mergeAll 195 = .ok (.istore 4, 2) := by decide +kernel
theorem dX9_mergeAll_197 : decode cX9_mergeAll 197 = .ok (.goto (-192), 3) := by decide +kernel
theorem dX9_mergeAll_200 : decode cX9_mergeAll 200 = .ok (.return_, 1) := by decide +kernel
theorem dX9_merge_0 : decode cX9_merge 0 = .ok (.aload_n 0, 1) := by decide +kernel
theorem dX9_merge_1 : decode cX9_merge 1 = .ok (.iconst 0, 1) := by decide +kernel
theorem dX9_merge_2 : decode cX9_merge 2 = .ok (.putfield 48, 3) := by decide +kernel
theorem dX9_merge_5 : decode cX9_merge 5 = .ok (.iload_n 1, 1) := by decide +kernel
theorem dX9_merge_6 : decode cX9_merge 6 = .ok (.invokestatic 102, 3) := by decide +kernel
theorem dX9_merge_9 : decode cX9_merge 9 = .ok (.ifCond .eq 17, 3) := by decide +kernel
theorem dX9_merge_12 : decode cX9_merge 12 = .ok (.iload_n 2, 1) := by decide +kernel
theorem dX9_merge_13 : decode cX9_merge 13 = .ok (.invokestatic 102, 3) := by decide +kernel
theorem dX9_merge_16 : decode cX9_merge 16 = .ok (.ifCond .eq 10, 3) := by decide +kernel
theorem dX9_merge_19 : decode cX9_merge 19 = .ok (.iload_n 3, 1) := by decide +kernel
theorem dX9_merge_20 : decode cX9_merge 20 = .ok (.invokestatic 102, 3) := by decide +kernel
theorem dX9_merge_23 : decode cX9_merge 23 = .ok (.ifCond .ne 9, 3) := by decide +kernel
theorem dX9_merge_26 : decode cX9_merge 26 = .ok (.aload_n 0, 1) := by decide +kernel
theorem dX9_merge_27 : decode cX9_merge 27 = .ok (.iconst 1, 1) := by decide +kernel
theorem dX9_merge_28 : decode cX9_merge 28 = .ok (.invokevirtual 105, 3) := by decide +kernel
theorem dX9_merge_31 : decode cX9_merge 31 = .ok (.ireturn, 1) := by decide +kernel
theorem dX9_merge_32 : decode cX9_merge 32 = .ok (.aload_n 0, 1) := by decide +kernel
theorem dX9_merge_33 : decode cX9_merge 33 = .ok (.iload_n 1, 1) := by decide +kernel
theorem dX9_merge_34 : decode cX9_merge 34 = .ok (.iload_n 2, 1) := by decide +kernel
theorem dX9_merge_35 : decode cX9_merge 35 = .ok (.iload_n 3, 1) := by decide +kernel
theorem dX9_merge_36 : decode cX9_merge 36 = .ok (.invokevirtual 154, 3) := by decide +kernel
theorem dX9_merge_39 : decode cX9_merge 39 = .ok (.istore 4, 2) := by decide +kernel
theorem dX9_merge_41 : decode cX9_merge 41 = .ok (.iload 4, 2) := by decide +kernel
theorem dX9_merge_43 : decode cX9_merge 43 = .ok (.ifCond .le 10, 3) := by decide +kernel
theorem dX9_merge_46 : decode cX9_merge 46 = .ok (.aload_n 0, 1) := by decide +kernel
theorem dX9_merge_47 : decode cX9_merge 47 = .ok (.iload 4, 2) := by decide +kernel
theorem dX9_merge_49 : decode cX9_merge 49 = .ok (.invokevirtual 105, 3) := by decide +kernel
theorem dX9_merge_52 : decode cX9_merge 52 = .ok (.ireturn, 1) := by decide +kernel
theorem dX9_merge_53 : decode cX9_merge 53 = .ok (.aload_n 0, 1) := by decide +kernel
theorem dX9_merge_54 : decode cX9_merge 54 = .ok (.iload_n 1, 1) := by decide +kernel
theorem dX9_merge_55 : decode cX9_merge 55 = .ok (.invokevirtual 56, 3) := by decide +kernel
theorem dX9_merge_58 : decode cX9_merge 58 = .ok (.istore 5, 2) := by decide +kernel
theorem dX9_merge_60 : decode cX9_merge 60 = .ok (.aload_n 0, 1) := by decide +kernel
theorem dX9_merge_61 : decode cX9_merge 61 = .ok (.iload_n 2, 1) := by decide +kernel
theorem dX9_merge_62 : decode cX9_merge 62 = .ok (.invokevirtual 56, 3) := by decide +kernel
theorem dX9_merge_65 : decode cX9_merge 65 = .ok (.istore 6, 2) := by decide +kernel
theorem dX9_merge_67 : decode cX9_merge 67 = .ok (.aload_n 0, 1) := by decide +kernel
theorem dX9_merge_68 : decode cX9_merge 68 = .ok (.iload_n 3, 1) := by decide +kernel
theorem dX9_merge_69 : decode cX9_merge 69 = .ok (.invokevirtual 56, 3) := by decide +kernel
theorem dX9_merge_72 : decode cX9_merge 72 = .ok (.istore 7, 2) := by decide +kernel
theorem dX9_merge_74 : decode cX9_merge 74 = .ok (.aload_n 0, 1) := by decide +kernel
theorem dX9_merge_75 : decode cX9_merge 75 = .ok (.iload 5, 2) := by decide +kernel
theorem dX9_merge_77 : decode cX9_merge 77 = .ok (.invokevirtual 91, 3) := by decide +kernel
theorem dX9_merge_80 : decode cX9_merge 80 = .ok (.ifCond .eq 54, 3) := by decide +kernel
theorem dX9_merge_83 : decode cX9_merge 83 = .ok (.aload_n 0, 1) := by decide +kernel
theorem dX9_merge_84 : decode cX9_merge 84 = .ok (.iload 6, 2) := by decide +kernel
theorem dX9_merge_86 : decode cX9_merge 86 = .ok (.invokevirtual 91, 3) := by decide +kernel
theorem dX9_merge_89 : decode cX9_merge 89 = .ok (.ifCond .eq 45, 3) := by decide +kernel
theorem dX9_merge_92 : decode cX9_merge 92 = .ok (.aload_n 0, 1) := by decide +kernel
theorem dX9_merge_93 : decode cX9_merge 93 = .ok (.iload 7, 2) := by decide +kernel
theorem dX9_merge_95 : decode cX9_merge 95 = .ok (.invokevirtual 91, 3) := by decide +kernel
theorem dX9_merge_98 : decode cX9_merge 98 = .ok (.ifCond .eq 36, 3) := by decide +kernel
theorem dX9_merge_101 : decode cX9_merge 101 = .ok (.aload_n 0, 1) := by decide +kernel
theorem dX9_merge_102 : decode cX9_merge 102 = .ok (.getfield 13, 3) := by decide +kernel
theorem dX9_merge_105 : decode cX9_merge 105 = .ok (.iload 5, 2) := by decide +kernel
theorem dX9_merge_107 : decode cX9_merge 107 = .ok (.iaload, 1) := by decide +kernel
theorem dX9_merge_108 : decode cX9_merge 108 = .ok (.ifCond .ne 7, 3) := by decide +kernel
theorem dX9_merge_111 : decode cX9_merge 111 = .ok (.iconst 1, 1) := by decide +kernel
theorem dX9_merge_112 : decode cX9_merge 112 = .ok (.goto 4, 3) := by decide +kernel
theorem dX9_merge_115 : decode cX9_merge 115 = .ok (.iconst 0, 1) := by decide +kernel
theorem dX9_merge_116 : decode cX9_merge 116 = .ok (.aload_n 0, 1) := by decide +kernel
theorem dX9_merge_117 : decode cX9_merge 117 = .ok (.getfield 13, 3) := by decide +kernel
theorem dX9_merge_120 : decode cX9_merge 120 = .ok (.iload 6, 2) := by decide +kernel
theorem dX9_merge_122 : decode cX9_merge 122 = .ok (.iaload, 1) := by decide +kernel
theorem dX9_merge_123 : decode cX9_merge 123 = .ok (.ifCond .ne 7, 3) := by decide +kernel
theorem dX9_merge_126 : decode cX9_merge 126 = .ok (.iconst 1, 1) := by decide +kernel
theorem dX9_merge_127 : decode cX9_merge 127 = .ok (.goto 4, 3) := by decide +kernel
theorem dX9_merge_130 : decode cX9_merge 130 = .ok (.iconst 0, 1) := by decide +kernel
theorem dX9_merge_131 : decode cX9_merge 131 = .ok (.if_icmp .eq 10, 3) := by decide +kernel
theorem dX9_merge_134 : decode cX9_merge 134 = .ok (.aload_n 0, 1) := by decide +kernel
theorem dX9_merge_135 : decode cX9_merge 135 = .ok (.bipush 6, 2) := by decide +kernel
theorem dX9_merge_137 : decode cX9_merge 137 = .ok (.invokevirtual 105, 3) := by decide +kernel
theorem dX9_merge_140 : decode cX9_merge 140 = .ok (.ireturn, 1) := by decide +kernel
theorem dX9_merge_141 : decode cX9_merge 141 = .ok (.aload_n 0, 1) := by decide +kernel
theorem dX9_merge_142 : decode cX9_merge 142 = .ok (.getfield 16, 3) := by decide +kernel
theorem dX9_merge_145 : decode cX9_merge 145 = .ok (.iload 7, 2) := by decide +kernel
theorem dX9_merge_147 : decode cX9_merge 147 = .ok (.iaload, 1) := by decide +kernel
theorem dX9_merge_148 : decode cX9_merge 148 = .ok (.istore 8, 2) := by decide +kernel
theorem dX9_merge_150 : decode cX9_merge 150 = .ok (.iload 8, 2) := by decide +kernel
theorem dX9_merge_152 : decode cX9_merge 152 = .ok (.aload_n 0, 1) := by decide +kernel
theorem dX9_merge_153 : decode cX9_merge 153 = .ok (.getfield 16, 3) := by decide +kernel
theorem dX9_merge_156 : decode cX9_merge 156 = .ok (.iload 5, 2) := by decide +kernel
theorem dX9_merge_158 : decode cX9_merge 158 = .ok (.iaload, 1) := by decide +kernel
theorem dX9_merge_159 : decode cX9_merge 159 = .ok (.aload_n 0, 1) := by decide +kernel
theorem dX9_merge_160 : decode cX9_merge 160 = .ok (.getfield 16, 3) := by decide +kernel
theorem dX9_merge_163 : decode cX9_merge 163 = .ok (.iload 6, 2) := by decide +kernel
theorem dX9_merge_165 : decode cX9_merge 165 = .ok (.iaload, 1) := by decide +kernel
theorem dX9_merge_166 : decode cX9_merge 166 = .ok (.iadd, 1) := by decide +kernel
theorem dX9_merge_167 : decode cX9_merge 167 = .ok (.if_icmp .eq 9, 3) := by decide +kernel
theorem dX9_merge_170 : decode cX9_merge 170 = .ok (.aload_n 0, 1) := by decide +kernel
theorem dX9_merge_171 : decode cX9_merge 171 = .ok (.iconst 4, 1) := by decide +kernel
theorem dX9_merge_172 : decode cX9_merge 172 = .ok (.invokevirtual 105, 3) := by decide +kernel
theorem dX9_merge_175 : decode cX9_merge 175 = .ok (.ireturn, 1) := by decide +kernel
theorem dX9_merge_176 : decode cX9_merge 176 = .ok (.aload_n 0, 1) := by decide +kernel
theorem dX9_merge_177 : decode cX9_merge 177 = .ok (.iload 5, 2) := by decide +kernel
theorem dX9_merge_179 : decode cX9_merge 179 = .ok (.iload 6, 2) := by decide +kernel
theorem dX9_merge_181 : decode cX9_merge 181 = .ok (.invokevirtual 167, 3) := by decide +kernel
theorem dX9_merge_184 : decode cX9_merge 184 = .ok (.iconst 0, 1) := by decide +kernel
theorem dX9_merge_185 : decode cX9_merge 185 = .ok (.istore 9, 2) := by decide +kernel
theorem dX9_merge_187 : decode cX9_merge 187 = .ok (.iload 9, 2) := by decide +kernel
theorem dX9_merge_189 : decode cX9_merge 189 = .ok (.iload 8, 2) := by decide +kernel
theorem dX9_merge_191 : decode cX9_merge 191 = .ok (.if_icmp .ge 36, 3) := by decide +kernel
theorem dX9_merge_194 : decode cX9_merge 194 = .ok (.aload_n 0, 1) := by decide +kernel
theorem dX9_merge_195 : decode cX9_merge 195 = .ok (.aload_n 0, 1) := by decide +kernel
theorem dX9_merge_196 : decode cX9_merge 196 = .ok (.getfield 33, 3) := by decide +kernel
theorem dX9_merge_199 : decode cX9_merge 199 = .ok (.iload 9, 2) := by decide +kernel
theorem dX9_merge_201 : decode cX9_merge 201 = .ok (.iaload, 1) := by decide +kernel
theorem dX9_merge_202 : decode cX9_merge 202 = .ok (.aload_n 0, 1) := by decide +kernel
theorem dX9_merge_203 : decode cX9_merge 203 = .ok (.getfield 13, 3) := by decide +kernel
theorem dX9_merge_206 : decode cX9_merge 206 = .ok (.iload 7, 2) := by decide +kernel
theorem dX9_merge_208 : decode cX9_merge 208 = .ok (.iaload, 1) := by decide +kernel
theorem dX9_merge_209 : decode cX9_merge 209 = .ok (.invokevirtual 94, 3) := by decide +kernel
theorem dX9_merge_212 : decode cX9_merge 212 = .ok (.ifCond .ne 9, 3) := by decide +kernel
theorem dX9_merge_215 : decode cX9_merge 215 = .ok (.aload_n 0, 1) := by decide +kernel
theorem dX9_merge_216 : decode cX9_merge 216 = .ok (.iconst 5, 1) := by decide +kernel
theorem dX9_merge_217 : decode cX9_merge 217 = .ok (.invokevirtual 105, 3) := by decide +kernel
theorem dX9_merge_220 : decode cX9_merge 220 = .ok (.ireturn, 1) := by decide +kernel
theorem dX9_merge_221 : decode cX9_merge 221 = .ok (.iinc 9 1, 3) := by decide +kernel
theorem dX9_merge_224 : decode cX9_merge 224 = .ok (.goto (-37), 3) := by decide +kernel
theorem dX9_merge_227 : decode cX9_merge 227 = .ok (.iconst 0, 1) := by decide +kernel
theorem dX9_merge_228 : decode cX9_merge 228 = .ok (.istore 9, 2) := by decide +kernel
theorem dX9_merge_230 : decode cX9_merge 230 = .ok (.iload 9, 2) := by decide +kernel
theorem dX9_merge_232 : decode cX9_merge 232 = .ok (.iload 8, 2) := by decide +kernel
theorem dX9_merge_234 : decode cX9_merge 234 = .ok (.if_icmp .ge 61, 3) := by decide +kernel
theorem dX9_merge_237 : decode cX9_merge 237 = .ok (.aload_n 0, 1) := by decide +kernel
theorem dX9_merge_238 : decode cX9_merge 238 = .ok (.aload_n 0, 1) := by decide +kernel
theorem dX9_merge_239 : decode cX9_merge 239 = .ok (.getfield 33, 3) := by decide +kernel
theorem dX9_merge_242 : decode cX9_merge 242 = .ok (.iload 9, 2) := by decide +kernel
theorem dX9_merge_244 : decode cX9_merge 244 = .ok (.iaload, 1) := by decide +kernel
theorem dX9_merge_245 : decode cX9_merge 245 = .ok (.putfield 66, 3) := by decide +kernel
theorem dX9_merge_248 : decode cX9_merge 248 = .ok (.aload_n 0, 1) := by decide +kernel
theorem dX9_merge_249 : decode cX9_merge 249 = .ok (.aload_n 0, 1) := by decide +kernel
theorem dX9_merge_250 : decode cX9_merge 250 = .ok (.getfield 36, 3) := by decide +kernel
theorem dX9_merge_253 : decode cX9_merge 253 = .ok (.iload 9, 2) := by decide +kernel
theorem dX9_merge_255 : decode cX9_merge 255 = .ok (.laload, 1) := by decide +kernel
theorem dX9_merge_256 : decode cX9_merge 256 = .ok (.putfield 69, 3) := by decide +kernel
theorem dX9_merge_259 : decode cX9_merge 259 = .ok (.aload_n 0, 1) := by decide +kernel
theorem dX9_merge_260 : decode cX9_merge 260 = .ok (.aload_n 0, 1) := by decide +kernel
theorem dX9_merge_261 : decode cX9_merge 261 = .ok (.getfield 39, 3) := by decide +kernel
theorem dX9_merge_264 : decode cX9_merge 264 = .ok (.iload 9, 2) := by decide +kernel
theorem dX9_merge_266 : decode cX9_merge 266 = .ok (.daload, 1) := by decide +kernel
theorem dX9_merge_267 : decode cX9_merge 267 = .ok (.putfield 73, 3) := by decide +kernel
theorem dX9_merge_270 : decode cX9_merge 270 = .ok (.aload_n 0, 1) := by decide +kernel
theorem dX9_merge_271 : decode cX9_merge 271 = .ok (.aload_n 0, 1) := by decide +kernel
theorem dX9_merge_272 : decode cX9_merge 272 = .ok (.getfield 13, 3) := by decide +kernel
theorem dX9_merge_275 : decode cX9_merge 275 = .ok (.iload 7, 2) := by decide +kernel
theorem dX9_merge_277 : decode cX9_merge 277 = .ok (.iaload, 1) := by decide +kernel
theorem dX9_merge_278 : decode cX9_merge 278 = .ok (.invokevirtual 131, 3) := by decide +kernel
theorem dX9_merge_281 : decode cX9_merge 281 = .ok (.aload_n 0, 1) := by decide +kernel
theorem dX9_merge_282 : decode cX9_merge 282 = .ok (.iload 7, 2) := by decide +kernel
theorem dX9_merge_284 : decode cX9_merge 284 = .ok (.iload 9, 2) := by decide +kernel
theorem dX9_merge_286 : decode cX9_merge 286 = .ok (.invokevirtual 135, 3) := by decide +kernel
theorem dX9_merge_289 : decode cX9_merge 289 = .ok (.iinc 9 1, 3) := by decide +kernel
theorem dX9_merge_292 : decode cX9_merge 292 = .ok (.goto (-62), 3) := by decide +kernel
theorem dX9_merge_295 : decode cX9_merge 295 = .ok (.iload 8, 2) := by decide +kernel
theorem dX9_merge_297 : decode cX9_merge 297 = .ok (.ireturn, 1) := by decide +kernel
theorem dX9_rankOf_0 : decode cX9_rankOf 0 = .ok (.lload_n 1, 1) := by decide +kernel
theorem dX9_rankOf_1 : decode cX9_rankOf 1 = .ok (.lconst 0, 1) := by decide +kernel
theorem dX9_rankOf_2 : decode cX9_rankOf 2 = .ok (.lcmp, 1) := by decide +kernel
theorem dX9_rankOf_3 : decode cX9_rankOf 3 = .ok (.ifCond .ne 7, 3) := by decide +kernel
theorem dX9_rankOf_6 : decode cX9_rankOf 6 = .ok (.ldc2_w 170, 3) := by decide +kernel
theorem dX9_rankOf_9 : decode cX9_rankOf 9 = .ok (.lreturn, 1) := by decide +kernel
theorem dX9_rankOf_10 : decode cX9_rankOf 10 = .ok (.lload_n 1, 1) := by decide +kernel
theorem dX9_rankOf_11 : decode cX9_rankOf 11 = .ok (.l2i, 1) := by decide +kernel
theorem dX9_rankOf_12 : decode cX9_rankOf 12 = .ok (.iconst 1, 1) := by decide +kernel
theorem dX9_rankOf_13 : decode cX9_rankOf 13 = .ok (.isub, 1) := by decide +kernel
theorem dX9_rankOf_14 : decode cX9_rankOf 14 = .ok (.istore_n 3, 1) := by decide +kernel
theorem dX9_rankOf_15 : decode cX9_rankOf 15 = .ok (.aload_n 0, 1) := by decide +kernel
theorem dX9_rankOf_16 : decode cX9_rankOf 16 = .ok (.iload_n 3, 1) := by decide +kernel
theorem dX9_rankOf_17 : decode cX9_rankOf 17 = .ok (.invokevirtual 60, 3) := by decide +kernel
theorem dX9_rankOf_20 : decode cX9_rankOf 20 = .ok (.ifCond .eq 13, 3) := by decide +kernel
theorem dX9_rankOf_23 : decode cX9_rankOf 23 = .ok (.aload_n 0, 1) := by decide +kernel
theorem dX9_rankOf_24 : decode cX9_rankOf 24 = .ok (.getfield 16, 3) := by decide +kernel
theorem dX9_rankOf_27 : decode cX9_rankOf 27 = .ok (.iload_n 3, 1) := by decide +kernel
theorem dX9_rankOf_28 : decode cX9_rankOf 28 = .ok (.iaload, 1) := by decide +kernel
theorem dX9_rankOf_29 : decode cX9_rankOf 29 = .ok (.i2l, 1) := by decide +kernel
theorem dX9_rankOf_30 : decode cX9_rankOf 30 = .ok (.goto 10, 3) := by decide +kernel
theorem dX9_rankOf_33 : decode cX9_rankOf 33 = .ok (.aload_n 0, 1) := by decide +kernel
theorem dX9_rankOf_34 : decode cX9_rankOf 34 = .ok (.getfield 19, 3) := by decide +kernel
theorem dX9_rankOf_37 : decode cX9_rankOf 37 = .ok (.iload_n 3, 1) := by decide +kernel
theorem dX9_rankOf_38 : decode cX9_rankOf 38 = .ok (.iaload, 1) := by decide +kernel
theorem dX9_rankOf_39 : decode cX9_rankOf 39 = .ok (.i2l, 1) := by decide +kernel
theorem dX9_rankOf_40 : decode cX9_rankOf 40 = .ok (.lreturn, 1) := by decide +kernel
theorem dX9_isBefore_0 : decode cX9_isBefore 0 = .ok (.aload_n 0, 1) := by decide +kernel
theorem dX9_isBefore_1 : decode cX9_isBefore 1 = .ok (.iload_n 1, 1) := by decide +kernel
theorem dX9_isBefore_2 : decode cX9_isBefore 2 = .ok (.invokevirtual 91, 3) := by decide +kernel
theorem dX9_isBefore_5 : decode cX9_isBefore 5 = .ok (.ifCond .ne 43, 3) := by decide +kernel
theorem dX9_isBefore_8 : decode cX9_isBefore 8 = .ok (.aload_n 0, 1) := by decide +kernel
theorem dX9_isBefore_9 : decode cX9_isBefore 9 = .ok (.aload_n 0, 1) := by decide +kernel
theorem dX9_isBefore_10 : decode cX9_isBefore 10 = .ok (.getfield 22, 3) := by decide +kernel
theorem dX9_isBefore_13 : decode cX9_isBefore 13 = .ok (.bipush 24, 2) := by decide +kernel
theorem dX9_isBefore_15 : decode cX9_isBefore 15 = .ok (.iload_n 1, 1) := by decide +kernel
theorem dX9_isBefore_16 : decode cX9_isBefore 16 = .ok (.imul, 1) := by decide +kernel
theorem dX9_isBefore_17 : decode cX9_isBefore 17 = .ok (.iload_n 2, 1) := by decide +kernel
theorem dX9_isBefore_18 : decode cX9_isBefore 18 = .ok (.iadd, 1) := by decide +kernel
theorem dX9_isBefore_19 : decode cX9_isBefore 19 = .ok (.laload, 1) := by decide +kernel
theorem dX9_isBefore_20 : decode cX9_isBefore 20 = .ok (.invokevirtual 172, 3) := by decide +kernel
theorem dX9_isBefore_23 : decode cX9_isBefore 23 = .ok (.aload_n 0, 1) := by decide +kernel
theorem dX9_isBefore_24 : decode cX9_isBefore 24 = .ok (.aload_n 0, 1) := by decide +kernel
theorem dX9_isBefore_25 : decode cX9_isBefore 25 = .ok (.getfield 22, 3) := by decide +kernel
theorem dX9_isBefore_28 : decode cX9_isBefore 28 = .ok (.bipush 24, 2) := by decide +kernel
theorem dX9_isBefore_30 : decode cX9_isBefore 30 = .ok (.iload_n 1, 1) := by decide +kernel
theorem dX9_isBefore_31 : decode cX9_isBefore 31 = .ok (.imul, 1) := by decide +kernel
theorem dX9_isBefore_32 : decode cX9_isBefore 32 = .ok (.iload_n 3, 1) := by decide +kernel
theorem dX9_isBefore_33 : decode cX9_isBefore 33 = .ok (.iadd, 1) := by decide +kernel
theorem dX9_isBefore_34 : decode cX9_isBefore 34 = .ok (.laload, 1) := by decide +kernel
theorem dX9_isBefore_35 : decode cX9_isBefore 35 = .ok (.invokevirtual 172, 3) := by decide +kernel
theorem dX9_isBefore_38 : decode cX9_isBefore 38 = .ok (.lcmp, 1) := by decide +kernel
theorem dX9_isBefore_39 : decode cX9_isBefore 39 = .ok (.ifCond .ge 7, 3) := by decide +kernel
theorem dX9_isBefore_42 : decode cX9_isBefore 42 = .ok (.iconst 1, 1) := by decide +kernel
theorem dX9_isBefore_43 : decode cX9_isBefore 43 = .ok (.goto 4, 3) := by decide +kernel
theorem dX9_isBefore_46 : decode cX9_isBefore 46 = .ok (.iconst 0, 1) := by decide +kernel
theorem dX9_isBefore_47 : decode cX9_isBefore 47 = .ok (.ireturn, 1) := by decide +kernel
theorem dX9_isBefore_48 : decode cX9_isBefore 48 = .ok (.aload_n 0, 1) := by decide +kernel
theorem dX9_isBefore_49 : decode cX9_isBefore 49 = .ok (.iload_n 1, 1) := by decide +kernel
theorem dX9_isBefore_50 : decode cX9_isBefore 50 = .ok (.iload_n 2, 1) := by decide +kernel
theorem dX9_isBefore_51 : decode cX9_isBefore 51 = .ok (.invokevirtual 143, 3) := by decide +kernel
theorem dX9_isBefore_54 : decode cX9_isBefore 54 = .ok (.aload_n 0, 1) := by decide +kernel
theorem dX9_isBefore_55 : decode cX9_isBefore 55 = .ok (.aload_n 0, 1) := by decide +kernel
theorem dX9_isBefore_56 : decode cX9_isBefore 56 = .ok (.getfield 13, 3) := by decide +kernel
theorem dX9_isBefore_59 : decode cX9_isBefore 59 = .ok (.iload_n 1, 1) := by decide +kernel
theorem dX9_isBefore_60 : decode cX9_isBefore 60 = .ok (.iaload, 1) := by decide +kernel
theorem dX9_isBefore_61 : decode cX9_isBefore 61 = .ok (.aload_n 0, 1) := by decide +kernel
theorem dX9_isBefore_62 : decode cX9_isBefore 62 = .ok (.getfield 22, 3) := by decide +kernel
theorem dX9_isBefore_65 : decode cX9_isBefore 65 = .ok (.bipush 24, 2) := by decide +kernel
theorem dX9_isBefore_67 : decode cX9_isBefore 67 = .ok (.iload_n 1, 1) := by decide +kernel
theorem dX9_isBefore_68 : decode cX9_isBefore 68 = .ok (.imul, 1) := by decide +kernel
theorem dX9_isBefore_69 : decode cX9_isBefore 69 = .ok (.iload_n 3, 1) := by decide +kernel
theorem dX9_isBefore_70 : decode cX9_isBefore 70 = .ok (.iadd, 1) := by decide +kernel
theorem dX9_isBefore_71 : decode cX9_isBefore 71 = .ok (.laload, 1) := by decide +kernel
theorem dX9_isBefore_72 : decode cX9_isBefore 72 = .ok (.aload_n 0, 1) := by decide +kernel
theorem dX9_isBefore_73 : decode cX9_isBefore 73 = .ok (.getfield 26, 3) := by decide +kernel
theorem dX9_isBefore_76 : decode cX9_isBefore 76 = .ok (.bipush 24, 2) := by decide +kernel
theorem dX9_isBefore_78 : decode cX9_isBefore 78 = .ok (.iload_n 1, 1) := by decide +kernel
theorem dX9_isBefore_79 : decode cX9_isBefore 79 = .ok (.imul, 1) := by decide +kernel
theorem dX9_isBefore_80 : decode cX9_isBefore 80 = .ok (.iload_n 3, 1) := by decide +kernel
theorem dX9_isBefore_81 : decode cX9_isBefore 81 = .ok (.iadd, 1) := by decide +kernel
theorem dX9_isBefore_82 : decode cX9_isBefore 82 = .ok (.daload, 1) := by decide +kernel
theorem dX9_isBefore_83 : decode cX9_isBefore 83 = .ok (.invokevirtual 163, 3) := by decide +kernel
theorem dX9_isBefore_86 : decode cX9_isBefore 86 = .ok (.iconst (-1), 1) := by decide +kernel
theorem dX9_isBefore_87 : decode cX9_isBefore 87 = .ok (.if_icmp .ne 7, 3) := by decide +kernel
theorem dX9_isBefore_90 : decode cX9_isBefore 90 = .ok (.iconst 1, 1) := by decide +kernel
theorem dX9_isBefore_91 : decode cX9_isBefore 91 = .ok (.goto 4, 3) := by decide +kernel
theorem dX9_isBefore_94 : decode cX9_isBefore 94 = .ok (.iconst 0, 1) := by decide +kernel
theorem dX9_isBefore_95 : decode cX9_isBefore 95 = .ok (.ireturn, 1) := by decide +kernel
theorem dX9_swap_0 : decode cX9_swap 0 = .ok (.aload_n 0, 1) := by decide +kernel
theorem dX9_swap_1 : decode cX9_swap 1 = .ok (.iload_n 1, 1) := by decide +kernel
theorem dX9_swap_2 : decode cX9_swap 2 = .ok (.iload_n 2, 1) := by decide +kernel
theorem dX9_swap_3 : decode cX9_swap 3 = .ok (.invokevirtual 143, 3) := by decide +kernel
theorem dX9_swap_6 : decode cX9_swap 6 = .ok (.aload_n 0, 1) := by decide +kernel
theorem dX9_swap_7 : decode cX9_swap 7 = .ok (.getfield 22, 3) := by decide +kernel
theorem dX9_swap_10 : decode cX9_swap 10 = .ok (.bipush 24, 2) := by decide +kernel
theorem dX9_swap_12 : decode cX9_swap 12 = .ok (.iload_n 1, 1) := by decide +kernel
theorem dX9_swap_13 : decode cX9_swap 13 = .ok (.imul, 1) := by decide +kernel
theorem dX9_swap_14 : decode cX9_swap 14 = .ok (.iload_n 2, 1) := by decide +kernel
theorem dX9_swap_15 : decode cX9_swap 15 = .ok (.iadd, 1) := by decide +kernel
theorem dX9_swap_16 : decode cX9_swap 16 = .ok (.aload_n 0, 1) := by decide +kernel
theorem dX9_swap_17 : decode cX9_swap 17 = .ok (.getfield 22, 3) := by decide +kernel
theorem dX9_swap_20 : decode cX9_swap 20 = .ok (.bipush 24, 2) := by decide +kernel
theorem dX9_swap_22 : decode cX9_swap 22 = .ok (.iload_n 1, 1) := by decide +kernel
theorem dX9_swap_23 : decode cX9_swap 23 = .ok (.imul, 1) := by decide +kernel
theorem dX9_swap_24 : decode cX9_swap 24 = .ok (.iload_n 3, 1) := by decide +kernel
theorem dX9_swap_25 : decode cX9_swap 25 = .ok (.iadd, 1) := by decide +kernel
theorem dX9_swap_26 : decode cX9_swap 26 = .ok (.laload, 1) := by decide +kernel
theorem dX9_swap_27 : decode cX9_swap 27 = .ok (.lastore, 1) := by decide +kernel
theorem dX9_swap_28 : decode cX9_swap 28 = .ok (.aload_n 0, 1) := by decide +kernel
theorem dX9_swap_29 : decode cX9_swap 29 = .ok (.getfield 26, 3) := by decide +kernel
theorem dX9_swap_32 : decode cX9_swap 32 = .ok (.bipush 24, 2) := by decide +kernel
theorem dX9_swap_34 : decode cX9_swap 34 = .ok (.iload_n 1, 1) := by decide +kernel
theorem dX9_swap_35 : decode cX9_swap 35 = .ok (.imul, 1) := by decide +kernel
theorem dX9_swap_36 : decode cX9_swap 36 = .ok (.iload_n 2, 1) := by decide +kernel
theorem dX9_swap_37 : decode cX9_swap 37 = .ok (.iadd, 1) := by decide +kernel
theorem dX9_swap_38 : decode cX9_swap 38 = .ok (.aload_n 0, 1) := by decide +kernel
theorem dX9_swap_39 : decode cX9_swap 39 = .ok (.getfield 26, 3) := by decide +kernel
theorem dX9_swap_42 : decode cX9_swap 42 = .ok (.bipush 24, 2) := by decide +kernel
theorem dX9_swap_44 : decode cX9_swap 44 = .ok (.iload_n 1, 1) := by decide +kernel
theorem dX9_swap_45 : decode cX9_swap 45 = .ok (.imul, 1) := by decide +kernel
theorem dX9_swap_46 : decode cX9_swap 46 = .ok (.iload_n 3, 1) := by decide +kernel
theorem dX9_swap_47 : decode cX9_swap 47 = .ok (.iadd, 1) := by decide +kernel
theorem dX9_swap_48 : decode cX9_swap 48 = .ok (.daload, 1) := by decide +kernel
theorem dX9_swap_49 : decode cX9_swap 49 = .ok (.dastore, 1) := by decide +kernel
theorem dX9_swap_50 : decode cX9_swap 50 = .ok (.aload_n 0, 1) := by decide +kernel
theorem dX9_swap_51 : decode cX9_swap 51 = .ok (.iload_n 1, 1) := by decide +kernel
theorem dX9_swap_52 : decode cX9_swap 52 = .ok (.iload_n 3, 1) := by decide +kernel
theorem dX9_swap_53 : decode cX9_swap 53 = .ok (.invokevirtual 135, 3) := by decide +kernel
theorem dX9_swap_56 : decode cX9_swap 56 = .ok (.return_, 1) := by decide +kernel
theorem dX9_hasMinus_0 : decode cX9_hasMinus 0 = .ok (.dload_n 0, 1) := by decide +kernel
theorem dX9_hasMinus_1 : decode cX9_hasMinus 1 = .ok (.dconst 0, 1) := by decide +kernel
theorem dX9_hasMinus_2 : decode cX9_hasMinus 2 = .ok (.dcmp .g, 1) := by decide +kernel
theorem dX9_hasMinus_3 : decode cX9_hasMinus 3 = .ok (.ifCond .lt 17, 3) := by decide +kernel
theorem dX9_hasMinus_6 : decode cX9_hasMinus 6 = .ok (.dload_n 0, 1) := by decide +kernel
theorem dX9_hasMinus_7 : decode cX9_hasMinus 7 = .ok (.dconst 0, 1) := by decide +kernel
theorem dX9_hasMinus_8 : decode cX9_hasMinus 8 = .ok (.dcmp .l, 1) := by decide +kernel
theorem dX9_hasMinus_9 : decode cX9_hasMinus 9 = .ok (.ifCond .ne 15, 3) := by decide +kernel
theorem dX9_hasMinus_12 : decode cX9_hasMinus 12 = .ok (.dconst 1, 1) := by decide +kernel
theorem dX9_hasMinus_13 : decode cX9_hasMinus 13 = .ok (.dload_n 0, 1) := by decide +kernel
theorem dX9_hasMinus_14 : decode cX9_hasMinus 14 = .ok (.ddiv, 1) := by decide +kernel
theorem dX9_hasMinus_15 : decode cX9_hasMinus 15 = .ok (.dconst 0, 1) := by decide +kernel
theorem dX9_hasMinus_16 : decode cX9_hasMinus 16 = .ok (.dcmp .g, 1) := by decide +kernel
theorem dX9_hasMinus_17 : decode cX9_hasMinus 17 = .ok (.ifCond .ge 7, 3) := by decide +kernel
theorem dX9_hasMinus_20 : decode cX9_hasMinus 20 = .ok (.iconst 1, 1) := by decide +kernel
theorem dX9_hasMinus_21 : decode cX9_hasMinus 21 = .ok (.goto 4, 3) := by decide +kernel
theorem dX9_hasMinus_24 : decode cX9_hasMinus 24 = .ok (.iconst 0, 1) := by decide +kernel
theorem dX9_hasMinus_25 : decode cX9_hasMinus 25 = .ok (.ireturn, 1) := by decide +kernel
theorem dX9_others_0 : decode cX9_others 0 = .ok (.iconst 0, 1) := by decide +kernel
theorem dX9_others_1 : decode cX9_others 1 = .ok (.istore_n 2, 1) := by decide +kernel
theorem dX9_others_2 : decode cX9_others 2 = .ok (.iconst 0, 1) := by decide +kernel
theorem dX9_others_3 : decode cX9_others 3 = .ok (.istore_n 3, 1) := by decide +kernel
theorem dX9_others_4 : decode cX9_others 4 = .ok (.iload_n 3, 1) := by decide +kernel
theorem dX9_others_5 : decode cX9_others 5 = .ok (.aload_n 0, 1) := by decide +kernel
theorem dX9_others_6 : decode cX9_others 6 = .ok (.getfield 16, 3) := by decide +kernel
theorem dX9_others_9 : decode cX9_others 9 = .ok (.iload_n 1, 1) := by decide +kernel
theorem dX9_others_10 : decode cX9_others 10 = .ok (.iaload, 1) := by decide +kernel
theorem dX9_others_11 : decode cX9_others 11 = .ok (.if_icmp .ge 80, 3) := by decide +kernel
theorem dX9_others_14 : decode cX9_others 14 = .ok (.aload_n 0, 1) := by decide +kernel
theorem dX9_others_15 : decode cX9_others 15 = .ok (.getfield 26, 3) := by decide +kernel
theorem dX9_others_18 : decode cX9_others 18 = .ok (.bipush 24, 2) := by decide +kernel
theorem dX9_others_20 : decode cX9_others 20 = .ok (.iload_n 1, 1) := by decide +kernel
theorem dX9_others_21 : decode cX9_others 21 = .ok (.imul, 1) := by decide +kernel
theorem dX9_others_22 : decode cX9_others 22 = .ok (.iload_n 3, 1) := by decide +kernel
theorem dX9_others_23 : decode cX9_others 23 = .ok (.iadd, 1) := by decide +kernel
theorem dX9_others_24 : decode cX9_others 24 = .ok (.daload, 1) := by decide +kernel
theorem dX9_others_25 : decode cX9_others 25 = .ok (.dstore 4, 2) := by decide +kernel
theorem dX9_others_27 : decode cX9_others 27 = .ok (.aload_n 0, 1) := by decide +kernel
theorem dX9_others_28 : decode cX9_others 28 = .ok (.getfield 39, 3) := by decide +kernel
theorem dX9_others_31 : decode cX9_others 31 = .ok (.iload_n 3, 1) := by decide +kernel
theorem dX9_others_32 : decode cX9_others 32 = .ok (.daload, 1) := by decide +kernel
theorem dX9_others_33 : decode cX9_others 33 = .ok (.dstore 6, 2) := by decide +kernel
theorem dX9_others_35 : decode cX9_others 35 = .ok (.iload_n 2, 1) := by decide +kernel
theorem dX9_others_36 : decode cX9_others 36 = .ok (.aload_n 0, 1) := by decide +kernel
theorem dX9_others_37 : decode cX9_others 37 = .ok (.getfield 22, 3) := by decide +kernel
theorem dX9_others_40 : decode cX9_others 40 = .ok (.bipush 24, 2) := by decide +kernel
theorem dX9_others_42 : decode cX9_others 42 = .ok (.iload_n 1, 1) := by decide +kernel
theorem dX9_others_43 : decode cX9_others 43 = .ok (.imul, 1) := by decide +kernel
theorem dX9_others_44 : decode cX9_others 44 = .ok (.iload_n 3, 1) := by decide +kernel
theorem dX9_others_45 : decode cX9_others 45 = .ok (.iadd, 1) := by decide +kernel
theorem dX9_others_46 : decode cX9_others 46 = .ok (.laload, 1) := by decide +kernel
theorem dX9_others_47 : decode cX9_others 47 = .ok (.aload_n 0, 1) := by decide +kernel
theorem dX9_others_48 : decode cX9_others 48 = .ok (.getfield 36, 3) := by decide +kernel
theorem dX9_others_51 : decode cX9_others 51 = .ok (.iload_n 3, 1) := by decide +kernel
theorem dX9_others_52 : decode cX9_others 52 = .ok (.laload, 1) := by decide +kernel
theorem dX9_others_53 : decode cX9_others 53 = .ok (.lcmp, 1) := by decide +kernel
theorem dX9_others_54 : decode cX9_others 54 = .ok (.ifCond .ne 24, 3) := by decide +kernel
theorem dX9_others_57 : decode cX9_others 57 = .ok (.dload 4, 2) := by decide +kernel
theorem dX9_others_59 : decode cX9_others 59 = .ok (.dload 6, 2) := by decide +kernel
theorem dX9_others_61 : decode cX9_others 61 = .ok (.dcmp .l, 1) := by decide +kernel
theorem dX9_others_62 : decode cX9_others 62 = .ok (.ifCond .ne 16, 3) := by decide +kernel
theorem dX9_others_65 : decode cX9_others 65 = .ok (.dload 4, 2) := by decide +kernel
theorem dX9_others_67 : decode cX9_others 67 = .ok (.invokestatic 176, 3) := by decide +kernel
theorem dX9_others_70 : decode cX9_others 70 = .ok (.dload 6, 2) := by decide +kernel
theorem dX9_others_72 : decode cX9_others 72 = .ok (.invokestatic 176, 3) := by decide +kernel
theorem dX9_others_75 : decode cX9_others 75 = .ok (.if_icmp .eq 7, 3) := by decide +kernel
theorem dX9_others_78 : decode cX9_others 78 = .ok (.iconst 1, 1) := by decide +kernel
theorem dX9_others_79 : decode cX9_others 79 = .ok (.goto 4, 3) := by decide +kernel
theorem dX9_others_82 : decode cX9_others 82 = .ok (.iconst 0, 1) := by decide +kernel
theorem dX9_others_83 : decode cX9_others 83 = .ok (.iadd, 1) := by decide +kernel
theorem dX9_others_84 : decode cX9_others 84 = .ok (.istore_n 2, 1) := by decide +kernel
theorem dX9_others_85 : decode cX9_others 85 = .ok (.iinc 3 1, 3) := by decide +kernel
theorem dX9_others_88 : decode cX9_others 88 = .ok (.goto (-84), 3) := by decide +kernel
theorem dX9_others_91 : decode cX9_others 91 = .ok (.iload_n 2, 1) := by decide +kernel
theorem dX9_others_92 : decode cX9_others 92 = .ok (.ireturn, 1) := by decide +kernel
theorem dX9_takeOut_0 : decode cX9_takeOut 0 = .ok (.iconst 0, 1) := by decide +kernel
theorem dX9_takeOut_1 : decode cX9_takeOut 1 = .ok (.istore_n 2, 1) := by decide +kernel
theorem dX9_takeOut_2 : decode cX9_takeOut 2 = .ok (.iload_n 2, 1) := by decide +kernel
theorem dX9_takeOut_3 : decode cX9_takeOut 3 = .ok (.aload_n 0, 1) := by decide +kernel
theorem dX9_takeOut_4 : decode cX9_takeOut 4 = .ok (.getfield 16, 3) := by decide +kernel
theorem dX9_takeOut_7 : decode cX9_takeOut 7 = .ok (.iload_n 1, 1) := by decide +kernel
theorem dX9_takeOut_8 : decode cX9_takeOut 8 = .ok (.iaload, 1) := by decide +kernel
theorem dX9_takeOut_9 : decode cX9_takeOut 9 = .ok (.if_icmp .ge 43, 3) := by decide +kernel
theorem dX9_takeOut_12 : decode cX9_takeOut 12 = .ok (.aload_n 0, 1) := by decide +kernel
theorem dX9_takeOut_13 : decode cX9_takeOut 13 = .ok (.getfield 36, 3) := by decide +kernel
theorem dX9_takeOut_16 : decode cX9_takeOut 16 = .ok (.iload_n 2, 1) := by decide +kernel
theorem dX9_takeOut_17 : decode cX9_takeOut 17 = .ok (.aload_n 0, 1) := by decide +kernel
theorem dX9_takeOut_18 : decode cX9_takeOut 18 = .ok (.getfield 22, 3) := by decide +kernel
theorem dX9_takeOut_21 : decode cX9_takeOut 21 = .ok (.bipush 24, 2) := by decide +kernel
theorem dX9_takeOut_23 : decode cX9_takeOut 23 = .ok (.iload_n 1, 1) := by decide +kernel
theorem dX9_takeOut_24 : decode cX9_takeOut 24 = .ok (.imul, 1) := by decide +kernel
theorem dX9_takeOut_25 : decode cX9_takeOut 25 = .ok (.iload_n 2, 1) := by decide +kernel
theorem dX9_takeOut_26 : decode cX9_takeOut 26 = .ok (.iadd, 1) := by decide +kernel
theorem dX9_takeOut_27 : decode cX9_takeOut 27 = .ok (.laload, 1) := by decide +kernel
theorem dX9_takeOut_28 : decode cX9_takeOut 28 = .ok (.lastore, 1) := by decide +kernel
theorem dX9_takeOut_29 : decode cX9_takeOut 29 = .ok (.aload_n 0, 1) := by decide +kernel
theorem dX9_takeOut_30 : decode cX9_takeOut 30 = .ok (.getfield 39, 3) := by decide +kernel
theorem dX9_takeOut_33 : decode cX9_takeOut 33 = .ok (.iload_n 2, 1) := by decide +kernel
theorem dX9_takeOut_34 : decode cX9_takeOut 34 = .ok (.aload_n 0, 1) := by decide +kernel
theorem dX9_takeOut_35 : decode cX9_takeOut 35 = .ok (.getfield 26, 3) := by decide +kernel
theorem dX9_takeOut_38 : decode cX9_takeOut 38 = .ok (.bipush 24, 2) := by decide +kernel
theorem dX9_takeOut_40 : decode cX9_takeOut 40 = .ok (.iload_n 1, 1) := by decide +kernel
theorem dX9_takeOut_41 : decode cX9_takeOut 41 = .ok (.imul, 1) := by decide +kernel
theorem dX9_takeOut_42 : decode cX9_takeOut 42 = .ok (.iload_n 2, 1) := by decide +kernel
theorem dX9_takeOut_43 : decode cX9_takeOut 43 = .ok (.iadd, 1) := by decide +kernel
theorem dX9_takeOut_44 : decode cX9_takeOut 44 = .ok (.daload, 1) := by decide +kernel
theorem dX9_takeOut_45 : decode cX9_takeOut 45 = .ok (.dastore, 1) := by decide +kernel
theorem dX9_takeOut_46 : decode cX9_takeOut 46 = .ok (.iinc 2 1, 3) := by decide +kernel
theorem dX9_takeOut_49 : decode cX9_takeOut 49 = .ok (.goto (-47), 3) := by decide +kernel
theorem dX9_takeOut_52 : decode cX9_takeOut 52 = .ok (.return_, 1) := by decide +kernel
theorem dX9_sort_0 : decode cX9_sort 0 = .ok (.aload_n 0, 1) := by decide +kernel
theorem dX9_sort_1 : decode cX9_sort 1 = .ok (.iconst 0, 1) := by decide +kernel
theorem dX9_sort_2 : decode cX9_sort 2 = .ok (.putfield 48, 3) := by decide +kernel
theorem dX9_sort_5 : decode cX9_sort 5 = .ok (.iload_n 1, 1) := by decide +kernel
theorem dX9_sort_6 : decode cX9_sort 6 = .ok (.invokestatic 102, 3) := by decide +kernel
theorem dX9_sort_9 : decode cX9_sort 9 = .ok (.ifCond .ne 9, 3) := by decide +kernel
theorem dX9_sort_12 : decode cX9_sort 12 = .ok (.aload_n 0, 1) := by decide +kernel
theorem dX9_sort_13 : decode cX9_sort 13 = .ok (.iconst 1, 1) := by decide +kernel
theorem dX9_sort_14 : decode cX9_sort 14 = .ok (.invokevirtual 105, 3) := by decide +kernel
theorem dX9_sort_17 : decode cX9_sort 17 = .ok (.ireturn, 1) := by decide +kernel
theorem dX9_sort_18 : decode cX9_sort 18 = .ok (.aload_n 0, 1) := by decide +kernel
theorem dX9_sort_19 : decode cX9_sort 19 = .ok (.iload_n 1, 1) := by decide +kernel
theorem dX9_sort_20 : decode cX9_sort 20 = .ok (.invokevirtual 111, 3) := by decide +kernel
theorem dX9_sort_23 : decode cX9_sort 23 = .ok (.istore_n 2, 1) := by decide +kernel
theorem dX9_sort_24 : decode cX9_sort 24 = .ok (.iload_n 2, 1) := by decide +kernel
theorem dX9_sort_25 : decode cX9_sort 25 = .ok (.ifCond .le 9, 3) := by decide +kernel
theorem dX9_sort_28 : decode cX9_sort 28 = .ok (.aload_n 0, 1) := by decide +kernel
theorem dX9_sort_29 : decode cX9_sort 29 = .ok (.iload_n 2, 1) := by decide +kernel
theorem dX9_sort_30 : decode cX9_sort 30 = .ok (.invokevirtual 105, 3) := by decide +kernel
theorem dX9_sort_33 : decode cX9_sort 33 = .ok (.ireturn, 1) := by decide +kernel
theorem dX9_sort_34 : decode cX9_sort 34 = .ok (.aload_n 0, 1) := by decide +kernel
theorem dX9_sort_35 : decode cX9_sort 35 = .ok (.iload_n 1, 1) := by decide +kernel
theorem dX9_sort_36 : decode cX9_sort 36 = .ok (.invokevirtual 56, 3) := by decide +kernel
theorem dX9_sort_39 : decode cX9_sort 39 = .ok (.istore_n 3, 1) := by decide +kernel
theorem dX9_sort_40 : decode cX9_sort 40 = .ok (.aload_n 0, 1) := by decide +kernel
theorem dX9_sort_41 : decode cX9_sort 41 = .ok (.iload_n 3, 1) := by decide +kernel
theorem dX9_sort_42 : decode cX9_sort 42 = .ok (.invokevirtual 180, 3) := by decide +kernel
theorem dX9_sort_45 : decode cX9_sort 45 = .ok (.iconst 1, 1) := by decide +kernel
theorem dX9_sort_46 : decode cX9_sort 46 = .ok (.istore 4, 2) := by decide +kernel
theorem dX9_sort_48 : decode cX9_sort 48 = .ok (.iload 4, 2) := by decide +kernel
theorem dX9_sort_50 : decode cX9_sort 50 = .ok (.aload_n 0, 1) := by decide +kernel
theorem dX9_sort_51 : decode cX9_sort 51 = .ok (.getfield 16, 3) := by decide +kernel
theorem dX9_sort_54 : decode cX9_sort 54 = .ok (.iload_n 3, 1) := by decide +kernel
theorem dX9_sort_55 : decode cX9_sort 55 = .ok (.iaload, 1) := by decide +kernel
theorem dX9_sort_56 : decode cX9_sort 56 = .ok (.if_icmp .ge 54, 3) := by decide +kernel
theorem dX9_sort_59 : decode cX9_sort 59 = .ok (.iconst 1, 1) := by decide +kernel
theorem dX9_sort_60 : decode cX9_sort 60 = .ok (.istore 5, 2) := by decide +kernel
theorem dX9_sort_62 : decode cX9_sort 62 = .ok (.iload 5, 2) := by decide +kernel
theorem dX9_sort_64 : decode cX9_sort 64 = .ok (.aload_n 0, 1) := by decide +kernel
theorem dX9_sort_65 : decode cX9_sort 65 = .ok (.getfield 16, 3) := by decide +kernel
theorem dX9_sort_68 : decode cX9_sort 68 = .ok (.iload_n 3, 1) := by decide +kernel
theorem dX9_sort_69 : decode cX9_sort 69 = .ok (.iaload, 1) := by decide +kernel
theorem dX9_sort_70 : decode cX9_sort 70 = .ok (.if_icmp .ge 34, 3) := by decide +kernel
theorem dX9_sort_73 : decode cX9_sort 73 = .ok (.aload_n 0, 1) := by decide +kernel
theorem dX9_sort_74 : decode cX9_sort 74 = .ok (.iload_n 3, 1) := by decide +kernel
theorem dX9_sort_75 : decode cX9_sort 75 = .ok (.iload 5, 2) := by decide +kernel
theorem dX9_sort_77 : decode cX9_sort 77 = .ok (.iload 5, 2) := by decide +kernel
theorem dX9_sort_79 : decode cX9_sort 79 = .ok (.iconst 1, 1) := by decide +kernel
theorem dX9_sort_80 : decode cX9_sort 80 = .ok (.isub, 1) := by decide +kernel
theorem dX9_sort_81 : decode cX9_sort 81 = .ok (.invokevirtual 183, 3) := by decide +kernel
theorem dX9_sort_84 : decode cX9_sort 84 = .ok (.ifCond .eq 14, 3) := by decide +kernel
theorem dX9_sort_87 : decode cX9_sort 87 = .ok (.aload_n 0, 1) := by decide +kernel
theorem dX9_sort_88 : decode cX9_sort 88 = .ok (.iload_n 3, 1) := by decide +kernel
theorem dX9_sort_89 : decode cX9_sort 89 = .ok (.iload 5, 2) := by decide +kernel
theorem dX9_sort_91 : decode cX9_sort 91 = .ok (.iload 5, 2) := by decide +kernel
theorem dX9_sort_93 : decode cX9_sort 93 = .ok (.iconst 1, 1) := by decide +kernel
theorem dX9_sort_94 : decode cX9_sort 94 = .ok (.isub, 1) := by decide +kernel
theorem dX9_sort_95 : decode cX9_sort 95 = .ok (.invokevirtual 186, 3) := by decide +kernel
theorem dX9_sort_98 : decode cX9_sort 98 = .ok (.iinc 5 1, 3) := by decide +kernel
theorem dX9_sort_101 : decode cX9_sort 101 = .ok (.goto (-39), 3) := by decide +kernel
theorem dX9_sort_104 : decode cX9_sort 104 = .ok (.iinc 4 1, 3) := by decide +kernel
theorem dX9_sort_107 : decode cX9_sort 107 = .ok (.goto (-59), 3) := by decide +kernel
theorem dX9_sort_110 : decode cX9_sort 110 = .ok (.aload_n 0, 1) := by decide +kernel
theorem dX9_sort_111 : decode cX9_sort 111 = .ok (.iload_n 3, 1) := by decide +kernel
theorem dX9_sort_112 : decode cX9_sort 112 = .ok (.invokevirtual 189, 3) := by decide +kernel
theorem dX9_sort_115 : decode cX9_sort 115 = .ok (.ireturn, 1) := by decide +kernel
theorem dX9_turn_0 : decode cX9_turn 0 = .ok (.aload_n 0, 1) := by decide +kernel
theorem dX9_turn_1 : decode cX9_turn 1 = .ok (.iconst 0, 1) := by decide +kernel
theorem dX9_turn_2 : decode cX9_turn 2 = .ok (.putfield 48, 3) := by decide +kernel
theorem dX9_turn_5 : decode cX9_turn 5 = .ok (.iload_n 1, 1) := by decide +kernel
theorem dX9_turn_6 : decode cX9_turn 6 = .ok (.invokestatic 102, 3) := by decide +kernel
theorem dX9_turn_9 : decode cX9_turn 9 = .ok (.ifCond .ne 9, 3) := by decide +kernel
theorem dX9_turn_12 : decode cX9_turn 12 = .ok (.aload_n 0, 1) := by decide +kernel
theorem dX9_turn_13 : decode cX9_turn 13 = .ok (.iconst 1, 1) := by decide +kernel
theorem dX9_turn_14 : decode cX9_turn 14 = .ok (.invokevirtual 105, 3) := by decide +kernel
theorem dX9_turn_17 : decode cX9_turn 17 = .ok (.ireturn, 1) := by decide +kernel
theorem dX9_turn_18 : decode cX9_turn 18 = .ok (.aload_n 0, 1) := by decide +kernel
theorem dX9_turn_19 : decode cX9_turn 19 = .ok (.iload_n 1, 1) := by decide +kernel
theorem dX9_turn_20 : decode cX9_turn 20 = .ok (.invokevirtual 111, 3) := by decide +kernel
theorem dX9_turn_23 : decode cX9_turn 23 = .ok (.istore_n 3, 1) := by decide +kernel
theorem dX9_turn_24 : decode cX9_turn 24 = .ok (.iload_n 3, 1) := by decide +kernel
theorem dX9_turn_25 : decode cX9_turn 25 = .ok (.ifCond .le 9, 3) := by decide +kernel
theorem dX9_turn_28 : decode cX9_turn 28 = .ok (.aload_n 0, 1) := by decide +kernel
theorem dX9_turn_29 : decode cX9_turn 29 = .ok (.iload_n 3, 1) := by decide +kernel
theorem dX9_turn_30 : decode cX9_turn 30 = .ok (.invokevirtual 105, 3) := by decide +kernel
theorem dX9_turn_33 : decode cX9_turn 33 = .ok (.ireturn, 1) := by decide +kernel
theorem dX9_turn_34 : decode cX9_turn 34 = .ok (.aload_n 0, 1) := by decide +kernel
theorem dX9_turn_35 : decode cX9_turn 35 = .ok (.iload_n 1, 1) := by decide +kernel
theorem dX9_turn_36 : decode cX9_turn 36 = .ok (.invokevirtual 56, 3) := by decide +kernel
theorem dX9_turn_39 : decode cX9_turn 39 = .ok (.istore 4, 2) := by decide +kernel
theorem dX9_turn_41 : decode cX9_turn 41 = .ok (.aload_n 0, 1) := by decide +kernel
theorem dX9_turn_42 : decode cX9_turn 42 = .ok (.getfield 16, 3) := by decide +kernel
theorem dX9_turn_45 : decode cX9_turn 45 = .ok (.iload 4, 2) := by decide +kernel
theorem dX9_turn_47 : decode cX9_turn 47 = .ok (.iaload, 1) := by decide +kernel
theorem dX9_turn_48 : decode cX9_turn 48 = .ok (.istore 5, 2) := by decide +kernel
theorem dX9_turn_50 : decode cX9_turn 50 = .ok (.aload_n 0, 1) := by decide +kernel
theorem dX9_turn_51 : decode cX9_turn 51 = .ok (.iload 4, 2) := by decide +kernel
theorem dX9_turn_53 : decode cX9_turn 53 = .ok (.invokevirtual 180, 3) := by decide +kernel
theorem dX9_turn_56 : decode cX9_turn 56 = .ok (.iconst 0, 1) := by decide +kernel
theorem dX9_turn_57 : decode cX9_turn 57 = .ok (.istore 6, 2) := by decide +kernel
theorem dX9_turn_59 : decode cX9_turn 59 = .ok (.iload 6, 2) := by decide +kernel
theorem dX9_turn_61 : decode cX9_turn 61 = .ok (.iload 5, 2) := by decide +kernel
theorem dX9_turn_63 : decode cX9_turn 63 = .ok (.if_icmp .ge 64, 3) := by decide +kernel
theorem dX9_turn_66 : decode cX9_turn 66 = .ok (.iload 6, 2) := by decide +kernel
theorem dX9_turn_68 : decode cX9_turn 68 = .ok (.iload_n 2, 1) := by decide +kernel
theorem dX9_turn_69 : decode cX9_turn 69 = .ok (.iload 5, 2) := by decide +kernel
theorem dX9_turn_71 : decode cX9_turn 71 = .ok (.irem, 1) := by decide +kernel
theorem dX9_turn_72 : decode cX9_turn 72 = .ok (.iadd, 1) := by decide +kernel
theorem dX9_turn_73 : decode cX9_turn 73 = .ok (.iload 5, 2) := by decide +kernel
theorem dX9_turn_75 : decode cX9_turn 75 = .ok (.iadd, 1) := by decide +kernel
theorem dX9_turn_76 : decode cX9_turn 76 = .ok (.iload 5, 2) := by decide +kernel
theorem dX9_turn_78 : decode cX9_turn 78 = .ok (.irem, 1) := by decide +kernel
theorem dX9_turn_79 : decode cX9_turn 79 = .ok (.istore 7, 2) := by decide +kernel
theorem dX9_turn_81 : decode cX9_turn 81 = .ok (.aload_n 0, 1) := by decide +kernel
theorem dX9_turn_82 : decode cX9_turn 82 = .ok (.getfield 22, 3) := by decide +kernel
theorem dX9_turn_85 : decode cX9_turn 85 = .ok (.bipush 24, 2) := by decide +kernel
theorem dX9_turn_87 : decode cX9_turn 87 = .ok (.iload 4, 2) := by decide +kernel
theorem dX9_turn_89 : decode cX9_turn 89 = .ok (.imul, 1) := by decide +kernel
theorem dX9_turn_90 : decode cX9_turn 90 = .ok (.iload 7, 2) := by decide +kernel
theorem dX9_turn_92 : decode cX9_turn 92 = .ok (.iadd, 1) := by decide +kernel
theorem dX9_turn_93 : decode cX9_turn 93 = .ok (.aload_n 0, 1) := by decide +kernel
theorem dX9_turn_94 : decode cX9_turn 94 = .ok (.getfield 36, 3) := by decide +kernel
theorem dX9_turn_97 : decode cX9_turn 97 = .ok (.iload 6, 2) := by decide +kernel
theorem dX9_turn_99 : decode cX9_turn 99 = .ok (.laload, 1) := by decide +kernel
theorem dX9_turn_100 : decode cX9_turn 100 = .ok (.lastore, 1) := by decide +kernel
theorem dX9_turn_101 : decode cX9_turn 101 = .ok (.aload_n 0, 1) := by decide +kernel
theorem dX9_turn_102 : decode cX9_turn 102 = .ok (.getfield 26, 3) := by decide +kernel
theorem dX9_turn_105 : decode cX9_turn 105 = .ok (.bipush 24, 2) := by decide +kernel
theorem dX9_turn_107 : decode cX9_turn 107 = .ok (.iload 4, 2) := by decide +kernel
theorem dX9_turn_109 : decode cX9_turn 109 = .ok (.imul, 1) := by decide +kernel
theorem dX9_turn_110 : decode cX9_turn 110 = .ok (.iload 7, 2) := by decide +kernel
theorem dX9_turn_112 : decode cX9_turn 112 = .ok (.iadd, 1) := by decide +kernel
theorem dX9_turn_113 : decode cX9_turn 113 = .ok (.aload_n 0, 1) := by decide +kernel
theorem dX9_turn_114 : decode cX9_turn 114 = .ok (.getfield 39, 3) := by decide +kernel
theorem dX9_turn_117 : decode cX9_turn 117 = .ok (.iload 6, 2) := by decide +kernel
theorem dX9_turn_119 : decode cX9_turn 119 = .ok (.daload, 1) := by decide +kernel
theorem dX9_turn_120 : decode cX9_turn 120 = .ok (.dastore, 1) := by decide +kernel
theorem dX9_turn_121 : decode cX9_turn 121 = .ok (.iinc 6 1, 3) := by decide +kernel
theorem dX9_turn_124 : decode cX9_turn 124 = .ok (.goto (-65), 3) := by decide +kernel
theorem dX9_turn_127 : decode cX9_turn 127 = .ok (.iload 5, 2) := by decide +kernel
theorem dX9_turn_129 : decode cX9_turn 129 = .ok (.ireturn, 1) := by decide +kernel
theorem dX9_sum_0 : decode cX9_sum 0 = .ok (.aload_n 0, 1) := by decide +kernel
theorem dX9_sum_1 : decode cX9_sum 1 = .ok (.iconst 0, 1) := by decide +kernel
theorem dX9_sum_2 : decode cX9_sum 2 = .ok (.putfield 48, 3) := by decide +kernel
theorem dX9_sum_5 : decode cX9_sum 5 = .ok (.iload_n 1, 1) := by decide +kernel
theorem dX9_sum_6 : decode cX9_sum 6 = .ok (.invokestatic 102, 3) := by decide +kernel
theorem dX9_sum_9 : decode cX9_sum 9 = .ok (.ifCond .ne 10, 3) := by decide +kernel
theorem dX9_sum_12 : decode cX9_sum 12 = .ok (.aload_n 0, 1) := by decide +kernel
theorem dX9_sum_13 : decode cX9_sum 13 = .ok (.iconst 1, 1) := by decide +kernel
theorem dX9_sum_14 : decode cX9_sum 14 = .ok (.invokevirtual 105, 3) := by decide +kernel
theorem dX9_sum_17 : decode cX9_sum 17 = .ok (.i2l, 1) := by decide +kernel
theorem dX9_sum_18 : decode cX9_sum 18 = .ok (.lreturn, 1) := by decide +kernel
theorem dX9_sum_19 : decode cX9_sum 19 = .ok (.aload_n 0, 1) := by decide +kernel
theorem dX9_sum_20 : decode cX9_sum 20 = .ok (.iload_n 1, 1) := by decide +kernel
theorem dX9_sum_21 : decode cX9_sum 21 = .ok (.invokevirtual 111, 3) := by decide +kernel
theorem dX9_sum_24 : decode cX9_sum 24 = .ok (.istore_n 2, 1) := by decide +kernel
theorem dX9_sum_25 : decode cX9_sum 25 = .ok (.iload_n 2, 1) := by decide +kernel
theorem dX9_sum_26 : decode cX9_sum 26 = .ok (.ifCond .le 10, 3) := by decide +kernel
theorem dX9_sum_29 : decode cX9_sum 29 = .ok (.aload_n 0, 1) := by decide +kernel
theorem dX9_sum_30 : decode cX9_sum 30 = .ok (.iload_n 2, 1) := by decide +kernel
theorem dX9_sum_31 : decode cX9_sum 31 = .ok (.invokevirtual 105, 3) := by decide +kernel
theorem dX9_sum_34 : decode cX9_sum 34 = .ok (.i2l, 1) := by decide +kernel
theorem dX9_sum_35 : decode cX9_sum 35 = .ok (.lreturn, 1) := by decide +kernel
theorem dX9_sum_36 : decode cX9_sum 36 = .ok (.aload_n 0, 1) := by decide +kernel
theorem dX9_sum_37 : decode cX9_sum 37 = .ok (.iload_n 1, 1) := by decide +kernel
theorem dX9_sum_38 : decode cX9_sum 38 = .ok (.invokevirtual 56, 3) := by decide +kernel
theorem dX9_sum_41 : decode cX9_sum 41 = .ok (.istore_n 3, 1) := by decide +kernel
theorem dX9_sum_42 : decode cX9_sum 42 = .ok (.aload_n 0, 1) := by decide +kernel
theorem dX9_sum_43 : decode cX9_sum 43 = .ok (.getfield 13, 3) := by decide +kernel
theorem dX9_sum_46 : decode cX9_sum 46 = .ok (.iload_n 3, 1) := by decide +kernel
theorem dX9_sum_47 : decode cX9_sum 47 = .ok (.iaload, 1) := by decide +kernel
theorem dX9_sum_48 : decode cX9_sum 48 = .ok (.iconst 1, 1) := by decide +kernel
theorem dX9_sum_49 : decode cX9_sum 49 = .ok (.iconst 5, 1) := by decide +kernel
theorem dX9_sum_50 : decode cX9_sum 50 = .ok (.invokestatic 52, 3) := by decide +kernel
theorem dX9_sum_53 : decode cX9_sum 53 = .ok (.ifCond .ne 11, 3) := by decide +kernel
theorem dX9_sum_56 : decode cX9_sum 56 = .ok (.aload_n 0, 1) := by decide +kernel
theorem dX9_sum_57 : decode cX9_sum 57 = .ok (.bipush 6, 2) := by decide +kernel
theorem dX9_sum_59 : decode cX9_sum 59 = .ok (.invokevirtual 105, 3) := by decide +kernel
theorem dX9_sum_62 : decode cX9_sum 62 = .ok (.i2l, 1) := by decide +kernel
theorem dX9_sum_63 : decode cX9_sum 63 = .ok (.lreturn, 1) := by decide +kernel
theorem dX9_sum_64 : decode cX9_sum 64 = .ok (.lconst 0, 1) := by decide +kernel
theorem dX9_sum_65 : decode cX9_sum 65 = .ok (.lstore 4, 2) := by decide +kernel
theorem dX9_sum_67 : decode cX9_sum 67 = .ok (.iconst 0, 1) := by decide +kernel
theorem dX9_sum_68 : decode cX9_sum 68 = .ok (.istore 6, 2) := by decide +kernel
theorem dX9_sum_70 : decode cX9_sum 70 = .ok (.iload 6, 2) := by decide +kernel
theorem dX9_sum_72 : decode cX9_sum 72 = .ok (.aload_n 0, 1) := by decide +kernel
theorem dX9_sum_73 : decode cX9_sum 73 = .ok (.getfield 16, 3) := by decide +kernel
theorem dX9_sum_76 : decode cX9_sum 76 = .ok (.iload_n 3, 1) := by decide +kernel
theorem dX9_sum_77 : decode cX9_sum 77 = .ok (.iaload, 1) := by decide +kernel
theorem dX9_sum_78 : decode cX9_sum 78 = .ok (.if_icmp .ge 26, 3) := by decide +kernel
theorem dX9_sum_81 : decode cX9_sum 81 = .ok (.lload 4, 2) := by decide +kernel
theorem dX9_sum_83 : decode cX9_sum 83 = .ok (.aload_n 0, 1) := by decide +kernel
theorem dX9_sum_84 : decode cX9_sum 84 = .ok (.getfield 22, 3) := by decide +kernel
theorem dX9_sum_87 : decode cX9_sum 87 = .ok (.bipush 24, 2) := by decide +kernel
theorem dX9_sum_89 : decode cX9_sum 89 = .ok (.iload_n 3, 1) := by decide +kernel
theorem dX9_sum_90 : decode cX9_sum 90 = .ok (.imul, 1) := by decide +kernel
theorem dX9_sum_91 : decode cX9_sum 91 = .ok (.iload 6, 2) := by decide +kernel
theorem dX9_sum_93 : decode cX9_sum 93 = .ok (.iadd, 1) := by decide +kernel
theorem dX9_sum_94 : decode cX9_sum 94 = .ok (.laload, 1) := by decide +kernel
theorem dX9_sum_95 : decode cX9_sum 95 = .ok (.ladd, 1) := by decide +kernel
theorem dX9_sum_96 : decode cX9_sum 96 = .ok (.lstore 4, 2) := by decide +kernel
theorem dX9_sum_98 : decode cX9_sum 98 = .ok (.iinc 6 1, 3) := by decide +kernel
theorem dX9_sum_101 : decode cX9_sum 101 = .ok (.goto (-31), 3) := by decide +kernel
theorem dX9_sum_104 : decode cX9_sum 104 = .ok (.lload 4, 2) := by decide +kernel
theorem dX9_sum_106 : decode cX9_sum 106 = .ok (.lreturn, 1) := by decide +kernel
theorem dX9_total_0 : decode cX9_total 0 = .ok (.aload_n 0, 1) := by decide +kernel
theorem dX9_total_1 : decode cX9_total 1 = .ok (.iconst 0, 1) := by decide +kernel
theorem dX9_total_2 : decode cX9_total 2 = .ok (.putfield 48, 3) := by decide +kernel
theorem dX9_total_5 : decode cX9_total 5 = .ok (.iload_n 1, 1) := by decide +kernel
theorem dX9_total_6 : decode cX9_total 6 = .ok (.invokestatic 102, 3) := by decide +kernel
theorem dX9_total_9 : decode cX9_total 9 = .ok (.ifCond .ne 10, 3) := by decide +kernel
theorem dX9_total_12 : decode cX9_total 12 = .ok (.aload_n 0, 1) := by decide +kernel
theorem dX9_total_13 : decode cX9_total 13 = .ok (.iconst 1, 1) := by decide +kernel
theorem dX9_total_14 : decode cX9_total 14 = .ok (.invokevirtual 105, 3) := by decide +kernel
theorem dX9_total_17 : decode cX9_total 17 = .ok (.i2d, 1) := by decide +kernel
theorem dX9_total_18 : decode cX9_total 18 = .ok (.dreturn, 1) := by decide +kernel
theorem dX9_total_19 : decode cX9_total 19 = .ok (.aload_n 0, 1) := by decide +kernel
theorem dX9_total_20 : decode cX9_total 20 = .ok (.iload_n 1, 1) := by decide +kernel
theorem dX9_total_21 : decode cX9_total 21 = .ok (.invokevirtual 111, 3) := by decide +kernel
theorem dX9_total_24 : decode cX9_total 24 = .ok (.istore_n 2, 1) := by decide +kernel
theorem dX9_total_25 : decode cX9_total 25 = .ok (.iload_n 2, 1) := by decide +kernel
theorem dX9_total_26 : decode cX9_total 26 = .ok (.ifCond .le 10, 3) := by decide +kernel
theorem dX9_total_29 : decode cX9_total 29 = .ok (.aload_n 0, 1) := by decide +kernel
theorem dX9_total_30 : decode cX9_total 30 = .ok (.iload_n 2, 1) := by decide +kernel
theorem dX9_total_31 : decode cX9_total 31 = .ok (.invokevirtual 105, 3) := by decide +kernel
theorem dX9_total_34 : decode cX9_total 34 = .ok (.i2d, 1) := by decide +kernel
theorem dX9_total_35 : decode cX9_total 35 = .ok (.dreturn, 1) := by decide +kernel
theorem dX9_total_36 : decode cX9_total 36 = .ok (.aload_n 0, 1) := by decide +kernel
theorem dX9_total_37 : decode cX9_total 37 = .ok (.iload_n 1, 1) := by decide +kernel
theorem dX9_total_38 : decode cX9_total 38 = .ok (.invokevirtual 56, 3) := by decide +kernel
theorem dX9_total_41 : decode cX9_total 41 = .ok (.istore_n 3, 1) := by decide +kernel
theorem dX9_total_42 : decode cX9_total 42 = .ok (.aload_n 0, 1) := by decide +kernel
theorem dX9_total_43 : decode cX9_total 43 = .ok (.getfield 13, 3) := by decide +kernel
theorem dX9_total_46 : decode cX9_total 46 = .ok (.iload_n 3, 1) := by decide +kernel
theorem dX9_total_47 : decode cX9_total 47 = .ok (.iaload, 1) := by decide +kernel
theorem dX9_total_48 : decode cX9_total 48 = .ok (.iconst 1, 1) := by decide +kernel
theorem dX9_total_49 : decode cX9_total 49 = .ok (.bipush 7, 2) := by decide +kernel
theorem dX9_total_51 : decode cX9_total 51 = .ok (.invokestatic 52, 3) := by decide +kernel
theorem dX9_total_54 : decode cX9_total 54 = .ok (.ifCond .ne 11, 3) := by decide +kernel
theorem dX9_total_57 : decode cX9_total 57 = .ok (.aload_n 0, 1) := by decide +kernel
theorem dX9_total_58 : decode cX9_total 58 = .ok (.bipush 6, 2) := by decide +kernel
theorem dX9_total_60 : decode cX9_total 60 = .ok (.invokevirtual 105, 3) := by decide +kernel
theorem dX9_total_63 : decode cX9_total 63 = .ok (.i2d, 1) := by decide +kernel
theorem dX9_total_64 : decode cX9_total 64 = .ok (.dreturn, 1) := by decide +kernel
theorem dX9_total_65 : decode cX9_total 65 = .ok (.dconst 0, 1) := by decide +kernel
theorem dX9_total_66 : decode cX9_total 66 = .ok (.dstore 4, 2) := by decide +kernel
theorem dX9_total_68 : decode cX9_total 68 = .ok (.iconst 0, 1) := by decide +kernel
theorem dX9_total_69 : decode cX9_total 69 = .ok (.istore 6, 2) := by decide +kernel
theorem dX9_total_71 : decode cX9_total 71 = .ok (.iload 6, 2) := by decide +kernel
theorem dX9_total_73 : decode cX9_total 73 = .ok (.aload_n 0, 1) := by decide +kernel
theorem dX9_total_74 : decode cX9_total 74 = .ok (.getfield 16, 3) := by decide +kernel
theorem dX9_total_77 : decode cX9_total 77 = .ok (.iload_n 3, 1) := by decide +kernel
theorem dX9_total_78 : decode cX9_total 78 = .ok (.iaload, 1) := by decide +kernel
theorem dX9_total_79 : decode cX9_total 79 = .ok (.if_icmp .ge 47, 3) := by decide +kernel
theorem dX9_total_82 : decode cX9_total 82 = .ok (.dload 4, 2) := by decide +kernel
theorem dX9_total_84 : decode cX9_total 84 = .ok (.aload_n 0, 1) := by decide +kernel
theorem dX9_total_85 : decode cX9_total 85 = .ok (.getfield 13, 3) := by decide +kernel
theorem dX9_total_88 : decode cX9_total 88 = .ok (.iload_n 3, 1) := by decide +kernel
theorem dX9_total_89 : decode cX9_total 89 = .ok (.iaload, 1) := by decide +kernel
theorem dX9_total_90 : decode cX9_total 90 = .ok (.aload_n 0, 1) := by decide +kernel
theorem dX9_total_91 : decode cX9_total 91 = .ok (.getfield 22, 3) := by decide +kernel
theorem dX9_total_94 : decode cX9_total 94 = .ok (.bipush 24, 2) := by decide +kernel
theorem dX9_total_96 : decode cX9_total 96 = .ok (.iload_n 3, 1) := by decide +kernel
theorem dX9_total_97 : decode cX9_total 97 = .ok (.imul, 1) := by decide +kernel
theorem dX9_total_98 : decode cX9_total 98 = .ok (.iload 6, 2) := by decide +kernel
theorem dX9_total_100 : decode cX9_total 100 = .ok (.iadd, 1) := by decide +kernel
theorem dX9_total_101 : decode cX9_total 101 = .ok (.laload, 1) := by decide +kernel
theorem dX9_total_102 : decode cX9_total 102 = .ok (.aload_n 0, 1) := by decide +kernel
theorem dX9_total_103 : decode cX9_total 103 = .ok (.getfield 26, 3) := by decide +kernel
theorem dX9_total_106 : decode cX9_total 106 = .ok (.bipush 24, 2) := by decide +kernel
theorem dX9_total_108 : decode cX9_total 108 = .ok (.iload_n 3, 1) := by decide +kernel
theorem dX9_total_109 : decode cX9_total 109 = .ok (.imul, 1) := by decide +kernel
theorem dX9_total_110 : decode cX9_total 110 = .ok (.iload 6, 2) := by decide +kernel
theorem dX9_total_112 : decode cX9_total 112 = .ok (.iadd, 1) := by decide +kernel
theorem dX9_total_113 : decode cX9_total 113 = .ok (.daload, 1) := by decide +kernel
theorem dX9_total_114 : decode cX9_total 114 = .ok (.invokestatic 83, 3) := by decide +kernel
theorem dX9_total_117 : decode cX9_total 117 = .ok (.dadd, 1) := by decide +kernel
theorem dX9_total_118 : decode cX9_total 118 = .ok (.dstore 4, 2) := by decide +kernel
theorem dX9_total_120 : decode cX9_total 120 = .ok (.iinc 6 1, 3) := by decide +kernel
theorem dX9_total_123 : decode cX9_total 123 = .ok (.goto (-52), 3) := by decide +kernel
theorem dX9_total_126 : decode cX9_total 126 = .ok (.dload 4, 2) := by decide +kernel
theorem dX9_total_128 : decode cX9_total 128 = .ok (.dreturn, 1) := by decide +kernel
theorem dX9_find_0 : decode cX9_find 0 = .ok (.aload_n 0, 1) := by decide +kernel
theorem dX9_find_1 : decode cX9_find 1 = .ok (.iconst 0, 1) := by decide +kernel
theorem dX9_find_2 : decode cX9_find 2 = .ok (.putfield 48, 3) := by decide +kernel
theorem dX9_find_5 : decode cX9_find 5 = .ok (.iload_n 1, 1) := by decide +kernel
theorem dX9_find_6 : decode cX9_find 6 = .ok (.invokestatic 102, 3) := by decide +kernel
theorem dX9_find_9 : decode cX9_find 9 = .ok (.ifCond .eq 13, 3) := by decide +kernel
theorem dX9_find_12 : decode cX9_find 12 = .ok (.iload_n 3, 1) := by decide +kernel
theorem dX9_find_13 : decode cX9_find 13 = .ok (.iconst 0, 1) := by decide +kernel
theorem dX9_find_14 : decode cX9_find 14 = .ok (.bipush 7, 2) := by decide +kernel
theorem dX9_find_16 : decode cX9_find 16 = .ok (.invokestatic 52, 3) := by decide +kernel
theorem dX9_find_19 : decode cX9_find 19 = .ok (.ifCond .ne 9, 3) := by decide +kernel
theorem dX9_find_22 : decode cX9_find 22 = .ok (.aload_n 0, 1) := by decide +kernel
theorem dX9_find_23 : decode cX9_find 23 = .ok (.iconst 1, 1) := by decide +kernel
theorem dX9_find_24 : decode cX9_find 24 = .ok (.invokevirtual 105, 3) := by decide +kernel
theorem dX9_find_27 : decode cX9_find 27 = .ok (.ireturn, 1) := by decide +kernel
theorem dX9_find_28 : decode cX9_find 28 = .ok (.aload_n 0, 1) := by decide +kernel
theorem dX9_find_29 : decode cX9_find 29 = .ok (.iload_n 1, 1) := by decide +kernel
theorem dX9_find_30 : decode cX9_find 30 = .ok (.invokevirtual 111, 3) := by decide +kernel
theorem dX9_find_33 : decode cX9_find 33 = .ok (.istore 6, 2) := by decide +kernel
theorem dX9_find_35 : decode cX9_find 35 = .ok (.iload 6, 2) := by decide +kernel
theorem dX9_find_37 : decode cX9_find 37 = .ok (.ifCond .le 10, 3) := by decide +kernel
theorem dX9_find_40 : decode cX9_find 40 = .ok (.aload_n 0, 1) := by decide +kernel
theorem dX9_find_41 : decode cX9_find 41 = .ok (.iload 6, 2) := by decide +kernel
theorem dX9_find_43 : decode cX9_find 43 = .ok (.invokevirtual 105, 3) := by decide +kernel
theorem dX9_find_46 : decode cX9_find 46 = .ok (.ireturn, 1) := by decide +kernel
theorem dX9_find_47 : decode cX9_find 47 = .ok (.aload_n 0, 1) := by decide +kernel
theorem dX9_find_48 : decode cX9_find 48 = .ok (.iload_n 1, 1) := by decide +kernel
theorem dX9_find_49 : decode cX9_find 49 = .ok (.invokevirtual 56, 3) := by decide +kernel
theorem dX9_find_52 : decode cX9_find 52 = .ok (.istore 7, 2) := by decide +kernel
theorem dX9_find_54 : decode cX9_find 54 = .ok (.aload_n 0, 1) := by decide +kernel
theorem dX9_find_55 : decode cX9_find 55 = .ok (.iload 7, 2) := by decide +kernel
theorem dX9_find_57 : decode cX9_find 57 = .ok (.invokevirtual 91, 3) := by decide +kernel
theorem dX9_find_60 : decode cX9_find 60 = .ok (.ifCond .ne 10, 3) := by decide +kernel
theorem dX9_find_63 : decode cX9_find 63 = .ok (.aload_n 0, 1) := by decide +kernel
theorem dX9_find_64 : decode cX9_find 64 = .ok (.bipush 6, 2) := by decide +kernel
theorem dX9_find_66 : decode cX9_find 66 = .ok (.invokevirtual 105, 3) := by decide +kernel
theorem dX9_find_69 : decode cX9_find 69 = .ok (.ireturn, 1) := by decide +kernel
theorem dX9_find_70 : decode cX9_find 70 = .ok (.aload_n 0, 1) := by decide +kernel
theorem dX9_find_71 : decode cX9_find 71 = .ok (.iload_n 3, 1) := by decide +kernel
theorem dX9_find_72 : decode cX9_find 72 = .ok (.iload 4, 2) := by decide +kernel
theorem dX9_find_74 : decode cX9_find 74 = .ok (.iload 5, 2) := by decide +kernel
theorem dX9_find_76 : decode cX9_find 76 = .ok (.invokevirtual 124, 3) := by decide +kernel
theorem dX9_find_79 : decode cX9_find 79 = .ok (.iload_n 2, 1) := by decide +kernel
theorem dX9_find_80 : decode cX9_find 80 = .ok (.ifCond .ge 7, 3) := by decide +kernel
theorem dX9_find_83 : decode cX9_find 83 = .ok (.iconst 0, 1) := by decide +kernel
theorem dX9_find_84 : decode cX9_find 84 = .ok (.goto 4, 3) := by decide +kernel
theorem dX9_find_87 : decode cX9_find 87 = .ok (.iload_n 2, 1) := by decide +kernel
theorem dX9_find_88 : decode cX9_find 88 = .ok (.istore 8, 2) := by decide +kernel
theorem dX9_find_90 : decode cX9_find 90 = .ok (.iload 8, 2) := by decide +kernel
theorem dX9_find_92 : decode cX9_find 92 = .ok (.aload_n 0, 1) := by decide +kernel
theorem dX9_find_93 : decode cX9_find 93 = .ok (.getfield 16, 3) := by decide +kernel
theorem dX9_find_96 : decode cX9_find 96 = .ok (.iload 7, 2) := by decide +kernel
theorem dX9_find_98 : decode cX9_find 98 = .ok (.iaload, 1) := by decide +kernel
theorem dX9_find_99 : decode cX9_find 99 = .ok (.if_icmp .ge 52, 3) := by decide +kernel
theorem dX9_find_102 : decode cX9_find 102 = .ok (.aload_n 0, 1) := by decide +kernel
theorem dX9_find_103 : decode cX9_find 103 = .ok (.aload_n 0, 1) := by decide +kernel
theorem dX9_find_104 : decode cX9_find 104 = .ok (.getfield 13, 3) := by decide +kernel
theorem dX9_find_107 : decode cX9_find 107 = .ok (.iload 7, 2) := by decide +kernel
theorem dX9_find_109 : decode cX9_find 109 = .ok (.iaload, 1) := by decide +kernel
theorem dX9_find_110 : decode cX9_find 110 = .ok (.aload_n 0, 1) := by decide +kernel
theorem dX9_find_111 : decode cX9_find 111 = .ok (.getfield 22, 3) := by decide +kernel
theorem dX9_find_114 : decode cX9_find 114 = .ok (.bipush 24, 2) := by decide +kernel
theorem dX9_find_116 : decode cX9_find 116 = .ok (.iload 7, 2) := by decide +kernel
theorem dX9_find_118 : decode cX9_find 118 = .ok (.imul, 1) := by decide +kernel
theorem dX9_find_119 : decode cX9_find 119 = .ok (.iload 8, 2) := by decide +kernel
theorem dX9_find_121 : decode cX9_find 121 = .ok (.iadd, 1) := by decide +kernel
theorem dX9_find_122 : decode cX9_find 122 = .ok (.laload, 1) := by decide +kernel
theorem dX9_find_123 : decode cX9_find 123 = .ok (.aload_n 0, 1) := by decide +kernel
theorem dX9_find_124 : decode cX9_find 124 = .ok (.getfield 26, 3) := by decide +kernel
theorem dX9_find_127 : decode cX9_find 127 = .ok (.bipush 24, 2) := by decide +kernel
theorem dX9_find_129 : decode cX9_find 129 = .ok (.iload 7, 2) := by decide +kernel
theorem dX9_find_131 : decode cX9_find 131 = .ok (.imul, 1) := by decide +kernel
theorem dX9_find_132 : decode cX9_find 132 = .ok (.iload 8, 2) := by decide +kernel
theorem dX9_find_134 : decode cX9_find 134 = .ok (.iadd, 1) := by decide +kernel
theorem dX9_find_135 : decode cX9_find 135 = .ok (.daload, 1) := by decide +kernel
theorem dX9_find_136 : decode cX9_find 136 = .ok (.invokevirtual 163, 3) := by decide +kernel
theorem dX9_find_139 : decode cX9_find 139 = .ok (.ifCond .ne 6, 3) := by decide +kernel
theorem dX9_find_142 : decode cX9_find 142 = .ok (.iload 8, 2) := by decide +kernel
theorem dX9_find_144 : decode cX9_find 144 = .ok (.ireturn, 1) := by decide +kernel
theorem dX9_find_145 : decode cX9_find 145 = .ok (.iinc 8 1, 3) := by decide +kernel
theorem dX9_find_148 : decode cX9_find 148 = .ok (.goto (-58), 3) := by decide +kernel
theorem dX9_find_151 : decode cX9_find 151 = .ok (.iconst (-1), 1) := by decide +kernel
theorem dX9_find_152 : decode cX9_find 152 = .ok (.ireturn, 1) := by decide +kernel
theorem dX9_areAlike_0 : decode cX9_areAlike 0 = .ok (.aload_n 0, 1) := by decide +kernel
theorem dX9_areAlike_1 : decode cX9_areAlike 1 = .ok (.iload_n 1, 1) := by decide +kernel
theorem dX9_areAlike_2 : decode cX9_areAlike 2 = .ok (.invokevirtual 91, 3) := by decide +kernel
theorem dX9_areAlike_5 : decode cX9_areAlike 5 = .ok (.aload_n 0, 1) := by decide +kernel
theorem dX9_areAlike_6 : decode cX9_areAlike 6 = .ok (.iload_n 2, 1) := by decide +kernel
theorem dX9_areAlike_7 : decode cX9_areAlike 7 = .ok (.invokevirtual 91, 3) := by decide +kernel
theorem dX9_areAlike_10 : decode cX9_areAlike 10 = .ok (.if_icmp .eq 5, 3) := by decide +kernel
theorem dX9_areAlike_13 : decode cX9_areAlike 13 = .ok (.iconst 0, 1) := by decide +kernel
theorem dX9_areAlike_14 : decode cX9_areAlike 14 = .ok (.ireturn, 1) := by decide +kernel
theorem dX9_areAlike_15 : decode cX9_areAlike 15 = .ok (.aload_n 0, 1) := by decide +kernel
theorem dX9_areAlike_16 : decode cX9_areAlike 16 = .ok (.iload_n 1, 1) := by decide +kernel
theorem dX9_areAlike_17 : decode cX9_areAlike 17 = .ok (.invokevirtual 91, 3) := by decide +kernel
theorem dX9_areAlike_20 : decode cX9_areAlike 20 = .ok (.ifCond .ne 35, 3) := by decide +kernel
theorem dX9_areAlike_23 : decode cX9_areAlike 23 = .ok (.aload_n 0, 1) := by decide +kernel
theorem dX9_areAlike_24 : decode cX9_areAlike 24 = .ok (.getfield 22, 3) := by decide +kernel
theorem dX9_areAlike_27 : decode cX9_areAlike 27 = .ok (.bipush 24, 2) := by decide +kernel
theorem dX9_areAlike_29 : decode cX9_areAlike 29 = .ok (.iload_n 1, 1) := by decide +kernel
theorem dX9_areAlike_30 : decode cX9_areAlike 30 = .ok (.imul, 1) := by decide +kernel
theorem dX9_areAlike_31 : decode cX9_areAlike 31 = .ok (.iload_n 3, 1) := by decide +kernel
theorem dX9_areAlike_32 : decode cX9_areAlike 32 = .ok (.iadd, 1) := by decide +kernel
theorem dX9_areAlike_33 : decode cX9_areAlike 33 = .ok (.laload, 1) := by decide +kernel
theorem dX9_areAlike_34 : decode cX9_areAlike 34 = .ok (.aload_n 0, 1) := by decide +kernel
theorem dX9_areAlike_35 : decode cX9_areAlike 35 = .ok (.getfield 22, 3) := by decide +kernel
theorem dX9_areAlike_38 : decode cX9_areAlike 38 = .ok (.bipush 24, 2) := by decide +kernel
theorem dX9_areAlike_40 : decode cX9_areAlike 40 = .ok (.iload_n 2, 1) := by decide +kernel
theorem dX9_areAlike_41 : decode cX9_areAlike 41 = .ok (.imul, 1) := by decide +kernel
theorem dX9_areAlike_42 : decode cX9_areAlike 42 = .ok (.iload_n 3, 1) := by decide +kernel
theorem dX9_areAlike_43 : decode cX9_areAlike 43 = .ok (.iadd, 1) := by decide +kernel
theorem dX9_areAlike_44 : decode cX9_areAlike 44 = .ok (.laload, 1) := by decide +kernel
theorem dX9_areAlike_45 : decode cX9_areAlike 45 = .ok (.lcmp, 1) := by decide +kernel
theorem dX9_areAlike_46 : decode cX9_areAlike 46 = .ok (.ifCond .ne 7, 3) := by decide +kernel
theorem dX9_areAlike_49 : decode cX9_areAlike 49 = .ok (.iconst 1, 1) := by decide +kernel
theorem dX9_areAlike_50 : decode cX9_areAlike 50 = .ok (.goto 4, 3) := by decide +kernel
theorem dX9_areAlike_53 : decode cX9_areAlike 53 = .ok (.iconst 0, 1) := by decide +kernel
theorem dX9_areAlike_54 : decode cX9_areAlike 54 = .ok (.ireturn, 1) := by decide +kernel
theorem dX9_areAlike_55 : decode cX9_areAlike 55 = .ok (.aload_n 0, 1) := by decide +kernel
theorem dX9_areAlike_56 : decode cX9_areAlike 56 = .ok (.iload_n 1, 1) := by decide +kernel
theorem dX9_areAlike_57 : decode cX9_areAlike 57 = .ok (.iload_n 3, 1) := by decide +kernel
theorem dX9_areAlike_58 : decode cX9_areAlike 58 = .ok (.invokevirtual 143, 3) := by decide +kernel
theorem dX9_areAlike_61 : decode cX9_areAlike 61 = .ok (.aload_n 0, 1) := by decide +kernel
theorem dX9_areAlike_62 : decode cX9_areAlike 62 = .ok (.aload_n 0, 1) := by decide +kernel
theorem dX9_areAlike_63 : decode cX9_areAlike 63 = .ok (.getfield 13, 3) := by decide +kernel
theorem dX9_areAlike_66 : decode cX9_areAlike 66 = .ok (.iload_n 2, 1) := by decide +kernel
theorem dX9_areAlike_67 : decode cX9_areAlike 67 = .ok (.iaload, 1) := by decide +kernel
theorem dX9_areAlike_68 : decode cX9_areAlike 68 = .ok (.aload_n 0, 1) := by decide +kernel
theorem dX9_areAlike_69 : decode cX9_areAlike 69 = .ok (.getfield 22, 3) := by decide +kernel
theorem dX9_areAlike_72 : decode cX9_areAlike 72 = .ok (.bipush 24, 2) := by decide +kernel
theorem dX9_areAlike_74 : decode cX9_areAlike 74 = .ok (.iload_n 2, 1) := by decide +kernel
theorem dX9_areAlike_75 : decode cX9_areAlike 75 = .ok (.imul, 1) := by decide +kernel
theorem dX9_areAlike_76 : decode cX9_areAlike 76 = .ok (.iload_n 3, 1) := by decide +kernel
theorem dX9_areAlike_77 : decode cX9_areAlike 77 = .ok (.iadd, 1) := by decide +kernel
theorem dX9_areAlike_78 : decode cX9_areAlike 78 = .ok (.laload, 1) := by decide +kernel
theorem dX9_areAlike_79 : decode cX9_areAlike 79 = .ok (.aload_n 0, 1) := by decide +kernel
theorem dX9_areAlike_80 : decode cX9_areAlike 80 = .ok (.getfield 26, 3) := by decide +kernel
theorem dX9_areAlike_83 : decode cX9_areAlike 83 = .ok (.bipush 24, 2) := by decide +kernel
theorem dX9_areAlike_85 : decode cX9_areAlike 85 = .ok (.iload_n 2, 1) := by decide +kernel
theorem dX9_areAlike_86 : decode cX9_areAlike 86 = .ok (.imul, 1) := by decide +kernel
theorem dX9_areAlike_87 : decode cX9_areAlike 87 = .ok (.iload_n 3, 1) := by decide +kernel
theorem dX9_areAlike_88 : decode cX9_areAlike 88 = .ok (.iadd, 1) := by decide +kernel
theorem dX9_areAlike_89 : decode cX9_areAlike 89 = .ok (.daload, 1) := by decide +kernel
theorem dX9_areAlike_90 : decode cX9_areAlike 90 = .ok (.invokevirtual 163, 3) := by decide +kernel
theorem dX9_areAlike_93 : decode cX9_areAlike 93 = .ok (.ifCond .ne 7, 3) := by decide +kernel
theorem dX9_areAlike_96 : decode cX9_areAlike 96 = .ok (.iconst 1, 1) := by decide +kernel
theorem dX9_areAlike_97 : decode cX9_areAlike 97 = .ok (.goto 4, 3) := by decide +kernel
theorem dX9_areAlike_100 : decode cX9_areAlike 100 = .ok (.iconst 0, 1) := by decide +kernel
theorem dX9_areAlike_101 : decode cX9_areAlike 101 = .ok (.ireturn, 1) := by decide +kernel
theorem dX9_alike_0 : decode cX9_alike 0 = .ok (.aload_n 0, 1) := by decide +kernel
theorem dX9_alike_1 : decode cX9_alike 1 = .ok (.iconst 0, 1) := by decide +kernel
theorem dX9_alike_2 : decode cX9_alike 2 = .ok (.putfield 48, 3) := by decide +kernel
theorem dX9_alike_5 : decode cX9_alike 5 = .ok (.iload_n 1, 1) := by decide +kernel
theorem dX9_alike_6 : decode cX9_alike 6 = .ok (.invokestatic 102, 3) := by decide +kernel
theorem dX9_alike_9 : decode cX9_alike 9 = .ok (.ifCond .eq 10, 3) := by decide +kernel
theorem dX9_alike_12 : decode cX9_alike 12 = .ok (.iload_n 2, 1) := by decide +kernel
theorem dX9_alike_13 : decode cX9_alike 13 = .ok (.invokestatic 102, 3) := by decide +kernel
theorem dX9_alike_16 : decode cX9_alike 16 = .ok (.ifCond .ne 9, 3) := by decide +kernel
theorem dX9_alike_19 : decode cX9_alike 19 = .ok (.aload_n 0, 1) := by decide +kernel
theorem dX9_alike_20 : decode cX9_alike 20 = .ok (.iconst 1, 1) := by decide +kernel
theorem dX9_alike_21 : decode cX9_alike 21 = .ok (.invokevirtual 105, 3) := by decide +kernel
theorem dX9_alike_24 : decode cX9_alike 24 = .ok (.ireturn, 1) := by decide +kernel
theorem dX9_alike_25 : decode cX9_alike 25 = .ok (.aload_n 0, 1) := by decide +kernel
theorem dX9_alike_26 : decode cX9_alike 26 = .ok (.iload_n 1, 1) := by decide +kernel
theorem dX9_alike_27 : decode cX9_alike 27 = .ok (.iload_n 2, 1) := by decide +kernel
theorem dX9_alike_28 : decode cX9_alike 28 = .ok (.iload_n 2, 1) := by decide +kernel
theorem dX9_alike_29 : decode cX9_alike 29 = .ok (.invokevirtual 154, 3) := by decide +kernel
theorem dX9_alike_32 : decode cX9_alike 32 = .ok (.istore_n 3, 1) := by decide +kernel
theorem dX9_alike_33 : decode cX9_alike 33 = .ok (.iload_n 3, 1) := by decide +kernel
theorem dX9_alike_34 : decode cX9_alike 34 = .ok (.ifCond .le 9, 3) := by decide +kernel
theorem dX9_alike_37 : decode cX9_alike 37 = .ok (.aload_n 0, 1) := by decide +kernel
theorem dX9_alike_38 : decode cX9_alike 38 = .ok (.iload_n 3, 1) := by decide +kernel
theorem dX9_alike_39 : decode cX9_alike 39 = .ok (.invokevirtual 105, 3) := by decide +kernel
theorem dX9_alike_42 : decode cX9_alike 42 = .ok (.ireturn, 1) := by decide +kernel
theorem dX9_alike_43 : decode cX9_alike 43 = .ok (.aload_n 0, 1) := by decide +kernel
theorem dX9_alike_44 : decode cX9_alike 44 = .ok (.iload_n 1, 1) := by decide +kernel
theorem dX9_alike_45 : decode cX9_alike 45 = .ok (.invokevirtual 56, 3) := by decide +kernel
theorem dX9_alike_48 : decode cX9_alike 48 = .ok (.istore 4, 2) := by decide +kernel
theorem dX9_alike_50 : decode cX9_alike 50 = .ok (.aload_n 0, 1) := by decide +kernel
theorem dX9_alike_51 : decode cX9_alike 51 = .ok (.iload_n 2, 1) := by decide +kernel
theorem dX9_alike_52 : decode cX9_alike 52 = .ok (.invokevirtual 56, 3) := by decide +kernel
theorem dX9_alike_55 : decode cX9_alike 55 = .ok (.istore 5, 2) := by decide +kernel
theorem dX9_alike_57 : decode cX9_alike 57 = .ok (.aload_n 0, 1) := by decide +kernel
theorem dX9_alike_58 : decode cX9_alike 58 = .ok (.getfield 16, 3) := by decide +kernel
theorem dX9_alike_61 : decode cX9_alike 61 = .ok (.iload 4, 2) := by decide +kernel
theorem dX9_alike_63 : decode cX9_alike 63 = .ok (.iaload, 1) := by decide +kernel
theorem dX9_alike_64 : decode cX9_alike 64 = .ok (.aload_n 0, 1) := by decide +kernel
theorem dX9_alike_65 : decode cX9_alike 65 = .ok (.getfield 16, 3) := by decide +kernel
theorem dX9_alike_68 : decode cX9_alike 68 = .ok (.iload 5, 2) := by decide +kernel
theorem dX9_alike_70 : decode cX9_alike 70 = .ok (.iaload, 1) := by decide +kernel
theorem dX9_alike_71 : decode cX9_alike 71 = .ok (.if_icmp .eq 5, 3) := by decide +kernel
theorem dX9_alike_74 : decode cX9_alike 74 = .ok (.iconst 0, 1) := by decide +kernel
theorem dX9_alike_75 : decode cX9_alike 75 = .ok (.ireturn, 1) := by decide +kernel
theorem dX9_alike_76 : decode cX9_alike 76 = .ok (.iconst 0, 1) := by decide +kernel
theorem dX9_alike_77 : decode cX9_alike 77 = .ok (.istore 6, 2) := by decide +kernel
theorem dX9_alike_79 : decode cX9_alike 79 = .ok (.iload 6, 2) := by decide +kernel
theorem dX9_alike_81 : decode cX9_alike 81 = .ok (.aload_n 0, 1) := by decide +kernel
theorem dX9_alike_82 : decode cX9_alike 82 = .ok (.getfield 16, 3) := by decide +kernel
theorem dX9_alike_85 : decode cX9_alike 85 = .ok (.iload 4, 2) := by decide +kernel
theorem dX9_alike_87 : decode cX9_alike 87 = .ok (.iaload, 1) := by decide +kernel
theorem dX9_alike_88 : decode cX9_alike 88 = .ok (.if_icmp .ge 24, 3) := by decide +kernel
theorem dX9_alike_91 : decode cX9_alike 91 = .ok (.aload_n 0, 1) := by decide +kernel
theorem dX9_alike_92 : decode cX9_alike 92 = .ok (.iload 4, 2) := by decide +kernel
theorem dX9_alike_94 : decode cX9_alike 94 = .ok (.iload 5, 2) := by decide +kernel
theorem dX9_alike_96 : decode cX9_alike 96 = .ok (.iload 6, 2) := by decide +kernel
theorem dX9_alike_98 : decode cX9_alike 98 = .ok (.invokevirtual 192, 3) := by decide +kernel
theorem dX9_alike_101 : decode cX9_alike 101 = .ok (.ifCond .ne 5, 3) := by decide +kernel
theorem dX9_alike_104 : decode cX9_alike 104 = .ok (.iconst 0, 1) := by decide +kernel
theorem dX9_alike_105 : decode cX9_alike 105 = .ok (.ireturn, 1) := by decide +kernel
theorem dX9_alike_106 : decode cX9_alike 106 = .ok (.iinc 6 1, 3) := by decide +kernel
theorem dX9_alike_109 : decode cX9_alike 109 = .ok (.goto (-30), 3) := by decide +kernel
theorem dX9_alike_112 : decode cX9_alike 112 = .ok (.iconst 1, 1) := by decide +kernel
theorem dX9_alike_113 : decode cX9_alike 113 = .ok (.ireturn, 1) := by decide +kernel
theorem dX9_why_0 : decode cX9_why 0 = .ok (.aload_n 0, 1) := by decide +kernel
theorem dX9_why_1 : decode cX9_why 1 = .ok (.getfield 48, 3) := by decide +kernel
theorem dX9_why_4 : decode cX9_why 4 = .ok (.ireturn, 1) := by decide +kernel
