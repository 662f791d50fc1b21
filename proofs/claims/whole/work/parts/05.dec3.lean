theorem dX3_init_0 : decode cX3_init 0 = .ok (.aload_n 0, 1) := by decide +kernel
theorem dX3_init_1 : decode cX3_init 1 = .ok (.invokespecial 1, 3) := by decide +kernel
theorem dX3_init_4 : decode cX3_init 4 = .ok (.aload_n 0, 1) := by decide +kernel
theorem dX3_init_5 : decode cX3_init 5 = .ok (.sipush 3100, 3) := by decide +kernel
theorem dX3_init_8 : decode cX3_init 8 = .ok (.newarray .int, 2) := by decide +kernel
theorem dX3_init_10 : decode cX3_init 10 = .ok (.putfield 7, 3) := by decide +kernel
theorem dX3_init_13 : decode cX3_init 13 = .ok (.aload_n 0, 1) := by decide +kernel
theorem dX3_init_14 : decode cX3_init 14 = .ok (.sipush 3100, 3) := by decide +kernel
theorem dX3_init_17 : decode cX3_init 17 = .ok (.newarray .int, 2) := by decide +kernel
theorem dX3_init_19 : decode cX3_init 19 = .ok (.putfield 13, 3) := by decide +kernel
theorem dX3_init_22 : decode cX3_init 22 = .ok (.aload_n 0, 1) := by decide +kernel
theorem dX3_init_23 : decode cX3_init 23 = .ok (.sipush 256, 3) := by decide +kernel
theorem dX3_init_26 : decode cX3_init 26 = .ok (.newarray .int, 2) := by decide +kernel
theorem dX3_init_28 : decode cX3_init 28 = .ok (.putfield 16, 3) := by decide +kernel
theorem dX3_init_31 : decode cX3_init 31 = .ok (.aload_n 0, 1) := by decide +kernel
theorem dX3_init_32 : decode cX3_init 32 = .ok (.sipush 256, 3) := by decide +kernel
theorem dX3_init_35 : decode cX3_init 35 = .ok (.newarray .int, 2) := by decide +kernel
theorem dX3_init_37 : decode cX3_init 37 = .ok (.putfield 19, 3) := by decide +kernel
theorem dX3_init_40 : decode cX3_init 40 = .ok (.aload_n 0, 1) := by decide +kernel
theorem dX3_init_41 : decode cX3_init 41 = .ok (.sipush 3100, 3) := by decide +kernel
theorem dX3_init_44 : decode cX3_init 44 = .ok (.newarray .int, 2) := by decide +kernel
theorem dX3_init_46 : decode cX3_init 46 = .ok (.putfield 22, 3) := by decide +kernel
theorem dX3_init_49 : decode cX3_init 49 = .ok (.aload_n 0, 1) := by decide +kernel
theorem dX3_init_50 : decode cX3_init 50 = .ok (.sipush 3100, 3) := by decide +kernel
theorem dX3_init_53 : decode cX3_init 53 = .ok (.newarray .int, 2) := by decide +kernel
theorem dX3_init_55 : decode cX3_init 55 = .ok (.putfield 25, 3) := by decide +kernel
theorem dX3_init_58 : decode cX3_init 58 = .ok (.aload_n 0, 1) := by decide +kernel
theorem dX3_init_59 : decode cX3_init 59 = .ok (.sipush 256, 3) := by decide +kernel
theorem dX3_init_62 : decode cX3_init 62 = .ok (.newarray .int, 2) := by decide +kernel
theorem dX3_init_64 : decode cX3_init 64 = .ok (.putfield 28, 3) := by decide +kernel
theorem dX3_init_67 : decode cX3_init 67 = .ok (.aload_n 0, 1) := by decide +kernel
theorem dX3_init_68 : decode cX3_init 68 = .ok (.sipush 256, 3) := by decide +kernel
theorem dX3_init_71 : decode cX3_init 71 = .ok (.newarray .int, 2) := by decide +kernel
theorem dX3_init_73 : decode cX3_init 73 = .ok (.putfield 31, 3) := by decide +kernel
theorem dX3_init_76 : decode cX3_init 76 = .ok (.aload_n 0, 1) := by decide +kernel
theorem dX3_init_77 : decode cX3_init 77 = .ok (.sipush 200, 3) := by decide +kernel
theorem dX3_init_80 : decode cX3_init 80 = .ok (.newarray .boolean, 2) := by decide +kernel
theorem dX3_init_82 : decode cX3_init 82 = .ok (.putfield 34, 3) := by decide +kernel
theorem dX3_init_85 : decode cX3_init 85 = .ok (.aload_n 0, 1) := by decide +kernel
theorem dX3_init_86 : decode cX3_init 86 = .ok (.sipush 200, 3) := by decide +kernel
theorem dX3_init_89 : decode cX3_init 89 = .ok (.newarray .boolean, 2) := by decide +kernel
theorem dX3_init_91 : decode cX3_init 91 = .ok (.putfield 38, 3) := by decide +kernel
theorem dX3_init_94 : decode cX3_init 94 = .ok (.aload_n 0, 1) := by decide +kernel
theorem dX3_init_95 : decode cX3_init 95 = .ok (.iload_n 1, 1) := by decide +kernel
theorem dX3_init_96 : decode cX3_init 96 = .ok (.bipush 8, 2) := by decide +kernel
theorem dX3_init_98 : decode cX3_init 98 = .ok (.if_icmp .ge 8, 3) := by decide +kernel
theorem dX3_init_101 : decode cX3_init 101 = .ok (.bipush 8, 2) := by decide +kernel
theorem dX3_init_103 : decode cX3_init 103 = .ok (.goto 17, 3) := by decide +kernel
theorem dX3_init_106 : decode cX3_init 106 = .ok (.iload_n 1, 1) := by decide +kernel
theorem dX3_init_107 : decode cX3_init 107 = .ok (.sipush 200, 3) := by decide +kernel
theorem dX3_init_110 : decode cX3_init 110 = .ok (.if_icmp .le 9, 3) := by decide +kernel
theorem dX3_init_113 : decode cX3_init 113 = .ok (.sipush 200, 3) := by decide +kernel
theorem dX3_init_116 : decode cX3_init 116 = .ok (.goto 4, 3) := by decide +kernel
theorem dX3_init_119 : decode cX3_init 119 = .ok (.iload_n 1, 1) := by decide +kernel
theorem dX3_init_120 : decode cX3_init 120 = .ok (.putfield 41, 3) := by decide +kernel
theorem dX3_init_123 : decode cX3_init 123 = .ok (.aload_n 0, 1) := by decide +kernel
theorem dX3_init_124 : decode cX3_init 124 = .ok (.iload_n 2, 1) := by decide +kernel
theorem dX3_init_125 : decode cX3_init 125 = .ok (.ifCond .ge 7, 3) := by decide +kernel
theorem dX3_init_128 : decode cX3_init 128 = .ok (.iconst 0, 1) := by decide +kernel
theorem dX3_init_129 : decode cX3_init 129 = .ok (.goto 15, 3) := by decide +kernel
theorem dX3_init_132 : decode cX3_init 132 = .ok (.iload_n 2, 1) := by decide +kernel
theorem dX3_init_133 : decode cX3_init 133 = .ok (.bipush 8, 2) := by decide +kernel
theorem dX3_init_135 : decode cX3_init 135 = .ok (.if_icmp .le 8, 3) := by decide +kernel
theorem dX3_init_138 : decode cX3_init 138 = .ok (.bipush 8, 2) := by decide +kernel
theorem dX3_init_140 : decode cX3_init 140 = .ok (.goto 4, 3) := by decide +kernel
theorem dX3_init_143 : decode cX3_init 143 = .ok (.iload_n 2, 1) := by decide +kernel
theorem dX3_init_144 : decode cX3_init 144 = .ok (.putfield 45, 3) := by decide +kernel
theorem dX3_init_147 : decode cX3_init 147 = .ok (.aload_n 0, 1) := by decide +kernel
theorem dX3_init_148 : decode cX3_init 148 = .ok (.getfield 19, 3) := by decide +kernel
theorem dX3_init_151 : decode cX3_init 151 = .ok (.iconst 0, 1) := by decide +kernel
theorem dX3_init_152 : decode cX3_init 152 = .ok (.iconst 2, 1) := by decide +kernel
theorem dX3_init_153 : decode cX3_init 153 = .ok (.iastore, 1) := by decide +kernel
theorem dX3_init_154 : decode cX3_init 154 = .ok (.aload_n 0, 1) := by decide +kernel
theorem dX3_init_155 : decode cX3_init 155 = .ok (.getfield 31, 3) := by decide +kernel
theorem dX3_init_158 : decode cX3_init 158 = .ok (.iconst 0, 1) := by decide +kernel
theorem dX3_init_159 : decode cX3_init 159 = .ok (.iconst 2, 1) := by decide +kernel
theorem dX3_init_160 : decode cX3_init 160 = .ok (.iastore, 1) := by decide +kernel
theorem dX3_init_161 : decode cX3_init 161 = .ok (.aload_n 0, 1) := by decide +kernel
theorem dX3_init_162 : decode cX3_init 162 = .ok (.getfield 34, 3) := by decide +kernel
theorem dX3_init_165 : decode cX3_init 165 = .ok (.iconst 2, 1) := by decide +kernel
theorem dX3_init_166 : decode cX3_init 166 = .ok (.iconst 1, 1) := by decide +kernel
theorem dX3_init_167 : decode cX3_init 167 = .ok (.bastore, 1) := by decide +kernel
theorem dX3_init_168 : decode cX3_init 168 = .ok (.aload_n 0, 1) := by decide +kernel
theorem dX3_init_169 : decode cX3_init 169 = .ok (.getfield 34, 3) := by decide +kernel
theorem dX3_init_172 : decode cX3_init 172 = .ok (.iconst 3, 1) := by decide +kernel
theorem dX3_init_173 : decode cX3_init 173 = .ok (.iconst 1, 1) := by decide +kernel
theorem dX3_init_174 : decode cX3_init 174 = .ok (.bastore, 1) := by decide +kernel
theorem dX3_init_175 : decode cX3_init 175 = .ok (.return_, 1) := by decide +kernel
theorem dX3_mixing_0 : decode cX3_mixing 0 = .ok (.iload_n 0, 1) := by decide +kernel
theorem dX3_mixing_1 : decode cX3_mixing 1 = .ok (.ldc 51, 2) := by decide +kernel
theorem dX3_mixing_3 : decode cX3_mixing 3 = .ok (.imul, 1) := by decide +kernel
theorem dX3_mixing_4 : decode cX3_mixing 4 = .ok (.istore_n 1, 1) := by decide +kernel
theorem dX3_mixing_5 : decode cX3_mixing 5 = .ok (.iload_n 1, 1) := by decide +kernel
theorem dX3_mixing_6 : decode cX3_mixing 6 = .ok (.iload_n 1, 1) := by decide +kernel
theorem dX3_mixing_7 : decode cX3_mixing 7 = .ok (.bipush 15, 2) := by decide +kernel
theorem dX3_mixing_9 : decode cX3_mixing 9 = .ok (.iushr, 1) := by decide +kernel
theorem dX3_mixing_10 : decode cX3_mixing 10 = .ok (.ixor, 1) := by decide +kernel
theorem dX3_mixing_11 : decode cX3_mixing 11 = .ok (.ireturn, 1) := by decide +kernel
theorem dX3_low_0 : decode cX3_low 0 = .ok (.iload_n 0, 1) := by decide +kernel
theorem dX3_low_1 : decode cX3_low 1 = .ok (.iconst 1, 1) := by decide +kernel
theorem dX3_low_2 : decode cX3_low 2 = .ok (.iload_n 1, 1) := by decide +kernel
theorem dX3_low_3 : decode cX3_low 3 = .ok (.ishl, 1) := by decide +kernel
theorem dX3_low_4 : decode cX3_low 4 = .ok (.iconst 1, 1) := by decide +kernel
theorem dX3_low_5 : decode cX3_low 5 = .ok (.isub, 1) := by decide +kernel
theorem dX3_low_6 : decode cX3_low 6 = .ok (.iand, 1) := by decide +kernel
theorem dX3_low_7 : decode cX3_low 7 = .ok (.ireturn, 1) := by decide +kernel
set_option maxRecDepth 20000 in
theorem ggX3_entry_X3_mixing : GoodIn wsX3_entry wsX3_mixing := goodIn_r _ [5, 6] (by decide +kernel) (by decide +kernel)
set_option maxRecDepth 20000 in
theorem gX3_entry_X3_mixing : GoodIn wsX3_entry (va_wsS RX3 52 yX3_mixing wsX3_mixing) := goodIn_app (goodIn_of _ (by decide +kernel)) ggX3_entry_X3_mixing
set_option maxRecDepth 20000 in
theorem ggX3_entry_X3_low : GoodIn wsX3_entry wsX3_low := goodIn_r _ [9] (by decide +kernel) (by decide +kernel)
set_option maxRecDepth 20000 in
theorem gX3_entry_X3_low : GoodIn wsX3_entry (va_wsS RX3 59 yX3_low wsX3_low) := goodIn_app (goodIn_of _ (by decide +kernel)) ggX3_entry_X3_low
theorem dX3_entry_0 : decode cX3_entry 0 = .ok (.iload_n 1, 1) := by decide +kernel
theorem dX3_entry_1 : decode cX3_entry 1 = .ok (.invokestatic 52, 3) := by decide +kernel
theorem dX3_entry_4 : decode cX3_entry 4 = .ok (.aload_n 0, 1) := by decide +kernel
theorem dX3_entry_5 : decode cX3_entry 5 = .ok (.getfield 56, 3) := by decide +kernel
theorem dX3_entry_8 : decode cX3_entry 8 = .ok (.invokestatic 59, 3) := by decide +kernel
theorem dX3_entry_11 : decode cX3_entry 11 = .ok (.ireturn, 1) := by decide +kernel
theorem dX3_find_0 : decode cX3_find 0 = .ok (.iconst 0, 1) := by decide +kernel
theorem dX3_find_1 : decode cX3_find 1 = .ok (.istore_n 2, 1) := by decide +kernel
theorem dX3_find_2 : decode cX3_find 2 = .ok (.iload_n 2, 1) := by decide +kernel
theorem dX3_find_3 : decode cX3_find 3 = .ok (.aload_n 0, 1) := by decide +kernel
theorem dX3_find_4 : decode cX3_find 4 = .ok (.getfield 63, 3) := by decide +kernel
theorem dX3_find_7 : decode cX3_find 7 = .ok (.if_icmp .ge 19, 3) := by decide +kernel
theorem dX3_find_10 : decode cX3_find 10 = .ok (.aload_n 0, 1) := by decide +kernel
theorem dX3_find_11 : decode cX3_find 11 = .ok (.getfield 7, 3) := by decide +kernel
theorem dX3_find_14 : decode cX3_find 14 = .ok (.iload_n 2, 1) := by decide +kernel
theorem dX3_find_15 : decode cX3_find 15 = .ok (.iaload, 1) := by decide +kernel
theorem dX3_find_16 : decode cX3_find 16 = .ok (.iload_n 1, 1) := by decide +kernel
theorem dX3_find_17 : decode cX3_find 17 = .ok (.if_icmp .eq 9, 3) := by decide +kernel
theorem dX3_find_20 : decode cX3_find 20 = .ok (.iinc 2 1, 3) := by decide +kernel
theorem dX3_find_23 : decode cX3_find 23 = .ok (.goto (-21), 3) := by decide +kernel
theorem dX3_find_26 : decode cX3_find 26 = .ok (.iload_n 2, 1) := by decide +kernel
theorem dX3_find_27 : decode cX3_find 27 = .ok (.aload_n 0, 1) := by decide +kernel
theorem dX3_find_28 : decode cX3_find 28 = .ok (.getfield 63, 3) := by decide +kernel
theorem dX3_find_31 : decode cX3_find 31 = .ok (.if_icmp .ge 7, 3) := by decide +kernel
theorem dX3_find_34 : decode cX3_find 34 = .ok (.iload_n 2, 1) := by decide +kernel
theorem dX3_find_35 : decode cX3_find 35 = .ok (.goto 4, 3) := by decide +kernel
theorem dX3_find_38 : decode cX3_find 38 = .ok (.iconst (-1), 1) := by decide +kernel
theorem dX3_find_39 : decode cX3_find 39 = .ok (.ireturn, 1) := by decide +kernel
set_option maxRecDepth 20000 in
theorem ggX3_many_X3_mixing : GoodIn wsX3_many wsX3_mixing := goodIn_r _ [6, 7] (by decide +kernel) (by decide +kernel)
set_option maxRecDepth 20000 in
theorem gX3_many_X3_mixing : GoodIn wsX3_many (va_wsS RX3 52 yX3_mixing wsX3_mixing) := goodIn_app (goodIn_of _ (by decide +kernel)) ggX3_many_X3_mixing
set_option maxRecDepth 20000 in
theorem ggX3_many_X3_low : GoodIn wsX3_many wsX3_low := goodIn_r _ [10] (by decide +kernel) (by decide +kernel)
set_option maxRecDepth 20000 in
theorem gX3_many_X3_low : GoodIn wsX3_many (va_wsS RX3 59 yX3_low wsX3_low) := goodIn_app (goodIn_of _ (by decide +kernel)) ggX3_many_X3_low
theorem dX3_many_0 : decode cX3_many 0 = .ok (.iconst 0, 1) := by decide +kernel
theorem dX3_many_1 : decode cX3_many 1 = .ok (.istore_n 3, 1) := by decide +kernel
theorem dX3_many_2 : decode cX3_many 2 = .ok (.iconst 0, 1) := by decide +kernel
theorem dX3_many_3 : decode cX3_many 3 = .ok (.istore 4, 2) := by decide +kernel
theorem dX3_many_5 : decode cX3_many 5 = .ok (.iload 4, 2) := by decide +kernel
theorem dX3_many_7 : decode cX3_many 7 = .ok (.aload_n 0, 1) := by decide +kernel
theorem dX3_many_8 : decode cX3_many 8 = .ok (.getfield 63, 3) := by decide +kernel
theorem dX3_many_11 : decode cX3_many 11 = .ok (.if_icmp .ge 39, 3) := by decide +kernel
theorem dX3_many_14 : decode cX3_many 14 = .ok (.aload_n 0, 1) := by decide +kernel
theorem dX3_many_15 : decode cX3_many 15 = .ok (.getfield 7, 3) := by decide +kernel
theorem dX3_many_18 : decode cX3_many 18 = .ok (.iload 4, 2) := by decide +kernel
theorem dX3_many_20 : decode cX3_many 20 = .ok (.iaload, 1) := by decide +kernel
theorem dX3_many_21 : decode cX3_many 21 = .ok (.invokestatic 52, 3) := by decide +kernel
theorem dX3_many_24 : decode cX3_many 24 = .ok (.iload_n 2, 1) := by decide +kernel
theorem dX3_many_25 : decode cX3_many 25 = .ok (.invokestatic 59, 3) := by decide +kernel
theorem dX3_many_28 : decode cX3_many 28 = .ok (.iload_n 1, 1) := by decide +kernel
theorem dX3_many_29 : decode cX3_many 29 = .ok (.iload_n 2, 1) := by decide +kernel
theorem dX3_many_30 : decode cX3_many 30 = .ok (.invokestatic 59, 3) := by decide +kernel
theorem dX3_many_33 : decode cX3_many 33 = .ok (.if_icmp .ne 9, 3) := by decide +kernel
theorem dX3_many_36 : decode cX3_many 36 = .ok (.iload_n 3, 1) := by decide +kernel
theorem dX3_many_37 : decode cX3_many 37 = .ok (.iconst 1, 1) := by decide +kernel
theorem dX3_many_38 : decode cX3_many 38 = .ok (.iadd, 1) := by decide +kernel
theorem dX3_many_39 : decode cX3_many 39 = .ok (.goto 4, 3) := by decide +kernel
theorem dX3_many_42 : decode cX3_many 42 = .ok (.iload_n 3, 1) := by decide +kernel
theorem dX3_many_43 : decode cX3_many 43 = .ok (.istore_n 3, 1) := by decide +kernel
theorem dX3_many_44 : decode cX3_many 44 = .ok (.iinc 4 1, 3) := by decide +kernel
theorem dX3_many_47 : decode cX3_many 47 = .ok (.goto (-42), 3) := by decide +kernel
theorem dX3_many_50 : decode cX3_many 50 = .ok (.iload_n 3, 1) := by decide +kernel
theorem dX3_many_51 : decode cX3_many 51 = .ok (.ireturn, 1) := by decide +kernel
set_option maxRecDepth 20000 in
theorem ggX3_isFirst_X3_low : GoodIn wsX3_isFirst wsX3_low := goodIn_r _ [5] (by decide +kernel) (by decide +kernel)
set_option maxRecDepth 20000 in
theorem gX3_isFirst_X3_low : GoodIn wsX3_isFirst (va_wsS RX3 59 yX3_low wsX3_low) := goodIn_app (goodIn_of _ (by decide +kernel)) ggX3_isFirst_X3_low
theorem dX3_isFirst_0 : decode cX3_isFirst 0 = .ok (.iload_n 1, 1) := by decide +kernel
theorem dX3_isFirst_1 : decode cX3_isFirst 1 = .ok (.aload_n 0, 1) := by decide +kernel
theorem dX3_isFirst_2 : decode cX3_isFirst 2 = .ok (.getfield 16, 3) := by decide +kernel
theorem dX3_isFirst_5 : decode cX3_isFirst 5 = .ok (.iload_n 1, 1) := by decide +kernel
theorem dX3_isFirst_6 : decode cX3_isFirst 6 = .ok (.iaload, 1) := by decide +kernel
theorem dX3_isFirst_7 : decode cX3_isFirst 7 = .ok (.invokestatic 59, 3) := by decide +kernel
theorem dX3_isFirst_10 : decode cX3_isFirst 10 = .ok (.iload_n 1, 1) := by decide +kernel
theorem dX3_isFirst_11 : decode cX3_isFirst 11 = .ok (.if_icmp .ne 7, 3) := by decide +kernel
theorem dX3_isFirst_14 : decode cX3_isFirst 14 = .ok (.iconst 1, 1) := by decide +kernel
theorem dX3_isFirst_15 : decode cX3_isFirst 15 = .ok (.goto 4, 3) := by decide +kernel
theorem dX3_isFirst_18 : decode cX3_isFirst 18 = .ok (.iconst 0, 1) := by decide +kernel
theorem dX3_isFirst_19 : decode cX3_isFirst 19 = .ok (.ireturn, 1) := by decide +kernel
set_option maxRecDepth 20000 in
theorem ggX3_count_X3_isFirst : GoodIn wsX3_count wsX3_isFirst := goodIn_r _ [6, 7, 8, 9, 5, 10, 11, 12, 13, 14, 15, 16, 17, 18, 19, 20, 21, 22, 23, 24, 25, 26, 27, 28, 29, 30, 31] (by decide +kernel) (by decide +kernel)
set_option maxRecDepth 20000 in
theorem gX3_count_X3_isFirst : GoodIn wsX3_count (wsV RX3 66 RX3 yX3_isFirst wsX3_isFirst) := goodIn_app (goodIn_of _ (by decide +kernel)) ggX3_count_X3_isFirst
theorem dX3_count_0 : decode cX3_count 0 = .ok (.iconst 0, 1) := by decide +kernel
theorem dX3_count_1 : decode cX3_count 1 = .ok (.istore_n 1, 1) := by decide +kernel
theorem dX3_count_2 : decode cX3_count 2 = .ok (.iconst 0, 1) := by decide +kernel
theorem dX3_count_3 : decode cX3_count 3 = .ok (.istore_n 2, 1) := by decide +kernel
theorem dX3_count_4 : decode cX3_count 4 = .ok (.iload_n 2, 1) := by decide +kernel
theorem dX3_count_5 : decode cX3_count 5 = .ok (.iconst 1, 1) := by decide +kernel
theorem dX3_count_6 : decode cX3_count 6 = .ok (.aload_n 0, 1) := by decide +kernel
theorem dX3_count_7 : decode cX3_count 7 = .ok (.getfield 56, 3) := by decide +kernel
theorem dX3_count_10 : decode cX3_count 10 = .ok (.ishl, 1) := by decide +kernel
theorem dX3_count_11 : decode cX3_count 11 = .ok (.if_icmp .ge 25, 3) := by decide +kernel
theorem dX3_count_14 : decode cX3_count 14 = .ok (.aload_n 0, 1) := by decide +kernel
theorem dX3_count_15 : decode cX3_count 15 = .ok (.iload_n 2, 1) := by decide +kernel
theorem dX3_count_16 : decode cX3_count 16 = .ok (.invokevirtual 66, 3) := by decide +kernel
theorem dX3_count_19 : decode cX3_count 19 = .ok (.ifCond .eq 9, 3) := by decide +kernel
theorem dX3_count_22 : decode cX3_count 22 = .ok (.iload_n 1, 1) := by decide +kernel
theorem dX3_count_23 : decode cX3_count 23 = .ok (.iconst 1, 1) := by decide +kernel
theorem dX3_count_24 : decode cX3_count 24 = .ok (.iadd, 1) := by decide +kernel
theorem dX3_count_25 : decode cX3_count 25 = .ok (.goto 4, 3) := by decide +kernel
theorem dX3_count_28 : decode cX3_count 28 = .ok (.iload_n 1, 1) := by decide +kernel
theorem dX3_count_29 : decode cX3_count 29 = .ok (.istore_n 1, 1) := by decide +kernel
theorem dX3_count_30 : decode cX3_count 30 = .ok (.iinc 2 1, 3) := by decide +kernel
theorem dX3_count_33 : decode cX3_count 33 = .ok (.goto (-29), 3) := by decide +kernel
theorem dX3_count_36 : decode cX3_count 36 = .ok (.iload_n 1, 1) := by decide +kernel
theorem dX3_count_37 : decode cX3_count 37 = .ok (.ireturn, 1) := by decide +kernel
theorem dX3_directory_0 : decode cX3_directory 0 = .ok (.iload_n 0, 1) := by decide +kernel
theorem dX3_directory_1 : decode cX3_directory 1 = .ok (.bipush 6, 2) := by decide +kernel
theorem dX3_directory_3 : decode cX3_directory 3 = .ok (.if_icmp .ge 7, 3) := by decide +kernel
theorem dX3_directory_6 : decode cX3_directory 6 = .ok (.iconst 1, 1) := by decide +kernel
theorem dX3_directory_7 : decode cX3_directory 7 = .ok (.goto 8, 3) := by decide +kernel
theorem dX3_directory_10 : decode cX3_directory 10 = .ok (.iconst 1, 1) := by decide +kernel
theorem dX3_directory_11 : decode cX3_directory 11 = .ok (.iload_n 0, 1) := by decide +kernel
theorem dX3_directory_12 : decode cX3_directory 12 = .ok (.iconst 5, 1) := by decide +kernel
theorem dX3_directory_13 : decode cX3_directory 13 = .ok (.isub, 1) := by decide +kernel
theorem dX3_directory_14 : decode cX3_directory 14 = .ok (.ishl, 1) := by decide +kernel
theorem dX3_directory_15 : decode cX3_directory 15 = .ok (.ireturn, 1) := by decide +kernel
set_option maxRecDepth 20000 in
theorem ggX3_set_X3_low : GoodIn wsX3_set wsX3_low := goodIn_r _ [7] (by decide +kernel) (by decide +kernel)
set_option maxRecDepth 20000 in
theorem gX3_set_X3_low : GoodIn wsX3_set (va_wsS RX3 59 yX3_low wsX3_low) := goodIn_app (goodIn_of _ (by decide +kernel)) ggX3_set_X3_low
theorem dX3_set_0 : decode cX3_set 0 = .ok (.iconst 0, 1) := by decide +kernel
theorem dX3_set_1 : decode cX3_set 1 = .ok (.istore 4, 2) := by decide +kernel
theorem dX3_set_3 : decode cX3_set 3 = .ok (.iload 4, 2) := by decide +kernel
theorem dX3_set_5 : decode cX3_set 5 = .ok (.iconst 1, 1) := by decide +kernel
theorem dX3_set_6 : decode cX3_set 6 = .ok (.aload_n 0, 1) := by decide +kernel
theorem dX3_set_7 : decode cX3_set 7 = .ok (.getfield 56, 3) := by decide +kernel
theorem dX3_set_10 : decode cX3_set 10 = .ok (.ishl, 1) := by decide +kernel
theorem dX3_set_11 : decode cX3_set 11 = .ok (.if_icmp .ge 39, 3) := by decide +kernel
theorem dX3_set_14 : decode cX3_set 14 = .ok (.iload 4, 2) := by decide +kernel
theorem dX3_set_16 : decode cX3_set 16 = .ok (.iload_n 2, 1) := by decide +kernel
theorem dX3_set_17 : decode cX3_set 17 = .ok (.invokestatic 59, 3) := by decide +kernel
theorem dX3_set_20 : decode cX3_set 20 = .ok (.iload_n 1, 1) := by decide +kernel
theorem dX3_set_21 : decode cX3_set 21 = .ok (.iload_n 2, 1) := by decide +kernel
theorem dX3_set_22 : decode cX3_set 22 = .ok (.invokestatic 59, 3) := by decide +kernel
theorem dX3_set_25 : decode cX3_set 25 = .ok (.if_icmp .ne 19, 3) := by decide +kernel
theorem dX3_set_28 : decode cX3_set 28 = .ok (.aload_n 0, 1) := by decide +kernel
theorem dX3_set_29 : decode cX3_set 29 = .ok (.getfield 16, 3) := by decide +kernel
theorem dX3_set_32 : decode cX3_set 32 = .ok (.iload 4, 2) := by decide +kernel
theorem dX3_set_34 : decode cX3_set 34 = .ok (.iload_n 3, 1) := by decide +kernel
theorem dX3_set_35 : decode cX3_set 35 = .ok (.iastore, 1) := by decide +kernel
theorem dX3_set_36 : decode cX3_set 36 = .ok (.aload_n 0, 1) := by decide +kernel
theorem dX3_set_37 : decode cX3_set 37 = .ok (.getfield 19, 3) := by decide +kernel
theorem dX3_set_40 : decode cX3_set 40 = .ok (.iload 4, 2) := by decide +kernel
theorem dX3_set_42 : decode cX3_set 42 = .ok (.iconst 0, 1) := by decide +kernel
theorem dX3_set_43 : decode cX3_set 43 = .ok (.iastore, 1) := by decide +kernel
theorem dX3_set_44 : decode cX3_set 44 = .ok (.iinc 4 1, 3) := by decide +kernel
theorem dX3_set_47 : decode cX3_set 47 = .ok (.goto (-44), 3) := by decide +kernel
theorem dX3_set_50 : decode cX3_set 50 = .ok (.return_, 1) := by decide +kernel
set_option maxRecDepth 20000 in
theorem ggX3_hasRoom_X3_mixing : GoodIn wsX3_hasRoom wsX3_mixing := goodIn_r _ [8, 9] (by decide +kernel) (by decide +kernel)
set_option maxRecDepth 20000 in
theorem gX3_hasRoom_X3_mixing : GoodIn wsX3_hasRoom (va_wsS RX3 52 yX3_mixing wsX3_mixing) := goodIn_app (goodIn_of _ (by decide +kernel)) ggX3_hasRoom_X3_mixing
set_option maxRecDepth 20000 in
theorem ggX3_hasRoom_X3_entry : GoodIn wsX3_hasRoom wsX3_entry := goodIn_r _ [13, 2, 5, 6, 7, 8, 9, 14, 15, 16, 34, 35, 36, 37, 38, 39, 40, 41, 42, 43, 44, 45, 46, 47, 48, 49, 50, 51, 52, 53, 54] (by decide +kernel) (by decide +kernel)
set_option maxRecDepth 20000 in
theorem gX3_hasRoom_X3_entry : GoodIn wsX3_hasRoom (wsV RX3 70 RX3 yX3_entry wsX3_entry) := goodIn_app (goodIn_of _ (by decide +kernel)) ggX3_hasRoom_X3_entry
set_option maxRecDepth 20000 in
theorem ggX3_hasRoom_X3_many : GoodIn wsX3_hasRoom wsX3_many := goodIn_r _ [20, 21, 22, 5, 6, 7, 8, 9, 14, 15, 16, 34, 35, 36, 37, 38, 39, 40, 41, 42, 43, 44, 45, 46, 47, 48, 49, 50, 51, 52, 53, 54] (by decide +kernel) (by decide +kernel)
set_option maxRecDepth 20000 in
theorem gX3_hasRoom_X3_many : GoodIn wsX3_hasRoom (wsV RX3 73 RX3 yX3_many wsX3_many) := goodIn_app (goodIn_of _ (by decide +kernel)) ggX3_hasRoom_X3_many
set_option maxRecDepth 20000 in
theorem ggX3_hasRoom_X3_count : GoodIn wsX3_hasRoom wsX3_count := goodIn_r _ [26, 2, 27, 28, 29, 7, 30, 1, 14, 15, 16, 34, 35, 36, 37, 38, 39, 40, 41, 42, 43, 44, 45, 46, 47, 48, 49, 50, 51, 52, 53, 54] (by decide +kernel) (by decide +kernel)
set_option maxRecDepth 20000 in
theorem gX3_hasRoom_X3_count : GoodIn wsX3_hasRoom (wsV RX3 76 RX3 yX3_count wsX3_count) := goodIn_app (goodIn_of _ (by decide +kernel)) ggX3_hasRoom_X3_count
set_option maxRecDepth 20000 in
theorem ggX3_hasRoom_X3_directory : GoodIn wsX3_hasRoom wsX3_directory := goodIn_r _ [33] (by decide +kernel) (by decide +kernel)
set_option maxRecDepth 20000 in
theorem gX3_hasRoom_X3_directory : GoodIn wsX3_hasRoom (va_wsS RX3 80 yX3_directory wsX3_directory) := goodIn_app (goodIn_of _ (by decide +kernel)) ggX3_hasRoom_X3_directory
theorem dX3_hasRoom_0 : decode cX3_hasRoom 0 = .ok (.iload_n 1, 1) := by decide +kernel
theorem dX3_hasRoom_1 : decode cX3_hasRoom 1 = .ok (.invokestatic 52, 3) := by decide +kernel
theorem dX3_hasRoom_4 : decode cX3_hasRoom 4 = .ok (.istore_n 2, 1) := by decide +kernel
theorem dX3_hasRoom_5 : decode cX3_hasRoom 5 = .ok (.aload_n 0, 1) := by decide +kernel
theorem dX3_hasRoom_6 : decode cX3_hasRoom 6 = .ok (.getfield 16, 3) := by decide +kernel
theorem dX3_hasRoom_9 : decode cX3_hasRoom 9 = .ok (.aload_n 0, 1) := by decide +kernel
theorem dX3_hasRoom_10 : decode cX3_hasRoom 10 = .ok (.iload_n 1, 1) := by decide +kernel
theorem dX3_hasRoom_11 : decode cX3_hasRoom 11 = .ok (.invokevirtual 70, 3) := by decide +kernel
theorem dX3_hasRoom_14 : decode cX3_hasRoom 14 = .ok (.iaload, 1) := by decide +kernel
theorem dX3_hasRoom_15 : decode cX3_hasRoom 15 = .ok (.istore_n 3, 1) := by decide +kernel
theorem dX3_hasRoom_16 : decode cX3_hasRoom 16 = .ok (.iconst 0, 1) := by decide +kernel
theorem dX3_hasRoom_17 : decode cX3_hasRoom 17 = .ok (.istore 4, 2) := by decide +kernel
theorem dX3_hasRoom_19 : decode cX3_hasRoom 19 = .ok (.iload_n 3, 1) := by decide +kernel
theorem dX3_hasRoom_20 : decode cX3_hasRoom 20 = .ok (.bipush 9, 2) := by decide +kernel
theorem dX3_hasRoom_22 : decode cX3_hasRoom 22 = .ok (.if_icmp .ge 23, 3) := by decide +kernel
theorem dX3_hasRoom_25 : decode cX3_hasRoom 25 = .ok (.aload_n 0, 1) := by decide +kernel
theorem dX3_hasRoom_26 : decode cX3_hasRoom 26 = .ok (.iload_n 2, 1) := by decide +kernel
theorem dX3_hasRoom_27 : decode cX3_hasRoom 27 = .ok (.iload_n 3, 1) := by decide +kernel
theorem dX3_hasRoom_28 : decode cX3_hasRoom 28 = .ok (.invokevirtual 73, 3) := by decide +kernel
theorem dX3_hasRoom_31 : decode cX3_hasRoom 31 = .ok (.bipush 15, 2) := by decide +kernel
theorem dX3_hasRoom_33 : decode cX3_hasRoom 33 = .ok (.if_icmp .lt 12, 3) := by decide +kernel
theorem dX3_hasRoom_36 : decode cX3_hasRoom 36 = .ok (.iinc 3 1, 3) := by decide +kernel
theorem dX3_hasRoom_39 : decode cX3_hasRoom 39 = .ok (.iinc 4 1, 3) := by decide +kernel
theorem dX3_hasRoom_42 : decode cX3_hasRoom 42 = .ok (.goto (-23), 3) := by decide +kernel
theorem dX3_hasRoom_45 : decode cX3_hasRoom 45 = .ok (.iload_n 3, 1) := by decide +kernel
theorem dX3_hasRoom_46 : decode cX3_hasRoom 46 = .ok (.aload_n 0, 1) := by decide +kernel
theorem dX3_hasRoom_47 : decode cX3_hasRoom 47 = .ok (.getfield 56, 3) := by decide +kernel
theorem dX3_hasRoom_50 : decode cX3_hasRoom 50 = .ok (.if_icmp .le 7, 3) := by decide +kernel
theorem dX3_hasRoom_53 : decode cX3_hasRoom 53 = .ok (.iload_n 3, 1) := by decide +kernel
theorem dX3_hasRoom_54 : decode cX3_hasRoom 54 = .ok (.goto 7, 3) := by decide +kernel
theorem dX3_hasRoom_57 : decode cX3_hasRoom 57 = .ok (.aload_n 0, 1) := by decide +kernel
theorem dX3_hasRoom_58 : decode cX3_hasRoom 58 = .ok (.getfield 56, 3) := by decide +kernel
theorem dX3_hasRoom_61 : decode cX3_hasRoom 61 = .ok (.istore 5, 2) := by decide +kernel
theorem dX3_hasRoom_63 : decode cX3_hasRoom 63 = .ok (.iload 4, 2) := by decide +kernel
theorem dX3_hasRoom_65 : decode cX3_hasRoom 65 = .ok (.ifCond .eq 34, 3) := by decide +kernel
theorem dX3_hasRoom_68 : decode cX3_hasRoom 68 = .ok (.iload 5, 2) := by decide +kernel
theorem dX3_hasRoom_70 : decode cX3_hasRoom 70 = .ok (.aload_n 0, 1) := by decide +kernel
theorem dX3_hasRoom_71 : decode cX3_hasRoom 71 = .ok (.getfield 45, 3) := by decide +kernel
theorem dX3_hasRoom_74 : decode cX3_hasRoom 74 = .ok (.if_icmp .gt 29, 3) := by decide +kernel
theorem dX3_hasRoom_77 : decode cX3_hasRoom 77 = .ok (.aload_n 0, 1) := by decide +kernel
theorem dX3_hasRoom_78 : decode cX3_hasRoom 78 = .ok (.invokevirtual 76, 3) := by decide +kernel
theorem dX3_hasRoom_81 : decode cX3_hasRoom 81 = .ok (.iload 4, 2) := by decide +kernel
theorem dX3_hasRoom_83 : decode cX3_hasRoom 83 = .ok (.iadd, 1) := by decide +kernel
theorem dX3_hasRoom_84 : decode cX3_hasRoom 84 = .ok (.iload 5, 2) := by decide +kernel
theorem dX3_hasRoom_86 : decode cX3_hasRoom 86 = .ok (.invokestatic 80, 3) := by decide +kernel
theorem dX3_hasRoom_89 : decode cX3_hasRoom 89 = .ok (.iadd, 1) := by decide +kernel
theorem dX3_hasRoom_90 : decode cX3_hasRoom 90 = .ok (.aload_n 0, 1) := by decide +kernel
theorem dX3_hasRoom_91 : decode cX3_hasRoom 91 = .ok (.getfield 41, 3) := by decide +kernel
theorem dX3_hasRoom_94 : decode cX3_hasRoom 94 = .ok (.iconst 2, 1) := by decide +kernel
theorem dX3_hasRoom_95 : decode cX3_hasRoom 95 = .ok (.isub, 1) := by decide +kernel
theorem dX3_hasRoom_96 : decode cX3_hasRoom 96 = .ok (.if_icmp .gt 7, 3) := by decide +kernel
theorem dX3_hasRoom_99 : decode cX3_hasRoom 99 = .ok (.iconst 1, 1) := by decide +kernel
theorem dX3_hasRoom_100 : decode cX3_hasRoom 100 = .ok (.goto 4, 3) := by decide +kernel
theorem dX3_hasRoom_103 : decode cX3_hasRoom 103 = .ok (.iconst 0, 1) := by decide +kernel
theorem dX3_hasRoom_104 : decode cX3_hasRoom 104 = .ok (.ireturn, 1) := by decide +kernel
set_option maxRecDepth 20000 in
theorem ggX3_split_X3_entry : GoodIn wsX3_split wsX3_entry := goodIn_r _ [8, 2, 9, 10, 7, 11, 12, 13, 14, 15, 20, 21, 22, 23, 24, 25, 26, 27, 28, 29, 30, 31, 32, 33, 34, 35, 36, 37, 38, 39, 40] (by decide +kernel) (by decide +kernel)
set_option maxRecDepth 20000 in
theorem gX3_split_X3_entry : GoodIn wsX3_split (wsV RX3 70 RX3 yX3_entry wsX3_entry) := goodIn_app (goodIn_of _ (by decide +kernel)) ggX3_split_X3_entry
set_option maxRecDepth 20000 in
theorem ggX3_split_X3_set : GoodIn wsX3_split wsX3_set := goodIn_r _ [19, 2, 1, 3, 13, 14, 7, 15, 20, 21, 22, 23, 24, 25, 26, 27, 28, 29, 30, 31, 32, 33, 34, 35, 36, 37, 38, 39, 40] (by decide +kernel) (by decide +kernel)
set_option maxRecDepth 20000 in
theorem gX3_split_X3_set : GoodIn wsX3_split (wsV RX3 83 RX3 yX3_set wsX3_set) := goodIn_app (goodIn_of _ (by decide +kernel)) ggX3_split_X3_set
theorem dX3_split_0 : decode cX3_split 0 = .ok (.aload_n 0, 1) := by decide +kernel
theorem dX3_split_1 : decode cX3_split 1 = .ok (.getfield 16, 3) := by decide +kernel
theorem dX3_split_4 : decode cX3_split 4 = .ok (.aload_n 0, 1) := by decide +kernel
theorem dX3_split_5 : decode cX3_split 5 = .ok (.iload_n 1, 1) := by decide +kernel
theorem dX3_split_6 : decode cX3_split 6 = .ok (.invokevirtual 70, 3) := by decide +kernel
theorem dX3_split_9 : decode cX3_split 9 = .ok (.iaload, 1) := by decide +kernel
theorem dX3_split_10 : decode cX3_split 10 = .ok (.istore_n 2, 1) := by decide +kernel
theorem dX3_split_11 : decode cX3_split 11 = .ok (.iload_n 2, 1) := by decide +kernel
theorem dX3_split_12 : decode cX3_split 12 = .ok (.aload_n 0, 1) := by decide +kernel
theorem dX3_split_13 : decode cX3_split 13 = .ok (.getfield 56, 3) := by decide +kernel
theorem dX3_split_16 : decode cX3_split 16 = .ok (.if_icmp .ne 69, 3) := by decide +kernel
theorem dX3_split_19 : decode cX3_split 19 = .ok (.iconst 0, 1) := by decide +kernel
theorem dX3_split_20 : decode cX3_split 20 = .ok (.istore_n 3, 1) := by decide +kernel
theorem dX3_split_21 : decode cX3_split 21 = .ok (.iload_n 3, 1) := by decide +kernel
theorem dX3_split_22 : decode cX3_split 22 = .ok (.iconst 1, 1) := by decide +kernel
theorem dX3_split_23 : decode cX3_split 23 = .ok (.aload_n 0, 1) := by decide +kernel
theorem dX3_split_24 : decode cX3_split 24 = .ok (.getfield 56, 3) := by decide +kernel
theorem dX3_split_27 : decode cX3_split 27 = .ok (.ishl, 1) := by decide +kernel
theorem dX3_split_28 : decode cX3_split 28 = .ok (.if_icmp .ge 47, 3) := by decide +kernel
theorem dX3_split_31 : decode cX3_split 31 = .ok (.aload_n 0, 1) := by decide +kernel
theorem dX3_split_32 : decode cX3_split 32 = .ok (.getfield 16, 3) := by decide +kernel
theorem dX3_split_35 : decode cX3_split 35 = .ok (.iload_n 3, 1) := by decide +kernel
theorem dX3_split_36 : decode cX3_split 36 = .ok (.iconst 1, 1) := by decide +kernel
theorem dX3_split_37 : decode cX3_split 37 = .ok (.aload_n 0, 1) := by decide +kernel
theorem dX3_split_38 : decode cX3_split 38 = .ok (.getfield 56, 3) := by decide +kernel
theorem dX3_split_41 : decode cX3_split 41 = .ok (.ishl, 1) := by decide +kernel
theorem dX3_split_42 : decode cX3_split 42 = .ok (.iadd, 1) := by decide +kernel
theorem dX3_split_43 : decode cX3_split 43 = .ok (.aload_n 0, 1) := by decide +kernel
theorem dX3_split_44 : decode cX3_split 44 = .ok (.getfield 16, 3) := by decide +kernel
theorem dX3_split_47 : decode cX3_split 47 = .ok (.iload_n 3, 1) := by decide +kernel
theorem dX3_split_48 : decode cX3_split 48 = .ok (.iaload, 1) := by decide +kernel
theorem dX3_split_49 : decode cX3_split 49 = .ok (.iastore, 1) := by decide +kernel
theorem dX3_split_50 : decode cX3_split 50 = .ok (.aload_n 0, 1) := by decide +kernel
theorem dX3_split_51 : decode cX3_split 51 = .ok (.getfield 19, 3) := by decide +kernel
theorem dX3_split_54 : decode cX3_split 54 = .ok (.iload_n 3, 1) := by decide +kernel
theorem dX3_split_55 : decode cX3_split 55 = .ok (.iconst 1, 1) := by decide +kernel
theorem dX3_split_56 : decode cX3_split 56 = .ok (.aload_n 0, 1) := by decide +kernel
theorem dX3_split_57 : decode cX3_split 57 = .ok (.getfield 56, 3) := by decide +kernel
theorem dX3_split_60 : decode cX3_split 60 = .ok (.ishl, 1) := by decide +kernel
theorem dX3_split_61 : decode cX3_split 61 = .ok (.iadd, 1) := by decide +kernel
theorem dX3_split_62 : decode cX3_split 62 = .ok (.aload_n 0, 1) := by decide +kernel
theorem dX3_split_63 : decode cX3_split 63 = .ok (.getfield 19, 3) := by decide +kernel
theorem dX3_split_66 : decode cX3_split 66 = .ok (.iload_n 3, 1) := by decide +kernel
theorem dX3_split_67 : decode cX3_split 67 = .ok (.iaload, 1) := by decide +kernel
theorem dX3_split_68 : decode cX3_split 68 = .ok (.iastore, 1) := by decide +kernel
theorem dX3_split_69 : decode cX3_split 69 = .ok (.iinc 3 1, 3) := by decide +kernel
theorem dX3_split_72 : decode cX3_split 72 = .ok (.goto (-51), 3) := by decide +kernel
theorem dX3_split_75 : decode cX3_split 75 = .ok (.aload_n 0, 1) := by decide +kernel
theorem dX3_split_76 : decode cX3_split 76 = .ok (.dup, 1) := by decide +kernel
theorem dX3_split_77 : decode cX3_split 77 = .ok (.getfield 56, 3) := by decide +kernel
theorem dX3_split_80 : decode cX3_split 80 = .ok (.iconst 1, 1) := by decide +kernel
theorem dX3_split_81 : decode cX3_split 81 = .ok (.iadd, 1) := by decide +kernel
theorem dX3_split_82 : decode cX3_split 82 = .ok (.putfield 56, 3) := by decide +kernel
theorem dX3_split_85 : decode cX3_split 85 = .ok (.aload_n 0, 1) := by decide +kernel
theorem dX3_split_86 : decode cX3_split 86 = .ok (.aload_n 0, 1) := by decide +kernel
theorem dX3_split_87 : decode cX3_split 87 = .ok (.iload_n 1, 1) := by decide +kernel
theorem dX3_split_88 : decode cX3_split 88 = .ok (.invokevirtual 70, 3) := by decide +kernel
theorem dX3_split_91 : decode cX3_split 91 = .ok (.iload_n 2, 1) := by decide +kernel
theorem dX3_split_92 : decode cX3_split 92 = .ok (.iload_n 2, 1) := by decide +kernel
theorem dX3_split_93 : decode cX3_split 93 = .ok (.iconst 1, 1) := by decide +kernel
theorem dX3_split_94 : decode cX3_split 94 = .ok (.iadd, 1) := by decide +kernel
theorem dX3_split_95 : decode cX3_split 95 = .ok (.invokevirtual 83, 3) := by decide +kernel
theorem dX3_split_98 : decode cX3_split 98 = .ok (.return_, 1) := by decide +kernel
set_option maxRecDepth 20000 in
theorem ggX3_put_X3_find : GoodIn wsX3_put wsX3_find := goodIn_r _ [14, 7, 8, 57, 58, 59, 60, 61, 62, 63, 64, 65, 66, 67, 68, 69, 70, 71, 72, 73, 74, 75, 76, 77] (by decide +kernel) (by decide +kernel)
set_option maxRecDepth 20000 in
theorem gX3_put_X3_find : GoodIn wsX3_put (wsV RX3 92 RX3 yX3_find wsX3_find) := goodIn_app (goodIn_of _ (by decide +kernel)) ggX3_put_X3_find
set_option maxRecDepth 20000 in
theorem ggX3_put_X3_hasRoom : GoodIn wsX3_put wsX3_hasRoom := goodIn_r _ [18, 6, 19, 20, 21, 22, 23, 13, 24, 25, 26, 27, 28, 29, 30, 31, 32, 33, 34, 35, 36, 7, 8, 37, 38, 39, 40, 41, 42, 43, 44, 45, 46, 47, 57, 58, 59, 60, 61, 62, 63, 64, 65, 66, 67, 68, 69, 70, 71, 72, 73, 74, 75, 76, 77] (by decide +kernel) (by decide +kernel)
set_option maxRecDepth 20000 in
theorem gX3_put_X3_hasRoom : GoodIn wsX3_put (wsV RX3 95 RX3 yX3_hasRoom wsX3_hasRoom) := goodIn_app (goodIn_of _ (by decide +kernel)) ggX3_put_X3_hasRoom
set_option maxRecDepth 20000 in
theorem ggX3_put_X3_mixing : GoodIn wsX3_put wsX3_mixing := goodIn_r _ [24, 25] (by decide +kernel) (by decide +kernel)
set_option maxRecDepth 20000 in
theorem gX3_put_X3_mixing : GoodIn wsX3_put (va_wsS RX3 52 yX3_mixing wsX3_mixing) := goodIn_app (goodIn_of _ (by decide +kernel)) ggX3_put_X3_mixing
set_option maxRecDepth 20000 in
theorem ggX3_put_X3_entry : GoodIn wsX3_put wsX3_entry := goodIn_r _ [29, 19, 22, 23, 13, 24, 25, 30, 31, 32, 57, 58, 59, 60, 61, 62, 63, 64, 65, 66, 67, 68, 69, 70, 71, 72, 73, 74, 75, 76, 77] (by decide +kernel) (by decide +kernel)
set_option maxRecDepth 20000 in
theorem gX3_put_X3_entry : GoodIn wsX3_put (wsV RX3 70 RX3 yX3_entry wsX3_entry) := goodIn_app (goodIn_of _ (by decide +kernel)) ggX3_put_X3_entry
set_option maxRecDepth 20000 in
theorem ggX3_put_X3_many : GoodIn wsX3_put wsX3_many := goodIn_r _ [36, 7, 8, 22, 23, 13, 24, 25, 30, 31, 32, 57, 58, 59, 60, 61, 62, 63, 64, 65, 66, 67, 68, 69, 70, 71, 72, 73, 74, 75, 76, 77] (by decide +kernel) (by decide +kernel)
set_option maxRecDepth 20000 in
theorem gX3_put_X3_many : GoodIn wsX3_put (wsV RX3 73 RX3 yX3_many wsX3_many) := goodIn_app (goodIn_of _ (by decide +kernel)) ggX3_put_X3_many
set_option maxRecDepth 20000 in
theorem ggX3_put_X3_split : GoodIn wsX3_put wsX3_split := goodIn_r _ [51, 6, 19, 52, 26, 27, 28, 13, 29, 22, 23, 24, 25, 30, 31, 32, 53, 54, 55, 56, 57, 58, 59, 60, 61, 62, 63, 64, 65, 66, 67, 68, 69, 70, 71, 72, 73, 74, 75, 76, 77] (by decide +kernel) (by decide +kernel)
set_option maxRecDepth 20000 in
theorem gX3_put_X3_split : GoodIn wsX3_put (wsV RX3 102 RX3 yX3_split wsX3_split) := goodIn_app (goodIn_of _ (by decide +kernel)) ggX3_put_X3_split
set_option maxRecDepth 20000 in
theorem ggX3_put_X3_set : GoodIn wsX3_put wsX3_set := goodIn_r _ [56, 19, 6, 52, 30, 31, 13, 32, 57, 58, 59, 60, 61, 62, 63, 64, 65, 66, 67, 68, 69, 70, 71, 72, 73, 74, 75, 76, 77] (by decide +kernel) (by decide +kernel)
set_option maxRecDepth 20000 in
theorem gX3_put_X3_set : GoodIn wsX3_put (wsV RX3 83 RX3 yX3_set wsX3_set) := goodIn_app (goodIn_of _ (by decide +kernel)) ggX3_put_X3_set
theorem dX3_put_0 : decode cX3_put 0 = .ok (.aload_n 0, 1) := by decide +kernel
theorem dX3_put_1 : decode cX3_put 1 = .ok (.iconst 0, 1) := by decide +kernel
theorem dX3_put_2 : decode cX3_put 2 = .ok (.putfield 48, 3) := by decide +kernel
theorem dX3_put_5 : decode cX3_put 5 = .ok (.aload_n 0, 1) := by decide +kernel
theorem dX3_put_6 : decode cX3_put 6 = .ok (.getfield 87, 3) := by decide +kernel
theorem dX3_put_9 : decode cX3_put 9 = .ok (.ifCond .eq 6, 3) := by decide +kernel
theorem dX3_put_12 : decode cX3_put 12 = .ok (.ldc 91, 2) := by decide +kernel
theorem dX3_put_14 : decode cX3_put 14 = .ok (.ireturn, 1) := by decide +kernel
theorem dX3_put_15 : decode cX3_put 15 = .ok (.aload_n 0, 1) := by decide +kernel
theorem dX3_put_16 : decode cX3_put 16 = .ok (.iload_n 1, 1) := by decide +kernel
theorem dX3_put_17 : decode cX3_put 17 = .ok (.invokevirtual 92, 3) := by decide +kernel
theorem dX3_put_20 : decode cX3_put 20 = .ok (.istore_n 3, 1) := by decide +kernel
theorem dX3_put_21 : decode cX3_put 21 = .ok (.iload_n 3, 1) := by decide +kernel
theorem dX3_put_22 : decode cX3_put 22 = .ok (.ifCond .ge 14, 3) := by decide +kernel
theorem dX3_put_25 : decode cX3_put 25 = .ok (.aload_n 0, 1) := by decide +kernel
theorem dX3_put_26 : decode cX3_put 26 = .ok (.iload_n 1, 1) := by decide +kernel
theorem dX3_put_27 : decode cX3_put 27 = .ok (.invokevirtual 95, 3) := by decide +kernel
theorem dX3_put_30 : decode cX3_put 30 = .ok (.ifCond .ne 6, 3) := by decide +kernel
theorem dX3_put_33 : decode cX3_put 33 = .ok (.ldc 98, 2) := by decide +kernel
theorem dX3_put_35 : decode cX3_put 35 = .ok (.ireturn, 1) := by decide +kernel
theorem dX3_put_36 : decode cX3_put 36 = .ok (.aload_n 0, 1) := by decide +kernel
theorem dX3_put_37 : decode cX3_put 37 = .ok (.iconst 1, 1) := by decide +kernel
theorem dX3_put_38 : decode cX3_put 38 = .ok (.putfield 99, 3) := by decide +kernel
theorem dX3_put_41 : decode cX3_put 41 = .ok (.iload_n 3, 1) := by decide +kernel
theorem dX3_put_42 : decode cX3_put 42 = .ok (.ifCond .ge 34, 3) := by decide +kernel
theorem dX3_put_45 : decode cX3_put 45 = .ok (.aload_n 0, 1) := by decide +kernel
theorem dX3_put_46 : decode cX3_put 46 = .ok (.iload_n 1, 1) := by decide +kernel
theorem dX3_put_47 : decode cX3_put 47 = .ok (.invokestatic 52, 3) := by decide +kernel
theorem dX3_put_50 : decode cX3_put 50 = .ok (.aload_n 0, 1) := by decide +kernel
theorem dX3_put_51 : decode cX3_put 51 = .ok (.getfield 16, 3) := by decide +kernel
theorem dX3_put_54 : decode cX3_put 54 = .ok (.aload_n 0, 1) := by decide +kernel
theorem dX3_put_55 : decode cX3_put 55 = .ok (.iload_n 1, 1) := by decide +kernel
theorem dX3_put_56 : decode cX3_put 56 = .ok (.invokevirtual 70, 3) := by decide +kernel
theorem dX3_put_59 : decode cX3_put 59 = .ok (.iaload, 1) := by decide +kernel
theorem dX3_put_60 : decode cX3_put 60 = .ok (.invokevirtual 73, 3) := by decide +kernel
theorem dX3_put_63 : decode cX3_put 63 = .ok (.bipush 15, 2) := by decide +kernel
theorem dX3_put_65 : decode cX3_put 65 = .ok (.if_icmp .lt 11, 3) := by decide +kernel
theorem dX3_put_68 : decode cX3_put 68 = .ok (.aload_n 0, 1) := by decide +kernel
theorem dX3_put_69 : decode cX3_put 69 = .ok (.iload_n 1, 1) := by decide +kernel
theorem dX3_put_70 : decode cX3_put 70 = .ok (.invokevirtual 102, 3) := by decide +kernel
theorem dX3_put_73 : decode cX3_put 73 = .ok (.goto (-32), 3) := by decide +kernel
theorem dX3_put_76 : decode cX3_put 76 = .ok (.iload_n 3, 1) := by decide +kernel
theorem dX3_put_77 : decode cX3_put 77 = .ok (.ifCond .ge 25, 3) := by decide +kernel
theorem dX3_put_80 : decode cX3_put 80 = .ok (.aload_n 0, 1) := by decide +kernel
theorem dX3_put_81 : decode cX3_put 81 = .ok (.getfield 63, 3) := by decide +kernel
theorem dX3_put_84 : decode cX3_put 84 = .ok (.istore_n 3, 1) := by decide +kernel
theorem dX3_put_85 : decode cX3_put 85 = .ok (.aload_n 0, 1) := by decide +kernel
theorem dX3_put_86 : decode cX3_put 86 = .ok (.getfield 7, 3) := by decide +kernel
theorem dX3_put_89 : decode cX3_put 89 = .ok (.iload_n 3, 1) := by decide +kernel
theorem dX3_put_90 : decode cX3_put 90 = .ok (.iload_n 1, 1) := by decide +kernel
theorem dX3_put_91 : decode cX3_put 91 = .ok (.iastore, 1) := by decide +kernel
theorem dX3_put_92 : decode cX3_put 92 = .ok (.aload_n 0, 1) := by decide +kernel
theorem dX3_put_93 : decode cX3_put 93 = .ok (.dup, 1) := by decide +kernel
theorem dX3_put_94 : decode cX3_put 94 = .ok (.getfield 63, 3) := by decide +kernel
theorem dX3_put_97 : decode cX3_put 97 = .ok (.iconst 1, 1) := by decide +kernel
theorem dX3_put_98 : decode cX3_put 98 = .ok (.iadd, 1) := by decide +kernel
theorem dX3_put_99 : decode cX3_put 99 = .ok (.putfield 63, 3) := by decide +kernel
theorem dX3_put_102 : decode cX3_put 102 = .ok (.aload_n 0, 1) := by decide +kernel
theorem dX3_put_103 : decode cX3_put 103 = .ok (.getfield 13, 3) := by decide +kernel
theorem dX3_put_106 : decode cX3_put 106 = .ok (.iload_n 3, 1) := by decide +kernel
theorem dX3_put_107 : decode cX3_put 107 = .ok (.iload_n 2, 1) := by decide +kernel
theorem dX3_put_108 : decode cX3_put 108 = .ok (.iastore, 1) := by decide +kernel
theorem dX3_put_109 : decode cX3_put 109 = .ok (.aload_n 0, 1) := by decide +kernel
theorem dX3_put_110 : decode cX3_put 110 = .ok (.aload_n 0, 1) := by decide +kernel
theorem dX3_put_111 : decode cX3_put 111 = .ok (.iload_n 1, 1) := by decide +kernel
theorem dX3_put_112 : decode cX3_put 112 = .ok (.invokevirtual 70, 3) := by decide +kernel
theorem dX3_put_115 : decode cX3_put 115 = .ok (.aload_n 0, 1) := by decide +kernel
theorem dX3_put_116 : decode cX3_put 116 = .ok (.getfield 16, 3) := by decide +kernel
theorem dX3_put_119 : decode cX3_put 119 = .ok (.aload_n 0, 1) := by decide +kernel
theorem dX3_put_120 : decode cX3_put 120 = .ok (.iload_n 1, 1) := by decide +kernel
theorem dX3_put_121 : decode cX3_put 121 = .ok (.invokevirtual 70, 3) := by decide +kernel
theorem dX3_put_124 : decode cX3_put 124 = .ok (.iaload, 1) := by decide +kernel
theorem dX3_put_125 : decode cX3_put 125 = .ok (.aload_n 0, 1) := by decide +kernel
theorem dX3_put_126 : decode cX3_put 126 = .ok (.getfield 16, 3) := by decide +kernel
theorem dX3_put_129 : decode cX3_put 129 = .ok (.aload_n 0, 1) := by decide +kernel
theorem dX3_put_130 : decode cX3_put 130 = .ok (.iload_n 1, 1) := by decide +kernel
theorem dX3_put_131 : decode cX3_put 131 = .ok (.invokevirtual 70, 3) := by decide +kernel
theorem dX3_put_134 : decode cX3_put 134 = .ok (.iaload, 1) := by decide +kernel
theorem dX3_put_135 : decode cX3_put 135 = .ok (.invokevirtual 83, 3) := by decide +kernel
theorem dX3_put_138 : decode cX3_put 138 = .ok (.iconst 0, 1) := by decide +kernel
theorem dX3_put_139 : decode cX3_put 139 = .ok (.ireturn, 1) := by decide +kernel
set_option maxRecDepth 20000 in
theorem ggX3_get_X3_find : GoodIn wsX3_get wsX3_find := goodIn_r _ [9, 10, 11, 12, 13, 14, 15, 16, 17, 18, 19, 20, 21, 22, 23, 24, 25, 26, 27, 28, 29, 30, 31, 32] (by decide +kernel) (by decide +kernel)
set_option maxRecDepth 20000 in
theorem gX3_get_X3_find : GoodIn wsX3_get (wsV RX3 92 RX3 yX3_find wsX3_find) := goodIn_app (goodIn_of _ (by decide +kernel)) ggX3_get_X3_find
theorem dX3_get_0 : decode cX3_get 0 = .ok (.aload_n 0, 1) := by decide +kernel
theorem dX3_get_1 : decode cX3_get 1 = .ok (.iconst 0, 1) := by decide +kernel
theorem dX3_get_2 : decode cX3_get 2 = .ok (.putfield 48, 3) := by decide +kernel
theorem dX3_get_5 : decode cX3_get 5 = .ok (.aload_n 0, 1) := by decide +kernel
theorem dX3_get_6 : decode cX3_get 6 = .ok (.iload_n 1, 1) := by decide +kernel
theorem dX3_get_7 : decode cX3_get 7 = .ok (.invokevirtual 92, 3) := by decide +kernel
theorem dX3_get_10 : decode cX3_get 10 = .ok (.istore_n 2, 1) := by decide +kernel
theorem dX3_get_11 : decode cX3_get 11 = .ok (.aload_n 0, 1) := by decide +kernel
theorem dX3_get_12 : decode cX3_get 12 = .ok (.getfield 87, 3) := by decide +kernel
theorem dX3_get_15 : decode cX3_get 15 = .ok (.ifCond .eq 8, 3) := by decide +kernel
theorem dX3_get_18 : decode cX3_get 18 = .ok (.ldc 91, 2) := by decide +kernel
theorem dX3_get_20 : decode cX3_get 20 = .ok (.goto 17, 3) := by decide +kernel
theorem dX3_get_23 : decode cX3_get 23 = .ok (.iload_n 2, 1) := by decide +kernel
theorem dX3_get_24 : decode cX3_get 24 = .ok (.ifCond .ge 7, 3) := by decide +kernel
theorem dX3_get_27 : decode cX3_get 27 = .ok (.iconst 0, 1) := by decide +kernel
theorem dX3_get_28 : decode cX3_get 28 = .ok (.goto 9, 3) := by decide +kernel
theorem dX3_get_31 : decode cX3_get 31 = .ok (.aload_n 0, 1) := by decide +kernel
theorem dX3_get_32 : decode cX3_get 32 = .ok (.getfield 13, 3) := by decide +kernel
theorem dX3_get_35 : decode cX3_get 35 = .ok (.iload_n 2, 1) := by decide +kernel
theorem dX3_get_36 : decode cX3_get 36 = .ok (.iaload, 1) := by decide +kernel
theorem dX3_get_37 : decode cX3_get 37 = .ok (.ireturn, 1) := by decide +kernel
set_option maxRecDepth 20000 in
theorem ggX3_has_X3_find : GoodIn wsX3_has wsX3_find := goodIn_r _ [7, 8, 9, 10, 11, 12, 13, 14, 15, 16, 17, 18, 19, 20, 21, 22, 23, 24, 25, 26, 27, 28, 29, 30] (by decide +kernel) (by decide +kernel)
set_option maxRecDepth 20000 in
theorem gX3_has_X3_find : GoodIn wsX3_has (wsV RX3 92 RX3 yX3_find wsX3_find) := goodIn_app (goodIn_of _ (by decide +kernel)) ggX3_has_X3_find
theorem dX3_has_0 : decode cX3_has 0 = .ok (.aload_n 0, 1) := by decide +kernel
theorem dX3_has_1 : decode cX3_has 1 = .ok (.iconst 0, 1) := by decide +kernel
theorem dX3_has_2 : decode cX3_has 2 = .ok (.putfield 48, 3) := by decide +kernel
theorem dX3_has_5 : decode cX3_has 5 = .ok (.aload_n 0, 1) := by decide +kernel
theorem dX3_has_6 : decode cX3_has 6 = .ok (.getfield 87, 3) := by decide +kernel
theorem dX3_has_9 : decode cX3_has 9 = .ok (.ifCond .ne 15, 3) := by decide +kernel
theorem dX3_has_12 : decode cX3_has 12 = .ok (.aload_n 0, 1) := by decide +kernel
theorem dX3_has_13 : decode cX3_has 13 = .ok (.iload_n 1, 1) := by decide +kernel
theorem dX3_has_14 : decode cX3_has 14 = .ok (.invokevirtual 92, 3) := by decide +kernel
theorem dX3_has_17 : decode cX3_has 17 = .ok (.ifCond .lt 7, 3) := by decide +kernel
theorem dX3_has_20 : decode cX3_has 20 = .ok (.iconst 1, 1) := by decide +kernel
theorem dX3_has_21 : decode cX3_has 21 = .ok (.goto 4, 3) := by decide +kernel
theorem dX3_has_24 : decode cX3_has 24 = .ok (.iconst 0, 1) := by decide +kernel
theorem dX3_has_25 : decode cX3_has 25 = .ok (.ireturn, 1) := by decide +kernel
set_option maxRecDepth 20000 in
theorem ggX3_remove_X3_find : GoodIn wsX3_remove wsX3_find := goodIn_r _ [15, 6, 7, 36, 37, 38, 39, 40, 41, 42, 43, 44, 45, 46, 47, 48, 49, 50, 51, 52, 53, 54, 55, 56] (by decide +kernel) (by decide +kernel)
set_option maxRecDepth 20000 in
theorem gX3_remove_X3_find : GoodIn wsX3_remove (wsV RX3 92 RX3 yX3_find wsX3_find) := goodIn_app (goodIn_of _ (by decide +kernel)) ggX3_remove_X3_find
set_option maxRecDepth 20000 in
theorem ggX3_remove_X3_entry : GoodIn wsX3_remove wsX3_entry := goodIn_r _ [19, 10, 20, 21, 14, 22, 23, 24, 25, 26, 36, 37, 38, 39, 40, 41, 42, 43, 44, 45, 46, 47, 48, 49, 50, 51, 52, 53, 54, 55, 56] (by decide +kernel) (by decide +kernel)
set_option maxRecDepth 20000 in
theorem gX3_remove_X3_entry : GoodIn wsX3_remove (wsV RX3 70 RX3 yX3_entry wsX3_entry) := goodIn_app (goodIn_of _ (by decide +kernel)) ggX3_remove_X3_entry
set_option maxRecDepth 20000 in
theorem ggX3_remove_X3_set : GoodIn wsX3_remove wsX3_set := goodIn_r _ [30, 10, 9, 31, 24, 25, 14, 26, 36, 37, 38, 39, 40, 41, 42, 43, 44, 45, 46, 47, 48, 49, 50, 51, 52, 53, 54, 55, 56] (by decide +kernel) (by decide +kernel)
set_option maxRecDepth 20000 in
theorem gX3_remove_X3_set : GoodIn wsX3_remove (wsV RX3 83 RX3 yX3_set wsX3_set) := goodIn_app (goodIn_of _ (by decide +kernel)) ggX3_remove_X3_set
set_option maxRecDepth 20000 in
theorem ggX3_remove_X3_many : GoodIn wsX3_remove wsX3_many := goodIn_r _ [35, 6, 7, 20, 21, 14, 22, 23, 24, 25, 26, 36, 37, 38, 39, 40, 41, 42, 43, 44, 45, 46, 47, 48, 49, 50, 51, 52, 53, 54, 55, 56] (by decide +kernel) (by decide +kernel)
set_option maxRecDepth 20000 in
theorem gX3_remove_X3_many : GoodIn wsX3_remove (wsV RX3 73 RX3 yX3_many wsX3_many) := goodIn_app (goodIn_of _ (by decide +kernel)) ggX3_remove_X3_many
set_option maxRecDepth 20000 in
theorem ggX3_remove_X3_low : GoodIn wsX3_remove wsX3_low := goodIn_r _ [26] (by decide +kernel) (by decide +kernel)
set_option maxRecDepth 20000 in
theorem gX3_remove_X3_low : GoodIn wsX3_remove (va_wsS RX3 59 yX3_low wsX3_low) := goodIn_app (goodIn_of _ (by decide +kernel)) ggX3_remove_X3_low
theorem dX3_remove_0 : decode cX3_remove 0 = .ok (.aload_n 0, 1) := by decide +kernel
theorem dX3_remove_1 : decode cX3_remove 1 = .ok (.iconst 0, 1) := by decide +kernel
theorem dX3_remove_2 : decode cX3_remove 2 = .ok (.putfield 48, 3) := by decide +kernel
theorem dX3_remove_5 : decode cX3_remove 5 = .ok (.aload_n 0, 1) := by decide +kernel
theorem dX3_remove_6 : decode cX3_remove 6 = .ok (.getfield 87, 3) := by decide +kernel
theorem dX3_remove_9 : decode cX3_remove 9 = .ok (.ifCond .eq 6, 3) := by decide +kernel
theorem dX3_remove_12 : decode cX3_remove 12 = .ok (.ldc 91, 2) := by decide +kernel
theorem dX3_remove_14 : decode cX3_remove 14 = .ok (.ireturn, 1) := by decide +kernel
theorem dX3_remove_15 : decode cX3_remove 15 = .ok (.aload_n 0, 1) := by decide +kernel
theorem dX3_remove_16 : decode cX3_remove 16 = .ok (.iload_n 1, 1) := by decide +kernel
theorem dX3_remove_17 : decode cX3_remove 17 = .ok (.invokevirtual 92, 3) := by decide +kernel
theorem dX3_remove_20 : decode cX3_remove 20 = .ok (.istore_n 2, 1) := by decide +kernel
theorem dX3_remove_21 : decode cX3_remove 21 = .ok (.iload_n 2, 1) := by decide +kernel
theorem dX3_remove_22 : decode cX3_remove 22 = .ok (.ifCond .ge 6, 3) := by decide +kernel
theorem dX3_remove_25 : decode cX3_remove 25 = .ok (.ldc 106, 2) := by decide +kernel
theorem dX3_remove_27 : decode cX3_remove 27 = .ok (.ireturn, 1) := by decide +kernel
theorem dX3_remove_28 : decode cX3_remove 28 = .ok (.aload_n 0, 1) := by decide +kernel
theorem dX3_remove_29 : decode cX3_remove 29 = .ok (.iconst 1, 1) := by decide +kernel
theorem dX3_remove_30 : decode cX3_remove 30 = .ok (.putfield 99, 3) := by decide +kernel
theorem dX3_remove_33 : decode cX3_remove 33 = .ok (.aload_n 0, 1) := by decide +kernel
theorem dX3_remove_34 : decode cX3_remove 34 = .ok (.dup, 1) := by decide +kernel
theorem dX3_remove_35 : decode cX3_remove 35 = .ok (.getfield 63, 3) := by decide +kernel
theorem dX3_remove_38 : decode cX3_remove 38 = .ok (.iconst 1, 1) := by decide +kernel
theorem dX3_remove_39 : decode cX3_remove 39 = .ok (.isub, 1) := by decide +kernel
theorem dX3_remove_40 : decode cX3_remove 40 = .ok (.putfield 63, 3) := by decide +kernel
theorem dX3_remove_43 : decode cX3_remove 43 = .ok (.aload_n 0, 1) := by decide +kernel
theorem dX3_remove_44 : decode cX3_remove 44 = .ok (.getfield 7, 3) := by decide +kernel
theorem dX3_remove_47 : decode cX3_remove 47 = .ok (.iload_n 2, 1) := by decide +kernel
theorem dX3_remove_48 : decode cX3_remove 48 = .ok (.aload_n 0, 1) := by decide +kernel
theorem dX3_remove_49 : decode cX3_remove 49 = .ok (.getfield 7, 3) := by decide +kernel
theorem dX3_remove_52 : decode cX3_remove 52 = .ok (.aload_n 0, 1) := by decide +kernel
theorem dX3_remove_53 : decode cX3_remove 53 = .ok (.getfield 63, 3) := by decide +kernel
theorem dX3_remove_56 : decode cX3_remove 56 = .ok (.iaload, 1) := by decide +kernel
theorem dX3_remove_57 : decode cX3_remove 57 = .ok (.iastore, 1) := by decide +kernel
theorem dX3_remove_58 : decode cX3_remove 58 = .ok (.aload_n 0, 1) := by decide +kernel
theorem dX3_remove_59 : decode cX3_remove 59 = .ok (.getfield 13, 3) := by decide +kernel
theorem dX3_remove_62 : decode cX3_remove 62 = .ok (.iload_n 2, 1) := by decide +kernel
theorem dX3_remove_63 : decode cX3_remove 63 = .ok (.aload_n 0, 1) := by decide +kernel
theorem dX3_remove_64 : decode cX3_remove 64 = .ok (.getfield 13, 3) := by decide +kernel
theorem dX3_remove_67 : decode cX3_remove 67 = .ok (.aload_n 0, 1) := by decide +kernel
theorem dX3_remove_68 : decode cX3_remove 68 = .ok (.getfield 63, 3) := by decide +kernel
theorem dX3_remove_71 : decode cX3_remove 71 = .ok (.iaload, 1) := by decide +kernel
theorem dX3_remove_72 : decode cX3_remove 72 = .ok (.iastore, 1) := by decide +kernel
theorem dX3_remove_73 : decode cX3_remove 73 = .ok (.aload_n 0, 1) := by decide +kernel
theorem dX3_remove_74 : decode cX3_remove 74 = .ok (.iload_n 1, 1) := by decide +kernel
theorem dX3_remove_75 : decode cX3_remove 75 = .ok (.invokevirtual 70, 3) := by decide +kernel
theorem dX3_remove_78 : decode cX3_remove 78 = .ok (.istore_n 3, 1) := by decide +kernel
theorem dX3_remove_79 : decode cX3_remove 79 = .ok (.aload_n 0, 1) := by decide +kernel
theorem dX3_remove_80 : decode cX3_remove 80 = .ok (.iload_n 3, 1) := by decide +kernel
theorem dX3_remove_81 : decode cX3_remove 81 = .ok (.aload_n 0, 1) := by decide +kernel
theorem dX3_remove_82 : decode cX3_remove 82 = .ok (.getfield 16, 3) := by decide +kernel
theorem dX3_remove_85 : decode cX3_remove 85 = .ok (.iload_n 3, 1) := by decide +kernel
theorem dX3_remove_86 : decode cX3_remove 86 = .ok (.iaload, 1) := by decide +kernel
theorem dX3_remove_87 : decode cX3_remove 87 = .ok (.aload_n 0, 1) := by decide +kernel
theorem dX3_remove_88 : decode cX3_remove 88 = .ok (.getfield 16, 3) := by decide +kernel
theorem dX3_remove_91 : decode cX3_remove 91 = .ok (.iload_n 3, 1) := by decide +kernel
theorem dX3_remove_92 : decode cX3_remove 92 = .ok (.iaload, 1) := by decide +kernel
theorem dX3_remove_93 : decode cX3_remove 93 = .ok (.invokevirtual 83, 3) := by decide +kernel
theorem dX3_remove_96 : decode cX3_remove 96 = .ok (.aload_n 0, 1) := by decide +kernel
theorem dX3_remove_97 : decode cX3_remove 97 = .ok (.getfield 16, 3) := by decide +kernel
theorem dX3_remove_100 : decode cX3_remove 100 = .ok (.iload_n 3, 1) := by decide +kernel
theorem dX3_remove_101 : decode cX3_remove 101 = .ok (.iaload, 1) := by decide +kernel
theorem dX3_remove_102 : decode cX3_remove 102 = .ok (.ifCond .le 74, 3) := by decide +kernel
theorem dX3_remove_105 : decode cX3_remove 105 = .ok (.aload_n 0, 1) := by decide +kernel
theorem dX3_remove_106 : decode cX3_remove 106 = .ok (.iload_n 3, 1) := by decide +kernel
theorem dX3_remove_107 : decode cX3_remove 107 = .ok (.aload_n 0, 1) := by decide +kernel
theorem dX3_remove_108 : decode cX3_remove 108 = .ok (.getfield 16, 3) := by decide +kernel
theorem dX3_remove_111 : decode cX3_remove 111 = .ok (.iload_n 3, 1) := by decide +kernel
theorem dX3_remove_112 : decode cX3_remove 112 = .ok (.iaload, 1) := by decide +kernel
theorem dX3_remove_113 : decode cX3_remove 113 = .ok (.invokevirtual 73, 3) := by decide +kernel
theorem dX3_remove_116 : decode cX3_remove 116 = .ok (.ifCond .ne 60, 3) := by decide +kernel
theorem dX3_remove_119 : decode cX3_remove 119 = .ok (.aload_n 0, 1) := by decide +kernel
theorem dX3_remove_120 : decode cX3_remove 120 = .ok (.getfield 16, 3) := by decide +kernel
theorem dX3_remove_123 : decode cX3_remove 123 = .ok (.iload_n 3, 1) := by decide +kernel
theorem dX3_remove_124 : decode cX3_remove 124 = .ok (.iconst 1, 1) := by decide +kernel
theorem dX3_remove_125 : decode cX3_remove 125 = .ok (.aload_n 0, 1) := by decide +kernel
theorem dX3_remove_126 : decode cX3_remove 126 = .ok (.getfield 16, 3) := by decide +kernel
theorem dX3_remove_129 : decode cX3_remove 129 = .ok (.iload_n 3, 1) := by decide +kernel
theorem dX3_remove_130 : decode cX3_remove 130 = .ok (.iaload, 1) := by decide +kernel
theorem dX3_remove_131 : decode cX3_remove 131 = .ok (.iconst 1, 1) := by decide +kernel
theorem dX3_remove_132 : decode cX3_remove 132 = .ok (.isub, 1) := by decide +kernel
theorem dX3_remove_133 : decode cX3_remove 133 = .ok (.ishl, 1) := by decide +kernel
theorem dX3_remove_134 : decode cX3_remove 134 = .ok (.ixor, 1) := by decide +kernel
theorem dX3_remove_135 : decode cX3_remove 135 = .ok (.aload_n 0, 1) := by decide +kernel
theorem dX3_remove_136 : decode cX3_remove 136 = .ok (.getfield 56, 3) := by decide +kernel
theorem dX3_remove_139 : decode cX3_remove 139 = .ok (.invokestatic 59, 3) := by decide +kernel
theorem dX3_remove_142 : decode cX3_remove 142 = .ok (.iaload, 1) := by decide +kernel
theorem dX3_remove_143 : decode cX3_remove 143 = .ok (.aload_n 0, 1) := by decide +kernel
theorem dX3_remove_144 : decode cX3_remove 144 = .ok (.getfield 16, 3) := by decide +kernel
theorem dX3_remove_147 : decode cX3_remove 147 = .ok (.iload_n 3, 1) := by decide +kernel
theorem dX3_remove_148 : decode cX3_remove 148 = .ok (.iaload, 1) := by decide +kernel
theorem dX3_remove_149 : decode cX3_remove 149 = .ok (.if_icmp .ne 27, 3) := by decide +kernel
theorem dX3_remove_152 : decode cX3_remove 152 = .ok (.aload_n 0, 1) := by decide +kernel
theorem dX3_remove_153 : decode cX3_remove 153 = .ok (.iload_n 3, 1) := by decide +kernel
theorem dX3_remove_154 : decode cX3_remove 154 = .ok (.aload_n 0, 1) := by decide +kernel
theorem dX3_remove_155 : decode cX3_remove 155 = .ok (.getfield 16, 3) := by decide +kernel
theorem dX3_remove_158 : decode cX3_remove 158 = .ok (.iload_n 3, 1) := by decide +kernel
theorem dX3_remove_159 : decode cX3_remove 159 = .ok (.iaload, 1) := by decide +kernel
theorem dX3_remove_160 : decode cX3_remove 160 = .ok (.iconst 1, 1) := by decide +kernel
theorem dX3_remove_161 : decode cX3_remove 161 = .ok (.isub, 1) := by decide +kernel
theorem dX3_remove_162 : decode cX3_remove 162 = .ok (.aload_n 0, 1) := by decide +kernel
theorem dX3_remove_163 : decode cX3_remove 163 = .ok (.getfield 16, 3) := by decide +kernel
theorem dX3_remove_166 : decode cX3_remove 166 = .ok (.iload_n 3, 1) := by decide +kernel
theorem dX3_remove_167 : decode cX3_remove 167 = .ok (.iaload, 1) := by decide +kernel
theorem dX3_remove_168 : decode cX3_remove 168 = .ok (.iconst 1, 1) := by decide +kernel
theorem dX3_remove_169 : decode cX3_remove 169 = .ok (.isub, 1) := by decide +kernel
theorem dX3_remove_170 : decode cX3_remove 170 = .ok (.invokevirtual 83, 3) := by decide +kernel
theorem dX3_remove_173 : decode cX3_remove 173 = .ok (.goto (-77), 3) := by decide +kernel
theorem dX3_remove_176 : decode cX3_remove 176 = .ok (.iconst 0, 1) := by decide +kernel
theorem dX3_remove_177 : decode cX3_remove 177 = .ok (.istore 4, 2) := by decide +kernel
theorem dX3_remove_179 : decode cX3_remove 179 = .ok (.aload_n 0, 1) := by decide +kernel
theorem dX3_remove_180 : decode cX3_remove 180 = .ok (.getfield 56, 3) := by decide +kernel
theorem dX3_remove_183 : decode cX3_remove 183 = .ok (.ifCond .le 79, 3) := by decide +kernel
theorem dX3_remove_186 : decode cX3_remove 186 = .ok (.iload 4, 2) := by decide +kernel
theorem dX3_remove_188 : decode cX3_remove 188 = .ok (.ifCond .ne 74, 3) := by decide +kernel
theorem dX3_remove_191 : decode cX3_remove 191 = .ok (.iconst 0, 1) := by decide +kernel
theorem dX3_remove_192 : decode cX3_remove 192 = .ok (.istore 5, 2) := by decide +kernel
theorem dX3_remove_194 : decode cX3_remove 194 = .ok (.iload 5, 2) := by decide +kernel
theorem dX3_remove_196 : decode cX3_remove 196 = .ok (.iconst 1, 1) := by decide +kernel
theorem dX3_remove_197 : decode cX3_remove 197 = .ok (.aload_n 0, 1) := by decide +kernel
theorem dX3_remove_198 : decode cX3_remove 198 = .ok (.getfield 56, 3) := by decide +kernel
theorem dX3_remove_201 : decode cX3_remove 201 = .ok (.ishl, 1) := by decide +kernel
theorem dX3_remove_202 : decode cX3_remove 202 = .ok (.if_icmp .ge 35, 3) := by decide +kernel
theorem dX3_remove_205 : decode cX3_remove 205 = .ok (.iload 4, 2) := by decide +kernel
theorem dX3_remove_207 : decode cX3_remove 207 = .ok (.ifCond .ne 17, 3) := by decide +kernel
theorem dX3_remove_210 : decode cX3_remove 210 = .ok (.aload_n 0, 1) := by decide +kernel
theorem dX3_remove_211 : decode cX3_remove 211 = .ok (.getfield 16, 3) := by decide +kernel
theorem dX3_remove_214 : decode cX3_remove 214 = .ok (.iload 5, 2) := by decide +kernel
theorem dX3_remove_216 : decode cX3_remove 216 = .ok (.iaload, 1) := by decide +kernel
theorem dX3_remove_217 : decode cX3_remove 217 = .ok (.aload_n 0, 1) := by decide +kernel
theorem dX3_remove_218 : decode cX3_remove 218 = .ok (.getfield 56, 3) := by decide +kernel
theorem dX3_remove_221 : decode cX3_remove 221 = .ok (.if_icmp .ne 7, 3) := by decide +kernel
theorem dX3_remove_224 : decode cX3_remove 224 = .ok (.iconst 1, 1) := by decide +kernel
theorem dX3_remove_225 : decode cX3_remove 225 = .ok (.goto 4, 3) := by decide +kernel
theorem dX3_remove_228 : decode cX3_remove 228 = .ok (.iconst 0, 1) := by decide +kernel
theorem dX3_remove_229 : decode cX3_remove 229 = .ok (.istore 4, 2) := by decide +kernel
theorem dX3_remove_231 : decode cX3_remove 231 = .ok (.iinc 5 1, 3) := by decide +kernel
theorem dX3_remove_234 : decode cX3_remove 234 = .ok (.goto (-40), 3) := by decide +kernel
theorem dX3_remove_237 : decode cX3_remove 237 = .ok (.aload_n 0, 1) := by decide +kernel
theorem dX3_remove_238 : decode cX3_remove 238 = .ok (.iload 4, 2) := by decide +kernel
theorem dX3_remove_240 : decode cX3_remove 240 = .ok (.ifCond .eq 10, 3) := by decide +kernel
theorem dX3_remove_243 : decode cX3_remove 243 = .ok (.aload_n 0, 1) := by decide +kernel
theorem dX3_remove_244 : decode cX3_remove 244 = .ok (.getfield 56, 3) := by decide +kernel
theorem dX3_remove_247 : decode cX3_remove 247 = .ok (.goto 9, 3) := by decide +kernel
theorem dX3_remove_250 : decode cX3_remove 250 = .ok (.aload_n 0, 1) := by decide +kernel
theorem dX3_remove_251 : decode cX3_remove 251 = .ok (.getfield 56, 3) := by decide +kernel
theorem dX3_remove_254 : decode cX3_remove 254 = .ok (.iconst 1, 1) := by decide +kernel
theorem dX3_remove_255 : decode cX3_remove 255 = .ok (.isub, 1) := by decide +kernel
theorem dX3_remove_256 : decode cX3_remove 256 = .ok (.putfield 56, 3) := by decide +kernel
theorem dX3_remove_259 : decode cX3_remove 259 = .ok (.goto (-80), 3) := by decide +kernel
theorem dX3_remove_262 : decode cX3_remove 262 = .ok (.iconst 0, 1) := by decide +kernel
theorem dX3_remove_263 : decode cX3_remove 263 = .ok (.ireturn, 1) := by decide +kernel
theorem dX3_size_0 : decode cX3_size 0 = .ok (.aload_n 0, 1) := by decide +kernel
theorem dX3_size_1 : decode cX3_size 1 = .ok (.iconst 0, 1) := by decide +kernel
theorem dX3_size_2 : decode cX3_size 2 = .ok (.putfield 48, 3) := by decide +kernel
theorem dX3_size_5 : decode cX3_size 5 = .ok (.aload_n 0, 1) := by decide +kernel
theorem dX3_size_6 : decode cX3_size 6 = .ok (.getfield 87, 3) := by decide +kernel
theorem dX3_size_9 : decode cX3_size 9 = .ok (.ifCond .eq 8, 3) := by decide +kernel
theorem dX3_size_12 : decode cX3_size 12 = .ok (.ldc 91, 2) := by decide +kernel
theorem dX3_size_14 : decode cX3_size 14 = .ok (.goto 7, 3) := by decide +kernel
theorem dX3_size_17 : decode cX3_size 17 = .ok (.aload_n 0, 1) := by decide +kernel
theorem dX3_size_18 : decode cX3_size 18 = .ok (.getfield 63, 3) := by decide +kernel
theorem dX3_size_21 : decode cX3_size 21 = .ok (.ireturn, 1) := by decide +kernel
theorem dX3_depth_0 : decode cX3_depth 0 = .ok (.aload_n 0, 1) := by decide +kernel
theorem dX3_depth_1 : decode cX3_depth 1 = .ok (.iconst 0, 1) := by decide +kernel
theorem dX3_depth_2 : decode cX3_depth 2 = .ok (.putfield 48, 3) := by decide +kernel
theorem dX3_depth_5 : decode cX3_depth 5 = .ok (.aload_n 0, 1) := by decide +kernel
theorem dX3_depth_6 : decode cX3_depth 6 = .ok (.getfield 87, 3) := by decide +kernel
theorem dX3_depth_9 : decode cX3_depth 9 = .ok (.ifCond .eq 8, 3) := by decide +kernel
theorem dX3_depth_12 : decode cX3_depth 12 = .ok (.ldc 91, 2) := by decide +kernel
theorem dX3_depth_14 : decode cX3_depth 14 = .ok (.goto 7, 3) := by decide +kernel
theorem dX3_depth_17 : decode cX3_depth 17 = .ok (.aload_n 0, 1) := by decide +kernel
theorem dX3_depth_18 : decode cX3_depth 18 = .ok (.getfield 56, 3) := by decide +kernel
theorem dX3_depth_21 : decode cX3_depth 21 = .ok (.ireturn, 1) := by decide +kernel
set_option maxRecDepth 20000 in
theorem ggX3_buckets_X3_count : GoodIn wsX3_buckets wsX3_count := goodIn_r _ [8, 9, 10, 11, 12, 7, 13, 14, 15, 16, 17, 18, 19, 20, 21, 22, 23, 24, 25, 26, 27, 28, 29, 30, 31, 32, 33, 34, 35, 36, 37, 38] (by decide +kernel) (by decide +kernel)
set_option maxRecDepth 20000 in
theorem gX3_buckets_X3_count : GoodIn wsX3_buckets (wsV RX3 76 RX3 yX3_count wsX3_count) := goodIn_app (goodIn_of _ (by decide +kernel)) ggX3_buckets_X3_count
theorem dX3_buckets_0 : decode cX3_buckets 0 = .ok (.aload_n 0, 1) := by decide +kernel
theorem dX3_buckets_1 : decode cX3_buckets 1 = .ok (.iconst 0, 1) := by decide +kernel
theorem dX3_buckets_2 : decode cX3_buckets 2 = .ok (.putfield 48, 3) := by decide +kernel
theorem dX3_buckets_5 : decode cX3_buckets 5 = .ok (.aload_n 0, 1) := by decide +kernel
theorem dX3_buckets_6 : decode cX3_buckets 6 = .ok (.getfield 87, 3) := by decide +kernel
theorem dX3_buckets_9 : decode cX3_buckets 9 = .ok (.ifCond .eq 8, 3) := by decide +kernel
theorem dX3_buckets_12 : decode cX3_buckets 12 = .ok (.ldc 91, 2) := by decide +kernel
theorem dX3_buckets_14 : decode cX3_buckets 14 = .ok (.goto 7, 3) := by decide +kernel
theorem dX3_buckets_17 : decode cX3_buckets 17 = .ok (.aload_n 0, 1) := by decide +kernel
theorem dX3_buckets_18 : decode cX3_buckets 18 = .ok (.invokevirtual 76, 3) := by decide +kernel
theorem dX3_buckets_21 : decode cX3_buckets 21 = .ok (.ireturn, 1) := by decide +kernel
theorem dX3_freeCount_0 : decode cX3_freeCount 0 = .ok (.iconst 0, 1) := by decide +kernel
theorem dX3_freeCount_1 : decode cX3_freeCount 1 = .ok (.istore_n 1, 1) := by decide +kernel
theorem dX3_freeCount_2 : decode cX3_freeCount 2 = .ok (.iconst 2, 1) := by decide +kernel
theorem dX3_freeCount_3 : decode cX3_freeCount 3 = .ok (.istore_n 2, 1) := by decide +kernel
theorem dX3_freeCount_4 : decode cX3_freeCount 4 = .ok (.iload_n 2, 1) := by decide +kernel
theorem dX3_freeCount_5 : decode cX3_freeCount 5 = .ok (.aload_n 0, 1) := by decide +kernel
theorem dX3_freeCount_6 : decode cX3_freeCount 6 = .ok (.getfield 41, 3) := by decide +kernel
theorem dX3_freeCount_9 : decode cX3_freeCount 9 = .ok (.if_icmp .ge 26, 3) := by decide +kernel
theorem dX3_freeCount_12 : decode cX3_freeCount 12 = .ok (.aload_n 0, 1) := by decide +kernel
theorem dX3_freeCount_13 : decode cX3_freeCount 13 = .ok (.getfield 34, 3) := by decide +kernel
theorem dX3_freeCount_16 : decode cX3_freeCount 16 = .ok (.iload_n 2, 1) := by decide +kernel
theorem dX3_freeCount_17 : decode cX3_freeCount 17 = .ok (.baload, 1) := by decide +kernel
theorem dX3_freeCount_18 : decode cX3_freeCount 18 = .ok (.ifCond .eq 7, 3) := by decide +kernel
theorem dX3_freeCount_21 : decode cX3_freeCount 21 = .ok (.iload_n 1, 1) := by decide +kernel
theorem dX3_freeCount_22 : decode cX3_freeCount 22 = .ok (.goto 6, 3) := by decide +kernel
theorem dX3_freeCount_25 : decode cX3_freeCount 25 = .ok (.iload_n 1, 1) := by decide +kernel
theorem dX3_freeCount_26 : decode cX3_freeCount 26 = .ok (.iconst 1, 1) := by decide +kernel
theorem dX3_freeCount_27 : decode cX3_freeCount 27 = .ok (.iadd, 1) := by decide +kernel
theorem dX3_freeCount_28 : decode cX3_freeCount 28 = .ok (.istore_n 1, 1) := by decide +kernel
theorem dX3_freeCount_29 : decode cX3_freeCount 29 = .ok (.iinc 2 1, 3) := by decide +kernel
theorem dX3_freeCount_32 : decode cX3_freeCount 32 = .ok (.goto (-28), 3) := by decide +kernel
theorem dX3_freeCount_35 : decode cX3_freeCount 35 = .ok (.iload_n 1, 1) := by decide +kernel
theorem dX3_freeCount_36 : decode cX3_freeCount 36 = .ok (.ireturn, 1) := by decide +kernel
theorem dX3_take_0 : decode cX3_take 0 = .ok (.iconst 2, 1) := by decide +kernel
theorem dX3_take_1 : decode cX3_take 1 = .ok (.istore_n 1, 1) := by decide +kernel
theorem dX3_take_2 : decode cX3_take 2 = .ok (.aload_n 0, 1) := by decide +kernel
theorem dX3_take_3 : decode cX3_take 3 = .ok (.getfield 34, 3) := by decide +kernel
theorem dX3_take_6 : decode cX3_take 6 = .ok (.iload_n 1, 1) := by decide +kernel
theorem dX3_take_7 : decode cX3_take 7 = .ok (.baload, 1) := by decide +kernel
theorem dX3_take_8 : decode cX3_take 8 = .ok (.ifCond .ne 12, 3) := by decide +kernel
theorem dX3_take_11 : decode cX3_take 11 = .ok (.aload_n 0, 1) := by decide +kernel
theorem dX3_take_12 : decode cX3_take 12 = .ok (.getfield 38, 3) := by decide +kernel
theorem dX3_take_15 : decode cX3_take 15 = .ok (.iload_n 1, 1) := by decide +kernel
theorem dX3_take_16 : decode cX3_take 16 = .ok (.baload, 1) := by decide +kernel
theorem dX3_take_17 : decode cX3_take 17 = .ok (.ifCond .eq 9, 3) := by decide +kernel
theorem dX3_take_20 : decode cX3_take 20 = .ok (.iinc 1 1, 3) := by decide +kernel
theorem dX3_take_23 : decode cX3_take 23 = .ok (.goto (-21), 3) := by decide +kernel
theorem dX3_take_26 : decode cX3_take 26 = .ok (.aload_n 0, 1) := by decide +kernel
theorem dX3_take_27 : decode cX3_take 27 = .ok (.getfield 38, 3) := by decide +kernel
theorem dX3_take_30 : decode cX3_take 30 = .ok (.iload_n 1, 1) := by decide +kernel
theorem dX3_take_31 : decode cX3_take 31 = .ok (.iconst 1, 1) := by decide +kernel
theorem dX3_take_32 : decode cX3_take 32 = .ok (.bastore, 1) := by decide +kernel
theorem dX3_take_33 : decode cX3_take 33 = .ok (.iload_n 1, 1) := by decide +kernel
theorem dX3_take_34 : decode cX3_take 34 = .ok (.ireturn, 1) := by decide +kernel
set_option maxRecDepth 20000 in
theorem ggX3_settle_X3_isFirst : GoodIn wsX3_settle wsX3_isFirst := goodIn_r _ [20, 4, 21, 22, 19, 23, 28, 29, 30, 31, 32, 33, 34, 35, 36, 37, 38, 39, 40, 41, 42, 43, 44, 45, 46, 47, 48] (by decide +kernel) (by decide +kernel)
set_option maxRecDepth 20000 in
theorem gX3_settle_X3_isFirst : GoodIn wsX3_settle (wsV RX3 66 RX3 yX3_isFirst wsX3_isFirst) := goodIn_app (goodIn_of _ (by decide +kernel)) ggX3_settle_X3_isFirst
set_option maxRecDepth 20000 in
theorem ggX3_settle_X3_take : GoodIn wsX3_settle wsX3_take := goodIn_r _ [27, 5, 1, 28, 29, 30, 31, 32, 33, 34, 35, 36, 37, 38, 39, 40, 41, 42, 43, 44, 45, 46, 47, 48] (by decide +kernel) (by decide +kernel)
set_option maxRecDepth 20000 in
theorem gX3_settle_X3_take : GoodIn wsX3_settle (wsV RX3 107 RX3 yX3_take wsX3_take) := goodIn_app (goodIn_of _ (by decide +kernel)) ggX3_settle_X3_take
set_option maxRecDepth 20000 in
theorem ggX3_settle_X3_low : GoodIn wsX3_settle wsX3_low := goodIn_r _ [23] (by decide +kernel) (by decide +kernel)
set_option maxRecDepth 20000 in
theorem gX3_settle_X3_low : GoodIn wsX3_settle (va_wsS RX3 59 yX3_low wsX3_low) := goodIn_app (goodIn_of _ (by decide +kernel)) ggX3_settle_X3_low
theorem dX3_settle_0 : decode cX3_settle 0 = .ok (.iconst 0, 1) := by decide +kernel
theorem dX3_settle_1 : decode cX3_settle 1 = .ok (.istore_n 2, 1) := by decide +kernel
theorem dX3_settle_2 : decode cX3_settle 2 = .ok (.iload_n 2, 1) := by decide +kernel
theorem dX3_settle_3 : decode cX3_settle 3 = .ok (.sipush 200, 3) := by decide +kernel
theorem dX3_settle_6 : decode cX3_settle 6 = .ok (.if_icmp .ge 16, 3) := by decide +kernel
theorem dX3_settle_9 : decode cX3_settle 9 = .ok (.aload_n 0, 1) := by decide +kernel
theorem dX3_settle_10 : decode cX3_settle 10 = .ok (.getfield 38, 3) := by decide +kernel
theorem dX3_settle_13 : decode cX3_settle 13 = .ok (.iload_n 2, 1) := by decide +kernel
theorem dX3_settle_14 : decode cX3_settle 14 = .ok (.iconst 0, 1) := by decide +kernel
theorem dX3_settle_15 : decode cX3_settle 15 = .ok (.bastore, 1) := by decide +kernel
theorem dX3_settle_16 : decode cX3_settle 16 = .ok (.iinc 2 1, 3) := by decide +kernel
theorem dX3_settle_19 : decode cX3_settle 19 = .ok (.goto (-17), 3) := by decide +kernel
theorem dX3_settle_22 : decode cX3_settle 22 = .ok (.iconst 0, 1) := by decide +kernel
theorem dX3_settle_23 : decode cX3_settle 23 = .ok (.istore_n 2, 1) := by decide +kernel
theorem dX3_settle_24 : decode cX3_settle 24 = .ok (.iload_n 2, 1) := by decide +kernel
theorem dX3_settle_25 : decode cX3_settle 25 = .ok (.iconst 1, 1) := by decide +kernel
theorem dX3_settle_26 : decode cX3_settle 26 = .ok (.aload_n 0, 1) := by decide +kernel
theorem dX3_settle_27 : decode cX3_settle 27 = .ok (.getfield 56, 3) := by decide +kernel
theorem dX3_settle_30 : decode cX3_settle 30 = .ok (.ishl, 1) := by decide +kernel
theorem dX3_settle_31 : decode cX3_settle 31 = .ok (.if_icmp .ge 36, 3) := by decide +kernel
theorem dX3_settle_34 : decode cX3_settle 34 = .ok (.aload_n 0, 1) := by decide +kernel
theorem dX3_settle_35 : decode cX3_settle 35 = .ok (.iload_n 2, 1) := by decide +kernel
theorem dX3_settle_36 : decode cX3_settle 36 = .ok (.invokevirtual 66, 3) := by decide +kernel
theorem dX3_settle_39 : decode cX3_settle 39 = .ok (.ifCond .eq 22, 3) := by decide +kernel
theorem dX3_settle_42 : decode cX3_settle 42 = .ok (.aload_n 0, 1) := by decide +kernel
theorem dX3_settle_43 : decode cX3_settle 43 = .ok (.getfield 19, 3) := by decide +kernel
theorem dX3_settle_46 : decode cX3_settle 46 = .ok (.iload_n 2, 1) := by decide +kernel
theorem dX3_settle_47 : decode cX3_settle 47 = .ok (.iaload, 1) := by decide +kernel
theorem dX3_settle_48 : decode cX3_settle 48 = .ok (.ifCond .ne 13, 3) := by decide +kernel
theorem dX3_settle_51 : decode cX3_settle 51 = .ok (.aload_n 0, 1) := by decide +kernel
theorem dX3_settle_52 : decode cX3_settle 52 = .ok (.getfield 19, 3) := by decide +kernel
theorem dX3_settle_55 : decode cX3_settle 55 = .ok (.iload_n 2, 1) := by decide +kernel
theorem dX3_settle_56 : decode cX3_settle 56 = .ok (.aload_n 0, 1) := by decide +kernel
theorem dX3_settle_57 : decode cX3_settle 57 = .ok (.invokevirtual 107, 3) := by decide +kernel
theorem dX3_settle_60 : decode cX3_settle 60 = .ok (.iastore, 1) := by decide +kernel
theorem dX3_settle_61 : decode cX3_settle 61 = .ok (.iinc 2 1, 3) := by decide +kernel
theorem dX3_settle_64 : decode cX3_settle 64 = .ok (.goto (-40), 3) := by decide +kernel
theorem dX3_settle_67 : decode cX3_settle 67 = .ok (.iconst 0, 1) := by decide +kernel
theorem dX3_settle_68 : decode cX3_settle 68 = .ok (.istore_n 2, 1) := by decide +kernel
theorem dX3_settle_69 : decode cX3_settle 69 = .ok (.iload_n 2, 1) := by decide +kernel
theorem dX3_settle_70 : decode cX3_settle 70 = .ok (.iconst 1, 1) := by decide +kernel
theorem dX3_settle_71 : decode cX3_settle 71 = .ok (.aload_n 0, 1) := by decide +kernel
theorem dX3_settle_72 : decode cX3_settle 72 = .ok (.getfield 56, 3) := by decide +kernel
theorem dX3_settle_75 : decode cX3_settle 75 = .ok (.ishl, 1) := by decide +kernel
theorem dX3_settle_76 : decode cX3_settle 76 = .ok (.if_icmp .ge 30, 3) := by decide +kernel
theorem dX3_settle_79 : decode cX3_settle 79 = .ok (.aload_n 0, 1) := by decide +kernel
theorem dX3_settle_80 : decode cX3_settle 80 = .ok (.getfield 19, 3) := by decide +kernel
theorem dX3_settle_83 : decode cX3_settle 83 = .ok (.iload_n 2, 1) := by decide +kernel
theorem dX3_settle_84 : decode cX3_settle 84 = .ok (.aload_n 0, 1) := by decide +kernel
theorem dX3_settle_85 : decode cX3_settle 85 = .ok (.getfield 19, 3) := by decide +kernel
theorem dX3_settle_88 : decode cX3_settle 88 = .ok (.iload_n 2, 1) := by decide +kernel
theorem dX3_settle_89 : decode cX3_settle 89 = .ok (.aload_n 0, 1) := by decide +kernel
theorem dX3_settle_90 : decode cX3_settle 90 = .ok (.getfield 16, 3) := by decide +kernel
theorem dX3_settle_93 : decode cX3_settle 93 = .ok (.iload_n 2, 1) := by decide +kernel
theorem dX3_settle_94 : decode cX3_settle 94 = .ok (.iaload, 1) := by decide +kernel
theorem dX3_settle_95 : decode cX3_settle 95 = .ok (.invokestatic 59, 3) := by decide +kernel
theorem dX3_settle_98 : decode cX3_settle 98 = .ok (.iaload, 1) := by decide +kernel
theorem dX3_settle_99 : decode cX3_settle 99 = .ok (.iastore, 1) := by decide +kernel
theorem dX3_settle_100 : decode cX3_settle 100 = .ok (.iinc 2 1, 3) := by decide +kernel
theorem dX3_settle_103 : decode cX3_settle 103 = .ok (.goto (-34), 3) := by decide +kernel
theorem dX3_settle_106 : decode cX3_settle 106 = .ok (.iconst 0, 1) := by decide +kernel
theorem dX3_settle_107 : decode cX3_settle 107 = .ok (.istore_n 2, 1) := by decide +kernel
theorem dX3_settle_108 : decode cX3_settle 108 = .ok (.iload_n 2, 1) := by decide +kernel
theorem dX3_settle_109 : decode cX3_settle 109 = .ok (.iload_n 1, 1) := by decide +kernel
theorem dX3_settle_110 : decode cX3_settle 110 = .ok (.if_icmp .ge 14, 3) := by decide +kernel
theorem dX3_settle_113 : decode cX3_settle 113 = .ok (.aload_n 0, 1) := by decide +kernel
theorem dX3_settle_114 : decode cX3_settle 114 = .ok (.invokevirtual 107, 3) := by decide +kernel
theorem dX3_settle_117 : decode cX3_settle 117 = .ok (.istore_n 3, 1) := by decide +kernel
theorem dX3_settle_118 : decode cX3_settle 118 = .ok (.iinc 2 1, 3) := by decide +kernel
theorem dX3_settle_121 : decode cX3_settle 121 = .ok (.goto (-13), 3) := by decide +kernel
theorem dX3_settle_124 : decode cX3_settle 124 = .ok (.iconst 0, 1) := by decide +kernel
theorem dX3_settle_125 : decode cX3_settle 125 = .ok (.istore_n 2, 1) := by decide +kernel
theorem dX3_settle_126 : decode cX3_settle 126 = .ok (.iload_n 2, 1) := by decide +kernel
theorem dX3_settle_127 : decode cX3_settle 127 = .ok (.sipush 200, 3) := by decide +kernel
theorem dX3_settle_130 : decode cX3_settle 130 = .ok (.if_icmp .ge 21, 3) := by decide +kernel
theorem dX3_settle_133 : decode cX3_settle 133 = .ok (.aload_n 0, 1) := by decide +kernel
theorem dX3_settle_134 : decode cX3_settle 134 = .ok (.getfield 34, 3) := by decide +kernel
theorem dX3_settle_137 : decode cX3_settle 137 = .ok (.iload_n 2, 1) := by decide +kernel
theorem dX3_settle_138 : decode cX3_settle 138 = .ok (.aload_n 0, 1) := by decide +kernel
theorem dX3_settle_139 : decode cX3_settle 139 = .ok (.getfield 38, 3) := by decide +kernel
theorem dX3_settle_142 : decode cX3_settle 142 = .ok (.iload_n 2, 1) := by decide +kernel
theorem dX3_settle_143 : decode cX3_settle 143 = .ok (.baload, 1) := by decide +kernel
theorem dX3_settle_144 : decode cX3_settle 144 = .ok (.bastore, 1) := by decide +kernel
theorem dX3_settle_145 : decode cX3_settle 145 = .ok (.iinc 2 1, 3) := by decide +kernel
theorem dX3_settle_148 : decode cX3_settle 148 = .ok (.goto (-22), 3) := by decide +kernel
theorem dX3_settle_151 : decode cX3_settle 151 = .ok (.iconst 0, 1) := by decide +kernel
theorem dX3_settle_152 : decode cX3_settle 152 = .ok (.istore_n 2, 1) := by decide +kernel
theorem dX3_settle_153 : decode cX3_settle 153 = .ok (.iload_n 2, 1) := by decide +kernel
theorem dX3_settle_154 : decode cX3_settle 154 = .ok (.iconst 1, 1) := by decide +kernel
theorem dX3_settle_155 : decode cX3_settle 155 = .ok (.aload_n 0, 1) := by decide +kernel
theorem dX3_settle_156 : decode cX3_settle 156 = .ok (.getfield 56, 3) := by decide +kernel
theorem dX3_settle_159 : decode cX3_settle 159 = .ok (.ishl, 1) := by decide +kernel
theorem dX3_settle_160 : decode cX3_settle 160 = .ok (.if_icmp .ge 21, 3) := by decide +kernel
theorem dX3_settle_163 : decode cX3_settle 163 = .ok (.aload_n 0, 1) := by decide +kernel
theorem dX3_settle_164 : decode cX3_settle 164 = .ok (.getfield 34, 3) := by decide +kernel
theorem dX3_settle_167 : decode cX3_settle 167 = .ok (.aload_n 0, 1) := by decide +kernel
theorem dX3_settle_168 : decode cX3_settle 168 = .ok (.getfield 19, 3) := by decide +kernel
theorem dX3_settle_171 : decode cX3_settle 171 = .ok (.iload_n 2, 1) := by decide +kernel
theorem dX3_settle_172 : decode cX3_settle 172 = .ok (.iaload, 1) := by decide +kernel
theorem dX3_settle_173 : decode cX3_settle 173 = .ok (.iconst 1, 1) := by decide +kernel
theorem dX3_settle_174 : decode cX3_settle 174 = .ok (.bastore, 1) := by decide +kernel
theorem dX3_settle_175 : decode cX3_settle 175 = .ok (.iinc 2 1, 3) := by decide +kernel
theorem dX3_settle_178 : decode cX3_settle 178 = .ok (.goto (-25), 3) := by decide +kernel
theorem dX3_settle_181 : decode cX3_settle 181 = .ok (.iconst 0, 1) := by decide +kernel
theorem dX3_settle_182 : decode cX3_settle 182 = .ok (.istore_n 2, 1) := by decide +kernel
theorem dX3_settle_183 : decode cX3_settle 183 = .ok (.iload_n 2, 1) := by decide +kernel
theorem dX3_settle_184 : decode cX3_settle 184 = .ok (.aload_n 0, 1) := by decide +kernel
theorem dX3_settle_185 : decode cX3_settle 185 = .ok (.getfield 63, 3) := by decide +kernel
theorem dX3_settle_188 : decode cX3_settle 188 = .ok (.if_icmp .ge 33, 3) := by decide +kernel
theorem dX3_settle_191 : decode cX3_settle 191 = .ok (.aload_n 0, 1) := by decide +kernel
theorem dX3_settle_192 : decode cX3_settle 192 = .ok (.getfield 22, 3) := by decide +kernel
theorem dX3_settle_195 : decode cX3_settle 195 = .ok (.iload_n 2, 1) := by decide +kernel
theorem dX3_settle_196 : decode cX3_settle 196 = .ok (.aload_n 0, 1) := by decide +kernel
theorem dX3_settle_197 : decode cX3_settle 197 = .ok (.getfield 7, 3) := by decide +kernel
theorem dX3_settle_200 : decode cX3_settle 200 = .ok (.iload_n 2, 1) := by decide +kernel
theorem dX3_settle_201 : decode cX3_settle 201 = .ok (.iaload, 1) := by decide +kernel
theorem dX3_settle_202 : decode cX3_settle 202 = .ok (.iastore, 1) := by decide +kernel
theorem dX3_settle_203 : decode cX3_settle 203 = .ok (.aload_n 0, 1) := by decide +kernel
theorem dX3_settle_204 : decode cX3_settle 204 = .ok (.getfield 25, 3) := by decide +kernel
theorem dX3_settle_207 : decode cX3_settle 207 = .ok (.iload_n 2, 1) := by decide +kernel
theorem dX3_settle_208 : decode cX3_settle 208 = .ok (.aload_n 0, 1) := by decide +kernel
theorem dX3_settle_209 : decode cX3_settle 209 = .ok (.getfield 13, 3) := by decide +kernel
theorem dX3_settle_212 : decode cX3_settle 212 = .ok (.iload_n 2, 1) := by decide +kernel
theorem dX3_settle_213 : decode cX3_settle 213 = .ok (.iaload, 1) := by decide +kernel
theorem dX3_settle_214 : decode cX3_settle 214 = .ok (.iastore, 1) := by decide +kernel
theorem dX3_settle_215 : decode cX3_settle 215 = .ok (.iinc 2 1, 3) := by decide +kernel
theorem dX3_settle_218 : decode cX3_settle 218 = .ok (.goto (-35), 3) := by decide +kernel
theorem dX3_settle_221 : decode cX3_settle 221 = .ok (.aload_n 0, 1) := by decide +kernel
theorem dX3_settle_222 : decode cX3_settle 222 = .ok (.aload_n 0, 1) := by decide +kernel
theorem dX3_settle_223 : decode cX3_settle 223 = .ok (.getfield 63, 3) := by decide +kernel
theorem dX3_settle_226 : decode cX3_settle 226 = .ok (.putfield 110, 3) := by decide +kernel
theorem dX3_settle_229 : decode cX3_settle 229 = .ok (.aload_n 0, 1) := by decide +kernel
theorem dX3_settle_230 : decode cX3_settle 230 = .ok (.aload_n 0, 1) := by decide +kernel
theorem dX3_settle_231 : decode cX3_settle 231 = .ok (.getfield 56, 3) := by decide +kernel
theorem dX3_settle_234 : decode cX3_settle 234 = .ok (.putfield 113, 3) := by decide +kernel
theorem dX3_settle_237 : decode cX3_settle 237 = .ok (.iconst 0, 1) := by decide +kernel
theorem dX3_settle_238 : decode cX3_settle 238 = .ok (.istore_n 2, 1) := by decide +kernel
theorem dX3_settle_239 : decode cX3_settle 239 = .ok (.iload_n 2, 1) := by decide +kernel
theorem dX3_settle_240 : decode cX3_settle 240 = .ok (.sipush 256, 3) := by decide +kernel
theorem dX3_settle_243 : decode cX3_settle 243 = .ok (.if_icmp .ge 33, 3) := by decide +kernel
theorem dX3_settle_246 : decode cX3_settle 246 = .ok (.aload_n 0, 1) := by decide +kernel
theorem dX3_settle_247 : decode cX3_settle 247 = .ok (.getfield 28, 3) := by decide +kernel
theorem dX3_settle_250 : decode cX3_settle 250 = .ok (.iload_n 2, 1) := by decide +kernel
theorem dX3_settle_251 : decode cX3_settle 251 = .ok (.aload_n 0, 1) := by decide +kernel
theorem dX3_settle_252 : decode cX3_settle 252 = .ok (.getfield 16, 3) := by decide +kernel
theorem dX3_settle_255 : decode cX3_settle 255 = .ok (.iload_n 2, 1) := by decide +kernel
theorem dX3_settle_256 : decode cX3_settle 256 = .ok (.iaload, 1) := by decide +kernel
theorem dX3_settle_257 : decode cX3_settle 257 = .ok (.iastore, 1) := by decide +kernel
theorem dX3_settle_258 : decode cX3_settle 258 = .ok (.aload_n 0, 1) := by decide +kernel
theorem dX3_settle_259 : decode cX3_settle 259 = .ok (.getfield 31, 3) := by decide +kernel
theorem dX3_settle_262 : decode cX3_settle 262 = .ok (.iload_n 2, 1) := by decide +kernel
theorem dX3_settle_263 : decode cX3_settle 263 = .ok (.aload_n 0, 1) := by decide +kernel
theorem dX3_settle_264 : decode cX3_settle 264 = .ok (.getfield 19, 3) := by decide +kernel
theorem dX3_settle_267 : decode cX3_settle 267 = .ok (.iload_n 2, 1) := by decide +kernel
theorem dX3_settle_268 : decode cX3_settle 268 = .ok (.iaload, 1) := by decide +kernel
theorem dX3_settle_269 : decode cX3_settle 269 = .ok (.iastore, 1) := by decide +kernel
theorem dX3_settle_270 : decode cX3_settle 270 = .ok (.iinc 2 1, 3) := by decide +kernel
theorem dX3_settle_273 : decode cX3_settle 273 = .ok (.goto (-34), 3) := by decide +kernel
theorem dX3_settle_276 : decode cX3_settle 276 = .ok (.aload_n 0, 1) := by decide +kernel
theorem dX3_settle_277 : decode cX3_settle 277 = .ok (.iconst 0, 1) := by decide +kernel
theorem dX3_settle_278 : decode cX3_settle 278 = .ok (.putfield 99, 3) := by decide +kernel
theorem dX3_settle_281 : decode cX3_settle 281 = .ok (.return_, 1) := by decide +kernel
set_option maxRecDepth 20000 in
theorem ggX3_syncNow_X3_directory : GoodIn wsX3_syncNow wsX3_directory := goodIn_r _ [12] (by decide +kernel) (by decide +kernel)
set_option maxRecDepth 20000 in
theorem gX3_syncNow_X3_directory : GoodIn wsX3_syncNow (va_wsS RX3 80 yX3_directory wsX3_directory) := goodIn_app (goodIn_of _ (by decide +kernel)) ggX3_syncNow_X3_directory
set_option maxRecDepth 20000 in
theorem ggX3_syncNow_X3_isFirst : GoodIn wsX3_syncNow wsX3_isFirst := goodIn_r _ [16, 17, 18, 19, 11, 20, 45, 46, 47, 48, 49, 50, 51, 52, 53, 54, 55, 56, 57, 58, 59, 60, 61, 62, 63, 64, 65] (by decide +kernel) (by decide +kernel)
set_option maxRecDepth 20000 in
theorem gX3_syncNow_X3_isFirst : GoodIn wsX3_syncNow (wsV RX3 66 RX3 yX3_isFirst wsX3_isFirst) := goodIn_app (goodIn_of _ (by decide +kernel)) ggX3_syncNow_X3_isFirst
set_option maxRecDepth 20000 in
theorem ggX3_syncNow_X3_freeCount : GoodIn wsX3_syncNow wsX3_freeCount := goodIn_r _ [24, 25, 26, 45, 46, 47, 48, 49, 50, 51, 52, 53, 54, 55, 56, 57, 58, 59, 60, 61, 62, 63, 64, 65] (by decide +kernel) (by decide +kernel)
set_option maxRecDepth 20000 in
theorem gX3_syncNow_X3_freeCount : GoodIn wsX3_syncNow (wsV RX3 116 RX3 yX3_freeCount wsX3_freeCount) := goodIn_app (goodIn_of _ (by decide +kernel)) ggX3_syncNow_X3_freeCount
set_option maxRecDepth 20000 in
theorem ggX3_syncNow_X3_settle : GoodIn wsX3_syncNow wsX3_settle := goodIn_r _ [30, 31, 2, 3, 17, 26, 32, 33, 34, 35, 36, 37, 38, 39, 40, 1, 13, 14, 15, 11, 16, 18, 19, 20, 41, 42, 43, 44, 45, 46, 47, 48, 49, 50, 51, 52, 53, 54, 55, 56, 57, 58, 59, 60, 61, 62, 63, 64, 65] (by decide +kernel) (by decide +kernel)
set_option maxRecDepth 20000 in
theorem gX3_syncNow_X3_settle : GoodIn wsX3_syncNow (wsV RX3 125 RX3 yX3_settle wsX3_settle) := goodIn_app (goodIn_of _ (by decide +kernel)) ggX3_syncNow_X3_settle
theorem dX3_syncNow_0 : decode cX3_syncNow 0 = .ok (.aload_n 0, 1) := by decide +kernel
theorem dX3_syncNow_1 : decode cX3_syncNow 1 = .ok (.getfield 99, 3) := by decide +kernel
theorem dX3_syncNow_4 : decode cX3_syncNow 4 = .ok (.ifCond .ne 5, 3) := by decide +kernel
theorem dX3_syncNow_7 : decode cX3_syncNow 7 = .ok (.iconst 0, 1) := by decide +kernel
theorem dX3_syncNow_8 : decode cX3_syncNow 8 = .ok (.ireturn, 1) := by decide +kernel
theorem dX3_syncNow_9 : decode cX3_syncNow 9 = .ok (.aload_n 0, 1) := by decide +kernel
theorem dX3_syncNow_10 : decode cX3_syncNow 10 = .ok (.getfield 56, 3) := by decide +kernel
theorem dX3_syncNow_13 : decode cX3_syncNow 13 = .ok (.invokestatic 80, 3) := by decide +kernel
theorem dX3_syncNow_16 : decode cX3_syncNow 16 = .ok (.istore_n 1, 1) := by decide +kernel
theorem dX3_syncNow_17 : decode cX3_syncNow 17 = .ok (.iconst 0, 1) := by decide +kernel
theorem dX3_syncNow_18 : decode cX3_syncNow 18 = .ok (.istore_n 2, 1) := by decide +kernel
theorem dX3_syncNow_19 : decode cX3_syncNow 19 = .ok (.iload_n 2, 1) := by decide +kernel
theorem dX3_syncNow_20 : decode cX3_syncNow 20 = .ok (.iconst 1, 1) := by decide +kernel
theorem dX3_syncNow_21 : decode cX3_syncNow 21 = .ok (.aload_n 0, 1) := by decide +kernel
theorem dX3_syncNow_22 : decode cX3_syncNow 22 = .ok (.getfield 56, 3) := by decide +kernel
theorem dX3_syncNow_25 : decode cX3_syncNow 25 = .ok (.ishl, 1) := by decide +kernel
theorem dX3_syncNow_26 : decode cX3_syncNow 26 = .ok (.if_icmp .ge 34, 3) := by decide +kernel
theorem dX3_syncNow_29 : decode cX3_syncNow 29 = .ok (.aload_n 0, 1) := by decide +kernel
theorem dX3_syncNow_30 : decode cX3_syncNow 30 = .ok (.iload_n 2, 1) := by decide +kernel
theorem dX3_syncNow_31 : decode cX3_syncNow 31 = .ok (.invokevirtual 66, 3) := by decide +kernel
theorem dX3_syncNow_34 : decode cX3_syncNow 34 = .ok (.ifCond .eq 18, 3) := by decide +kernel
theorem dX3_syncNow_37 : decode cX3_syncNow 37 = .ok (.aload_n 0, 1) := by decide +kernel
theorem dX3_syncNow_38 : decode cX3_syncNow 38 = .ok (.getfield 19, 3) := by decide +kernel
theorem dX3_syncNow_41 : decode cX3_syncNow 41 = .ok (.iload_n 2, 1) := by decide +kernel
theorem dX3_syncNow_42 : decode cX3_syncNow 42 = .ok (.iaload, 1) := by decide +kernel
theorem dX3_syncNow_43 : decode cX3_syncNow 43 = .ok (.ifCond .ne 9, 3) := by decide +kernel
theorem dX3_syncNow_46 : decode cX3_syncNow 46 = .ok (.iload_n 1, 1) := by decide +kernel
theorem dX3_syncNow_47 : decode cX3_syncNow 47 = .ok (.iconst 1, 1) := by decide +kernel
theorem dX3_syncNow_48 : decode cX3_syncNow 48 = .ok (.iadd, 1) := by decide +kernel
theorem dX3_syncNow_49 : decode cX3_syncNow 49 = .ok (.goto 4, 3) := by decide +kernel
theorem dX3_syncNow_52 : decode cX3_syncNow 52 = .ok (.iload_n 1, 1) := by decide +kernel
theorem dX3_syncNow_53 : decode cX3_syncNow 53 = .ok (.istore_n 1, 1) := by decide +kernel
theorem dX3_syncNow_54 : decode cX3_syncNow 54 = .ok (.iinc 2 1, 3) := by decide +kernel
theorem dX3_syncNow_57 : decode cX3_syncNow 57 = .ok (.goto (-38), 3) := by decide +kernel
theorem dX3_syncNow_60 : decode cX3_syncNow 60 = .ok (.iload_n 1, 1) := by decide +kernel
theorem dX3_syncNow_61 : decode cX3_syncNow 61 = .ok (.aload_n 0, 1) := by decide +kernel
theorem dX3_syncNow_62 : decode cX3_syncNow 62 = .ok (.invokevirtual 116, 3) := by decide +kernel
theorem dX3_syncNow_65 : decode cX3_syncNow 65 = .ok (.if_icmp .le 6, 3) := by decide +kernel
theorem dX3_syncNow_68 : decode cX3_syncNow 68 = .ok (.ldc 98, 2) := by decide +kernel
theorem dX3_syncNow_70 : decode cX3_syncNow 70 = .ok (.ireturn, 1) := by decide +kernel
theorem dX3_syncNow_71 : decode cX3_syncNow 71 = .ok (.iinc 1 1, 3) := by decide +kernel
theorem dX3_syncNow_74 : decode cX3_syncNow 74 = .ok (.aload_n 0, 1) := by decide +kernel
theorem dX3_syncNow_75 : decode cX3_syncNow 75 = .ok (.getfield 119, 3) := by decide +kernel
theorem dX3_syncNow_78 : decode cX3_syncNow 78 = .ok (.ifCond .le 39, 3) := by decide +kernel
theorem dX3_syncNow_81 : decode cX3_syncNow 81 = .ok (.aload_n 0, 1) := by decide +kernel
theorem dX3_syncNow_82 : decode cX3_syncNow 82 = .ok (.getfield 119, 3) := by decide +kernel
theorem dX3_syncNow_85 : decode cX3_syncNow 85 = .ok (.iload_n 1, 1) := by decide +kernel
theorem dX3_syncNow_86 : decode cX3_syncNow 86 = .ok (.if_icmp .gt 31, 3) := by decide +kernel
theorem dX3_syncNow_89 : decode cX3_syncNow 89 = .ok (.aload_n 0, 1) := by decide +kernel
theorem dX3_syncNow_90 : decode cX3_syncNow 90 = .ok (.aload_n 0, 1) := by decide +kernel
theorem dX3_syncNow_91 : decode cX3_syncNow 91 = .ok (.getfield 122, 3) := by decide +kernel
theorem dX3_syncNow_94 : decode cX3_syncNow 94 = .ok (.aload_n 0, 1) := by decide +kernel
theorem dX3_syncNow_95 : decode cX3_syncNow 95 = .ok (.getfield 119, 3) := by decide +kernel
theorem dX3_syncNow_98 : decode cX3_syncNow 98 = .ok (.iadd, 1) := by decide +kernel
theorem dX3_syncNow_99 : decode cX3_syncNow 99 = .ok (.iconst 1, 1) := by decide +kernel
theorem dX3_syncNow_100 : decode cX3_syncNow 100 = .ok (.isub, 1) := by decide +kernel
theorem dX3_syncNow_101 : decode cX3_syncNow 101 = .ok (.putfield 122, 3) := by decide +kernel
theorem dX3_syncNow_104 : decode cX3_syncNow 104 = .ok (.aload_n 0, 1) := by decide +kernel
theorem dX3_syncNow_105 : decode cX3_syncNow 105 = .ok (.iconst 1, 1) := by decide +kernel
theorem dX3_syncNow_106 : decode cX3_syncNow 106 = .ok (.putfield 87, 3) := by decide +kernel
theorem dX3_syncNow_109 : decode cX3_syncNow 109 = .ok (.aload_n 0, 1) := by decide +kernel
theorem dX3_syncNow_110 : decode cX3_syncNow 110 = .ok (.iconst 0, 1) := by decide +kernel
theorem dX3_syncNow_111 : decode cX3_syncNow 111 = .ok (.putfield 119, 3) := by decide +kernel
theorem dX3_syncNow_114 : decode cX3_syncNow 114 = .ok (.ldc 91, 2) := by decide +kernel
theorem dX3_syncNow_116 : decode cX3_syncNow 116 = .ok (.ireturn, 1) := by decide +kernel
theorem dX3_syncNow_117 : decode cX3_syncNow 117 = .ok (.aload_n 0, 1) := by decide +kernel
theorem dX3_syncNow_118 : decode cX3_syncNow 118 = .ok (.aload_n 0, 1) := by decide +kernel
theorem dX3_syncNow_119 : decode cX3_syncNow 119 = .ok (.getfield 119, 3) := by decide +kernel
theorem dX3_syncNow_122 : decode cX3_syncNow 122 = .ok (.ifCond .le 12, 3) := by decide +kernel
theorem dX3_syncNow_125 : decode cX3_syncNow 125 = .ok (.aload_n 0, 1) := by decide +kernel
theorem dX3_syncNow_126 : decode cX3_syncNow 126 = .ok (.getfield 119, 3) := by decide +kernel
theorem dX3_syncNow_129 : decode cX3_syncNow 129 = .ok (.iload_n 1, 1) := by decide +kernel
theorem dX3_syncNow_130 : decode cX3_syncNow 130 = .ok (.isub, 1) := by decide +kernel
theorem dX3_syncNow_131 : decode cX3_syncNow 131 = .ok (.goto 4, 3) := by decide +kernel
theorem dX3_syncNow_134 : decode cX3_syncNow 134 = .ok (.iconst 0, 1) := by decide +kernel
theorem dX3_syncNow_135 : decode cX3_syncNow 135 = .ok (.putfield 119, 3) := by decide +kernel
theorem dX3_syncNow_138 : decode cX3_syncNow 138 = .ok (.aload_n 0, 1) := by decide +kernel
theorem dX3_syncNow_139 : decode cX3_syncNow 139 = .ok (.aload_n 0, 1) := by decide +kernel
theorem dX3_syncNow_140 : decode cX3_syncNow 140 = .ok (.getfield 122, 3) := by decide +kernel
theorem dX3_syncNow_143 : decode cX3_syncNow 143 = .ok (.iload_n 1, 1) := by decide +kernel
theorem dX3_syncNow_144 : decode cX3_syncNow 144 = .ok (.iadd, 1) := by decide +kernel
theorem dX3_syncNow_145 : decode cX3_syncNow 145 = .ok (.putfield 122, 3) := by decide +kernel
theorem dX3_syncNow_148 : decode cX3_syncNow 148 = .ok (.aload_n 0, 1) := by decide +kernel
theorem dX3_syncNow_149 : decode cX3_syncNow 149 = .ok (.aload_n 0, 1) := by decide +kernel
theorem dX3_syncNow_150 : decode cX3_syncNow 150 = .ok (.getfield 56, 3) := by decide +kernel
theorem dX3_syncNow_153 : decode cX3_syncNow 153 = .ok (.invokestatic 80, 3) := by decide +kernel
theorem dX3_syncNow_156 : decode cX3_syncNow 156 = .ok (.invokevirtual 125, 3) := by decide +kernel
theorem dX3_syncNow_159 : decode cX3_syncNow 159 = .ok (.iconst 0, 1) := by decide +kernel
theorem dX3_syncNow_160 : decode cX3_syncNow 160 = .ok (.ireturn, 1) := by decide +kernel
set_option maxRecDepth 20000 in
theorem ggX3_sync_X3_syncNow : GoodIn wsX3_sync wsX3_syncNow := goodIn_r _ [8, 9, 10, 11, 12, 13, 14, 2, 3, 15, 16, 7, 17, 18, 19, 20, 21, 22, 23, 24, 25, 26, 27, 28, 29, 30, 31, 32, 33, 34, 35, 36, 37, 38, 39, 40, 41, 42, 43, 44, 45, 46, 47, 48, 49, 50, 51, 52, 53, 54, 55, 56, 57, 58, 59, 60, 61, 62, 63, 64, 65, 66, 67, 68, 69, 70] (by decide +kernel) (by decide +kernel)
set_option maxRecDepth 20000 in
theorem gX3_sync_X3_syncNow : GoodIn wsX3_sync (wsV RX3 128 RX3 yX3_syncNow wsX3_syncNow) := goodIn_app (goodIn_of _ (by decide +kernel)) ggX3_sync_X3_syncNow
theorem dX3_sync_0 : decode cX3_sync 0 = .ok (.aload_n 0, 1) := by decide +kernel
theorem dX3_sync_1 : decode cX3_sync 1 = .ok (.iconst 0, 1) := by decide +kernel
theorem dX3_sync_2 : decode cX3_sync 2 = .ok (.putfield 48, 3) := by decide +kernel
theorem dX3_sync_5 : decode cX3_sync 5 = .ok (.aload_n 0, 1) := by decide +kernel
theorem dX3_sync_6 : decode cX3_sync 6 = .ok (.getfield 87, 3) := by decide +kernel
theorem dX3_sync_9 : decode cX3_sync 9 = .ok (.ifCond .eq 8, 3) := by decide +kernel
theorem dX3_sync_12 : decode cX3_sync 12 = .ok (.ldc 91, 2) := by decide +kernel
theorem dX3_sync_14 : decode cX3_sync 14 = .ok (.goto 7, 3) := by decide +kernel
theorem dX3_sync_17 : decode cX3_sync 17 = .ok (.aload_n 0, 1) := by decide +kernel
theorem dX3_sync_18 : decode cX3_sync 18 = .ok (.invokevirtual 128, 3) := by decide +kernel
theorem dX3_sync_21 : decode cX3_sync 21 = .ok (.ireturn, 1) := by decide +kernel
set_option maxRecDepth 20000 in
theorem ggX3_format_X3_syncNow : GoodIn wsX3_format wsX3_syncNow := goodIn_r _ [13, 8, 5, 7, 14, 15, 16, 2, 3, 17, 18, 12, 19, 20, 21, 22, 23, 6, 24, 25, 26, 27, 28, 29, 30, 31, 32, 33, 34, 35, 36, 37, 4, 38, 39, 40, 41, 42, 43, 44, 45, 46, 47, 48, 49, 50, 51, 52, 53, 54, 55, 56, 57, 58, 59, 60, 61, 62, 63, 64, 65, 66, 67, 68, 69, 70] (by decide +kernel) (by decide +kernel)
set_option maxRecDepth 20000 in
theorem gX3_format_X3_syncNow : GoodIn wsX3_format (wsV RX3 128 RX3 yX3_syncNow wsX3_syncNow) := goodIn_app (goodIn_of _ (by decide +kernel)) ggX3_format_X3_syncNow
theorem dX3_format_0 : decode cX3_format 0 = .ok (.aload_n 0, 1) := by decide +kernel
theorem dX3_format_1 : decode cX3_format 1 = .ok (.iconst 0, 1) := by decide +kernel
theorem dX3_format_2 : decode cX3_format 2 = .ok (.putfield 48, 3) := by decide +kernel
theorem dX3_format_5 : decode cX3_format 5 = .ok (.aload_n 0, 1) := by decide +kernel
theorem dX3_format_6 : decode cX3_format 6 = .ok (.getfield 87, 3) := by decide +kernel
theorem dX3_format_9 : decode cX3_format 9 = .ok (.ifCond .eq 6, 3) := by decide +kernel
theorem dX3_format_12 : decode cX3_format 12 = .ok (.ldc 91, 2) := by decide +kernel
theorem dX3_format_14 : decode cX3_format 14 = .ok (.ireturn, 1) := by decide +kernel
theorem dX3_format_15 : decode cX3_format 15 = .ok (.aload_n 0, 1) := by decide +kernel
theorem dX3_format_16 : decode cX3_format 16 = .ok (.iconst 0, 1) := by decide +kernel
theorem dX3_format_17 : decode cX3_format 17 = .ok (.putfield 63, 3) := by decide +kernel
theorem dX3_format_20 : decode cX3_format 20 = .ok (.aload_n 0, 1) := by decide +kernel
theorem dX3_format_21 : decode cX3_format 21 = .ok (.iconst 0, 1) := by decide +kernel
theorem dX3_format_22 : decode cX3_format 22 = .ok (.putfield 56, 3) := by decide +kernel
theorem dX3_format_25 : decode cX3_format 25 = .ok (.aload_n 0, 1) := by decide +kernel
theorem dX3_format_26 : decode cX3_format 26 = .ok (.getfield 16, 3) := by decide +kernel
theorem dX3_format_29 : decode cX3_format 29 = .ok (.iconst 0, 1) := by decide +kernel
theorem dX3_format_30 : decode cX3_format 30 = .ok (.iconst 0, 1) := by decide +kernel
theorem dX3_format_31 : decode cX3_format 31 = .ok (.iastore, 1) := by decide +kernel
theorem dX3_format_32 : decode cX3_format 32 = .ok (.aload_n 0, 1) := by decide +kernel
theorem dX3_format_33 : decode cX3_format 33 = .ok (.getfield 19, 3) := by decide +kernel
theorem dX3_format_36 : decode cX3_format 36 = .ok (.iconst 0, 1) := by decide +kernel
theorem dX3_format_37 : decode cX3_format 37 = .ok (.iconst 0, 1) := by decide +kernel
theorem dX3_format_38 : decode cX3_format 38 = .ok (.iastore, 1) := by decide +kernel
theorem dX3_format_39 : decode cX3_format 39 = .ok (.aload_n 0, 1) := by decide +kernel
theorem dX3_format_40 : decode cX3_format 40 = .ok (.iconst 1, 1) := by decide +kernel
theorem dX3_format_41 : decode cX3_format 41 = .ok (.putfield 99, 3) := by decide +kernel
theorem dX3_format_44 : decode cX3_format 44 = .ok (.aload_n 0, 1) := by decide +kernel
theorem dX3_format_45 : decode cX3_format 45 = .ok (.invokevirtual 128, 3) := by decide +kernel
theorem dX3_format_48 : decode cX3_format 48 = .ok (.ireturn, 1) := by decide +kernel
theorem dX3_crashAfter_0 : decode cX3_crashAfter 0 = .ok (.aload_n 0, 1) := by decide +kernel
theorem dX3_crashAfter_1 : decode cX3_crashAfter 1 = .ok (.iconst 0, 1) := by decide +kernel
theorem dX3_crashAfter_2 : decode cX3_crashAfter 2 = .ok (.putfield 48, 3) := by decide +kernel
theorem dX3_crashAfter_5 : decode cX3_crashAfter 5 = .ok (.aload_n 0, 1) := by decide +kernel
theorem dX3_crashAfter_6 : decode cX3_crashAfter 6 = .ok (.aload_n 0, 1) := by decide +kernel
theorem dX3_crashAfter_7 : decode cX3_crashAfter 7 = .ok (.getfield 87, 3) := by decide +kernel
theorem dX3_crashAfter_10 : decode cX3_crashAfter 10 = .ok (.ifCond .eq 10, 3) := by decide +kernel
theorem dX3_crashAfter_13 : decode cX3_crashAfter 13 = .ok (.aload_n 0, 1) := by decide +kernel
theorem dX3_crashAfter_14 : decode cX3_crashAfter 14 = .ok (.getfield 119, 3) := by decide +kernel
theorem dX3_crashAfter_17 : decode cX3_crashAfter 17 = .ok (.goto 13, 3) := by decide +kernel
theorem dX3_crashAfter_20 : decode cX3_crashAfter 20 = .ok (.iload_n 1, 1) := by decide +kernel
theorem dX3_crashAfter_21 : decode cX3_crashAfter 21 = .ok (.iconst 1, 1) := by decide +kernel
theorem dX3_crashAfter_22 : decode cX3_crashAfter 22 = .ok (.if_icmp .ge 7, 3) := by decide +kernel
theorem dX3_crashAfter_25 : decode cX3_crashAfter 25 = .ok (.iconst 0, 1) := by decide +kernel
theorem dX3_crashAfter_26 : decode cX3_crashAfter 26 = .ok (.goto 4, 3) := by decide +kernel
theorem dX3_crashAfter_29 : decode cX3_crashAfter 29 = .ok (.iload_n 1, 1) := by decide +kernel
theorem dX3_crashAfter_30 : decode cX3_crashAfter 30 = .ok (.putfield 119, 3) := by decide +kernel
theorem dX3_crashAfter_33 : decode cX3_crashAfter 33 = .ok (.return_, 1) := by decide +kernel
theorem dX3_recover_0 : decode cX3_recover 0 = .ok (.aload_n 0, 1) := by decide +kernel
theorem dX3_recover_1 : decode cX3_recover 1 = .ok (.iconst 0, 1) := by decide +kernel
theorem dX3_recover_2 : decode cX3_recover 2 = .ok (.putfield 48, 3) := by decide +kernel
theorem dX3_recover_5 : decode cX3_recover 5 = .ok (.aload_n 0, 1) := by decide +kernel
theorem dX3_recover_6 : decode cX3_recover 6 = .ok (.iconst 0, 1) := by decide +kernel
theorem dX3_recover_7 : decode cX3_recover 7 = .ok (.putfield 87, 3) := by decide +kernel
theorem dX3_recover_10 : decode cX3_recover 10 = .ok (.aload_n 0, 1) := by decide +kernel
theorem dX3_recover_11 : decode cX3_recover 11 = .ok (.iconst 0, 1) := by decide +kernel
theorem dX3_recover_12 : decode cX3_recover 12 = .ok (.putfield 119, 3) := by decide +kernel
theorem dX3_recover_15 : decode cX3_recover 15 = .ok (.aload_n 0, 1) := by decide +kernel
theorem dX3_recover_16 : decode cX3_recover 16 = .ok (.iconst 0, 1) := by decide +kernel
theorem dX3_recover_17 : decode cX3_recover 17 = .ok (.putfield 99, 3) := by decide +kernel
theorem dX3_recover_20 : decode cX3_recover 20 = .ok (.aload_n 0, 1) := by decide +kernel
theorem dX3_recover_21 : decode cX3_recover 21 = .ok (.aload_n 0, 1) := by decide +kernel
theorem dX3_recover_22 : decode cX3_recover 22 = .ok (.getfield 110, 3) := by decide +kernel
theorem dX3_recover_25 : decode cX3_recover 25 = .ok (.putfield 63, 3) := by decide +kernel
theorem dX3_recover_28 : decode cX3_recover 28 = .ok (.aload_n 0, 1) := by decide +kernel
theorem dX3_recover_29 : decode cX3_recover 29 = .ok (.aload_n 0, 1) := by decide +kernel
theorem dX3_recover_30 : decode cX3_recover 30 = .ok (.getfield 113, 3) := by decide +kernel
theorem dX3_recover_33 : decode cX3_recover 33 = .ok (.putfield 56, 3) := by decide +kernel
theorem dX3_recover_36 : decode cX3_recover 36 = .ok (.iconst 0, 1) := by decide +kernel
theorem dX3_recover_37 : decode cX3_recover 37 = .ok (.istore_n 1, 1) := by decide +kernel
theorem dX3_recover_38 : decode cX3_recover 38 = .ok (.iload_n 1, 1) := by decide +kernel
theorem dX3_recover_39 : decode cX3_recover 39 = .ok (.aload_n 0, 1) := by decide +kernel
theorem dX3_recover_40 : decode cX3_recover 40 = .ok (.getfield 63, 3) := by decide +kernel
theorem dX3_recover_43 : decode cX3_recover 43 = .ok (.if_icmp .ge 33, 3) := by decide +kernel
theorem dX3_recover_46 : decode cX3_recover 46 = .ok (.aload_n 0, 1) := by decide +kernel
theorem dX3_recover_47 : decode cX3_recover 47 = .ok (.getfield 7, 3) := by decide +kernel
theorem dX3_recover_50 : decode cX3_recover 50 = .ok (.iload_n 1, 1) := by decide +kernel
theorem dX3_recover_51 : decode cX3_recover 51 = .ok (.aload_n 0, 1) := by decide +kernel
theorem dX3_recover_52 : decode cX3_recover 52 = .ok (.getfield 22, 3) := by decide +kernel
theorem dX3_recover_55 : decode cX3_recover 55 = .ok (.iload_n 1, 1) := by decide +kernel
theorem dX3_recover_56 : decode cX3_recover 56 = .ok (.iaload, 1) := by decide +kernel
theorem dX3_recover_57 : decode cX3_recover 57 = .ok (.iastore, 1) := by decide +kernel
theorem dX3_recover_58 : decode cX3_recover 58 = .ok (.aload_n 0, 1) := by decide +kernel
theorem dX3_recover_59 : decode cX3_recover 59 = .ok (.getfield 13, 3) := by decide +kernel
theorem dX3_recover_62 : decode cX3_recover 62 = .ok (.iload_n 1, 1) := by decide +kernel
theorem dX3_recover_63 : decode cX3_recover 63 = .ok (.aload_n 0, 1) := by decide +kernel
theorem dX3_recover_64 : decode cX3_recover 64 = .ok (.getfield 25, 3) := by decide +kernel
theorem dX3_recover_67 : decode cX3_recover 67 = .ok (.iload_n 1, 1) := by decide +kernel
theorem dX3_recover_68 : decode cX3_recover 68 = .ok (.iaload, 1) := by decide +kernel
theorem dX3_recover_69 : decode cX3_recover 69 = .ok (.iastore, 1) := by decide +kernel
theorem dX3_recover_70 : decode cX3_recover 70 = .ok (.iinc 1 1, 3) := by decide +kernel
theorem dX3_recover_73 : decode cX3_recover 73 = .ok (.goto (-35), 3) := by decide +kernel
theorem dX3_recover_76 : decode cX3_recover 76 = .ok (.iconst 0, 1) := by decide +kernel
theorem dX3_recover_77 : decode cX3_recover 77 = .ok (.istore_n 1, 1) := by decide +kernel
theorem dX3_recover_78 : decode cX3_recover 78 = .ok (.iload_n 1, 1) := by decide +kernel
theorem dX3_recover_79 : decode cX3_recover 79 = .ok (.sipush 256, 3) := by decide +kernel
theorem dX3_recover_82 : decode cX3_recover 82 = .ok (.if_icmp .ge 33, 3) := by decide +kernel
theorem dX3_recover_85 : decode cX3_recover 85 = .ok (.aload_n 0, 1) := by decide +kernel
theorem dX3_recover_86 : decode cX3_recover 86 = .ok (.getfield 16, 3) := by decide +kernel
theorem dX3_recover_89 : decode cX3_recover 89 = .ok (.iload_n 1, 1) := by decide +kernel
theorem dX3_recover_90 : decode cX3_recover 90 = .ok (.aload_n 0, 1) := by decide +kernel
theorem dX3_recover_91 : decode cX3_recover 91 = .ok (.getfield 28, 3) := by decide +kernel
theorem dX3_recover_94 : decode cX3_recover 94 = .ok (.iload_n 1, 1) := by decide +kernel
theorem dX3_recover_95 : decode cX3_recover 95 = .ok (.iaload, 1) := by decide +kernel
theorem dX3_recover_96 : decode cX3_recover 96 = .ok (.iastore, 1) := by decide +kernel
theorem dX3_recover_97 : decode cX3_recover 97 = .ok (.aload_n 0, 1) := by decide +kernel
theorem dX3_recover_98 : decode cX3_recover 98 = .ok (.getfield 19, 3) := by decide +kernel
theorem dX3_recover_101 : decode cX3_recover 101 = .ok (.iload_n 1, 1) := by decide +kernel
theorem dX3_recover_102 : decode cX3_recover 102 = .ok (.aload_n 0, 1) := by decide +kernel
theorem dX3_recover_103 : decode cX3_recover 103 = .ok (.getfield 31, 3) := by decide +kernel
theorem dX3_recover_106 : decode cX3_recover 106 = .ok (.iload_n 1, 1) := by decide +kernel
theorem dX3_recover_107 : decode cX3_recover 107 = .ok (.iaload, 1) := by decide +kernel
theorem dX3_recover_108 : decode cX3_recover 108 = .ok (.iastore, 1) := by decide +kernel
theorem dX3_recover_109 : decode cX3_recover 109 = .ok (.iinc 1 1, 3) := by decide +kernel
theorem dX3_recover_112 : decode cX3_recover 112 = .ok (.goto (-34), 3) := by decide +kernel
theorem dX3_recover_115 : decode cX3_recover 115 = .ok (.iconst 0, 1) := by decide +kernel
theorem dX3_recover_116 : decode cX3_recover 116 = .ok (.ireturn, 1) := by decide +kernel
theorem dX3_writes_0 : decode cX3_writes 0 = .ok (.aload_n 0, 1) := by decide +kernel
theorem dX3_writes_1 : decode cX3_writes 1 = .ok (.iconst 0, 1) := by decide +kernel
theorem dX3_writes_2 : decode cX3_writes 2 = .ok (.putfield 48, 3) := by decide +kernel
theorem dX3_writes_5 : decode cX3_writes 5 = .ok (.aload_n 0, 1) := by decide +kernel
theorem dX3_writes_6 : decode cX3_writes 6 = .ok (.getfield 122, 3) := by decide +kernel
theorem dX3_writes_9 : decode cX3_writes 9 = .ok (.ireturn, 1) := by decide +kernel
set_option maxRecDepth 20000 in
theorem ggX3_free_X3_freeCount : GoodIn wsX3_free wsX3_freeCount := goodIn_r _ [8, 9, 10, 11, 12, 13, 14, 15, 16, 17, 18, 19, 20, 21, 22, 23, 24, 25, 26, 27, 28, 29, 30, 31] (by decide +kernel) (by decide +kernel)
set_option maxRecDepth 20000 in
theorem gX3_free_X3_freeCount : GoodIn wsX3_free (wsV RX3 116 RX3 yX3_freeCount wsX3_freeCount) := goodIn_app (goodIn_of _ (by decide +kernel)) ggX3_free_X3_freeCount
theorem dX3_free_0 : decode cX3_free 0 = .ok (.aload_n 0, 1) := by decide +kernel
theorem dX3_free_1 : decode cX3_free 1 = .ok (.iconst 0, 1) := by decide +kernel
theorem dX3_free_2 : decode cX3_free 2 = .ok (.putfield 48, 3) := by decide +kernel
theorem dX3_free_5 : decode cX3_free 5 = .ok (.aload_n 0, 1) := by decide +kernel
theorem dX3_free_6 : decode cX3_free 6 = .ok (.getfield 87, 3) := by decide +kernel
theorem dX3_free_9 : decode cX3_free 9 = .ok (.ifCond .eq 8, 3) := by decide +kernel
theorem dX3_free_12 : decode cX3_free 12 = .ok (.ldc 91, 2) := by decide +kernel
theorem dX3_free_14 : decode cX3_free 14 = .ok (.goto 7, 3) := by decide +kernel
theorem dX3_free_17 : decode cX3_free 17 = .ok (.aload_n 0, 1) := by decide +kernel
theorem dX3_free_18 : decode cX3_free 18 = .ok (.invokevirtual 116, 3) := by decide +kernel
theorem dX3_free_21 : decode cX3_free 21 = .ok (.ireturn, 1) := by decide +kernel
set_option maxRecDepth 20000 in
theorem ggX3_bucket_X3_entry : GoodIn wsX3_bucket wsX3_entry := goodIn_r _ [10, 11, 12, 13, 9, 14, 15, 16, 17, 18, 25, 26, 27, 28, 29, 30, 31, 32, 33, 34, 35, 36, 37, 38, 39, 40, 41, 42, 43, 44, 45] (by decide +kernel) (by decide +kernel)
set_option maxRecDepth 20000 in
theorem gX3_bucket_X3_entry : GoodIn wsX3_bucket (wsV RX3 70 RX3 yX3_entry wsX3_entry) := goodIn_app (goodIn_of _ (by decide +kernel)) ggX3_bucket_X3_entry
set_option maxRecDepth 20000 in
theorem ggX3_bucket_X3_many : GoodIn wsX3_bucket wsX3_many := goodIn_r _ [22, 23, 24, 12, 13, 9, 14, 15, 16, 17, 18, 25, 26, 27, 28, 29, 30, 31, 32, 33, 34, 35, 36, 37, 38, 39, 40, 41, 42, 43, 44, 45] (by decide +kernel) (by decide +kernel)
set_option maxRecDepth 20000 in
theorem gX3_bucket_X3_many : GoodIn wsX3_bucket (wsV RX3 73 RX3 yX3_many wsX3_many) := goodIn_app (goodIn_of _ (by decide +kernel)) ggX3_bucket_X3_many
theorem dX3_bucket_0 : decode cX3_bucket 0 = .ok (.aload_n 0, 1) := by decide +kernel
theorem dX3_bucket_1 : decode cX3_bucket 1 = .ok (.iconst 0, 1) := by decide +kernel
theorem dX3_bucket_2 : decode cX3_bucket 2 = .ok (.putfield 48, 3) := by decide +kernel
theorem dX3_bucket_5 : decode cX3_bucket 5 = .ok (.aload_n 0, 1) := by decide +kernel
theorem dX3_bucket_6 : decode cX3_bucket 6 = .ok (.getfield 87, 3) := by decide +kernel
theorem dX3_bucket_9 : decode cX3_bucket 9 = .ok (.ifCond .eq 6, 3) := by decide +kernel
theorem dX3_bucket_12 : decode cX3_bucket 12 = .ok (.ldc 91, 2) := by decide +kernel
theorem dX3_bucket_14 : decode cX3_bucket 14 = .ok (.ireturn, 1) := by decide +kernel
theorem dX3_bucket_15 : decode cX3_bucket 15 = .ok (.aload_n 0, 1) := by decide +kernel
theorem dX3_bucket_16 : decode cX3_bucket 16 = .ok (.iload_n 1, 1) := by decide +kernel
theorem dX3_bucket_17 : decode cX3_bucket 17 = .ok (.invokevirtual 70, 3) := by decide +kernel
theorem dX3_bucket_20 : decode cX3_bucket 20 = .ok (.istore_n 3, 1) := by decide +kernel
theorem dX3_bucket_21 : decode cX3_bucket 21 = .ok (.iload_n 2, 1) := by decide +kernel
theorem dX3_bucket_22 : decode cX3_bucket 22 = .ok (.ifCond .ne 12, 3) := by decide +kernel
theorem dX3_bucket_25 : decode cX3_bucket 25 = .ok (.aload_n 0, 1) := by decide +kernel
theorem dX3_bucket_26 : decode cX3_bucket 26 = .ok (.getfield 16, 3) := by decide +kernel
theorem dX3_bucket_29 : decode cX3_bucket 29 = .ok (.iload_n 3, 1) := by decide +kernel
theorem dX3_bucket_30 : decode cX3_bucket 30 = .ok (.iaload, 1) := by decide +kernel
theorem dX3_bucket_31 : decode cX3_bucket 31 = .ok (.goto 37, 3) := by decide +kernel
theorem dX3_bucket_34 : decode cX3_bucket 34 = .ok (.iload_n 2, 1) := by decide +kernel
theorem dX3_bucket_35 : decode cX3_bucket 35 = .ok (.iconst 1, 1) := by decide +kernel
theorem dX3_bucket_36 : decode cX3_bucket 36 = .ok (.if_icmp .ne 17, 3) := by decide +kernel
theorem dX3_bucket_39 : decode cX3_bucket 39 = .ok (.aload_n 0, 1) := by decide +kernel
theorem dX3_bucket_40 : decode cX3_bucket 40 = .ok (.iload_n 3, 1) := by decide +kernel
theorem dX3_bucket_41 : decode cX3_bucket 41 = .ok (.aload_n 0, 1) := by decide +kernel
theorem dX3_bucket_42 : decode cX3_bucket 42 = .ok (.getfield 16, 3) := by decide +kernel
theorem dX3_bucket_45 : decode cX3_bucket 45 = .ok (.iload_n 3, 1) := by decide +kernel
theorem dX3_bucket_46 : decode cX3_bucket 46 = .ok (.iaload, 1) := by decide +kernel
theorem dX3_bucket_47 : decode cX3_bucket 47 = .ok (.invokevirtual 73, 3) := by decide +kernel
theorem dX3_bucket_50 : decode cX3_bucket 50 = .ok (.goto 18, 3) := by decide +kernel
theorem dX3_bucket_53 : decode cX3_bucket 53 = .ok (.iload_n 2, 1) := by decide +kernel
theorem dX3_bucket_54 : decode cX3_bucket 54 = .ok (.iconst 2, 1) := by decide +kernel
theorem dX3_bucket_55 : decode cX3_bucket 55 = .ok (.if_icmp .ne 12, 3) := by decide +kernel
theorem dX3_bucket_58 : decode cX3_bucket 58 = .ok (.aload_n 0, 1) := by decide +kernel
theorem dX3_bucket_59 : decode cX3_bucket 59 = .ok (.getfield 19, 3) := by decide +kernel
theorem dX3_bucket_62 : decode cX3_bucket 62 = .ok (.iload_n 3, 1) := by decide +kernel
theorem dX3_bucket_63 : decode cX3_bucket 63 = .ok (.iaload, 1) := by decide +kernel
theorem dX3_bucket_64 : decode cX3_bucket 64 = .ok (.goto 4, 3) := by decide +kernel
theorem dX3_bucket_67 : decode cX3_bucket 67 = .ok (.iconst 0, 1) := by decide +kernel
theorem dX3_bucket_68 : decode cX3_bucket 68 = .ok (.ireturn, 1) := by decide +kernel
theorem dJ6_numberOfTrailingZeros_0f7a4_0 : decode cJ6_numberOfTrailingZeros_0f7a4 0 = .ok (.iload_n 0, 1) := by decide +kernel
theorem dJ6_numberOfTrailingZeros_0f7a4_1 : decode cJ6_numberOfTrailingZeros_0f7a4 1 = .ok (.iconst (-1), 1) := by decide +kernel
theorem dJ6_numberOfTrailingZeros_0f7a4_2 : decode cJ6_numberOfTrailingZeros_0f7a4 2 = .ok (.ixor, 1) := by decide +kernel
theorem dJ6_numberOfTrailingZeros_0f7a4_3 : decode cJ6_numberOfTrailingZeros_0f7a4 3 = .ok (.iload_n 0, 1) := by decide +kernel
theorem dJ6_numberOfTrailingZeros_0f7a4_4 : decode cJ6_numberOfTrailingZeros_0f7a4 4 = .ok (.iconst 1, 1) := by decide +kernel
theorem dJ6_numberOfTrailingZeros_0f7a4_5 : decode cJ6_numberOfTrailingZeros_0f7a4 5 = .ok (.isub, 1) := by decide +kernel
theorem dJ6_numberOfTrailingZeros_0f7a4_6 : decode cJ6_numberOfTrailingZeros_0f7a4 6 = .ok (.iand, 1) := by decide +kernel
theorem dJ6_numberOfTrailingZeros_0f7a4_7 : decode cJ6_numberOfTrailingZeros_0f7a4 7 = .ok (.istore_n 0, 1) := by decide +kernel
theorem dJ6_numberOfTrailingZeros_0f7a4_8 : decode cJ6_numberOfTrailingZeros_0f7a4 8 = .ok (.iload_n 0, 1) := by decide +kernel
theorem dJ6_numberOfTrailingZeros_0f7a4_9 : decode cJ6_numberOfTrailingZeros_0f7a4 9 = .ok (.ifCond .gt 8, 3) := by decide +kernel
theorem dJ6_numberOfTrailingZeros_0f7a4_12 : decode cJ6_numberOfTrailingZeros_0f7a4 12 = .ok (.iload_n 0, 1) := by decide +kernel
theorem dJ6_numberOfTrailingZeros_0f7a4_13 : decode cJ6_numberOfTrailingZeros_0f7a4 13 = .ok (.bipush 32, 2) := by decide +kernel
theorem dJ6_numberOfTrailingZeros_0f7a4_15 : decode cJ6_numberOfTrailingZeros_0f7a4 15 = .ok (.iand, 1) := by decide +kernel
theorem dJ6_numberOfTrailingZeros_0f7a4_16 : decode cJ6_numberOfTrailingZeros_0f7a4 16 = .ok (.ireturn, 1) := by decide +kernel
theorem dJ6_numberOfTrailingZeros_0f7a4_17 : decode cJ6_numberOfTrailingZeros_0f7a4 17 = .ok (.iconst 1, 1) := by decide +kernel
theorem dJ6_numberOfTrailingZeros_0f7a4_18 : decode cJ6_numberOfTrailingZeros_0f7a4 18 = .ok (.istore_n 1, 1) := by decide +kernel
theorem dJ6_numberOfTrailingZeros_0f7a4_19 : decode cJ6_numberOfTrailingZeros_0f7a4 19 = .ok (.iload_n 0, 1) := by decide +kernel
theorem dJ6_numberOfTrailingZeros_0f7a4_20 : decode cJ6_numberOfTrailingZeros_0f7a4 20 = .ok (.ldc_w 264, 3) := by decide +kernel
theorem dJ6_numberOfTrailingZeros_0f7a4_23 : decode cJ6_numberOfTrailingZeros_0f7a4 23 = .ok (.if_icmp .le 11, 3) := by decide +kernel
theorem dJ6_numberOfTrailingZeros_0f7a4_26 : decode cJ6_numberOfTrailingZeros_0f7a4 26 = .ok (.iinc 1 16, 3) := by decide +kernel
theorem dJ6_numberOfTrailingZeros_0f7a4_29 : decode cJ6_numberOfTrailingZeros_0f7a4 29 = .ok (.iload_n 0, 1) := by decide +kernel
theorem dJ6_numberOfTrailingZeros_0f7a4_30 : decode cJ6_numberOfTrailingZeros_0f7a4 30 = .ok (.bipush 16, 2) := by decide +kernel
theorem dJ6_numberOfTrailingZeros_0f7a4_32 : decode cJ6_numberOfTrailingZeros_0f7a4 32 = .ok (.iushr, 1) := by decide +kernel
theorem dJ6_numberOfTrailingZeros_0f7a4_33 : decode cJ6_numberOfTrailingZeros_0f7a4 33 = .ok (.istore_n 0, 1) := by decide +kernel
theorem dJ6_numberOfTrailingZeros_0f7a4_34 : decode cJ6_numberOfTrailingZeros_0f7a4 34 = .ok (.iload_n 0, 1) := by decide +kernel
theorem dJ6_numberOfTrailingZeros_0f7a4_35 : decode cJ6_numberOfTrailingZeros_0f7a4 35 = .ok (.sipush 256, 3) := by decide +kernel
theorem dJ6_numberOfTrailingZeros_0f7a4_38 : decode cJ6_numberOfTrailingZeros_0f7a4 38 = .ok (.if_icmp .le 11, 3) := by decide +kernel
theorem dJ6_numberOfTrailingZeros_0f7a4_41 : decode cJ6_numberOfTrailingZeros_0f7a4 41 = .ok (.iinc 1 8, 3) := by decide +kernel
theorem dJ6_numberOfTrailingZeros_0f7a4_44 : decode cJ6_numberOfTrailingZeros_0f7a4 44 = .ok (.iload_n 0, 1) := by decide +kernel
theorem dJ6_numberOfTrailingZeros_0f7a4_45 : decode cJ6_numberOfTrailingZeros_0f7a4 45 = .ok (.bipush 8, 2) := by decide +kernel
theorem dJ6_numberOfTrailingZeros_0f7a4_47 : decode cJ6_numberOfTrailingZeros_0f7a4 47 = .ok (.iushr, 1) := by decide +kernel
theorem dJ6_numberOfTrailingZeros_0f7a4_48 : decode cJ6_numberOfTrailingZeros_0f7a4 48 = .ok (.istore_n 0, 1) := by decide +kernel
theorem dJ6_numberOfTrailingZeros_0f7a4_49 : decode cJ6_numberOfTrailingZeros_0f7a4 49 = .ok (.iload_n 0, 1) := by decide +kernel
theorem dJ6_numberOfTrailingZeros_0f7a4_50 : decode cJ6_numberOfTrailingZeros_0f7a4 50 = .ok (.bipush 16, 2) := by decide +kernel
theorem dJ6_numberOfTrailingZeros_0f7a4_52 : decode cJ6_numberOfTrailingZeros_0f7a4 52 = .ok (.if_icmp .le 10, 3) := by decide +kernel
theorem dJ6_numberOfTrailingZeros_0f7a4_55 : decode cJ6_numberOfTrailingZeros_0f7a4 55 = .ok (.iinc 1 4, 3) := by decide +kernel
theorem dJ6_numberOfTrailingZeros_0f7a4_58 : decode cJ6_numberOfTrailingZeros_0f7a4 58 = .ok (.iload_n 0, 1) := by decide +kernel
theorem dJ6_numberOfTrailingZeros_0f7a4_59 : decode cJ6_numberOfTrailingZeros_0f7a4 59 = .ok (.iconst 4, 1) := by decide +kernel
theorem dJ6_numberOfTrailingZeros_0f7a4_60 : decode cJ6_numberOfTrailingZeros_0f7a4 60 = .ok (.iushr, 1) := by decide +kernel
theorem dJ6_numberOfTrailingZeros_0f7a4_61 : decode cJ6_numberOfTrailingZeros_0f7a4 61 = .ok (.istore_n 0, 1) := by decide +kernel
theorem dJ6_numberOfTrailingZeros_0f7a4_62 : decode cJ6_numberOfTrailingZeros_0f7a4 62 = .ok (.iload_n 0, 1) := by decide +kernel
theorem dJ6_numberOfTrailingZeros_0f7a4_63 : decode cJ6_numberOfTrailingZeros_0f7a4 63 = .ok (.iconst 4, 1) := by decide +kernel
theorem dJ6_numberOfTrailingZeros_0f7a4_64 : decode cJ6_numberOfTrailingZeros_0f7a4 64 = .ok (.if_icmp .le 10, 3) := by decide +kernel
theorem dJ6_numberOfTrailingZeros_0f7a4_67 : decode cJ6_numberOfTrailingZeros_0f7a4 67 = .ok (.iinc 1 2, 3) := by decide +kernel
theorem dJ6_numberOfTrailingZeros_0f7a4_70 : decode cJ6_numberOfTrailingZeros_0f7a4 70 = .ok (.iload_n 0, 1) := by decide +kernel
theorem dJ6_numberOfTrailingZeros_0f7a4_71 : decode cJ6_numberOfTrailingZeros_0f7a4 71 = .ok (.iconst 2, 1) := by decide +kernel
theorem dJ6_numberOfTrailingZeros_0f7a4_72 : decode cJ6_numberOfTrailingZeros_0f7a4 72 = .ok (.iushr, 1) := by decide +kernel
theorem dJ6_numberOfTrailingZeros_0f7a4_73 : decode cJ6_numberOfTrailingZeros_0f7a4 73 = .ok (.istore_n 0, 1) := by decide +kernel
theorem dJ6_numberOfTrailingZeros_0f7a4_74 : decode cJ6_numberOfTrailingZeros_0f7a4 74 = .ok (.iload_n 1, 1) := by decide +kernel
theorem dJ6_numberOfTrailingZeros_0f7a4_75 : decode cJ6_numberOfTrailingZeros_0f7a4 75 = .ok (.iload_n 0, 1) := by decide +kernel
theorem dJ6_numberOfTrailingZeros_0f7a4_76 : decode cJ6_numberOfTrailingZeros_0f7a4 76 = .ok (.iconst 1, 1) := by decide +kernel
theorem dJ6_numberOfTrailingZeros_0f7a4_77 : decode cJ6_numberOfTrailingZeros_0f7a4 77 = .ok (.iushr, 1) := by decide +kernel
theorem dJ6_numberOfTrailingZeros_0f7a4_78 : decode cJ6_numberOfTrailingZeros_0f7a4 78 = .ok (.iadd, 1) := by decide +kernel
theorem dJ6_numberOfTrailingZeros_0f7a4_79 : decode cJ6_numberOfTrailingZeros_0f7a4 79 = .ok (.ireturn, 1) := by decide +kernel
theorem dJ9_max_7cf53_0 : decode cJ9_max_7cf53 0 = .ok (.iload_n 0, 1) := by decide +kernel
theorem dJ9_max_7cf53_1 : decode cJ9_max_7cf53 1 = .ok (.iload_n 1, 1) := by decide +kernel
theorem dJ9_max_7cf53_2 : decode cJ9_max_7cf53 2 = .ok (.if_icmp .lt 7, 3) := by decide +kernel
theorem dJ9_max_7cf53_5 : decode cJ9_max_7cf53 5 = .ok (.iload_n 0, 1) := by decide +kernel
theorem dJ9_max_7cf53_6 : decode cJ9_max_7cf53 6 = .ok (.goto 4, 3) := by decide +kernel
theorem dJ9_max_7cf53_9 : decode cJ9_max_7cf53 9 = .ok (.iload_n 1, 1) := by decide +kernel
theorem dJ9_max_7cf53_10 : decode cJ9_max_7cf53 10 = .ok (.ireturn, 1) := by decide +kernel
theorem dJ9_min_7cf53_0 : decode cJ9_min_7cf53 0 = .ok (.iload_n 0, 1) := by decide +kernel
theorem dJ9_min_7cf53_1 : decode cJ9_min_7cf53 1 = .ok (.iload_n 1, 1) := by decide +kernel
theorem dJ9_min_7cf53_2 : decode cJ9_min_7cf53 2 = .ok (.if_icmp .gt 7, 3) := by decide +kernel
theorem dJ9_min_7cf53_5 : decode cJ9_min_7cf53 5 = .ok (.iload_n 0, 1) := by decide +kernel
theorem dJ9_min_7cf53_6 : decode cJ9_min_7cf53 6 = .ok (.goto 4, 3) := by decide +kernel
theorem dJ9_min_7cf53_9 : decode cJ9_min_7cf53 9 = .ok (.iload_n 1, 1) := by decide +kernel
theorem dJ9_min_7cf53_10 : decode cJ9_min_7cf53 10 = .ok (.ireturn, 1) := by decide +kernel
