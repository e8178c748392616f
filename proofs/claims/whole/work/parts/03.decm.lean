theorem dX7_init_0 : decode cX7_init 0 = .ok (.aload_n 0, 1) := by decide +kernel
theorem dX7_init_1 : decode cX7_init 1 = .ok (.invokespecial 1, 3) := by decide +kernel
theorem dX7_init_4 : decode cX7_init 4 = .ok (.aload_n 0, 1) := by decide +kernel
theorem dX7_init_5 : decode cX7_init 5 = .ok (.sipush 200, 3) := by decide +kernel
theorem dX7_init_8 : decode cX7_init 8 = .ok (.newarray .int, 2) := by decide +kernel
theorem dX7_init_10 : decode cX7_init 10 = .ok (.putfield 7, 3) := by decide +kernel
theorem dX7_init_13 : decode cX7_init 13 = .ok (.aload_n 0, 1) := by decide +kernel
theorem dX7_init_14 : decode cX7_init 14 = .ok (.bipush 18, 2) := by decide +kernel
theorem dX7_init_16 : decode cX7_init 16 = .ok (.newarray .int, 2) := by decide +kernel
theorem dX7_init_18 : decode cX7_init 18 = .ok (.putfield 13, 3) := by decide +kernel
theorem dX7_init_21 : decode cX7_init 21 = .ok (.aload_n 0, 1) := by decide +kernel
theorem dX7_init_22 : decode cX7_init 22 = .ok (.bipush 18, 2) := by decide +kernel
theorem dX7_init_24 : decode cX7_init 24 = .ok (.newarray .int, 2) := by decide +kernel
theorem dX7_init_26 : decode cX7_init 26 = .ok (.putfield 16, 3) := by decide +kernel
theorem dX7_init_29 : decode cX7_init 29 = .ok (.aload_n 0, 1) := by decide +kernel
theorem dX7_init_30 : decode cX7_init 30 = .ok (.bipush 32, 2) := by decide +kernel
theorem dX7_init_32 : decode cX7_init 32 = .ok (.newarray .int, 2) := by decide +kernel
theorem dX7_init_34 : decode cX7_init 34 = .ok (.putfield 19, 3) := by decide +kernel
theorem dX7_init_37 : decode cX7_init 37 = .ok (.aload_n 0, 1) := by decide +kernel
theorem dX7_init_38 : decode cX7_init 38 = .ok (.bipush 32, 2) := by decide +kernel
theorem dX7_init_40 : decode cX7_init 40 = .ok (.newarray .int, 2) := by decide +kernel
theorem dX7_init_42 : decode cX7_init 42 = .ok (.putfield 22, 3) := by decide +kernel
theorem dX7_init_45 : decode cX7_init 45 = .ok (.aload_n 0, 1) := by decide +kernel
theorem dX7_init_46 : decode cX7_init 46 = .ok (.bipush 32, 2) := by decide +kernel
theorem dX7_init_48 : decode cX7_init 48 = .ok (.newarray .int, 2) := by decide +kernel
theorem dX7_init_50 : decode cX7_init 50 = .ok (.putfield 25, 3) := by decide +kernel
theorem dX7_init_53 : decode cX7_init 53 = .ok (.aload_n 0, 1) := by decide +kernel
theorem dX7_init_54 : decode cX7_init 54 = .ok (.sipush 256, 3) := by decide +kernel
theorem dX7_init_57 : decode cX7_init 57 = .ok (.newarray .int, 2) := by decide +kernel
theorem dX7_init_59 : decode cX7_init 59 = .ok (.putfield 28, 3) := by decide +kernel
theorem dX7_init_62 : decode cX7_init 62 = .ok (.aload_n 0, 1) := by decide +kernel
theorem dX7_init_63 : decode cX7_init 63 = .ok (.bipush 64, 2) := by decide +kernel
theorem dX7_init_65 : decode cX7_init 65 = .ok (.newarray .int, 2) := by decide +kernel
theorem dX7_init_67 : decode cX7_init 67 = .ok (.putfield 31, 3) := by decide +kernel
theorem dX7_init_70 : decode cX7_init 70 = .ok (.aload_n 0, 1) := by decide +kernel
theorem dX7_init_71 : decode cX7_init 71 = .ok (.bipush 12, 2) := by decide +kernel
theorem dX7_init_73 : decode cX7_init 73 = .ok (.newarray .int, 2) := by decide +kernel
theorem dX7_init_75 : decode cX7_init 75 = .ok (.putfield 34, 3) := by decide +kernel
theorem dX7_init_78 : decode cX7_init 78 = .ok (.aload_n 0, 1) := by decide +kernel
theorem dX7_init_79 : decode cX7_init 79 = .ok (.iconst 3, 1) := by decide +kernel
theorem dX7_init_80 : decode cX7_init 80 = .ok (.newarray .int, 2) := by decide +kernel
theorem dX7_init_82 : decode cX7_init 82 = .ok (.putfield 37, 3) := by decide +kernel
theorem dX7_init_85 : decode cX7_init 85 = .ok (.aload_n 0, 1) := by decide +kernel
theorem dX7_init_86 : decode cX7_init 86 = .ok (.invokevirtual 40, 3) := by decide +kernel
theorem dX7_init_89 : decode cX7_init 89 = .ok (.aload_n 0, 1) := by decide +kernel
theorem dX7_init_90 : decode cX7_init 90 = .ok (.getfield 22, 3) := by decide +kernel
theorem dX7_init_93 : decode cX7_init 93 = .ok (.iconst 5, 1) := by decide +kernel
theorem dX7_init_94 : decode cX7_init 94 = .ok (.iconst 2, 1) := by decide +kernel
theorem dX7_init_95 : decode cX7_init 95 = .ok (.iastore, 1) := by decide +kernel
theorem dX7_init_96 : decode cX7_init 96 = .ok (.aload_n 0, 1) := by decide +kernel
theorem dX7_init_97 : decode cX7_init 97 = .ok (.getfield 22, 3) := by decide +kernel
theorem dX7_init_100 : decode cX7_init 100 = .ok (.bipush 7, 2) := by decide +kernel
theorem dX7_init_102 : decode cX7_init 102 = .ok (.iconst 4, 1) := by decide +kernel
theorem dX7_init_103 : decode cX7_init 103 = .ok (.iastore, 1) := by decide +kernel
theorem dX7_init_104 : decode cX7_init 104 = .ok (.aload_n 0, 1) := by decide +kernel
theorem dX7_init_105 : decode cX7_init 105 = .ok (.getfield 22, 3) := by decide +kernel
theorem dX7_init_108 : decode cX7_init 108 = .ok (.bipush 8, 2) := by decide +kernel
theorem dX7_init_110 : decode cX7_init 110 = .ok (.iconst 1, 1) := by decide +kernel
theorem dX7_init_111 : decode cX7_init 111 = .ok (.iastore, 1) := by decide +kernel
theorem dX7_init_112 : decode cX7_init 112 = .ok (.aload_n 0, 1) := by decide +kernel
theorem dX7_init_113 : decode cX7_init 113 = .ok (.getfield 22, 3) := by decide +kernel
theorem dX7_init_116 : decode cX7_init 116 = .ok (.bipush 11, 2) := by decide +kernel
theorem dX7_init_118 : decode cX7_init 118 = .ok (.bipush 6, 2) := by decide +kernel
theorem dX7_init_120 : decode cX7_init 120 = .ok (.iastore, 1) := by decide +kernel
theorem dX7_init_121 : decode cX7_init 121 = .ok (.aload_n 0, 1) := by decide +kernel
theorem dX7_init_122 : decode cX7_init 122 = .ok (.getfield 16, 3) := by decide +kernel
theorem dX7_init_125 : decode cX7_init 125 = .ok (.iconst 1, 1) := by decide +kernel
theorem dX7_init_126 : decode cX7_init 126 = .ok (.iconst 4, 1) := by decide +kernel
theorem dX7_init_127 : decode cX7_init 127 = .ok (.iastore, 1) := by decide +kernel
theorem dX7_init_128 : decode cX7_init 128 = .ok (.aload_n 0, 1) := by decide +kernel
theorem dX7_init_129 : decode cX7_init 129 = .ok (.getfield 16, 3) := by decide +kernel
theorem dX7_init_132 : decode cX7_init 132 = .ok (.iconst 2, 1) := by decide +kernel
theorem dX7_init_133 : decode cX7_init 133 = .ok (.bipush 32, 2) := by decide +kernel
theorem dX7_init_135 : decode cX7_init 135 = .ok (.iastore, 1) := by decide +kernel
theorem dX7_init_136 : decode cX7_init 136 = .ok (.aload_n 0, 1) := by decide +kernel
theorem dX7_init_137 : decode cX7_init 137 = .ok (.iconst 0, 1) := by decide +kernel
theorem dX7_init_138 : decode cX7_init 138 = .ok (.bipush 9, 2) := by decide +kernel
theorem dX7_init_140 : decode cX7_init 140 = .ok (.iconst 5, 1) := by decide +kernel
theorem dX7_init_141 : decode cX7_init 141 = .ok (.invokevirtual 43, 3) := by decide +kernel
theorem dX7_init_144 : decode cX7_init 144 = .ok (.aload_n 0, 1) := by decide +kernel
theorem dX7_init_145 : decode cX7_init 145 = .ok (.iconst 1, 1) := by decide +kernel
theorem dX7_init_146 : decode cX7_init 146 = .ok (.bipush 6, 2) := by decide +kernel
theorem dX7_init_148 : decode cX7_init 148 = .ok (.iconst 3, 1) := by decide +kernel
theorem dX7_init_149 : decode cX7_init 149 = .ok (.invokevirtual 43, 3) := by decide +kernel
theorem dX7_init_152 : decode cX7_init 152 = .ok (.aload_n 0, 1) := by decide +kernel
theorem dX7_init_153 : decode cX7_init 153 = .ok (.iconst 2, 1) := by decide +kernel
theorem dX7_init_154 : decode cX7_init 154 = .ok (.bipush 8, 2) := by decide +kernel
theorem dX7_init_156 : decode cX7_init 156 = .ok (.iconst 0, 1) := by decide +kernel
theorem dX7_init_157 : decode cX7_init 157 = .ok (.invokevirtual 43, 3) := by decide +kernel
theorem dX7_init_160 : decode cX7_init 160 = .ok (.aload_n 0, 1) := by decide +kernel
theorem dX7_init_161 : decode cX7_init 161 = .ok (.iconst 3, 1) := by decide +kernel
theorem dX7_init_162 : decode cX7_init 162 = .ok (.iconst 4, 1) := by decide +kernel
theorem dX7_init_163 : decode cX7_init 163 = .ok (.iconst 2, 1) := by decide +kernel
theorem dX7_init_164 : decode cX7_init 164 = .ok (.invokevirtual 43, 3) := by decide +kernel
theorem dX7_init_167 : decode cX7_init 167 = .ok (.aload_n 0, 1) := by decide +kernel
theorem dX7_init_168 : decode cX7_init 168 = .ok (.iconst 0, 1) := by decide +kernel
theorem dX7_init_169 : decode cX7_init 169 = .ok (.iconst 1, 1) := by decide +kernel
theorem dX7_init_170 : decode cX7_init 170 = .ok (.iconst 4, 1) := by decide +kernel
theorem dX7_init_171 : decode cX7_init 171 = .ok (.invokevirtual 43, 3) := by decide +kernel
theorem dX7_init_174 : decode cX7_init 174 = .ok (.aload_n 0, 1) := by decide +kernel
theorem dX7_init_175 : decode cX7_init 175 = .ok (.invokevirtual 47, 3) := by decide +kernel
theorem dX7_init_178 : decode cX7_init 178 = .ok (.return_, 1) := by decide +kernel
theorem dX7_firstOne_0 : decode cX7_firstOne 0 = .ok (.aload_n 0, 1) := by decide +kernel
theorem dX7_firstOne_1 : decode cX7_firstOne 1 = .ok (.getfield 16, 3) := by decide +kernel
theorem dX7_firstOne_4 : decode cX7_firstOne 4 = .ok (.iconst 3, 1) := by decide +kernel
theorem dX7_firstOne_5 : decode cX7_firstOne 5 = .ok (.iaload, 1) := by decide +kernel
theorem dX7_firstOne_6 : decode cX7_firstOne 6 = .ok (.istore 4, 2) := by decide +kernel
theorem dX7_firstOne_8 : decode cX7_firstOne 8 = .ok (.aload_n 0, 1) := by decide +kernel
theorem dX7_firstOne_9 : decode cX7_firstOne 9 = .ok (.getfield 16, 3) := by decide +kernel
theorem dX7_firstOne_12 : decode cX7_firstOne 12 = .ok (.iconst 4, 1) := by decide +kernel
theorem dX7_firstOne_13 : decode cX7_firstOne 13 = .ok (.iload 4, 2) := by decide +kernel
theorem dX7_firstOne_15 : decode cX7_firstOne 15 = .ok (.iadd, 1) := by decide +kernel
theorem dX7_firstOne_16 : decode cX7_firstOne 16 = .ok (.iload_n 1, 1) := by decide +kernel
theorem dX7_firstOne_17 : decode cX7_firstOne 17 = .ok (.iastore, 1) := by decide +kernel
theorem dX7_firstOne_18 : decode cX7_firstOne 18 = .ok (.aload_n 0, 1) := by decide +kernel
theorem dX7_firstOne_19 : decode cX7_firstOne 19 = .ok (.getfield 16, 3) := by decide +kernel
theorem dX7_firstOne_22 : decode cX7_firstOne 22 = .ok (.bipush 11, 2) := by decide +kernel
theorem dX7_firstOne_24 : decode cX7_firstOne 24 = .ok (.iload 4, 2) := by decide +kernel
theorem dX7_firstOne_26 : decode cX7_firstOne 26 = .ok (.iadd, 1) := by decide +kernel
theorem dX7_firstOne_27 : decode cX7_firstOne 27 = .ok (.iload_n 3, 1) := by decide +kernel
theorem dX7_firstOne_28 : decode cX7_firstOne 28 = .ok (.iastore, 1) := by decide +kernel
theorem dX7_firstOne_29 : decode cX7_firstOne 29 = .ok (.aload_n 0, 1) := by decide +kernel
theorem dX7_firstOne_30 : decode cX7_firstOne 30 = .ok (.getfield 22, 3) := by decide +kernel
theorem dX7_firstOne_33 : decode cX7_firstOne 33 = .ok (.bipush 18, 2) := by decide +kernel
theorem dX7_firstOne_35 : decode cX7_firstOne 35 = .ok (.iload 4, 2) := by decide +kernel
theorem dX7_firstOne_37 : decode cX7_firstOne 37 = .ok (.iadd, 1) := by decide +kernel
theorem dX7_firstOne_38 : decode cX7_firstOne 38 = .ok (.iload_n 2, 1) := by decide +kernel
theorem dX7_firstOne_39 : decode cX7_firstOne 39 = .ok (.iastore, 1) := by decide +kernel
theorem dX7_firstOne_40 : decode cX7_firstOne 40 = .ok (.aload_n 0, 1) := by decide +kernel
theorem dX7_firstOne_41 : decode cX7_firstOne 41 = .ok (.getfield 16, 3) := by decide +kernel
theorem dX7_firstOne_44 : decode cX7_firstOne 44 = .ok (.iconst 3, 1) := by decide +kernel
theorem dX7_firstOne_45 : decode cX7_firstOne 45 = .ok (.dup2, 1) := by decide +kernel
theorem dX7_firstOne_46 : decode cX7_firstOne 46 = .ok (.iaload, 1) := by decide +kernel
theorem dX7_firstOne_47 : decode cX7_firstOne 47 = .ok (.iconst 1, 1) := by decide +kernel
theorem dX7_firstOne_48 : decode cX7_firstOne 48 = .ok (.iadd, 1) := by decide +kernel
theorem dX7_firstOne_49 : decode cX7_firstOne 49 = .ok (.iastore, 1) := by decide +kernel
theorem dX7_firstOne_50 : decode cX7_firstOne 50 = .ok (.return_, 1) := by decide +kernel
theorem dX7_in_0 : decode cX7_in 0 = .ok (.lload_n 0, 1) := by decide +kernel
theorem dX7_in_1 : decode cX7_in 1 = .ok (.lload_n 2, 1) := by decide +kernel
theorem dX7_in_2 : decode cX7_in 2 = .ok (.lcmp, 1) := by decide +kernel
theorem dX7_in_3 : decode cX7_in 3 = .ok (.ifCond .lt 14, 3) := by decide +kernel
theorem dX7_in_6 : decode cX7_in 6 = .ok (.lload_n 0, 1) := by decide +kernel
theorem dX7_in_7 : decode cX7_in 7 = .ok (.lload 4, 2) := by decide +kernel
theorem dX7_in_9 : decode cX7_in 9 = .ok (.lcmp, 1) := by decide +kernel
theorem dX7_in_10 : decode cX7_in 10 = .ok (.ifCond .gt 7, 3) := by decide +kernel
theorem dX7_in_13 : decode cX7_in 13 = .ok (.iconst 1, 1) := by decide +kernel
theorem dX7_in_14 : decode cX7_in 14 = .ok (.goto 4, 3) := by decide +kernel
theorem dX7_in_17 : decode cX7_in 17 = .ok (.iconst 0, 1) := by decide +kernel
theorem dX7_in_18 : decode cX7_in 18 = .ok (.ireturn, 1) := by decide +kernel
theorem dX7_has_0 : decode cX7_has 0 = .ok (.iload_n 0, 1) := by decide +kernel
theorem dX7_has_1 : decode cX7_has 1 = .ok (.iload_n 1, 1) := by decide +kernel
theorem dX7_has_2 : decode cX7_has 2 = .ok (.ishr, 1) := by decide +kernel
theorem dX7_has_3 : decode cX7_has 3 = .ok (.iconst 1, 1) := by decide +kernel
theorem dX7_has_4 : decode cX7_has 4 = .ok (.iand, 1) := by decide +kernel
theorem dX7_has_5 : decode cX7_has 5 = .ok (.iconst 1, 1) := by decide +kernel
theorem dX7_has_6 : decode cX7_has 6 = .ok (.if_icmp .ne 7, 3) := by decide +kernel
theorem dX7_has_9 : decode cX7_has 9 = .ok (.iconst 1, 1) := by decide +kernel
theorem dX7_has_10 : decode cX7_has 10 = .ok (.goto 4, 3) := by decide +kernel
theorem dX7_has_13 : decode cX7_has 13 = .ok (.iconst 0, 1) := by decide +kernel
theorem dX7_has_14 : decode cX7_has 14 = .ok (.ireturn, 1) := by decide +kernel
theorem dX7_ones_0 : decode cX7_ones 0 = .ok (.iconst 0, 1) := by decide +kernel
theorem dX7_ones_1 : decode cX7_ones 1 = .ok (.istore_n 1, 1) := by decide +kernel
theorem dX7_ones_2 : decode cX7_ones 2 = .ok (.iload_n 0, 1) := by decide +kernel
theorem dX7_ones_3 : decode cX7_ones 3 = .ok (.istore_n 2, 1) := by decide +kernel
theorem dX7_ones_4 : decode cX7_ones 4 = .ok (.iload_n 2, 1) := by decide +kernel
theorem dX7_ones_5 : decode cX7_ones 5 = .ok (.ifCond .eq 15, 3) := by decide +kernel
theorem dX7_ones_8 : decode cX7_ones 8 = .ok (.iinc 1 1, 3) := by decide +kernel
theorem dX7_ones_11 : decode cX7_ones 11 = .ok (.iload_n 2, 1) := by decide +kernel
theorem dX7_ones_12 : decode cX7_ones 12 = .ok (.iload_n 2, 1) := by decide +kernel
theorem dX7_ones_13 : decode cX7_ones 13 = .ok (.iconst 1, 1) := by decide +kernel
theorem dX7_ones_14 : decode cX7_ones 14 = .ok (.isub, 1) := by decide +kernel
theorem dX7_ones_15 : decode cX7_ones 15 = .ok (.iand, 1) := by decide +kernel
theorem dX7_ones_16 : decode cX7_ones 16 = .ok (.istore_n 2, 1) := by decide +kernel
theorem dX7_ones_17 : decode cX7_ones 17 = .ok (.goto (-13), 3) := by decide +kernel
theorem dX7_ones_20 : decode cX7_ones 20 = .ok (.iload_n 1, 1) := by decide +kernel
theorem dX7_ones_21 : decode cX7_ones 21 = .ok (.ireturn, 1) := by decide +kernel
theorem dX7_empty_0 : decode cX7_empty 0 = .ok (.iconst 0, 1) := by decide +kernel
theorem dX7_empty_1 : decode cX7_empty 1 = .ok (.istore_n 1, 1) := by decide +kernel
theorem dX7_empty_2 : decode cX7_empty 2 = .ok (.iload_n 1, 1) := by decide +kernel
theorem dX7_empty_3 : decode cX7_empty 3 = .ok (.bipush 18, 2) := by decide +kernel
theorem dX7_empty_5 : decode cX7_empty 5 = .ok (.if_icmp .ge 16, 3) := by decide +kernel
theorem dX7_empty_8 : decode cX7_empty 8 = .ok (.aload_n 0, 1) := by decide +kernel
theorem dX7_empty_9 : decode cX7_empty 9 = .ok (.getfield 16, 3) := by decide +kernel
theorem dX7_empty_12 : decode cX7_empty 12 = .ok (.iload_n 1, 1) := by decide +kernel
theorem dX7_empty_13 : decode cX7_empty 13 = .ok (.iconst 0, 1) := by decide +kernel
theorem dX7_empty_14 : decode cX7_empty 14 = .ok (.iastore, 1) := by decide +kernel
theorem dX7_empty_15 : decode cX7_empty 15 = .ok (.iinc 1 1, 3) := by decide +kernel
theorem dX7_empty_18 : decode cX7_empty 18 = .ok (.goto (-16), 3) := by decide +kernel
theorem dX7_empty_21 : decode cX7_empty 21 = .ok (.iconst 0, 1) := by decide +kernel
theorem dX7_empty_22 : decode cX7_empty 22 = .ok (.istore_n 1, 1) := by decide +kernel
theorem dX7_empty_23 : decode cX7_empty 23 = .ok (.iload_n 1, 1) := by decide +kernel
theorem dX7_empty_24 : decode cX7_empty 24 = .ok (.bipush 32, 2) := by decide +kernel
theorem dX7_empty_26 : decode cX7_empty 26 = .ok (.if_icmp .ge 16, 3) := by decide +kernel
theorem dX7_empty_29 : decode cX7_empty 29 = .ok (.aload_n 0, 1) := by decide +kernel
theorem dX7_empty_30 : decode cX7_empty 30 = .ok (.getfield 22, 3) := by decide +kernel
theorem dX7_empty_33 : decode cX7_empty 33 = .ok (.iload_n 1, 1) := by decide +kernel
theorem dX7_empty_34 : decode cX7_empty 34 = .ok (.iconst 0, 1) := by decide +kernel
theorem dX7_empty_35 : decode cX7_empty 35 = .ok (.iastore, 1) := by decide +kernel
theorem dX7_empty_36 : decode cX7_empty 36 = .ok (.iinc 1 1, 3) := by decide +kernel
theorem dX7_empty_39 : decode cX7_empty 39 = .ok (.goto (-16), 3) := by decide +kernel
theorem dX7_empty_42 : decode cX7_empty 42 = .ok (.aload_n 0, 1) := by decide +kernel
theorem dX7_empty_43 : decode cX7_empty 43 = .ok (.getfield 16, 3) := by decide +kernel
theorem dX7_empty_46 : decode cX7_empty 46 = .ok (.iconst 0, 1) := by decide +kernel
theorem dX7_empty_47 : decode cX7_empty 47 = .ok (.bipush 10, 2) := by decide +kernel
theorem dX7_empty_49 : decode cX7_empty 49 = .ok (.iastore, 1) := by decide +kernel
theorem dX7_empty_50 : decode cX7_empty 50 = .ok (.aload_n 0, 1) := by decide +kernel
theorem dX7_empty_51 : decode cX7_empty 51 = .ok (.getfield 22, 3) := by decide +kernel
theorem dX7_empty_54 : decode cX7_empty 54 = .ok (.iconst 1, 1) := by decide +kernel
theorem dX7_empty_55 : decode cX7_empty 55 = .ok (.bipush 20, 2) := by decide +kernel
theorem dX7_empty_57 : decode cX7_empty 57 = .ok (.iastore, 1) := by decide +kernel
theorem dX7_empty_58 : decode cX7_empty 58 = .ok (.aload_n 0, 1) := by decide +kernel
theorem dX7_empty_59 : decode cX7_empty 59 = .ok (.iconst 0, 1) := by decide +kernel
theorem dX7_empty_60 : decode cX7_empty 60 = .ok (.putfield 50, 3) := by decide +kernel
theorem dX7_empty_63 : decode cX7_empty 63 = .ok (.return_, 1) := by decide +kernel
theorem dX7_write_0 : decode cX7_write 0 = .ok (.iload_n 1, 1) := by decide +kernel
theorem dX7_write_1 : decode cX7_write 1 = .ok (.i2l, 1) := by decide +kernel
theorem dX7_write_2 : decode cX7_write 2 = .ok (.ldc2_w 54, 3) := by decide +kernel
theorem dX7_write_5 : decode cX7_write 5 = .ok (.ldc2_w 56, 3) := by decide +kernel
theorem dX7_write_8 : decode cX7_write 8 = .ok (.invokestatic 58, 3) := by decide +kernel
theorem dX7_write_11 : decode cX7_write 11 = .ok (.ifCond .ne 5, 3) := by decide +kernel
theorem dX7_write_14 : decode cX7_write 14 = .ok (.iconst (-1), 1) := by decide +kernel
theorem dX7_write_15 : decode cX7_write 15 = .ok (.ireturn, 1) := by decide +kernel
theorem dX7_write_16 : decode cX7_write 16 = .ok (.aload_n 0, 1) := by decide +kernel
theorem dX7_write_17 : decode cX7_write 17 = .ok (.getfield 62, 3) := by decide +kernel
theorem dX7_write_20 : decode cX7_write 20 = .ok (.sipush 200, 3) := by decide +kernel
theorem dX7_write_23 : decode cX7_write 23 = .ok (.if_icmp .ne 6, 3) := by decide +kernel
theorem dX7_write_26 : decode cX7_write 26 = .ok (.bipush (-3), 2) := by decide +kernel
theorem dX7_write_28 : decode cX7_write 28 = .ok (.ireturn, 1) := by decide +kernel
theorem dX7_write_29 : decode cX7_write 29 = .ok (.aload_n 0, 1) := by decide +kernel
theorem dX7_write_30 : decode cX7_write 30 = .ok (.getfield 7, 3) := by decide +kernel
theorem dX7_write_33 : decode cX7_write 33 = .ok (.aload_n 0, 1) := by decide +kernel
theorem dX7_write_34 : decode cX7_write 34 = .ok (.getfield 62, 3) := by decide +kernel
theorem dX7_write_37 : decode cX7_write 37 = .ok (.iload_n 1, 1) := by decide +kernel
theorem dX7_write_38 : decode cX7_write 38 = .ok (.iastore, 1) := by decide +kernel
theorem dX7_write_39 : decode cX7_write 39 = .ok (.aload_n 0, 1) := by decide +kernel
theorem dX7_write_40 : decode cX7_write 40 = .ok (.dup, 1) := by decide +kernel
theorem dX7_write_41 : decode cX7_write 41 = .ok (.getfield 62, 3) := by decide +kernel
theorem dX7_write_44 : decode cX7_write 44 = .ok (.iconst 1, 1) := by decide +kernel
theorem dX7_write_45 : decode cX7_write 45 = .ok (.iadd, 1) := by decide +kernel
theorem dX7_write_46 : decode cX7_write 46 = .ok (.putfield 62, 3) := by decide +kernel
theorem dX7_write_49 : decode cX7_write 49 = .ok (.aload_n 0, 1) := by decide +kernel
theorem dX7_write_50 : decode cX7_write 50 = .ok (.getfield 62, 3) := by decide +kernel
theorem dX7_write_53 : decode cX7_write 53 = .ok (.ireturn, 1) := by decide +kernel
theorem dX7_wipe_0 : decode cX7_wipe 0 = .ok (.aload_n 0, 1) := by decide +kernel
theorem dX7_wipe_1 : decode cX7_wipe 1 = .ok (.getfield 62, 3) := by decide +kernel
theorem dX7_wipe_4 : decode cX7_wipe 4 = .ok (.istore_n 1, 1) := by decide +kernel
theorem dX7_wipe_5 : decode cX7_wipe 5 = .ok (.aload_n 0, 1) := by decide +kernel
theorem dX7_wipe_6 : decode cX7_wipe 6 = .ok (.iconst 0, 1) := by decide +kernel
theorem dX7_wipe_7 : decode cX7_wipe 7 = .ok (.putfield 62, 3) := by decide +kernel
theorem dX7_wipe_10 : decode cX7_wipe 10 = .ok (.iload_n 1, 1) := by decide +kernel
theorem dX7_wipe_11 : decode cX7_wipe 11 = .ok (.ireturn, 1) := by decide +kernel
theorem dX7_letterAt_0 : decode cX7_letterAt 0 = .ok (.iload_n 1, 1) := by decide +kernel
theorem dX7_letterAt_1 : decode cX7_letterAt 1 = .ok (.aload_n 0, 1) := by decide +kernel
theorem dX7_letterAt_2 : decode cX7_letterAt 2 = .ok (.getfield 62, 3) := by decide +kernel
theorem dX7_letterAt_5 : decode cX7_letterAt 5 = .ok (.if_icmp .ge 12, 3) := by decide +kernel
theorem dX7_letterAt_8 : decode cX7_letterAt 8 = .ok (.aload_n 0, 1) := by decide +kernel
theorem dX7_letterAt_9 : decode cX7_letterAt 9 = .ok (.getfield 7, 3) := by decide +kernel
theorem dX7_letterAt_12 : decode cX7_letterAt 12 = .ok (.iload_n 1, 1) := by decide +kernel
theorem dX7_letterAt_13 : decode cX7_letterAt 13 = .ok (.iaload, 1) := by decide +kernel
theorem dX7_letterAt_14 : decode cX7_letterAt 14 = .ok (.goto 4, 3) := by decide +kernel
theorem dX7_letterAt_17 : decode cX7_letterAt 17 = .ok (.iconst 0, 1) := by decide +kernel
theorem dX7_letterAt_18 : decode cX7_letterAt 18 = .ok (.ireturn, 1) := by decide +kernel
theorem dX7_numbers_0 : decode cX7_numbers 0 = .ok (.iconst 0, 1) := by decide +kernel
theorem dX7_numbers_1 : decode cX7_numbers 1 = .ok (.istore_n 2, 1) := by decide +kernel
theorem dX7_numbers_2 : decode cX7_numbers 2 = .ok (.iload_n 2, 1) := by decide +kernel
theorem dX7_numbers_3 : decode cX7_numbers 3 = .ok (.iload_n 1, 1) := by decide +kernel
theorem dX7_numbers_4 : decode cX7_numbers 4 = .ok (.if_icmp .ge 132, 3) := by decide +kernel
theorem dX7_numbers_7 : decode cX7_numbers 7 = .ok (.iconst 0, 1) := by decide +kernel
theorem dX7_numbers_8 : decode cX7_numbers 8 = .ok (.istore_n 3, 1) := by decide +kernel
theorem dX7_numbers_9 : decode cX7_numbers 9 = .ok (.iconst 0, 1) := by decide +kernel
theorem dX7_numbers_10 : decode cX7_numbers 10 = .ok (.istore 4, 2) := by decide +kernel
theorem dX7_numbers_12 : decode cX7_numbers 12 = .ok (.aload_n 0, 1) := by decide +kernel
theorem dX7_numbers_13 : decode cX7_numbers 13 = .ok (.aload_n 0, 1) := by decide +kernel
theorem dX7_numbers_14 : decode cX7_numbers 14 = .ok (.getfield 66, 3) := by decide +kernel
theorem dX7_numbers_17 : decode cX7_numbers 17 = .ok (.invokevirtual 69, 3) := by decide +kernel
theorem dX7_numbers_20 : decode cX7_numbers 20 = .ok (.i2l, 1) := by decide +kernel
theorem dX7_numbers_21 : decode cX7_numbers 21 = .ok (.ldc2_w 73, 3) := by decide +kernel
theorem dX7_numbers_24 : decode cX7_numbers 24 = .ok (.ldc2_w 75, 3) := by decide +kernel
theorem dX7_numbers_27 : decode cX7_numbers 27 = .ok (.invokestatic 58, 3) := by decide +kernel
theorem dX7_numbers_30 : decode cX7_numbers 30 = .ok (.ifCond .eq 43, 3) := by decide +kernel
theorem dX7_numbers_33 : decode cX7_numbers 33 = .ok (.iload_n 3, 1) := by decide +kernel
theorem dX7_numbers_34 : decode cX7_numbers 34 = .ok (.iconst 3, 1) := by decide +kernel
theorem dX7_numbers_35 : decode cX7_numbers 35 = .ok (.if_icmp .ge 38, 3) := by decide +kernel
theorem dX7_numbers_38 : decode cX7_numbers 38 = .ok (.bipush 10, 2) := by decide +kernel
theorem dX7_numbers_40 : decode cX7_numbers 40 = .ok (.iload 4, 2) := by decide +kernel
theorem dX7_numbers_42 : decode cX7_numbers 42 = .ok (.imul, 1) := by decide +kernel
theorem dX7_numbers_43 : decode cX7_numbers 43 = .ok (.aload_n 0, 1) := by decide +kernel
theorem dX7_numbers_44 : decode cX7_numbers 44 = .ok (.aload_n 0, 1) := by decide +kernel
theorem dX7_numbers_45 : decode cX7_numbers 45 = .ok (.getfield 66, 3) := by decide +kernel
theorem dX7_numbers_48 : decode cX7_numbers 48 = .ok (.invokevirtual 69, 3) := by decide +kernel
theorem dX7_numbers_51 : decode cX7_numbers 51 = .ok (.iadd, 1) := by decide +kernel
theorem dX7_numbers_52 : decode cX7_numbers 52 = .ok (.bipush 48, 2) := by decide +kernel
theorem dX7_numbers_54 : decode cX7_numbers 54 = .ok (.isub, 1) := by decide +kernel
theorem dX7_numbers_55 : decode cX7_numbers 55 = .ok (.istore 4, 2) := by decide +kernel
theorem dX7_numbers_57 : decode cX7_numbers 57 = .ok (.iinc 3 1, 3) := by decide +kernel
theorem dX7_numbers_60 : decode cX7_numbers 60 = .ok (.aload_n 0, 1) := by decide +kernel
theorem dX7_numbers_61 : decode cX7_numbers 61 = .ok (.dup, 1) := by decide +kernel
theorem dX7_numbers_62 : decode cX7_numbers 62 = .ok (.getfield 66, 3) := by decide +kernel
theorem dX7_numbers_65 : decode cX7_numbers 65 = .ok (.iconst 1, 1) := by decide +kernel
theorem dX7_numbers_66 : decode cX7_numbers 66 = .ok (.iadd, 1) := by decide +kernel
theorem dX7_numbers_67 : decode cX7_numbers 67 = .ok (.putfield 66, 3) := by decide +kernel
theorem dX7_numbers_70 : decode cX7_numbers 70 = .ok (.goto (-58), 3) := by decide +kernel
theorem dX7_numbers_73 : decode cX7_numbers 73 = .ok (.iload_n 3, 1) := by decide +kernel
theorem dX7_numbers_74 : decode cX7_numbers 74 = .ok (.i2l, 1) := by decide +kernel
theorem dX7_numbers_75 : decode cX7_numbers 75 = .ok (.lconst 1, 1) := by decide +kernel
theorem dX7_numbers_76 : decode cX7_numbers 76 = .ok (.ldc2_w 77, 3) := by decide +kernel
theorem dX7_numbers_79 : decode cX7_numbers 79 = .ok (.invokestatic 58, 3) := by decide +kernel
theorem dX7_numbers_82 : decode cX7_numbers 82 = .ok (.ifCond .eq 28, 3) := by decide +kernel
theorem dX7_numbers_85 : decode cX7_numbers 85 = .ok (.aload_n 0, 1) := by decide +kernel
theorem dX7_numbers_86 : decode cX7_numbers 86 = .ok (.aload_n 0, 1) := by decide +kernel
theorem dX7_numbers_87 : decode cX7_numbers 87 = .ok (.getfield 66, 3) := by decide +kernel
theorem dX7_numbers_90 : decode cX7_numbers 90 = .ok (.invokevirtual 69, 3) := by decide +kernel
theorem dX7_numbers_93 : decode cX7_numbers 93 = .ok (.iload_n 2, 1) := by decide +kernel
theorem dX7_numbers_94 : decode cX7_numbers 94 = .ok (.iload_n 1, 1) := by decide +kernel
theorem dX7_numbers_95 : decode cX7_numbers 95 = .ok (.iconst 1, 1) := by decide +kernel
theorem dX7_numbers_96 : decode cX7_numbers 96 = .ok (.isub, 1) := by decide +kernel
theorem dX7_numbers_97 : decode cX7_numbers 97 = .ok (.if_icmp .ge 8, 3) := by decide +kernel
theorem dX7_numbers_100 : decode cX7_numbers 100 = .ok (.bipush 44, 2) := by decide +kernel
theorem dX7_numbers_102 : decode cX7_numbers 102 = .ok (.goto 5, 3) := by decide +kernel
theorem dX7_numbers_105 : decode cX7_numbers 105 = .ok (.bipush 59, 2) := by decide +kernel
theorem dX7_numbers_107 : decode cX7_numbers 107 = .ok (.if_icmp .eq 5, 3) := by decide +kernel
theorem dX7_numbers_110 : decode cX7_numbers 110 = .ok (.iconst 0, 1) := by decide +kernel
theorem dX7_numbers_111 : decode cX7_numbers 111 = .ok (.ireturn, 1) := by decide +kernel
theorem dX7_numbers_112 : decode cX7_numbers 112 = .ok (.aload_n 0, 1) := by decide +kernel
theorem dX7_numbers_113 : decode cX7_numbers 113 = .ok (.getfield 37, 3) := by decide +kernel
theorem dX7_numbers_116 : decode cX7_numbers 116 = .ok (.iload_n 2, 1) := by decide +kernel
theorem dX7_numbers_117 : decode cX7_numbers 117 = .ok (.iload 4, 2) := by decide +kernel
theorem dX7_numbers_119 : decode cX7_numbers 119 = .ok (.iastore, 1) := by decide +kernel
theorem dX7_numbers_120 : decode cX7_numbers 120 = .ok (.aload_n 0, 1) := by decide +kernel
theorem dX7_numbers_121 : decode cX7_numbers 121 = .ok (.dup, 1) := by decide +kernel
theorem dX7_numbers_122 : decode cX7_numbers 122 = .ok (.getfield 66, 3) := by decide +kernel
theorem dX7_numbers_125 : decode cX7_numbers 125 = .ok (.iconst 1, 1) := by decide +kernel
theorem dX7_numbers_126 : decode cX7_numbers 126 = .ok (.iadd, 1) := by decide +kernel
theorem dX7_numbers_127 : decode cX7_numbers 127 = .ok (.putfield 66, 3) := by decide +kernel
theorem dX7_numbers_130 : decode cX7_numbers 130 = .ok (.iinc 2 1, 3) := by decide +kernel
theorem dX7_numbers_133 : decode cX7_numbers 133 = .ok (.goto (-131), 3) := by decide +kernel
theorem dX7_numbers_136 : decode cX7_numbers 136 = .ok (.iconst 1, 1) := by decide +kernel
theorem dX7_numbers_137 : decode cX7_numbers 137 = .ok (.ireturn, 1) := by decide +kernel
theorem dX7_ministerItem_0 : decode cX7_ministerItem 0 = .ok (.aload_n 0, 1) := by decide +kernel
theorem dX7_ministerItem_1 : decode cX7_ministerItem 1 = .ok (.getfield 16, 3) := by decide +kernel
theorem dX7_ministerItem_4 : decode cX7_ministerItem 4 = .ok (.iconst 3, 1) := by decide +kernel
theorem dX7_ministerItem_5 : decode cX7_ministerItem 5 = .ok (.iaload, 1) := by decide +kernel
theorem dX7_ministerItem_6 : decode cX7_ministerItem 6 = .ok (.istore_n 1, 1) := by decide +kernel
theorem dX7_ministerItem_7 : decode cX7_ministerItem 7 = .ok (.aload_n 0, 1) := by decide +kernel
theorem dX7_ministerItem_8 : decode cX7_ministerItem 8 = .ok (.iconst 3, 1) := by decide +kernel
theorem dX7_ministerItem_9 : decode cX7_ministerItem 9 = .ok (.invokevirtual 79, 3) := by decide +kernel
theorem dX7_ministerItem_12 : decode cX7_ministerItem 12 = .ok (.ifCond .eq 45, 3) := by decide +kernel
theorem dX7_ministerItem_15 : decode cX7_ministerItem 15 = .ok (.iload_n 1, 1) := by decide +kernel
theorem dX7_ministerItem_16 : decode cX7_ministerItem 16 = .ok (.bipush 7, 2) := by decide +kernel
theorem dX7_ministerItem_18 : decode cX7_ministerItem 18 = .ok (.if_icmp .eq 39, 3) := by decide +kernel
theorem dX7_ministerItem_21 : decode cX7_ministerItem 21 = .ok (.aload_n 0, 1) := by decide +kernel
theorem dX7_ministerItem_22 : decode cX7_ministerItem 22 = .ok (.getfield 37, 3) := by decide +kernel
theorem dX7_ministerItem_25 : decode cX7_ministerItem 25 = .ok (.iconst 0, 1) := by decide +kernel
theorem dX7_ministerItem_26 : decode cX7_ministerItem 26 = .ok (.iaload, 1) := by decide +kernel
theorem dX7_ministerItem_27 : decode cX7_ministerItem 27 = .ok (.iconst 3, 1) := by decide +kernel
theorem dX7_ministerItem_28 : decode cX7_ministerItem 28 = .ok (.if_icmp .gt 29, 3) := by decide +kernel
theorem dX7_ministerItem_31 : decode cX7_ministerItem 31 = .ok (.aload_n 0, 1) := by decide +kernel
theorem dX7_ministerItem_32 : decode cX7_ministerItem 32 = .ok (.getfield 37, 3) := by decide +kernel
theorem dX7_ministerItem_35 : decode cX7_ministerItem 35 = .ok (.iconst 1, 1) := by decide +kernel
theorem dX7_ministerItem_36 : decode cX7_ministerItem 36 = .ok (.iaload, 1) := by decide +kernel
theorem dX7_ministerItem_37 : decode cX7_ministerItem 37 = .ok (.aload_n 0, 1) := by decide +kernel
theorem dX7_ministerItem_38 : decode cX7_ministerItem 38 = .ok (.getfield 16, 3) := by decide +kernel
theorem dX7_ministerItem_41 : decode cX7_ministerItem 41 = .ok (.iconst 0, 1) := by decide +kernel
theorem dX7_ministerItem_42 : decode cX7_ministerItem 42 = .ok (.iaload, 1) := by decide +kernel
theorem dX7_ministerItem_43 : decode cX7_ministerItem 43 = .ok (.if_icmp .ge 14, 3) := by decide +kernel
theorem dX7_ministerItem_46 : decode cX7_ministerItem 46 = .ok (.aload_n 0, 1) := by decide +kernel
theorem dX7_ministerItem_47 : decode cX7_ministerItem 47 = .ok (.getfield 37, 3) := by decide +kernel
theorem dX7_ministerItem_50 : decode cX7_ministerItem 50 = .ok (.iconst 2, 1) := by decide +kernel
theorem dX7_ministerItem_51 : decode cX7_ministerItem 51 = .ok (.iaload, 1) := by decide +kernel
theorem dX7_ministerItem_52 : decode cX7_ministerItem 52 = .ok (.bipush 9, 2) := by decide +kernel
theorem dX7_ministerItem_54 : decode cX7_ministerItem 54 = .ok (.if_icmp .le 5, 3) := by decide +kernel
theorem dX7_ministerItem_57 : decode cX7_ministerItem 57 = .ok (.iconst 0, 1) := by decide +kernel
theorem dX7_ministerItem_58 : decode cX7_ministerItem 58 = .ok (.ireturn, 1) := by decide +kernel
theorem dX7_ministerItem_59 : decode cX7_ministerItem 59 = .ok (.aload_n 0, 1) := by decide +kernel
theorem dX7_ministerItem_60 : decode cX7_ministerItem 60 = .ok (.getfield 16, 3) := by decide +kernel
theorem dX7_ministerItem_63 : decode cX7_ministerItem 63 = .ok (.iconst 4, 1) := by decide +kernel
theorem dX7_ministerItem_64 : decode cX7_ministerItem 64 = .ok (.iload_n 1, 1) := by decide +kernel
theorem dX7_ministerItem_65 : decode cX7_ministerItem 65 = .ok (.iadd, 1) := by decide +kernel
theorem dX7_ministerItem_66 : decode cX7_ministerItem 66 = .ok (.aload_n 0, 1) := by decide +kernel
theorem dX7_ministerItem_67 : decode cX7_ministerItem 67 = .ok (.getfield 37, 3) := by decide +kernel
theorem dX7_ministerItem_70 : decode cX7_ministerItem 70 = .ok (.iconst 0, 1) := by decide +kernel
theorem dX7_ministerItem_71 : decode cX7_ministerItem 71 = .ok (.iaload, 1) := by decide +kernel
theorem dX7_ministerItem_72 : decode cX7_ministerItem 72 = .ok (.iastore, 1) := by decide +kernel
theorem dX7_ministerItem_73 : decode cX7_ministerItem 73 = .ok (.aload_n 0, 1) := by decide +kernel
theorem dX7_ministerItem_74 : decode cX7_ministerItem 74 = .ok (.getfield 16, 3) := by decide +kernel
theorem dX7_ministerItem_77 : decode cX7_ministerItem 77 = .ok (.bipush 11, 2) := by decide +kernel
theorem dX7_ministerItem_79 : decode cX7_ministerItem 79 = .ok (.iload_n 1, 1) := by decide +kernel
theorem dX7_ministerItem_80 : decode cX7_ministerItem 80 = .ok (.iadd, 1) := by decide +kernel
theorem dX7_ministerItem_81 : decode cX7_ministerItem 81 = .ok (.aload_n 0, 1) := by decide +kernel
theorem dX7_ministerItem_82 : decode cX7_ministerItem 82 = .ok (.getfield 37, 3) := by decide +kernel
theorem dX7_ministerItem_85 : decode cX7_ministerItem 85 = .ok (.iconst 2, 1) := by decide +kernel
theorem dX7_ministerItem_86 : decode cX7_ministerItem 86 = .ok (.iaload, 1) := by decide +kernel
theorem dX7_ministerItem_87 : decode cX7_ministerItem 87 = .ok (.iastore, 1) := by decide +kernel
theorem dX7_ministerItem_88 : decode cX7_ministerItem 88 = .ok (.aload_n 0, 1) := by decide +kernel
theorem dX7_ministerItem_89 : decode cX7_ministerItem 89 = .ok (.getfield 22, 3) := by decide +kernel
theorem dX7_ministerItem_92 : decode cX7_ministerItem 92 = .ok (.bipush 18, 2) := by decide +kernel
theorem dX7_ministerItem_94 : decode cX7_ministerItem 94 = .ok (.iload_n 1, 1) := by decide +kernel
theorem dX7_ministerItem_95 : decode cX7_ministerItem 95 = .ok (.iadd, 1) := by decide +kernel
theorem dX7_ministerItem_96 : decode cX7_ministerItem 96 = .ok (.aload_n 0, 1) := by decide +kernel
theorem dX7_ministerItem_97 : decode cX7_ministerItem 97 = .ok (.getfield 37, 3) := by decide +kernel
theorem dX7_ministerItem_100 : decode cX7_ministerItem 100 = .ok (.iconst 1, 1) := by decide +kernel
theorem dX7_ministerItem_101 : decode cX7_ministerItem 101 = .ok (.iaload, 1) := by decide +kernel
theorem dX7_ministerItem_102 : decode cX7_ministerItem 102 = .ok (.iastore, 1) := by decide +kernel
theorem dX7_ministerItem_103 : decode cX7_ministerItem 103 = .ok (.aload_n 0, 1) := by decide +kernel
theorem dX7_ministerItem_104 : decode cX7_ministerItem 104 = .ok (.getfield 16, 3) := by decide +kernel
theorem dX7_ministerItem_107 : decode cX7_ministerItem 107 = .ok (.iconst 3, 1) := by decide +kernel
theorem dX7_ministerItem_108 : decode cX7_ministerItem 108 = .ok (.dup2, 1) := by decide +kernel
theorem dX7_ministerItem_109 : decode cX7_ministerItem 109 = .ok (.iaload, 1) := by decide +kernel
theorem dX7_ministerItem_110 : decode cX7_ministerItem 110 = .ok (.iconst 1, 1) := by decide +kernel
theorem dX7_ministerItem_111 : decode cX7_ministerItem 111 = .ok (.iadd, 1) := by decide +kernel
theorem dX7_ministerItem_112 : decode cX7_ministerItem 112 = .ok (.iastore, 1) := by decide +kernel
theorem dX7_ministerItem_113 : decode cX7_ministerItem 113 = .ok (.iconst 1, 1) := by decide +kernel
theorem dX7_ministerItem_114 : decode cX7_ministerItem 114 = .ok (.ireturn, 1) := by decide +kernel
theorem dX7_item_0 : decode cX7_item 0 = .ok (.aload_n 0, 1) := by decide +kernel
theorem dX7_item_1 : decode cX7_item 1 = .ok (.aload_n 0, 1) := by decide +kernel
theorem dX7_item_2 : decode cX7_item 2 = .ok (.getfield 66, 3) := by decide +kernel
theorem dX7_item_5 : decode cX7_item 5 = .ok (.invokevirtual 69, 3) := by decide +kernel
theorem dX7_item_8 : decode cX7_item 8 = .ok (.istore_n 1, 1) := by decide +kernel
theorem dX7_item_9 : decode cX7_item 9 = .ok (.aload_n 0, 1) := by decide +kernel
theorem dX7_item_10 : decode cX7_item 10 = .ok (.dup, 1) := by decide +kernel
theorem dX7_item_11 : decode cX7_item 11 = .ok (.getfield 66, 3) := by decide +kernel
theorem dX7_item_14 : decode cX7_item 14 = .ok (.iconst 1, 1) := by decide +kernel
theorem dX7_item_15 : decode cX7_item 15 = .ok (.iadd, 1) := by decide +kernel
theorem dX7_item_16 : decode cX7_item 16 = .ok (.putfield 66, 3) := by decide +kernel
theorem dX7_item_19 : decode cX7_item 19 = .ok (.iload_n 1, 1) := by decide +kernel
theorem dX7_item_20 : decode cX7_item 20 = .ok (.bipush 115, 2) := by decide +kernel
theorem dX7_item_22 : decode cX7_item 22 = .ok (.if_icmp .ne 57, 3) := by decide +kernel
theorem dX7_item_25 : decode cX7_item 25 = .ok (.aload_n 0, 1) := by decide +kernel
theorem dX7_item_26 : decode cX7_item 26 = .ok (.iconst 1, 1) := by decide +kernel
theorem dX7_item_27 : decode cX7_item 27 = .ok (.invokevirtual 79, 3) := by decide +kernel
theorem dX7_item_30 : decode cX7_item 30 = .ok (.ifCond .eq 33, 3) := by decide +kernel
theorem dX7_item_33 : decode cX7_item 33 = .ok (.aload_n 0, 1) := by decide +kernel
theorem dX7_item_34 : decode cX7_item 34 = .ok (.getfield 50, 3) := by decide +kernel
theorem dX7_item_37 : decode cX7_item 37 = .ok (.ifCond .ne 26, 3) := by decide +kernel
theorem dX7_item_40 : decode cX7_item 40 = .ok (.aload_n 0, 1) := by decide +kernel
theorem dX7_item_41 : decode cX7_item 41 = .ok (.getfield 37, 3) := by decide +kernel
theorem dX7_item_44 : decode cX7_item 44 = .ok (.iconst 0, 1) := by decide +kernel
theorem dX7_item_45 : decode cX7_item 45 = .ok (.iaload, 1) := by decide +kernel
theorem dX7_item_46 : decode cX7_item 46 = .ok (.i2l, 1) := by decide +kernel
theorem dX7_item_47 : decode cX7_item 47 = .ok (.ldc2_w 83, 3) := by decide +kernel
theorem dX7_item_50 : decode cX7_item 50 = .ok (.ldc2_w 85, 3) := by decide +kernel
theorem dX7_item_53 : decode cX7_item 53 = .ok (.invokestatic 58, 3) := by decide +kernel
theorem dX7_item_56 : decode cX7_item 56 = .ok (.ifCond .eq 7, 3) := by decide +kernel
theorem dX7_item_59 : decode cX7_item 59 = .ok (.iconst 1, 1) := by decide +kernel
theorem dX7_item_60 : decode cX7_item 60 = .ok (.goto 4, 3) := by decide +kernel
theorem dX7_item_63 : decode cX7_item 63 = .ok (.iconst 0, 1) := by decide +kernel
theorem dX7_item_64 : decode cX7_item 64 = .ok (.istore_n 2, 1) := by decide +kernel
theorem dX7_item_65 : decode cX7_item 65 = .ok (.aload_n 0, 1) := by decide +kernel
theorem dX7_item_66 : decode cX7_item 66 = .ok (.getfield 16, 3) := by decide +kernel
theorem dX7_item_69 : decode cX7_item 69 = .ok (.iconst 0, 1) := by decide +kernel
theorem dX7_item_70 : decode cX7_item 70 = .ok (.aload_n 0, 1) := by decide +kernel
theorem dX7_item_71 : decode cX7_item 71 = .ok (.getfield 37, 3) := by decide +kernel
theorem dX7_item_74 : decode cX7_item 74 = .ok (.iconst 0, 1) := by decide +kernel
theorem dX7_item_75 : decode cX7_item 75 = .ok (.iaload, 1) := by decide +kernel
theorem dX7_item_76 : decode cX7_item 76 = .ok (.iastore, 1) := by decide +kernel
theorem dX7_item_77 : decode cX7_item 77 = .ok (.iload_n 2, 1) := by decide +kernel
theorem dX7_item_78 : decode cX7_item 78 = .ok (.ireturn, 1) := by decide +kernel
theorem dX7_item_79 : decode cX7_item 79 = .ok (.aload_n 0, 1) := by decide +kernel
theorem dX7_item_80 : decode cX7_item 80 = .ok (.iconst 1, 1) := by decide +kernel
theorem dX7_item_81 : decode cX7_item 81 = .ok (.putfield 50, 3) := by decide +kernel
theorem dX7_item_84 : decode cX7_item 84 = .ok (.iload_n 1, 1) := by decide +kernel
theorem dX7_item_85 : decode cX7_item 85 = .ok (.lookupswitch 191 #[(102, 167), (107, 108), (109, 162), (116, 108), (119, 51)], 51) := by decide +kernel
theorem dX7_item_136 : decode cX7_item 136 = .ok (.aload_n 0, 1) := by decide +kernel
theorem dX7_item_137 : decode cX7_item 137 = .ok (.iconst 2, 1) := by decide +kernel
theorem dX7_item_138 : decode cX7_item 138 = .ok (.invokevirtual 79, 3) := by decide +kernel
theorem dX7_item_141 : decode cX7_item 141 = .ok (.ifCond .eq 29, 3) := by decide +kernel
theorem dX7_item_144 : decode cX7_item 144 = .ok (.aload_n 0, 1) := by decide +kernel
theorem dX7_item_145 : decode cX7_item 145 = .ok (.getfield 37, 3) := by decide +kernel
theorem dX7_item_148 : decode cX7_item 148 = .ok (.iconst 0, 1) := by decide +kernel
theorem dX7_item_149 : decode cX7_item 149 = .ok (.iaload, 1) := by decide +kernel
theorem dX7_item_150 : decode cX7_item 150 = .ok (.aload_n 0, 1) := by decide +kernel
theorem dX7_item_151 : decode cX7_item 151 = .ok (.getfield 16, 3) := by decide +kernel
theorem dX7_item_154 : decode cX7_item 154 = .ok (.iconst 0, 1) := by decide +kernel
theorem dX7_item_155 : decode cX7_item 155 = .ok (.iaload, 1) := by decide +kernel
theorem dX7_item_156 : decode cX7_item 156 = .ok (.if_icmp .ge 14, 3) := by decide +kernel
theorem dX7_item_159 : decode cX7_item 159 = .ok (.aload_n 0, 1) := by decide +kernel
theorem dX7_item_160 : decode cX7_item 160 = .ok (.getfield 37, 3) := by decide +kernel
theorem dX7_item_163 : decode cX7_item 163 = .ok (.iconst 1, 1) := by decide +kernel
theorem dX7_item_164 : decode cX7_item 164 = .ok (.iaload, 1) := by decide +kernel
theorem dX7_item_165 : decode cX7_item 165 = .ok (.bipush 9, 2) := by decide +kernel
theorem dX7_item_167 : decode cX7_item 167 = .ok (.if_icmp .le 5, 3) := by decide +kernel
theorem dX7_item_170 : decode cX7_item 170 = .ok (.iconst 0, 1) := by decide +kernel
theorem dX7_item_171 : decode cX7_item 171 = .ok (.ireturn, 1) := by decide +kernel
theorem dX7_item_172 : decode cX7_item 172 = .ok (.aload_n 0, 1) := by decide +kernel
theorem dX7_item_173 : decode cX7_item 173 = .ok (.getfield 22, 3) := by decide +kernel
theorem dX7_item_176 : decode cX7_item 176 = .ok (.iconst 2, 1) := by decide +kernel
theorem dX7_item_177 : decode cX7_item 177 = .ok (.aload_n 0, 1) := by decide +kernel
theorem dX7_item_178 : decode cX7_item 178 = .ok (.getfield 37, 3) := by decide +kernel
theorem dX7_item_181 : decode cX7_item 181 = .ok (.iconst 0, 1) := by decide +kernel
theorem dX7_item_182 : decode cX7_item 182 = .ok (.iaload, 1) := by decide +kernel
theorem dX7_item_183 : decode cX7_item 183 = .ok (.iadd, 1) := by decide +kernel
theorem dX7_item_184 : decode cX7_item 184 = .ok (.aload_n 0, 1) := by decide +kernel
theorem dX7_item_185 : decode cX7_item 185 = .ok (.getfield 37, 3) := by decide +kernel
theorem dX7_item_188 : decode cX7_item 188 = .ok (.iconst 1, 1) := by decide +kernel
theorem dX7_item_189 : decode cX7_item 189 = .ok (.iaload, 1) := by decide +kernel
theorem dX7_item_190 : decode cX7_item 190 = .ok (.iastore, 1) := by decide +kernel
theorem dX7_item_191 : decode cX7_item 191 = .ok (.iconst 1, 1) := by decide +kernel
theorem dX7_item_192 : decode cX7_item 192 = .ok (.ireturn, 1) := by decide +kernel
theorem dX7_item_193 : decode cX7_item 193 = .ok (.aload_n 0, 1) := by decide +kernel
theorem dX7_item_194 : decode cX7_item 194 = .ok (.iconst 1, 1) := by decide +kernel
theorem dX7_item_195 : decode cX7_item 195 = .ok (.invokevirtual 79, 3) := by decide +kernel
theorem dX7_item_198 : decode cX7_item 198 = .ok (.ifCond .eq 18, 3) := by decide +kernel
theorem dX7_item_201 : decode cX7_item 201 = .ok (.aload_n 0, 1) := by decide +kernel
theorem dX7_item_202 : decode cX7_item 202 = .ok (.getfield 37, 3) := by decide +kernel
theorem dX7_item_205 : decode cX7_item 205 = .ok (.iconst 0, 1) := by decide +kernel
theorem dX7_item_206 : decode cX7_item 206 = .ok (.iaload, 1) := by decide +kernel
theorem dX7_item_207 : decode cX7_item 207 = .ok (.aload_n 0, 1) := by decide +kernel
theorem dX7_item_208 : decode cX7_item 208 = .ok (.getfield 16, 3) := by decide +kernel
theorem dX7_item_211 : decode cX7_item 211 = .ok (.iconst 0, 1) := by decide +kernel
theorem dX7_item_212 : decode cX7_item 212 = .ok (.iaload, 1) := by decide +kernel
theorem dX7_item_213 : decode cX7_item 213 = .ok (.if_icmp .lt 5, 3) := by decide +kernel
theorem dX7_item_216 : decode cX7_item 216 = .ok (.iconst 0, 1) := by decide +kernel
theorem dX7_item_217 : decode cX7_item 217 = .ok (.ireturn, 1) := by decide +kernel
theorem dX7_item_218 : decode cX7_item 218 = .ok (.aload_n 0, 1) := by decide +kernel
theorem dX7_item_219 : decode cX7_item 219 = .ok (.getfield 16, 3) := by decide +kernel
theorem dX7_item_222 : decode cX7_item 222 = .ok (.iload_n 1, 1) := by decide +kernel
theorem dX7_item_223 : decode cX7_item 223 = .ok (.bipush 107, 2) := by decide +kernel
theorem dX7_item_225 : decode cX7_item 225 = .ok (.if_icmp .ne 7, 3) := by decide +kernel
theorem dX7_item_228 : decode cX7_item 228 = .ok (.iconst 1, 1) := by decide +kernel
theorem dX7_item_229 : decode cX7_item 229 = .ok (.goto 4, 3) := by decide +kernel
theorem dX7_item_232 : decode cX7_item 232 = .ok (.iconst 2, 1) := by decide +kernel
theorem dX7_item_233 : decode cX7_item 233 = .ok (.dup2, 1) := by decide +kernel
theorem dX7_item_234 : decode cX7_item 234 = .ok (.iaload, 1) := by decide +kernel
theorem dX7_item_235 : decode cX7_item 235 = .ok (.iconst 1, 1) := by decide +kernel
theorem dX7_item_236 : decode cX7_item 236 = .ok (.aload_n 0, 1) := by decide +kernel
theorem dX7_item_237 : decode cX7_item 237 = .ok (.getfield 37, 3) := by decide +kernel
theorem dX7_item_240 : decode cX7_item 240 = .ok (.iconst 0, 1) := by decide +kernel
theorem dX7_item_241 : decode cX7_item 241 = .ok (.iaload, 1) := by decide +kernel
theorem dX7_item_242 : decode cX7_item 242 = .ok (.ishl, 1) := by decide +kernel
theorem dX7_item_243 : decode cX7_item 243 = .ok (.ior, 1) := by decide +kernel
theorem dX7_item_244 : decode cX7_item 244 = .ok (.iastore, 1) := by decide +kernel
theorem dX7_item_245 : decode cX7_item 245 = .ok (.iconst 1, 1) := by decide +kernel
theorem dX7_item_246 : decode cX7_item 246 = .ok (.ireturn, 1) := by decide +kernel
theorem dX7_item_247 : decode cX7_item 247 = .ok (.aload_n 0, 1) := by decide +kernel
theorem dX7_item_248 : decode cX7_item 248 = .ok (.invokevirtual 87, 3) := by decide +kernel
theorem dX7_item_251 : decode cX7_item 251 = .ok (.ireturn, 1) := by decide +kernel
theorem dX7_item_252 : decode cX7_item 252 = .ok (.aload_n 0, 1) := by decide +kernel
theorem dX7_item_253 : decode cX7_item 253 = .ok (.iconst 1, 1) := by decide +kernel
theorem dX7_item_254 : decode cX7_item 254 = .ok (.invokevirtual 79, 3) := by decide +kernel
theorem dX7_item_257 : decode cX7_item 257 = .ok (.ifCond .ne 5, 3) := by decide +kernel
theorem dX7_item_260 : decode cX7_item 260 = .ok (.iconst 0, 1) := by decide +kernel
theorem dX7_item_261 : decode cX7_item 261 = .ok (.ireturn, 1) := by decide +kernel
theorem dX7_item_262 : decode cX7_item 262 = .ok (.aload_n 0, 1) := by decide +kernel
theorem dX7_item_263 : decode cX7_item 263 = .ok (.getfield 22, 3) := by decide +kernel
theorem dX7_item_266 : decode cX7_item 266 = .ok (.iconst 1, 1) := by decide +kernel
theorem dX7_item_267 : decode cX7_item 267 = .ok (.aload_n 0, 1) := by decide +kernel
theorem dX7_item_268 : decode cX7_item 268 = .ok (.getfield 37, 3) := by decide +kernel
theorem dX7_item_271 : decode cX7_item 271 = .ok (.iconst 0, 1) := by decide +kernel
theorem dX7_item_272 : decode cX7_item 272 = .ok (.iaload, 1) := by decide +kernel
theorem dX7_item_273 : decode cX7_item 273 = .ok (.iastore, 1) := by decide +kernel
theorem dX7_item_274 : decode cX7_item 274 = .ok (.iconst 1, 1) := by decide +kernel
theorem dX7_item_275 : decode cX7_item 275 = .ok (.ireturn, 1) := by decide +kernel
theorem dX7_item_276 : decode cX7_item 276 = .ok (.iconst 0, 1) := by decide +kernel
theorem dX7_item_277 : decode cX7_item 277 = .ok (.ireturn, 1) := by decide +kernel
theorem dX7_readAll_0 : decode cX7_readAll 0 = .ok (.aload_n 0, 1) := by decide +kernel
theorem dX7_readAll_1 : decode cX7_readAll 1 = .ok (.invokevirtual 40, 3) := by decide +kernel
theorem dX7_readAll_4 : decode cX7_readAll 4 = .ok (.aload_n 0, 1) := by decide +kernel
theorem dX7_readAll_5 : decode cX7_readAll 5 = .ok (.iconst 0, 1) := by decide +kernel
theorem dX7_readAll_6 : decode cX7_readAll 6 = .ok (.putfield 66, 3) := by decide +kernel
theorem dX7_readAll_9 : decode cX7_readAll 9 = .ok (.aload_n 0, 1) := by decide +kernel
theorem dX7_readAll_10 : decode cX7_readAll 10 = .ok (.getfield 66, 3) := by decide +kernel
theorem dX7_readAll_13 : decode cX7_readAll 13 = .ok (.aload_n 0, 1) := by decide +kernel
theorem dX7_readAll_14 : decode cX7_readAll 14 = .ok (.getfield 62, 3) := by decide +kernel
theorem dX7_readAll_17 : decode cX7_readAll 17 = .ok (.if_icmp .ge 20, 3) := by decide +kernel
theorem dX7_readAll_20 : decode cX7_readAll 20 = .ok (.aload_n 0, 1) := by decide +kernel
theorem dX7_readAll_21 : decode cX7_readAll 21 = .ok (.getfield 66, 3) := by decide +kernel
theorem dX7_readAll_24 : decode cX7_readAll 24 = .ok (.istore_n 1, 1) := by decide +kernel
theorem dX7_readAll_25 : decode cX7_readAll 25 = .ok (.aload_n 0, 1) := by decide +kernel
theorem dX7_readAll_26 : decode cX7_readAll 26 = .ok (.invokevirtual 91, 3) := by decide +kernel
theorem dX7_readAll_29 : decode cX7_readAll 29 = .ok (.ifCond .ne 5, 3) := by decide +kernel
theorem dX7_readAll_32 : decode cX7_readAll 32 = .ok (.iload_n 1, 1) := by decide +kernel
theorem dX7_readAll_33 : decode cX7_readAll 33 = .ok (.ireturn, 1) := by decide +kernel
theorem dX7_readAll_34 : decode cX7_readAll 34 = .ok (.goto (-25), 3) := by decide +kernel
theorem dX7_readAll_37 : decode cX7_readAll 37 = .ok (.bipush (-4), 2) := by decide +kernel
theorem dX7_readAll_39 : decode cX7_readAll 39 = .ok (.ireturn, 1) := by decide +kernel
theorem dX7_fault_0 : decode cX7_fault 0 = .ok (.aload_n 0, 1) := by decide +kernel
theorem dX7_fault_1 : decode cX7_fault 1 = .ok (.invokevirtual 94, 3) := by decide +kernel
theorem dX7_fault_4 : decode cX7_fault 4 = .ok (.ireturn, 1) := by decide +kernel
theorem dX7_lay_0 : decode cX7_lay 0 = .ok (.aload_n 0, 1) := by decide +kernel
theorem dX7_lay_1 : decode cX7_lay 1 = .ok (.invokevirtual 94, 3) := by decide +kernel
theorem dX7_lay_4 : decode cX7_lay 4 = .ok (.bipush (-4), 2) := by decide +kernel
theorem dX7_lay_6 : decode cX7_lay 6 = .ok (.if_icmp .ne 12, 3) := by decide +kernel
theorem dX7_lay_9 : decode cX7_lay 9 = .ok (.aload_n 0, 1) := by decide +kernel
theorem dX7_lay_10 : decode cX7_lay 10 = .ok (.getfield 16, 3) := by decide +kernel
theorem dX7_lay_13 : decode cX7_lay 13 = .ok (.iconst 3, 1) := by decide +kernel
theorem dX7_lay_14 : decode cX7_lay 14 = .ok (.iaload, 1) := by decide +kernel
theorem dX7_lay_15 : decode cX7_lay 15 = .ok (.ifCond .ne 6, 3) := by decide +kernel
theorem dX7_lay_18 : decode cX7_lay 18 = .ok (.bipush (-2), 2) := by decide +kernel
theorem dX7_lay_20 : decode cX7_lay 20 = .ok (.ireturn, 1) := by decide +kernel
theorem dX7_lay_21 : decode cX7_lay 21 = .ok (.aload_n 0, 1) := by decide +kernel
theorem dX7_lay_22 : decode cX7_lay 22 = .ok (.invokevirtual 47, 3) := by decide +kernel
theorem dX7_lay_25 : decode cX7_lay 25 = .ok (.aload_n 0, 1) := by decide +kernel
theorem dX7_lay_26 : decode cX7_lay 26 = .ok (.getfield 13, 3) := by decide +kernel
theorem dX7_lay_29 : decode cX7_lay 29 = .ok (.iconst 3, 1) := by decide +kernel
theorem dX7_lay_30 : decode cX7_lay 30 = .ok (.iaload, 1) := by decide +kernel
theorem dX7_lay_31 : decode cX7_lay 31 = .ok (.ireturn, 1) := by decide +kernel
theorem dX7_begin_0 : decode cX7_begin 0 = .ok (.iconst 0, 1) := by decide +kernel
theorem dX7_begin_1 : decode cX7_begin 1 = .ok (.istore_n 1, 1) := by decide +kernel
theorem dX7_begin_2 : decode cX7_begin 2 = .ok (.iload_n 1, 1) := by decide +kernel
theorem dX7_begin_3 : decode cX7_begin 3 = .ok (.bipush 18, 2) := by decide +kernel
theorem dX7_begin_5 : decode cX7_begin 5 = .ok (.if_icmp .ge 21, 3) := by decide +kernel
theorem dX7_begin_8 : decode cX7_begin 8 = .ok (.aload_n 0, 1) := by decide +kernel
theorem dX7_begin_9 : decode cX7_begin 9 = .ok (.getfield 13, 3) := by decide +kernel
theorem dX7_begin_12 : decode cX7_begin 12 = .ok (.iload_n 1, 1) := by decide +kernel
theorem dX7_begin_13 : decode cX7_begin 13 = .ok (.aload_n 0, 1) := by decide +kernel
theorem dX7_begin_14 : decode cX7_begin 14 = .ok (.getfield 16, 3) := by decide +kernel
theorem dX7_begin_17 : decode cX7_begin 17 = .ok (.iload_n 1, 1) := by decide +kernel
theorem dX7_begin_18 : decode cX7_begin 18 = .ok (.iaload, 1) := by decide +kernel
theorem dX7_begin_19 : decode cX7_begin 19 = .ok (.iastore, 1) := by decide +kernel
theorem dX7_begin_20 : decode cX7_begin 20 = .ok (.iinc 1 1, 3) := by decide +kernel
theorem dX7_begin_23 : decode cX7_begin 23 = .ok (.goto (-21), 3) := by decide +kernel
theorem dX7_begin_26 : decode cX7_begin 26 = .ok (.iconst 0, 1) := by decide +kernel
theorem dX7_begin_27 : decode cX7_begin 27 = .ok (.istore_n 1, 1) := by decide +kernel
theorem dX7_begin_28 : decode cX7_begin 28 = .ok (.iload_n 1, 1) := by decide +kernel
theorem dX7_begin_29 : decode cX7_begin 29 = .ok (.bipush 32, 2) := by decide +kernel
theorem dX7_begin_31 : decode cX7_begin 31 = .ok (.if_icmp .ge 21, 3) := by decide +kernel
theorem dX7_begin_34 : decode cX7_begin 34 = .ok (.aload_n 0, 1) := by decide +kernel
theorem dX7_begin_35 : decode cX7_begin 35 = .ok (.getfield 19, 3) := by decide +kernel
theorem dX7_begin_38 : decode cX7_begin 38 = .ok (.iload_n 1, 1) := by decide +kernel
theorem dX7_begin_39 : decode cX7_begin 39 = .ok (.aload_n 0, 1) := by decide +kernel
theorem dX7_begin_40 : decode cX7_begin 40 = .ok (.getfield 22, 3) := by decide +kernel
theorem dX7_begin_43 : decode cX7_begin 43 = .ok (.iload_n 1, 1) := by decide +kernel
theorem dX7_begin_44 : decode cX7_begin 44 = .ok (.iaload, 1) := by decide +kernel
theorem dX7_begin_45 : decode cX7_begin 45 = .ok (.iastore, 1) := by decide +kernel
theorem dX7_begin_46 : decode cX7_begin 46 = .ok (.iinc 1 1, 3) := by decide +kernel
theorem dX7_begin_49 : decode cX7_begin 49 = .ok (.goto (-21), 3) := by decide +kernel
theorem dX7_begin_52 : decode cX7_begin 52 = .ok (.aload_n 0, 1) := by decide +kernel
theorem dX7_begin_53 : decode cX7_begin 53 = .ok (.iconst 0, 1) := by decide +kernel
theorem dX7_begin_54 : decode cX7_begin 54 = .ok (.putfield 98, 3) := by decide +kernel
theorem dX7_begin_57 : decode cX7_begin 57 = .ok (.aload_n 0, 1) := by decide +kernel
theorem dX7_begin_58 : decode cX7_begin 58 = .ok (.iconst 0, 1) := by decide +kernel
theorem dX7_begin_59 : decode cX7_begin 59 = .ok (.putfield 101, 3) := by decide +kernel
theorem dX7_begin_62 : decode cX7_begin 62 = .ok (.aload_n 0, 1) := by decide +kernel
theorem dX7_begin_63 : decode cX7_begin 63 = .ok (.iconst 0, 1) := by decide +kernel
theorem dX7_begin_64 : decode cX7_begin 64 = .ok (.putfield 104, 3) := by decide +kernel
theorem dX7_begin_67 : decode cX7_begin 67 = .ok (.return_, 1) := by decide +kernel
theorem dX7_isOne_0 : decode cX7_isOne 0 = .ok (.iload_n 1, 1) := by decide +kernel
theorem dX7_isOne_1 : decode cX7_isOne 1 = .ok (.i2l, 1) := by decide +kernel
theorem dX7_isOne_2 : decode cX7_isOne 2 = .ok (.lconst 0, 1) := by decide +kernel
theorem dX7_isOne_3 : decode cX7_isOne 3 = .ok (.aload_n 0, 1) := by decide +kernel
theorem dX7_isOne_4 : decode cX7_isOne 4 = .ok (.getfield 13, 3) := by decide +kernel
theorem dX7_isOne_7 : decode cX7_isOne 7 = .ok (.iconst 3, 1) := by decide +kernel
theorem dX7_isOne_8 : decode cX7_isOne 8 = .ok (.iaload, 1) := by decide +kernel
theorem dX7_isOne_9 : decode cX7_isOne 9 = .ok (.iconst 1, 1) := by decide +kernel
theorem dX7_isOne_10 : decode cX7_isOne 10 = .ok (.isub, 1) := by decide +kernel
theorem dX7_isOne_11 : decode cX7_isOne 11 = .ok (.i2l, 1) := by decide +kernel
theorem dX7_isOne_12 : decode cX7_isOne 12 = .ok (.invokestatic 58, 3) := by decide +kernel
theorem dX7_isOne_15 : decode cX7_isOne 15 = .ok (.ireturn, 1) := by decide +kernel
theorem dX7_isStep_0 : decode cX7_isStep 0 = .ok (.iload_n 1, 1) := by decide +kernel
theorem dX7_isStep_1 : decode cX7_isStep 1 = .ok (.i2l, 1) := by decide +kernel
theorem dX7_isStep_2 : decode cX7_isStep 2 = .ok (.lconst 0, 1) := by decide +kernel
theorem dX7_isStep_3 : decode cX7_isStep 3 = .ok (.aload_n 0, 1) := by decide +kernel
theorem dX7_isStep_4 : decode cX7_isStep 4 = .ok (.getfield 13, 3) := by decide +kernel
theorem dX7_isStep_7 : decode cX7_isStep 7 = .ok (.iconst 0, 1) := by decide +kernel
theorem dX7_isStep_8 : decode cX7_isStep 8 = .ok (.iaload, 1) := by decide +kernel
theorem dX7_isStep_9 : decode cX7_isStep 9 = .ok (.iconst 1, 1) := by decide +kernel
theorem dX7_isStep_10 : decode cX7_isStep 10 = .ok (.isub, 1) := by decide +kernel
theorem dX7_isStep_11 : decode cX7_isStep 11 = .ok (.i2l, 1) := by decide +kernel
theorem dX7_isStep_12 : decode cX7_isStep 12 = .ok (.invokestatic 58, 3) := by decide +kernel
theorem dX7_isStep_15 : decode cX7_isStep 15 = .ok (.ireturn, 1) := by decide +kernel
theorem dX7_aside_0 : decode cX7_aside 0 = .ok (.iconst 0, 1) := by decide +kernel
theorem dX7_aside_1 : decode cX7_aside 1 = .ok (.istore_n 1, 1) := by decide +kernel
theorem dX7_aside_2 : decode cX7_aside 2 = .ok (.iload_n 1, 1) := by decide +kernel
theorem dX7_aside_3 : decode cX7_aside 3 = .ok (.bipush 32, 2) := by decide +kernel
theorem dX7_aside_5 : decode cX7_aside 5 = .ok (.if_icmp .ge 21, 3) := by decide +kernel
theorem dX7_aside_8 : decode cX7_aside 8 = .ok (.aload_n 0, 1) := by decide +kernel
theorem dX7_aside_9 : decode cX7_aside 9 = .ok (.getfield 25, 3) := by decide +kernel
theorem dX7_aside_12 : decode cX7_aside 12 = .ok (.iload_n 1, 1) := by decide +kernel
theorem dX7_aside_13 : decode cX7_aside 13 = .ok (.aload_n 0, 1) := by decide +kernel
theorem dX7_aside_14 : decode cX7_aside 14 = .ok (.getfield 19, 3) := by decide +kernel
theorem dX7_aside_17 : decode cX7_aside 17 = .ok (.iload_n 1, 1) := by decide +kernel
theorem dX7_aside_18 : decode cX7_aside 18 = .ok (.iaload, 1) := by decide +kernel
theorem dX7_aside_19 : decode cX7_aside 19 = .ok (.iastore, 1) := by decide +kernel
theorem dX7_aside_20 : decode cX7_aside 20 = .ok (.iinc 1 1, 3) := by decide +kernel
theorem dX7_aside_23 : decode cX7_aside 23 = .ok (.goto (-21), 3) := by decide +kernel
theorem dX7_aside_26 : decode cX7_aside 26 = .ok (.return_, 1) := by decide +kernel
theorem dX7_lack_0 : decode cX7_lack 0 = .ok (.aload_n 0, 1) := by decide +kernel
theorem dX7_lack_1 : decode cX7_lack 1 = .ok (.getfield 25, 3) := by decide +kernel
theorem dX7_lack_4 : decode cX7_lack 4 = .ok (.bipush 18, 2) := by decide +kernel
theorem dX7_lack_6 : decode cX7_lack 6 = .ok (.iload_n 1, 1) := by decide +kernel
theorem dX7_lack_7 : decode cX7_lack 7 = .ok (.iadd, 1) := by decide +kernel
theorem dX7_lack_8 : decode cX7_lack 8 = .ok (.iaload, 1) := by decide +kernel
theorem dX7_lack_9 : decode cX7_lack 9 = .ok (.istore_n 2, 1) := by decide +kernel
theorem dX7_lack_10 : decode cX7_lack 10 = .ok (.aload_n 0, 1) := by decide +kernel
theorem dX7_lack_11 : decode cX7_lack 11 = .ok (.getfield 13, 3) := by decide +kernel
theorem dX7_lack_14 : decode cX7_lack 14 = .ok (.bipush 11, 2) := by decide +kernel
theorem dX7_lack_16 : decode cX7_lack 16 = .ok (.iload_n 1, 1) := by decide +kernel
theorem dX7_lack_17 : decode cX7_lack 17 = .ok (.iadd, 1) := by decide +kernel
theorem dX7_lack_18 : decode cX7_lack 18 = .ok (.iaload, 1) := by decide +kernel
theorem dX7_lack_19 : decode cX7_lack 19 = .ok (.aload_n 0, 1) := by decide +kernel
theorem dX7_lack_20 : decode cX7_lack 20 = .ok (.getfield 13, 3) := by decide +kernel
theorem dX7_lack_23 : decode cX7_lack 23 = .ok (.iconst 4, 1) := by decide +kernel
theorem dX7_lack_24 : decode cX7_lack 24 = .ok (.iload_n 1, 1) := by decide +kernel
theorem dX7_lack_25 : decode cX7_lack 25 = .ok (.iadd, 1) := by decide +kernel
theorem dX7_lack_26 : decode cX7_lack 26 = .ok (.iaload, 1) := by decide +kernel
theorem dX7_lack_27 : decode cX7_lack 27 = .ok (.iconst 3, 1) := by decide +kernel
theorem dX7_lack_28 : decode cX7_lack 28 = .ok (.if_icmp .ne 19, 3) := by decide +kernel
theorem dX7_lack_31 : decode cX7_lack 31 = .ok (.iload_n 2, 1) := by decide +kernel
theorem dX7_lack_32 : decode cX7_lack 32 = .ok (.aload_n 0, 1) := by decide +kernel
theorem dX7_lack_33 : decode cX7_lack 33 = .ok (.getfield 13, 3) := by decide +kernel
theorem dX7_lack_36 : decode cX7_lack 36 = .ok (.iconst 0, 1) := by decide +kernel
theorem dX7_lack_37 : decode cX7_lack 37 = .ok (.iaload, 1) := by decide +kernel
theorem dX7_lack_38 : decode cX7_lack 38 = .ok (.iconst 1, 1) := by decide +kernel
theorem dX7_lack_39 : decode cX7_lack 39 = .ok (.isub, 1) := by decide +kernel
theorem dX7_lack_40 : decode cX7_lack 40 = .ok (.if_icmp .ne 7, 3) := by decide +kernel
theorem dX7_lack_43 : decode cX7_lack 43 = .ok (.iconst 3, 1) := by decide +kernel
theorem dX7_lack_44 : decode cX7_lack 44 = .ok (.goto 4, 3) := by decide +kernel
theorem dX7_lack_47 : decode cX7_lack 47 = .ok (.iconst 0, 1) := by decide +kernel
theorem dX7_lack_48 : decode cX7_lack 48 = .ok (.iadd, 1) := by decide +kernel
theorem dX7_lack_49 : decode cX7_lack 49 = .ok (.istore_n 3, 1) := by decide +kernel
theorem dX7_lack_50 : decode cX7_lack 50 = .ok (.aload_n 0, 1) := by decide +kernel
theorem dX7_lack_51 : decode cX7_lack 51 = .ok (.getfield 25, 3) := by decide +kernel
theorem dX7_lack_54 : decode cX7_lack 54 = .ok (.iconst 2, 1) := by decide +kernel
theorem dX7_lack_55 : decode cX7_lack 55 = .ok (.iload_n 2, 1) := by decide +kernel
theorem dX7_lack_56 : decode cX7_lack 56 = .ok (.iadd, 1) := by decide +kernel
theorem dX7_lack_57 : decode cX7_lack 57 = .ok (.iaload, 1) := by decide +kernel
theorem dX7_lack_58 : decode cX7_lack 58 = .ok (.iload_n 3, 1) := by decide +kernel
theorem dX7_lack_59 : decode cX7_lack 59 = .ok (.isub, 1) := by decide +kernel
theorem dX7_lack_60 : decode cX7_lack 60 = .ok (.ireturn, 1) := by decide +kernel
theorem dX7_stops_0 : decode cX7_stops 0 = .ok (.aload_n 0, 1) := by decide +kernel
theorem dX7_stops_1 : decode cX7_stops 1 = .ok (.getfield 13, 3) := by decide +kernel
theorem dX7_stops_4 : decode cX7_stops 4 = .ok (.iconst 1, 1) := by decide +kernel
theorem dX7_stops_5 : decode cX7_stops 5 = .ok (.iaload, 1) := by decide +kernel
theorem dX7_stops_6 : decode cX7_stops 6 = .ok (.iload_n 2, 1) := by decide +kernel
theorem dX7_stops_7 : decode cX7_stops 7 = .ok (.invokestatic 107, 3) := by decide +kernel
theorem dX7_stops_10 : decode cX7_stops 10 = .ok (.ifCond .ne 28, 3) := by decide +kernel
theorem dX7_stops_13 : decode cX7_stops 13 = .ok (.aload_n 0, 1) := by decide +kernel
theorem dX7_stops_14 : decode cX7_stops 14 = .ok (.getfield 13, 3) := by decide +kernel
theorem dX7_stops_17 : decode cX7_stops 17 = .ok (.iconst 4, 1) := by decide +kernel
theorem dX7_stops_18 : decode cX7_stops 18 = .ok (.iload_n 1, 1) := by decide +kernel
theorem dX7_stops_19 : decode cX7_stops 19 = .ok (.iadd, 1) := by decide +kernel
theorem dX7_stops_20 : decode cX7_stops 20 = .ok (.iaload, 1) := by decide +kernel
theorem dX7_stops_21 : decode cX7_stops 21 = .ok (.iconst 2, 1) := by decide +kernel
theorem dX7_stops_22 : decode cX7_stops 22 = .ok (.if_icmp .ne 20, 3) := by decide +kernel
theorem dX7_stops_25 : decode cX7_stops 25 = .ok (.aload_n 0, 1) := by decide +kernel
theorem dX7_stops_26 : decode cX7_stops 26 = .ok (.getfield 13, 3) := by decide +kernel
theorem dX7_stops_29 : decode cX7_stops 29 = .ok (.iconst 2, 1) := by decide +kernel
theorem dX7_stops_30 : decode cX7_stops 30 = .ok (.iaload, 1) := by decide +kernel
theorem dX7_stops_31 : decode cX7_stops 31 = .ok (.iload_n 2, 1) := by decide +kernel
theorem dX7_stops_32 : decode cX7_stops 32 = .ok (.invokestatic 107, 3) := by decide +kernel
theorem dX7_stops_35 : decode cX7_stops 35 = .ok (.ifCond .eq 7, 3) := by decide +kernel
theorem dX7_stops_38 : decode cX7_stops 38 = .ok (.iconst 1, 1) := by decide +kernel
theorem dX7_stops_39 : decode cX7_stops 39 = .ok (.goto 4, 3) := by decide +kernel
theorem dX7_stops_42 : decode cX7_stops 42 = .ok (.iconst 0, 1) := by decide +kernel
theorem dX7_stops_43 : decode cX7_stops 43 = .ok (.ireturn, 1) := by decide +kernel
theorem dX7_slideDown_0 : decode cX7_slideDown 0 = .ok (.iload_n 2, 1) := by decide +kernel
theorem dX7_slideDown_1 : decode cX7_slideDown 1 = .ok (.istore_n 3, 1) := by decide +kernel
theorem dX7_slideDown_2 : decode cX7_slideDown 2 = .ok (.iload_n 3, 1) := by decide +kernel
theorem dX7_slideDown_3 : decode cX7_slideDown 3 = .ok (.ifCond .le 121, 3) := by decide +kernel
theorem dX7_slideDown_6 : decode cX7_slideDown 6 = .ok (.aload_n 0, 1) := by decide +kernel
theorem dX7_slideDown_7 : decode cX7_slideDown 7 = .ok (.getfield 25, 3) := by decide +kernel
theorem dX7_slideDown_10 : decode cX7_slideDown 10 = .ok (.bipush 18, 2) := by decide +kernel
theorem dX7_slideDown_12 : decode cX7_slideDown 12 = .ok (.iload_n 1, 1) := by decide +kernel
theorem dX7_slideDown_13 : decode cX7_slideDown 13 = .ok (.iadd, 1) := by decide +kernel
theorem dX7_slideDown_14 : decode cX7_slideDown 14 = .ok (.iaload, 1) := by decide +kernel
theorem dX7_slideDown_15 : decode cX7_slideDown 15 = .ok (.ifCond .le 109, 3) := by decide +kernel
theorem dX7_slideDown_18 : decode cX7_slideDown 18 = .ok (.aload_n 0, 1) := by decide +kernel
theorem dX7_slideDown_19 : decode cX7_slideDown 19 = .ok (.getfield 25, 3) := by decide +kernel
theorem dX7_slideDown_22 : decode cX7_slideDown 22 = .ok (.bipush 18, 2) := by decide +kernel
theorem dX7_slideDown_24 : decode cX7_slideDown 24 = .ok (.iload_n 1, 1) := by decide +kernel
theorem dX7_slideDown_25 : decode cX7_slideDown 25 = .ok (.iadd, 1) := by decide +kernel
theorem dX7_slideDown_26 : decode cX7_slideDown 26 = .ok (.iaload, 1) := by decide +kernel
theorem dX7_slideDown_27 : decode cX7_slideDown 27 = .ok (.istore 4, 2) := by decide +kernel
theorem dX7_slideDown_29 : decode cX7_slideDown 29 = .ok (.aload_n 0, 1) := by decide +kernel
theorem dX7_slideDown_30 : decode cX7_slideDown 30 = .ok (.getfield 25, 3) := by decide +kernel
theorem dX7_slideDown_33 : decode cX7_slideDown 33 = .ok (.iconst 2, 1) := by decide +kernel
theorem dX7_slideDown_34 : decode cX7_slideDown 34 = .ok (.iload 4, 2) := by decide +kernel
theorem dX7_slideDown_36 : decode cX7_slideDown 36 = .ok (.iadd, 1) := by decide +kernel
theorem dX7_slideDown_37 : decode cX7_slideDown 37 = .ok (.dup2, 1) := by decide +kernel
theorem dX7_slideDown_38 : decode cX7_slideDown 38 = .ok (.iaload, 1) := by decide +kernel
theorem dX7_slideDown_39 : decode cX7_slideDown 39 = .ok (.aload_n 0, 1) := by decide +kernel
theorem dX7_slideDown_40 : decode cX7_slideDown 40 = .ok (.getfield 25, 3) := by decide +kernel
theorem dX7_slideDown_43 : decode cX7_slideDown 43 = .ok (.iconst 2, 1) := by decide +kernel
theorem dX7_slideDown_44 : decode cX7_slideDown 44 = .ok (.iload 4, 2) := by decide +kernel
theorem dX7_slideDown_46 : decode cX7_slideDown 46 = .ok (.iadd, 1) := by decide +kernel
theorem dX7_slideDown_47 : decode cX7_slideDown 47 = .ok (.iaload, 1) := by decide +kernel
theorem dX7_slideDown_48 : decode cX7_slideDown 48 = .ok (.ifCond .le 7, 3) := by decide +kernel
theorem dX7_slideDown_51 : decode cX7_slideDown 51 = .ok (.iconst 1, 1) := by decide +kernel
theorem dX7_slideDown_52 : decode cX7_slideDown 52 = .ok (.goto 4, 3) := by decide +kernel
theorem dX7_slideDown_55 : decode cX7_slideDown 55 = .ok (.iconst 0, 1) := by decide +kernel
theorem dX7_slideDown_56 : decode cX7_slideDown 56 = .ok (.isub, 1) := by decide +kernel
theorem dX7_slideDown_57 : decode cX7_slideDown 57 = .ok (.iastore, 1) := by decide +kernel
theorem dX7_slideDown_58 : decode cX7_slideDown 58 = .ok (.aload_n 0, 1) := by decide +kernel
theorem dX7_slideDown_59 : decode cX7_slideDown 59 = .ok (.getfield 25, 3) := by decide +kernel
theorem dX7_slideDown_62 : decode cX7_slideDown 62 = .ok (.bipush 18, 2) := by decide +kernel
theorem dX7_slideDown_64 : decode cX7_slideDown 64 = .ok (.iload_n 1, 1) := by decide +kernel
theorem dX7_slideDown_65 : decode cX7_slideDown 65 = .ok (.iadd, 1) := by decide +kernel
theorem dX7_slideDown_66 : decode cX7_slideDown 66 = .ok (.iload 4, 2) := by decide +kernel
theorem dX7_slideDown_68 : decode cX7_slideDown 68 = .ok (.iconst 1, 1) := by decide +kernel
theorem dX7_slideDown_69 : decode cX7_slideDown 69 = .ok (.isub, 1) := by decide +kernel
theorem dX7_slideDown_70 : decode cX7_slideDown 70 = .ok (.iastore, 1) := by decide +kernel
theorem dX7_slideDown_71 : decode cX7_slideDown 71 = .ok (.iload_n 3, 1) := by decide +kernel
theorem dX7_slideDown_72 : decode cX7_slideDown 72 = .ok (.aload_n 0, 1) := by decide +kernel
theorem dX7_slideDown_73 : decode cX7_slideDown 73 = .ok (.getfield 25, 3) := by decide +kernel
theorem dX7_slideDown_76 : decode cX7_slideDown 76 = .ok (.iconst 2, 1) := by decide +kernel
theorem dX7_slideDown_77 : decode cX7_slideDown 77 = .ok (.iload 4, 2) := by decide +kernel
theorem dX7_slideDown_79 : decode cX7_slideDown 79 = .ok (.iadd, 1) := by decide +kernel
theorem dX7_slideDown_80 : decode cX7_slideDown 80 = .ok (.iconst 1, 1) := by decide +kernel
theorem dX7_slideDown_81 : decode cX7_slideDown 81 = .ok (.isub, 1) := by decide +kernel
theorem dX7_slideDown_82 : decode cX7_slideDown 82 = .ok (.iaload, 1) := by decide +kernel
theorem dX7_slideDown_83 : decode cX7_slideDown 83 = .ok (.aload_n 0, 1) := by decide +kernel
theorem dX7_slideDown_84 : decode cX7_slideDown 84 = .ok (.getfield 13, 3) := by decide +kernel
theorem dX7_slideDown_87 : decode cX7_slideDown 87 = .ok (.iconst 4, 1) := by decide +kernel
theorem dX7_slideDown_88 : decode cX7_slideDown 88 = .ok (.iload_n 1, 1) := by decide +kernel
theorem dX7_slideDown_89 : decode cX7_slideDown 89 = .ok (.iadd, 1) := by decide +kernel
theorem dX7_slideDown_90 : decode cX7_slideDown 90 = .ok (.iaload, 1) := by decide +kernel
theorem dX7_slideDown_91 : decode cX7_slideDown 91 = .ok (.iconst 1, 1) := by decide +kernel
theorem dX7_slideDown_92 : decode cX7_slideDown 92 = .ok (.if_icmp .ne 7, 3) := by decide +kernel
theorem dX7_slideDown_95 : decode cX7_slideDown 95 = .ok (.iconst 4, 1) := by decide +kernel
theorem dX7_slideDown_96 : decode cX7_slideDown 96 = .ok (.goto 4, 3) := by decide +kernel
theorem dX7_slideDown_99 : decode cX7_slideDown 99 = .ok (.iconst 2, 1) := by decide +kernel
theorem dX7_slideDown_100 : decode cX7_slideDown 100 = .ok (.isub, 1) := by decide +kernel
theorem dX7_slideDown_101 : decode cX7_slideDown 101 = .ok (.iadd, 1) := by decide +kernel
theorem dX7_slideDown_102 : decode cX7_slideDown 102 = .ok (.istore_n 3, 1) := by decide +kernel
theorem dX7_slideDown_103 : decode cX7_slideDown 103 = .ok (.aload_n 0, 1) := by decide +kernel
theorem dX7_slideDown_104 : decode cX7_slideDown 104 = .ok (.iload_n 1, 1) := by decide +kernel
theorem dX7_slideDown_105 : decode cX7_slideDown 105 = .ok (.iload 4, 2) := by decide +kernel
theorem dX7_slideDown_107 : decode cX7_slideDown 107 = .ok (.iconst 1, 1) := by decide +kernel
theorem dX7_slideDown_108 : decode cX7_slideDown 108 = .ok (.isub, 1) := by decide +kernel
theorem dX7_slideDown_109 : decode cX7_slideDown 109 = .ok (.invokevirtual 111, 3) := by decide +kernel
theorem dX7_slideDown_112 : decode cX7_slideDown 112 = .ok (.ifCond .eq 7, 3) := by decide +kernel
theorem dX7_slideDown_115 : decode cX7_slideDown 115 = .ok (.iconst 0, 1) := by decide +kernel
theorem dX7_slideDown_116 : decode cX7_slideDown 116 = .ok (.goto 4, 3) := by decide +kernel
theorem dX7_slideDown_119 : decode cX7_slideDown 119 = .ok (.iload_n 3, 1) := by decide +kernel
theorem dX7_slideDown_120 : decode cX7_slideDown 120 = .ok (.istore_n 3, 1) := by decide +kernel
theorem dX7_slideDown_121 : decode cX7_slideDown 121 = .ok (.goto (-119), 3) := by decide +kernel
theorem dX7_slideDown_124 : decode cX7_slideDown 124 = .ok (.return_, 1) := by decide +kernel
theorem dX7_goOne_0 : decode cX7_goOne 0 = .ok (.aload_n 0, 1) := by decide +kernel
theorem dX7_goOne_1 : decode cX7_goOne 1 = .ok (.iload_n 1, 1) := by decide +kernel
theorem dX7_goOne_2 : decode cX7_goOne 2 = .ok (.invokevirtual 114, 3) := by decide +kernel
theorem dX7_goOne_5 : decode cX7_goOne 5 = .ok (.istore_n 2, 1) := by decide +kernel
theorem dX7_goOne_6 : decode cX7_goOne 6 = .ok (.iload_n 2, 1) := by decide +kernel
theorem dX7_goOne_7 : decode cX7_goOne 7 = .ok (.ifCond .le 12, 3) := by decide +kernel
theorem dX7_goOne_10 : decode cX7_goOne 10 = .ok (.aload_n 0, 1) := by decide +kernel
theorem dX7_goOne_11 : decode cX7_goOne 11 = .ok (.iload_n 1, 1) := by decide +kernel
theorem dX7_goOne_12 : decode cX7_goOne 12 = .ok (.iload_n 2, 1) := by decide +kernel
theorem dX7_goOne_13 : decode cX7_goOne 13 = .ok (.invokevirtual 117, 3) := by decide +kernel
theorem dX7_goOne_16 : decode cX7_goOne 16 = .ok (.goto 40, 3) := by decide +kernel
theorem dX7_goOne_19 : decode cX7_goOne 19 = .ok (.aload_n 0, 1) := by decide +kernel
theorem dX7_goOne_20 : decode cX7_goOne 20 = .ok (.getfield 25, 3) := by decide +kernel
theorem dX7_goOne_23 : decode cX7_goOne 23 = .ok (.bipush 18, 2) := by decide +kernel
theorem dX7_goOne_25 : decode cX7_goOne 25 = .ok (.iload_n 1, 1) := by decide +kernel
theorem dX7_goOne_26 : decode cX7_goOne 26 = .ok (.iadd, 1) := by decide +kernel
theorem dX7_goOne_27 : decode cX7_goOne 27 = .ok (.dup2, 1) := by decide +kernel
theorem dX7_goOne_28 : decode cX7_goOne 28 = .ok (.iaload, 1) := by decide +kernel
theorem dX7_goOne_29 : decode cX7_goOne 29 = .ok (.aload_n 0, 1) := by decide +kernel
theorem dX7_goOne_30 : decode cX7_goOne 30 = .ok (.getfield 25, 3) := by decide +kernel
theorem dX7_goOne_33 : decode cX7_goOne 33 = .ok (.bipush 18, 2) := by decide +kernel
theorem dX7_goOne_35 : decode cX7_goOne 35 = .ok (.iload_n 1, 1) := by decide +kernel
theorem dX7_goOne_36 : decode cX7_goOne 36 = .ok (.iadd, 1) := by decide +kernel
theorem dX7_goOne_37 : decode cX7_goOne 37 = .ok (.iaload, 1) := by decide +kernel
theorem dX7_goOne_38 : decode cX7_goOne 38 = .ok (.aload_n 0, 1) := by decide +kernel
theorem dX7_goOne_39 : decode cX7_goOne 39 = .ok (.getfield 13, 3) := by decide +kernel
theorem dX7_goOne_42 : decode cX7_goOne 42 = .ok (.iconst 0, 1) := by decide +kernel
theorem dX7_goOne_43 : decode cX7_goOne 43 = .ok (.iaload, 1) := by decide +kernel
theorem dX7_goOne_44 : decode cX7_goOne 44 = .ok (.iconst 1, 1) := by decide +kernel
theorem dX7_goOne_45 : decode cX7_goOne 45 = .ok (.isub, 1) := by decide +kernel
theorem dX7_goOne_46 : decode cX7_goOne 46 = .ok (.if_icmp .ge 7, 3) := by decide +kernel
theorem dX7_goOne_49 : decode cX7_goOne 49 = .ok (.iconst 1, 1) := by decide +kernel
theorem dX7_goOne_50 : decode cX7_goOne 50 = .ok (.goto 4, 3) := by decide +kernel
theorem dX7_goOne_53 : decode cX7_goOne 53 = .ok (.iconst 0, 1) := by decide +kernel
theorem dX7_goOne_54 : decode cX7_goOne 54 = .ok (.iadd, 1) := by decide +kernel
theorem dX7_goOne_55 : decode cX7_goOne 55 = .ok (.iastore, 1) := by decide +kernel
theorem dX7_goOne_56 : decode cX7_goOne 56 = .ok (.return_, 1) := by decide +kernel
theorem dX7_governor_0 : decode cX7_governor 0 = .ok (.iconst 0, 1) := by decide +kernel
theorem dX7_governor_1 : decode cX7_governor 1 = .ok (.istore_n 1, 1) := by decide +kernel
theorem dX7_governor_2 : decode cX7_governor 2 = .ok (.iconst 1, 1) := by decide +kernel
theorem dX7_governor_3 : decode cX7_governor 3 = .ok (.istore_n 2, 1) := by decide +kernel
theorem dX7_governor_4 : decode cX7_governor 4 = .ok (.iload_n 2, 1) := by decide +kernel
theorem dX7_governor_5 : decode cX7_governor 5 = .ok (.aload_n 0, 1) := by decide +kernel
theorem dX7_governor_6 : decode cX7_governor 6 = .ok (.getfield 13, 3) := by decide +kernel
theorem dX7_governor_9 : decode cX7_governor 9 = .ok (.iconst 3, 1) := by decide +kernel
theorem dX7_governor_10 : decode cX7_governor 10 = .ok (.iaload, 1) := by decide +kernel
theorem dX7_governor_11 : decode cX7_governor 11 = .ok (.if_icmp .ge 36, 3) := by decide +kernel
theorem dX7_governor_14 : decode cX7_governor 14 = .ok (.aload_n 0, 1) := by decide +kernel
theorem dX7_governor_15 : decode cX7_governor 15 = .ok (.getfield 25, 3) := by decide +kernel
theorem dX7_governor_18 : decode cX7_governor 18 = .ok (.bipush 18, 2) := by decide +kernel
theorem dX7_governor_20 : decode cX7_governor 20 = .ok (.iload_n 2, 1) := by decide +kernel
theorem dX7_governor_21 : decode cX7_governor 21 = .ok (.iadd, 1) := by decide +kernel
theorem dX7_governor_22 : decode cX7_governor 22 = .ok (.iaload, 1) := by decide +kernel
theorem dX7_governor_23 : decode cX7_governor 23 = .ok (.aload_n 0, 1) := by decide +kernel
theorem dX7_governor_24 : decode cX7_governor 24 = .ok (.getfield 25, 3) := by decide +kernel
theorem dX7_governor_27 : decode cX7_governor 27 = .ok (.bipush 18, 2) := by decide +kernel
theorem dX7_governor_29 : decode cX7_governor 29 = .ok (.iload_n 1, 1) := by decide +kernel
theorem dX7_governor_30 : decode cX7_governor 30 = .ok (.iadd, 1) := by decide +kernel
theorem dX7_governor_31 : decode cX7_governor 31 = .ok (.iaload, 1) := by decide +kernel
theorem dX7_governor_32 : decode cX7_governor 32 = .ok (.if_icmp .le 7, 3) := by decide +kernel
theorem dX7_governor_35 : decode cX7_governor 35 = .ok (.iload_n 2, 1) := by decide +kernel
theorem dX7_governor_36 : decode cX7_governor 36 = .ok (.goto 4, 3) := by decide +kernel
theorem dX7_governor_39 : decode cX7_governor 39 = .ok (.iload_n 1, 1) := by decide +kernel
theorem dX7_governor_40 : decode cX7_governor 40 = .ok (.istore_n 1, 1) := by decide +kernel
theorem dX7_governor_41 : decode cX7_governor 41 = .ok (.iinc 2 1, 3) := by decide +kernel
theorem dX7_governor_44 : decode cX7_governor 44 = .ok (.goto (-40), 3) := by decide +kernel
theorem dX7_governor_47 : decode cX7_governor 47 = .ok (.iload_n 1, 1) := by decide +kernel
theorem dX7_governor_48 : decode cX7_governor 48 = .ok (.ireturn, 1) := by decide +kernel
theorem dX7_goYear_0 : decode cX7_goYear 0 = .ok (.iconst 0, 1) := by decide +kernel
theorem dX7_goYear_1 : decode cX7_goYear 1 = .ok (.istore_n 1, 1) := by decide +kernel
theorem dX7_goYear_2 : decode cX7_goYear 2 = .ok (.iload_n 1, 1) := by decide +kernel
theorem dX7_goYear_3 : decode cX7_goYear 3 = .ok (.aload_n 0, 1) := by decide +kernel
theorem dX7_goYear_4 : decode cX7_goYear 4 = .ok (.getfield 13, 3) := by decide +kernel
theorem dX7_goYear_7 : decode cX7_goYear 7 = .ok (.iconst 3, 1) := by decide +kernel
theorem dX7_goYear_8 : decode cX7_goYear 8 = .ok (.iaload, 1) := by decide +kernel
theorem dX7_goYear_9 : decode cX7_goYear 9 = .ok (.if_icmp .ge 14, 3) := by decide +kernel
theorem dX7_goYear_12 : decode cX7_goYear 12 = .ok (.aload_n 0, 1) := by decide +kernel
theorem dX7_goYear_13 : decode cX7_goYear 13 = .ok (.iload_n 1, 1) := by decide +kernel
theorem dX7_goYear_14 : decode cX7_goYear 14 = .ok (.invokevirtual 121, 3) := by decide +kernel
theorem dX7_goYear_17 : decode cX7_goYear 17 = .ok (.iinc 1 1, 3) := by decide +kernel
theorem dX7_goYear_20 : decode cX7_goYear 20 = .ok (.goto (-18), 3) := by decide +kernel
theorem dX7_goYear_23 : decode cX7_goYear 23 = .ok (.aload_n 0, 1) := by decide +kernel
theorem dX7_goYear_24 : decode cX7_goYear 24 = .ok (.getfield 25, 3) := by decide +kernel
theorem dX7_goYear_27 : decode cX7_goYear 27 = .ok (.bipush 25, 2) := by decide +kernel
theorem dX7_goYear_29 : decode cX7_goYear 29 = .ok (.aload_n 0, 1) := by decide +kernel
theorem dX7_goYear_30 : decode cX7_goYear 30 = .ok (.invokevirtual 125, 3) := by decide +kernel
theorem dX7_goYear_33 : decode cX7_goYear 33 = .ok (.iadd, 1) := by decide +kernel
theorem dX7_goYear_34 : decode cX7_goYear 34 = .ok (.dup2, 1) := by decide +kernel
theorem dX7_goYear_35 : decode cX7_goYear 35 = .ok (.iaload, 1) := by decide +kernel
theorem dX7_goYear_36 : decode cX7_goYear 36 = .ok (.iconst 1, 1) := by decide +kernel
theorem dX7_goYear_37 : decode cX7_goYear 37 = .ok (.iadd, 1) := by decide +kernel
theorem dX7_goYear_38 : decode cX7_goYear 38 = .ok (.iastore, 1) := by decide +kernel
theorem dX7_goYear_39 : decode cX7_goYear 39 = .ok (.aload_n 0, 1) := by decide +kernel
theorem dX7_goYear_40 : decode cX7_goYear 40 = .ok (.getfield 25, 3) := by decide +kernel
theorem dX7_goYear_43 : decode cX7_goYear 43 = .ok (.iconst 1, 1) := by decide +kernel
theorem dX7_goYear_44 : decode cX7_goYear 44 = .ok (.aload_n 0, 1) := by decide +kernel
theorem dX7_goYear_45 : decode cX7_goYear 45 = .ok (.getfield 25, 3) := by decide +kernel
theorem dX7_goYear_48 : decode cX7_goYear 48 = .ok (.iconst 1, 1) := by decide +kernel
theorem dX7_goYear_49 : decode cX7_goYear 49 = .ok (.iaload, 1) := by decide +kernel
theorem dX7_goYear_50 : decode cX7_goYear 50 = .ok (.bipush 96, 2) := by decide +kernel
theorem dX7_goYear_52 : decode cX7_goYear 52 = .ok (.if_icmp .le 8, 3) := by decide +kernel
theorem dX7_goYear_55 : decode cX7_goYear 55 = .ok (.bipush 99, 2) := by decide +kernel
theorem dX7_goYear_57 : decode cX7_goYear 57 = .ok (.goto 11, 3) := by decide +kernel
theorem dX7_goYear_60 : decode cX7_goYear 60 = .ok (.aload_n 0, 1) := by decide +kernel
theorem dX7_goYear_61 : decode cX7_goYear 61 = .ok (.getfield 25, 3) := by decide +kernel
theorem dX7_goYear_64 : decode cX7_goYear 64 = .ok (.iconst 1, 1) := by decide +kernel
theorem dX7_goYear_65 : decode cX7_goYear 65 = .ok (.iaload, 1) := by decide +kernel
theorem dX7_goYear_66 : decode cX7_goYear 66 = .ok (.iconst 3, 1) := by decide +kernel
theorem dX7_goYear_67 : decode cX7_goYear 67 = .ok (.iadd, 1) := by decide +kernel
theorem dX7_goYear_68 : decode cX7_goYear 68 = .ok (.iastore, 1) := by decide +kernel
theorem dX7_goYear_69 : decode cX7_goYear 69 = .ok (.aload_n 0, 1) := by decide +kernel
theorem dX7_goYear_70 : decode cX7_goYear 70 = .ok (.getfield 25, 3) := by decide +kernel
theorem dX7_goYear_73 : decode cX7_goYear 73 = .ok (.iconst 0, 1) := by decide +kernel
theorem dX7_goYear_74 : decode cX7_goYear 74 = .ok (.dup2, 1) := by decide +kernel
theorem dX7_goYear_75 : decode cX7_goYear 75 = .ok (.iaload, 1) := by decide +kernel
theorem dX7_goYear_76 : decode cX7_goYear 76 = .ok (.iconst 1, 1) := by decide +kernel
theorem dX7_goYear_77 : decode cX7_goYear 77 = .ok (.iadd, 1) := by decide +kernel
theorem dX7_goYear_78 : decode cX7_goYear 78 = .ok (.iastore, 1) := by decide +kernel
theorem dX7_goYear_79 : decode cX7_goYear 79 = .ok (.return_, 1) := by decide +kernel
theorem dX7_goYears_0 : decode cX7_goYears 0 = .ok (.iconst 0, 1) := by decide +kernel
theorem dX7_goYears_1 : decode cX7_goYears 1 = .ok (.istore_n 2, 1) := by decide +kernel
theorem dX7_goYears_2 : decode cX7_goYears 2 = .ok (.iload_n 2, 1) := by decide +kernel
theorem dX7_goYears_3 : decode cX7_goYears 3 = .ok (.iload_n 1, 1) := by decide +kernel
theorem dX7_goYears_4 : decode cX7_goYears 4 = .ok (.if_icmp .ge 13, 3) := by decide +kernel
theorem dX7_goYears_7 : decode cX7_goYears 7 = .ok (.aload_n 0, 1) := by decide +kernel
theorem dX7_goYears_8 : decode cX7_goYears 8 = .ok (.invokevirtual 128, 3) := by decide +kernel
theorem dX7_goYears_11 : decode cX7_goYears 11 = .ok (.iinc 2 1, 3) := by decide +kernel
theorem dX7_goYears_14 : decode cX7_goYears 14 = .ok (.goto (-12), 3) := by decide +kernel
theorem dX7_goYears_17 : decode cX7_goYears 17 = .ok (.return_, 1) := by decide +kernel
theorem dX7_take_0 : decode cX7_take 0 = .ok (.iconst 0, 1) := by decide +kernel
theorem dX7_take_1 : decode cX7_take 1 = .ok (.istore_n 1, 1) := by decide +kernel
theorem dX7_take_2 : decode cX7_take 2 = .ok (.iload_n 1, 1) := by decide +kernel
theorem dX7_take_3 : decode cX7_take 3 = .ok (.bipush 32, 2) := by decide +kernel
theorem dX7_take_5 : decode cX7_take 5 = .ok (.if_icmp .ge 21, 3) := by decide +kernel
theorem dX7_take_8 : decode cX7_take 8 = .ok (.aload_n 0, 1) := by decide +kernel
theorem dX7_take_9 : decode cX7_take 9 = .ok (.getfield 19, 3) := by decide +kernel
theorem dX7_take_12 : decode cX7_take 12 = .ok (.iload_n 1, 1) := by decide +kernel
theorem dX7_take_13 : decode cX7_take 13 = .ok (.aload_n 0, 1) := by decide +kernel
theorem dX7_take_14 : decode cX7_take 14 = .ok (.getfield 25, 3) := by decide +kernel
theorem dX7_take_17 : decode cX7_take 17 = .ok (.iload_n 1, 1) := by decide +kernel
theorem dX7_take_18 : decode cX7_take 18 = .ok (.iaload, 1) := by decide +kernel
theorem dX7_take_19 : decode cX7_take 19 = .ok (.iastore, 1) := by decide +kernel
theorem dX7_take_20 : decode cX7_take 20 = .ok (.iinc 1 1, 3) := by decide +kernel
theorem dX7_take_23 : decode cX7_take 23 = .ok (.goto (-21), 3) := by decide +kernel
theorem dX7_take_26 : decode cX7_take 26 = .ok (.return_, 1) := by decide +kernel
theorem dX7_minister_0 : decode cX7_minister 0 = .ok (.aload_n 0, 1) := by decide +kernel
theorem dX7_minister_1 : decode cX7_minister 1 = .ok (.iload_n 1, 1) := by decide +kernel
theorem dX7_minister_2 : decode cX7_minister 2 = .ok (.invokevirtual 131, 3) := by decide +kernel
theorem dX7_minister_5 : decode cX7_minister 5 = .ok (.ifCond .eq 15, 3) := by decide +kernel
theorem dX7_minister_8 : decode cX7_minister 8 = .ok (.iload_n 2, 1) := by decide +kernel
theorem dX7_minister_9 : decode cX7_minister 9 = .ok (.i2l, 1) := by decide +kernel
theorem dX7_minister_10 : decode cX7_minister 10 = .ok (.lconst 0, 1) := by decide +kernel
theorem dX7_minister_11 : decode cX7_minister 11 = .ok (.ldc2_w 134, 3) := by decide +kernel
theorem dX7_minister_14 : decode cX7_minister 14 = .ok (.invokestatic 58, 3) := by decide +kernel
theorem dX7_minister_17 : decode cX7_minister 17 = .ok (.ifCond .ne 5, 3) := by decide +kernel
theorem dX7_minister_20 : decode cX7_minister 20 = .ok (.iconst (-1), 1) := by decide +kernel
theorem dX7_minister_21 : decode cX7_minister 21 = .ok (.ireturn, 1) := by decide +kernel
theorem dX7_minister_22 : decode cX7_minister 22 = .ok (.aload_n 0, 1) := by decide +kernel
theorem dX7_minister_23 : decode cX7_minister 23 = .ok (.invokevirtual 136, 3) := by decide +kernel
theorem dX7_minister_26 : decode cX7_minister 26 = .ok (.iload_n 2, 1) := by decide +kernel
theorem dX7_minister_27 : decode cX7_minister 27 = .ok (.tableswitch 68 0 3 #[29, 38, 48, 58], 29) := by decide +kernel
theorem dX7_minister_56 : decode cX7_minister 56 = .ok (.aload_n 0, 1) := by decide +kernel
theorem dX7_minister_57 : decode cX7_minister 57 = .ok (.getfield 13, 3) := by decide +kernel
theorem dX7_minister_60 : decode cX7_minister 60 = .ok (.iconst 4, 1) := by decide +kernel
theorem dX7_minister_61 : decode cX7_minister 61 = .ok (.iload_n 1, 1) := by decide +kernel
theorem dX7_minister_62 : decode cX7_minister 62 = .ok (.iadd, 1) := by decide +kernel
theorem dX7_minister_63 : decode cX7_minister 63 = .ok (.iaload, 1) := by decide +kernel
theorem dX7_minister_64 : decode cX7_minister 64 = .ok (.ireturn, 1) := by decide +kernel
theorem dX7_minister_65 : decode cX7_minister 65 = .ok (.aload_n 0, 1) := by decide +kernel
theorem dX7_minister_66 : decode cX7_minister 66 = .ok (.getfield 19, 3) := by decide +kernel
theorem dX7_minister_69 : decode cX7_minister 69 = .ok (.bipush 18, 2) := by decide +kernel
theorem dX7_minister_71 : decode cX7_minister 71 = .ok (.iload_n 1, 1) := by decide +kernel
theorem dX7_minister_72 : decode cX7_minister 72 = .ok (.iadd, 1) := by decide +kernel
theorem dX7_minister_73 : decode cX7_minister 73 = .ok (.iaload, 1) := by decide +kernel
theorem dX7_minister_74 : decode cX7_minister 74 = .ok (.ireturn, 1) := by decide +kernel
theorem dX7_minister_75 : decode cX7_minister 75 = .ok (.aload_n 0, 1) := by decide +kernel
theorem dX7_minister_76 : decode cX7_minister 76 = .ok (.getfield 13, 3) := by decide +kernel
theorem dX7_minister_79 : decode cX7_minister 79 = .ok (.bipush 11, 2) := by decide +kernel
theorem dX7_minister_81 : decode cX7_minister 81 = .ok (.iload_n 1, 1) := by decide +kernel
theorem dX7_minister_82 : decode cX7_minister 82 = .ok (.iadd, 1) := by decide +kernel
theorem dX7_minister_83 : decode cX7_minister 83 = .ok (.iaload, 1) := by decide +kernel
theorem dX7_minister_84 : decode cX7_minister 84 = .ok (.ireturn, 1) := by decide +kernel
theorem dX7_minister_85 : decode cX7_minister 85 = .ok (.aload_n 0, 1) := by decide +kernel
theorem dX7_minister_86 : decode cX7_minister 86 = .ok (.getfield 19, 3) := by decide +kernel
theorem dX7_minister_89 : decode cX7_minister 89 = .ok (.bipush 25, 2) := by decide +kernel
theorem dX7_minister_91 : decode cX7_minister 91 = .ok (.iload_n 1, 1) := by decide +kernel
theorem dX7_minister_92 : decode cX7_minister 92 = .ok (.iadd, 1) := by decide +kernel
theorem dX7_minister_93 : decode cX7_minister 93 = .ok (.iaload, 1) := by decide +kernel
theorem dX7_minister_94 : decode cX7_minister 94 = .ok (.ireturn, 1) := by decide +kernel
theorem dX7_minister_95 : decode cX7_minister 95 = .ok (.aload_n 0, 1) := by decide +kernel
theorem dX7_minister_96 : decode cX7_minister 96 = .ok (.iload_n 1, 1) := by decide +kernel
theorem dX7_minister_97 : decode cX7_minister 97 = .ok (.invokevirtual 114, 3) := by decide +kernel
theorem dX7_minister_100 : decode cX7_minister 100 = .ok (.ifCond .le 7, 3) := by decide +kernel
theorem dX7_minister_103 : decode cX7_minister 103 = .ok (.iconst 1, 1) := by decide +kernel
theorem dX7_minister_104 : decode cX7_minister 104 = .ok (.goto 4, 3) := by decide +kernel
theorem dX7_minister_107 : decode cX7_minister 107 = .ok (.iconst 0, 1) := by decide +kernel
theorem dX7_minister_108 : decode cX7_minister 108 = .ok (.ireturn, 1) := by decide +kernel
theorem dX7_step_0 : decode cX7_step 0 = .ok (.aload_n 0, 1) := by decide +kernel
theorem dX7_step_1 : decode cX7_step 1 = .ok (.iload_n 1, 1) := by decide +kernel
theorem dX7_step_2 : decode cX7_step 2 = .ok (.invokevirtual 139, 3) := by decide +kernel
theorem dX7_step_5 : decode cX7_step 5 = .ok (.ifCond .eq 15, 3) := by decide +kernel
theorem dX7_step_8 : decode cX7_step 8 = .ok (.iload_n 2, 1) := by decide +kernel
theorem dX7_step_9 : decode cX7_step 9 = .ok (.i2l, 1) := by decide +kernel
theorem dX7_step_10 : decode cX7_step 10 = .ok (.lconst 0, 1) := by decide +kernel
theorem dX7_step_11 : decode cX7_step 11 = .ok (.ldc2_w 83, 3) := by decide +kernel
theorem dX7_step_14 : decode cX7_step 14 = .ok (.invokestatic 58, 3) := by decide +kernel
theorem dX7_step_17 : decode cX7_step 17 = .ok (.ifCond .ne 5, 3) := by decide +kernel
theorem dX7_step_20 : decode cX7_step 20 = .ok (.iconst (-1), 1) := by decide +kernel
theorem dX7_step_21 : decode cX7_step 21 = .ok (.ireturn, 1) := by decide +kernel
theorem dX7_step_22 : decode cX7_step 22 = .ok (.iconst 0, 1) := by decide +kernel
theorem dX7_step_23 : decode cX7_step 23 = .ok (.istore_n 3, 1) := by decide +kernel
theorem dX7_step_24 : decode cX7_step 24 = .ok (.iconst 0, 1) := by decide +kernel
theorem dX7_step_25 : decode cX7_step 25 = .ok (.istore 4, 2) := by decide +kernel
theorem dX7_step_27 : decode cX7_step 27 = .ok (.iload 4, 2) := by decide +kernel
theorem dX7_step_29 : decode cX7_step 29 = .ok (.aload_n 0, 1) := by decide +kernel
theorem dX7_step_30 : decode cX7_step 30 = .ok (.getfield 13, 3) := by decide +kernel
theorem dX7_step_33 : decode cX7_step 33 = .ok (.iconst 3, 1) := by decide +kernel
theorem dX7_step_34 : decode cX7_step 34 = .ok (.iaload, 1) := by decide +kernel
theorem dX7_step_35 : decode cX7_step 35 = .ok (.if_icmp .ge 31, 3) := by decide +kernel
theorem dX7_step_38 : decode cX7_step 38 = .ok (.iload_n 3, 1) := by decide +kernel
theorem dX7_step_39 : decode cX7_step 39 = .ok (.aload_n 0, 1) := by decide +kernel
theorem dX7_step_40 : decode cX7_step 40 = .ok (.getfield 19, 3) := by decide +kernel
theorem dX7_step_43 : decode cX7_step 43 = .ok (.bipush 18, 2) := by decide +kernel
theorem dX7_step_45 : decode cX7_step 45 = .ok (.iload 4, 2) := by decide +kernel
theorem dX7_step_47 : decode cX7_step 47 = .ok (.iadd, 1) := by decide +kernel
theorem dX7_step_48 : decode cX7_step 48 = .ok (.iaload, 1) := by decide +kernel
theorem dX7_step_49 : decode cX7_step 49 = .ok (.iload_n 1, 1) := by decide +kernel
theorem dX7_step_50 : decode cX7_step 50 = .ok (.if_icmp .ne 7, 3) := by decide +kernel
theorem dX7_step_53 : decode cX7_step 53 = .ok (.iconst 1, 1) := by decide +kernel
theorem dX7_step_54 : decode cX7_step 54 = .ok (.goto 4, 3) := by decide +kernel
theorem dX7_step_57 : decode cX7_step 57 = .ok (.iconst 0, 1) := by decide +kernel
theorem dX7_step_58 : decode cX7_step 58 = .ok (.iadd, 1) := by decide +kernel
theorem dX7_step_59 : decode cX7_step 59 = .ok (.istore_n 3, 1) := by decide +kernel
theorem dX7_step_60 : decode cX7_step 60 = .ok (.iinc 4 1, 3) := by decide +kernel
theorem dX7_step_63 : decode cX7_step 63 = .ok (.goto (-36), 3) := by decide +kernel
theorem dX7_step_66 : decode cX7_step 66 = .ok (.iload_n 2, 1) := by decide +kernel
theorem dX7_step_67 : decode cX7_step 67 = .ok (.ifCond .ne 14, 3) := by decide +kernel
theorem dX7_step_70 : decode cX7_step 70 = .ok (.aload_n 0, 1) := by decide +kernel
theorem dX7_step_71 : decode cX7_step 71 = .ok (.getfield 19, 3) := by decide +kernel
theorem dX7_step_74 : decode cX7_step 74 = .ok (.iconst 2, 1) := by decide +kernel
theorem dX7_step_75 : decode cX7_step 75 = .ok (.iload_n 1, 1) := by decide +kernel
theorem dX7_step_76 : decode cX7_step 76 = .ok (.iadd, 1) := by decide +kernel
theorem dX7_step_77 : decode cX7_step 77 = .ok (.iaload, 1) := by decide +kernel
theorem dX7_step_78 : decode cX7_step 78 = .ok (.goto 22, 3) := by decide +kernel
theorem dX7_step_81 : decode cX7_step 81 = .ok (.iload_n 2, 1) := by decide +kernel
theorem dX7_step_82 : decode cX7_step 82 = .ok (.iconst 3, 1) := by decide +kernel
theorem dX7_step_83 : decode cX7_step 83 = .ok (.if_icmp .ne 7, 3) := by decide +kernel
theorem dX7_step_86 : decode cX7_step 86 = .ok (.iload_n 3, 1) := by decide +kernel
theorem dX7_step_87 : decode cX7_step 87 = .ok (.goto 13, 3) := by decide +kernel
theorem dX7_step_90 : decode cX7_step 90 = .ok (.aload_n 0, 1) := by decide +kernel
theorem dX7_step_91 : decode cX7_step 91 = .ok (.getfield 13, 3) := by decide +kernel
theorem dX7_step_94 : decode cX7_step 94 = .ok (.iload_n 2, 1) := by decide +kernel
theorem dX7_step_95 : decode cX7_step 95 = .ok (.iaload, 1) := by decide +kernel
theorem dX7_step_96 : decode cX7_step 96 = .ok (.iload_n 1, 1) := by decide +kernel
theorem dX7_step_97 : decode cX7_step 97 = .ok (.ishr, 1) := by decide +kernel
theorem dX7_step_98 : decode cX7_step 98 = .ok (.iconst 1, 1) := by decide +kernel
theorem dX7_step_99 : decode cX7_step 99 = .ok (.iand, 1) := by decide +kernel
theorem dX7_step_100 : decode cX7_step 100 = .ok (.ireturn, 1) := by decide +kernel
theorem dX7_note_0 : decode cX7_note 0 = .ok (.aload_n 0, 1) := by decide +kernel
theorem dX7_note_1 : decode cX7_note 1 = .ok (.getfield 101, 3) := by decide +kernel
theorem dX7_note_4 : decode cX7_note 4 = .ok (.bipush 8, 2) := by decide +kernel
theorem dX7_note_6 : decode cX7_note 6 = .ok (.if_icmp .ne 43, 3) := by decide +kernel
theorem dX7_note_9 : decode cX7_note 9 = .ok (.iconst 0, 1) := by decide +kernel
theorem dX7_note_10 : decode cX7_note 10 = .ok (.istore_n 1, 1) := by decide +kernel
theorem dX7_note_11 : decode cX7_note 11 = .ok (.iload_n 1, 1) := by decide +kernel
theorem dX7_note_12 : decode cX7_note 12 = .ok (.sipush 224, 3) := by decide +kernel
theorem dX7_note_15 : decode cX7_note 15 = .ok (.if_icmp .ge 24, 3) := by decide +kernel
theorem dX7_note_18 : decode cX7_note 18 = .ok (.aload_n 0, 1) := by decide +kernel
theorem dX7_note_19 : decode cX7_note 19 = .ok (.getfield 28, 3) := by decide +kernel
theorem dX7_note_22 : decode cX7_note 22 = .ok (.iload_n 1, 1) := by decide +kernel
theorem dX7_note_23 : decode cX7_note 23 = .ok (.aload_n 0, 1) := by decide +kernel
theorem dX7_note_24 : decode cX7_note 24 = .ok (.getfield 28, 3) := by decide +kernel
theorem dX7_note_27 : decode cX7_note 27 = .ok (.bipush 32, 2) := by decide +kernel
theorem dX7_note_29 : decode cX7_note 29 = .ok (.iload_n 1, 1) := by decide +kernel
theorem dX7_note_30 : decode cX7_note 30 = .ok (.iadd, 1) := by decide +kernel
theorem dX7_note_31 : decode cX7_note 31 = .ok (.iaload, 1) := by decide +kernel
theorem dX7_note_32 : decode cX7_note 32 = .ok (.iastore, 1) := by decide +kernel
theorem dX7_note_33 : decode cX7_note 33 = .ok (.iinc 1 1, 3) := by decide +kernel
theorem dX7_note_36 : decode cX7_note 36 = .ok (.goto (-25), 3) := by decide +kernel
theorem dX7_note_39 : decode cX7_note 39 = .ok (.aload_n 0, 1) := by decide +kernel
theorem dX7_note_40 : decode cX7_note 40 = .ok (.dup, 1) := by decide +kernel
theorem dX7_note_41 : decode cX7_note 41 = .ok (.getfield 101, 3) := by decide +kernel
theorem dX7_note_44 : decode cX7_note 44 = .ok (.iconst 1, 1) := by decide +kernel
theorem dX7_note_45 : decode cX7_note 45 = .ok (.isub, 1) := by decide +kernel
theorem dX7_note_46 : decode cX7_note 46 = .ok (.putfield 101, 3) := by decide +kernel
theorem dX7_note_49 : decode cX7_note 49 = .ok (.iconst 0, 1) := by decide +kernel
theorem dX7_note_50 : decode cX7_note 50 = .ok (.istore_n 1, 1) := by decide +kernel
theorem dX7_note_51 : decode cX7_note 51 = .ok (.iload_n 1, 1) := by decide +kernel
theorem dX7_note_52 : decode cX7_note 52 = .ok (.bipush 32, 2) := by decide +kernel
theorem dX7_note_54 : decode cX7_note 54 = .ok (.if_icmp .ge 29, 3) := by decide +kernel
theorem dX7_note_57 : decode cX7_note 57 = .ok (.aload_n 0, 1) := by decide +kernel
theorem dX7_note_58 : decode cX7_note 58 = .ok (.getfield 28, 3) := by decide +kernel
theorem dX7_note_61 : decode cX7_note 61 = .ok (.bipush 32, 2) := by decide +kernel
theorem dX7_note_63 : decode cX7_note 63 = .ok (.aload_n 0, 1) := by decide +kernel
theorem dX7_note_64 : decode cX7_note 64 = .ok (.getfield 101, 3) := by decide +kernel
theorem dX7_note_67 : decode cX7_note 67 = .ok (.imul, 1) := by decide +kernel
theorem dX7_note_68 : decode cX7_note 68 = .ok (.iload_n 1, 1) := by decide +kernel
theorem dX7_note_69 : decode cX7_note 69 = .ok (.iadd, 1) := by decide +kernel
theorem dX7_note_70 : decode cX7_note 70 = .ok (.aload_n 0, 1) := by decide +kernel
theorem dX7_note_71 : decode cX7_note 71 = .ok (.getfield 19, 3) := by decide +kernel
theorem dX7_note_74 : decode cX7_note 74 = .ok (.iload_n 1, 1) := by decide +kernel
theorem dX7_note_75 : decode cX7_note 75 = .ok (.iaload, 1) := by decide +kernel
theorem dX7_note_76 : decode cX7_note 76 = .ok (.iastore, 1) := by decide +kernel
theorem dX7_note_77 : decode cX7_note 77 = .ok (.iinc 1 1, 3) := by decide +kernel
theorem dX7_note_80 : decode cX7_note 80 = .ok (.goto (-29), 3) := by decide +kernel
theorem dX7_note_83 : decode cX7_note 83 = .ok (.aload_n 0, 1) := by decide +kernel
theorem dX7_note_84 : decode cX7_note 84 = .ok (.dup, 1) := by decide +kernel
theorem dX7_note_85 : decode cX7_note 85 = .ok (.getfield 101, 3) := by decide +kernel
theorem dX7_note_88 : decode cX7_note 88 = .ok (.iconst 1, 1) := by decide +kernel
theorem dX7_note_89 : decode cX7_note 89 = .ok (.iadd, 1) := by decide +kernel
theorem dX7_note_90 : decode cX7_note 90 = .ok (.putfield 101, 3) := by decide +kernel
theorem dX7_note_93 : decode cX7_note 93 = .ok (.return_, 1) := by decide +kernel
theorem dX7_pass_0 : decode cX7_pass 0 = .ok (.iload_n 1, 1) := by decide +kernel
theorem dX7_pass_1 : decode cX7_pass 1 = .ok (.i2l, 1) := by decide +kernel
theorem dX7_pass_2 : decode cX7_pass 2 = .ok (.lconst 1, 1) := by decide +kernel
theorem dX7_pass_3 : decode cX7_pass 3 = .ok (.ldc2_w 142, 3) := by decide +kernel
theorem dX7_pass_6 : decode cX7_pass 6 = .ok (.invokestatic 58, 3) := by decide +kernel
theorem dX7_pass_9 : decode cX7_pass 9 = .ok (.ifCond .ne 5, 3) := by decide +kernel
theorem dX7_pass_12 : decode cX7_pass 12 = .ok (.iconst (-1), 1) := by decide +kernel
theorem dX7_pass_13 : decode cX7_pass 13 = .ok (.ireturn, 1) := by decide +kernel
theorem dX7_pass_14 : decode cX7_pass 14 = .ok (.aload_n 0, 1) := by decide +kernel
theorem dX7_pass_15 : decode cX7_pass 15 = .ok (.getfield 19, 3) := by decide +kernel
theorem dX7_pass_18 : decode cX7_pass 18 = .ok (.iconst 0, 1) := by decide +kernel
theorem dX7_pass_19 : decode cX7_pass 19 = .ok (.iaload, 1) := by decide +kernel
theorem dX7_pass_20 : decode cX7_pass 20 = .ok (.iload_n 1, 1) := by decide +kernel
theorem dX7_pass_21 : decode cX7_pass 21 = .ok (.iadd, 1) := by decide +kernel
theorem dX7_pass_22 : decode cX7_pass 22 = .ok (.sipush 999, 3) := by decide +kernel
theorem dX7_pass_25 : decode cX7_pass 25 = .ok (.if_icmp .le 6, 3) := by decide +kernel
theorem dX7_pass_28 : decode cX7_pass 28 = .ok (.bipush (-2), 2) := by decide +kernel
theorem dX7_pass_30 : decode cX7_pass 30 = .ok (.ireturn, 1) := by decide +kernel
theorem dX7_pass_31 : decode cX7_pass 31 = .ok (.aload_n 0, 1) := by decide +kernel
theorem dX7_pass_32 : decode cX7_pass 32 = .ok (.invokevirtual 144, 3) := by decide +kernel
theorem dX7_pass_35 : decode cX7_pass 35 = .ok (.aload_n 0, 1) := by decide +kernel
theorem dX7_pass_36 : decode cX7_pass 36 = .ok (.invokevirtual 136, 3) := by decide +kernel
theorem dX7_pass_39 : decode cX7_pass 39 = .ok (.aload_n 0, 1) := by decide +kernel
theorem dX7_pass_40 : decode cX7_pass 40 = .ok (.iload_n 1, 1) := by decide +kernel
theorem dX7_pass_41 : decode cX7_pass 41 = .ok (.invokevirtual 147, 3) := by decide +kernel
theorem dX7_pass_44 : decode cX7_pass 44 = .ok (.aload_n 0, 1) := by decide +kernel
theorem dX7_pass_45 : decode cX7_pass 45 = .ok (.invokevirtual 150, 3) := by decide +kernel
theorem dX7_pass_48 : decode cX7_pass 48 = .ok (.aload_n 0, 1) := by decide +kernel
theorem dX7_pass_49 : decode cX7_pass 49 = .ok (.getfield 19, 3) := by decide +kernel
theorem dX7_pass_52 : decode cX7_pass 52 = .ok (.iconst 0, 1) := by decide +kernel
theorem dX7_pass_53 : decode cX7_pass 53 = .ok (.iaload, 1) := by decide +kernel
theorem dX7_pass_54 : decode cX7_pass 54 = .ok (.ireturn, 1) := by decide +kernel
theorem dX7_wax_0 : decode cX7_wax 0 = .ok (.aload_n 0, 1) := by decide +kernel
theorem dX7_wax_1 : decode cX7_wax 1 = .ok (.iload_n 1, 1) := by decide +kernel
theorem dX7_wax_2 : decode cX7_wax 2 = .ok (.invokevirtual 139, 3) := by decide +kernel
theorem dX7_wax_5 : decode cX7_wax 5 = .ok (.ifCond .ne 5, 3) := by decide +kernel
theorem dX7_wax_8 : decode cX7_wax 8 = .ok (.iconst (-1), 1) := by decide +kernel
theorem dX7_wax_9 : decode cX7_wax 9 = .ok (.ireturn, 1) := by decide +kernel
theorem dX7_wax_10 : decode cX7_wax 10 = .ok (.aload_n 0, 1) := by decide +kernel
theorem dX7_wax_11 : decode cX7_wax 11 = .ok (.getfield 19, 3) := by decide +kernel
theorem dX7_wax_14 : decode cX7_wax 14 = .ok (.iconst 2, 1) := by decide +kernel
theorem dX7_wax_15 : decode cX7_wax 15 = .ok (.iload_n 1, 1) := by decide +kernel
theorem dX7_wax_16 : decode cX7_wax 16 = .ok (.iadd, 1) := by decide +kernel
theorem dX7_wax_17 : decode cX7_wax 17 = .ok (.iaload, 1) := by decide +kernel
theorem dX7_wax_18 : decode cX7_wax 18 = .ok (.bipush 9, 2) := by decide +kernel
theorem dX7_wax_20 : decode cX7_wax 20 = .ok (.if_icmp .eq 12, 3) := by decide +kernel
theorem dX7_wax_23 : decode cX7_wax 23 = .ok (.aload_n 0, 1) := by decide +kernel
theorem dX7_wax_24 : decode cX7_wax 24 = .ok (.getfield 19, 3) := by decide +kernel
theorem dX7_wax_27 : decode cX7_wax 27 = .ok (.iconst 1, 1) := by decide +kernel
theorem dX7_wax_28 : decode cX7_wax 28 = .ok (.iaload, 1) := by decide +kernel
theorem dX7_wax_29 : decode cX7_wax 29 = .ok (.ifCond .ne 6, 3) := by decide +kernel
theorem dX7_wax_32 : decode cX7_wax 32 = .ok (.bipush (-2), 2) := by decide +kernel
theorem dX7_wax_34 : decode cX7_wax 34 = .ok (.ireturn, 1) := by decide +kernel
theorem dX7_wax_35 : decode cX7_wax 35 = .ok (.aload_n 0, 1) := by decide +kernel
theorem dX7_wax_36 : decode cX7_wax 36 = .ok (.invokevirtual 144, 3) := by decide +kernel
theorem dX7_wax_39 : decode cX7_wax 39 = .ok (.aload_n 0, 1) := by decide +kernel
theorem dX7_wax_40 : decode cX7_wax 40 = .ok (.getfield 19, 3) := by decide +kernel
theorem dX7_wax_43 : decode cX7_wax 43 = .ok (.iconst 1, 1) := by decide +kernel
theorem dX7_wax_44 : decode cX7_wax 44 = .ok (.dup2, 1) := by decide +kernel
theorem dX7_wax_45 : decode cX7_wax 45 = .ok (.iaload, 1) := by decide +kernel
theorem dX7_wax_46 : decode cX7_wax 46 = .ok (.iconst 1, 1) := by decide +kernel
theorem dX7_wax_47 : decode cX7_wax 47 = .ok (.isub, 1) := by decide +kernel
theorem dX7_wax_48 : decode cX7_wax 48 = .ok (.iastore, 1) := by decide +kernel
theorem dX7_wax_49 : decode cX7_wax 49 = .ok (.aload_n 0, 1) := by decide +kernel
theorem dX7_wax_50 : decode cX7_wax 50 = .ok (.getfield 19, 3) := by decide +kernel
theorem dX7_wax_53 : decode cX7_wax 53 = .ok (.iconst 2, 1) := by decide +kernel
theorem dX7_wax_54 : decode cX7_wax 54 = .ok (.iload_n 1, 1) := by decide +kernel
theorem dX7_wax_55 : decode cX7_wax 55 = .ok (.iadd, 1) := by decide +kernel
theorem dX7_wax_56 : decode cX7_wax 56 = .ok (.dup2, 1) := by decide +kernel
theorem dX7_wax_57 : decode cX7_wax 57 = .ok (.iaload, 1) := by decide +kernel
theorem dX7_wax_58 : decode cX7_wax 58 = .ok (.iconst 1, 1) := by decide +kernel
theorem dX7_wax_59 : decode cX7_wax 59 = .ok (.iadd, 1) := by decide +kernel
theorem dX7_wax_60 : decode cX7_wax 60 = .ok (.iastore, 1) := by decide +kernel
theorem dX7_wax_61 : decode cX7_wax 61 = .ok (.aload_n 0, 1) := by decide +kernel
theorem dX7_wax_62 : decode cX7_wax 62 = .ok (.getfield 19, 3) := by decide +kernel
theorem dX7_wax_65 : decode cX7_wax 65 = .ok (.iconst 2, 1) := by decide +kernel
theorem dX7_wax_66 : decode cX7_wax 66 = .ok (.iload_n 1, 1) := by decide +kernel
theorem dX7_wax_67 : decode cX7_wax 67 = .ok (.iadd, 1) := by decide +kernel
theorem dX7_wax_68 : decode cX7_wax 68 = .ok (.iaload, 1) := by decide +kernel
theorem dX7_wax_69 : decode cX7_wax 69 = .ok (.ireturn, 1) := by decide +kernel
theorem dX7_sand_0 : decode cX7_sand 0 = .ok (.aload_n 0, 1) := by decide +kernel
theorem dX7_sand_1 : decode cX7_sand 1 = .ok (.iload_n 1, 1) := by decide +kernel
theorem dX7_sand_2 : decode cX7_sand 2 = .ok (.invokevirtual 139, 3) := by decide +kernel
theorem dX7_sand_5 : decode cX7_sand 5 = .ok (.ifCond .ne 5, 3) := by decide +kernel
theorem dX7_sand_8 : decode cX7_sand 8 = .ok (.iconst (-1), 1) := by decide +kernel
theorem dX7_sand_9 : decode cX7_sand 9 = .ok (.ireturn, 1) := by decide +kernel
theorem dX7_sand_10 : decode cX7_sand 10 = .ok (.aload_n 0, 1) := by decide +kernel
theorem dX7_sand_11 : decode cX7_sand 11 = .ok (.getfield 19, 3) := by decide +kernel
theorem dX7_sand_14 : decode cX7_sand 14 = .ok (.iconst 2, 1) := by decide +kernel
theorem dX7_sand_15 : decode cX7_sand 15 = .ok (.iload_n 1, 1) := by decide +kernel
theorem dX7_sand_16 : decode cX7_sand 16 = .ok (.iadd, 1) := by decide +kernel
theorem dX7_sand_17 : decode cX7_sand 17 = .ok (.iaload, 1) := by decide +kernel
theorem dX7_sand_18 : decode cX7_sand 18 = .ok (.ifCond .eq 13, 3) := by decide +kernel
theorem dX7_sand_21 : decode cX7_sand 21 = .ok (.aload_n 0, 1) := by decide +kernel
theorem dX7_sand_22 : decode cX7_sand 22 = .ok (.getfield 19, 3) := by decide +kernel
theorem dX7_sand_25 : decode cX7_sand 25 = .ok (.iconst 1, 1) := by decide +kernel
theorem dX7_sand_26 : decode cX7_sand 26 = .ok (.iaload, 1) := by decide +kernel
theorem dX7_sand_27 : decode cX7_sand 27 = .ok (.iconst 2, 1) := by decide +kernel
theorem dX7_sand_28 : decode cX7_sand 28 = .ok (.if_icmp .ge 6, 3) := by decide +kernel
theorem dX7_sand_31 : decode cX7_sand 31 = .ok (.bipush (-2), 2) := by decide +kernel
theorem dX7_sand_33 : decode cX7_sand 33 = .ok (.ireturn, 1) := by decide +kernel
theorem dX7_sand_34 : decode cX7_sand 34 = .ok (.aload_n 0, 1) := by decide +kernel
theorem dX7_sand_35 : decode cX7_sand 35 = .ok (.invokevirtual 144, 3) := by decide +kernel
theorem dX7_sand_38 : decode cX7_sand 38 = .ok (.aload_n 0, 1) := by decide +kernel
theorem dX7_sand_39 : decode cX7_sand 39 = .ok (.getfield 19, 3) := by decide +kernel
theorem dX7_sand_42 : decode cX7_sand 42 = .ok (.iconst 1, 1) := by decide +kernel
theorem dX7_sand_43 : decode cX7_sand 43 = .ok (.dup2, 1) := by decide +kernel
theorem dX7_sand_44 : decode cX7_sand 44 = .ok (.iaload, 1) := by decide +kernel
theorem dX7_sand_45 : decode cX7_sand 45 = .ok (.iconst 2, 1) := by decide +kernel
theorem dX7_sand_46 : decode cX7_sand 46 = .ok (.isub, 1) := by decide +kernel
theorem dX7_sand_47 : decode cX7_sand 47 = .ok (.iastore, 1) := by decide +kernel
theorem dX7_sand_48 : decode cX7_sand 48 = .ok (.aload_n 0, 1) := by decide +kernel
theorem dX7_sand_49 : decode cX7_sand 49 = .ok (.getfield 19, 3) := by decide +kernel
theorem dX7_sand_52 : decode cX7_sand 52 = .ok (.iconst 2, 1) := by decide +kernel
theorem dX7_sand_53 : decode cX7_sand 53 = .ok (.iload_n 1, 1) := by decide +kernel
theorem dX7_sand_54 : decode cX7_sand 54 = .ok (.iadd, 1) := by decide +kernel
theorem dX7_sand_55 : decode cX7_sand 55 = .ok (.aload_n 0, 1) := by decide +kernel
theorem dX7_sand_56 : decode cX7_sand 56 = .ok (.getfield 19, 3) := by decide +kernel
theorem dX7_sand_59 : decode cX7_sand 59 = .ok (.iconst 2, 1) := by decide +kernel
theorem dX7_sand_60 : decode cX7_sand 60 = .ok (.iload_n 1, 1) := by decide +kernel
theorem dX7_sand_61 : decode cX7_sand 61 = .ok (.iadd, 1) := by decide +kernel
theorem dX7_sand_62 : decode cX7_sand 62 = .ok (.iaload, 1) := by decide +kernel
theorem dX7_sand_63 : decode cX7_sand 63 = .ok (.iconst 2, 1) := by decide +kernel
theorem dX7_sand_64 : decode cX7_sand 64 = .ok (.if_icmp .le 16, 3) := by decide +kernel
theorem dX7_sand_67 : decode cX7_sand 67 = .ok (.aload_n 0, 1) := by decide +kernel
theorem dX7_sand_68 : decode cX7_sand 68 = .ok (.getfield 19, 3) := by decide +kernel
theorem dX7_sand_71 : decode cX7_sand 71 = .ok (.iconst 2, 1) := by decide +kernel
theorem dX7_sand_72 : decode cX7_sand 72 = .ok (.iload_n 1, 1) := by decide +kernel
theorem dX7_sand_73 : decode cX7_sand 73 = .ok (.iadd, 1) := by decide +kernel
theorem dX7_sand_74 : decode cX7_sand 74 = .ok (.iaload, 1) := by decide +kernel
theorem dX7_sand_75 : decode cX7_sand 75 = .ok (.iconst 2, 1) := by decide +kernel
theorem dX7_sand_76 : decode cX7_sand 76 = .ok (.isub, 1) := by decide +kernel
theorem dX7_sand_77 : decode cX7_sand 77 = .ok (.goto 4, 3) := by decide +kernel
theorem dX7_sand_80 : decode cX7_sand 80 = .ok (.iconst 0, 1) := by decide +kernel
theorem dX7_sand_81 : decode cX7_sand 81 = .ok (.iastore, 1) := by decide +kernel
theorem dX7_sand_82 : decode cX7_sand 82 = .ok (.aload_n 0, 1) := by decide +kernel
theorem dX7_sand_83 : decode cX7_sand 83 = .ok (.getfield 19, 3) := by decide +kernel
theorem dX7_sand_86 : decode cX7_sand 86 = .ok (.iconst 2, 1) := by decide +kernel
theorem dX7_sand_87 : decode cX7_sand 87 = .ok (.iload_n 1, 1) := by decide +kernel
theorem dX7_sand_88 : decode cX7_sand 88 = .ok (.iadd, 1) := by decide +kernel
theorem dX7_sand_89 : decode cX7_sand 89 = .ok (.iaload, 1) := by decide +kernel
theorem dX7_sand_90 : decode cX7_sand 90 = .ok (.ireturn, 1) := by decide +kernel
theorem dX7_help_0 : decode cX7_help 0 = .ok (.aload_n 0, 1) := by decide +kernel
theorem dX7_help_1 : decode cX7_help 1 = .ok (.iload_n 1, 1) := by decide +kernel
theorem dX7_help_2 : decode cX7_help 2 = .ok (.invokevirtual 131, 3) := by decide +kernel
theorem dX7_help_5 : decode cX7_help 5 = .ok (.ifCond .ne 5, 3) := by decide +kernel
theorem dX7_help_8 : decode cX7_help 8 = .ok (.iconst (-1), 1) := by decide +kernel
theorem dX7_help_9 : decode cX7_help 9 = .ok (.ireturn, 1) := by decide +kernel
theorem dX7_help_10 : decode cX7_help 10 = .ok (.aload_n 0, 1) := by decide +kernel
theorem dX7_help_11 : decode cX7_help 11 = .ok (.getfield 19, 3) := by decide +kernel
theorem dX7_help_14 : decode cX7_help 14 = .ok (.bipush 18, 2) := by decide +kernel
theorem dX7_help_16 : decode cX7_help 16 = .ok (.iload_n 1, 1) := by decide +kernel
theorem dX7_help_17 : decode cX7_help 17 = .ok (.iadd, 1) := by decide +kernel
theorem dX7_help_18 : decode cX7_help 18 = .ok (.iaload, 1) := by decide +kernel
theorem dX7_help_19 : decode cX7_help 19 = .ok (.istore_n 2, 1) := by decide +kernel
theorem dX7_help_20 : decode cX7_help 20 = .ok (.iload_n 2, 1) := by decide +kernel
theorem dX7_help_21 : decode cX7_help 21 = .ok (.ifCond .ne 6, 3) := by decide +kernel
theorem dX7_help_24 : decode cX7_help 24 = .ok (.bipush (-2), 2) := by decide +kernel
theorem dX7_help_26 : decode cX7_help 26 = .ok (.ireturn, 1) := by decide +kernel
theorem dX7_help_27 : decode cX7_help 27 = .ok (.aload_n 0, 1) := by decide +kernel
theorem dX7_help_28 : decode cX7_help 28 = .ok (.invokevirtual 144, 3) := by decide +kernel
theorem dX7_help_31 : decode cX7_help 31 = .ok (.aload_n 0, 1) := by decide +kernel
theorem dX7_help_32 : decode cX7_help 32 = .ok (.getfield 19, 3) := by decide +kernel
theorem dX7_help_35 : decode cX7_help 35 = .ok (.bipush 18, 2) := by decide +kernel
theorem dX7_help_37 : decode cX7_help 37 = .ok (.iload_n 1, 1) := by decide +kernel
theorem dX7_help_38 : decode cX7_help 38 = .ok (.iadd, 1) := by decide +kernel
theorem dX7_help_39 : decode cX7_help 39 = .ok (.iconst 0, 1) := by decide +kernel
theorem dX7_help_40 : decode cX7_help 40 = .ok (.iastore, 1) := by decide +kernel
theorem dX7_help_41 : decode cX7_help 41 = .ok (.iload_n 2, 1) := by decide +kernel
theorem dX7_help_42 : decode cX7_help 42 = .ok (.ireturn, 1) := by decide +kernel
theorem dX7_undo_0 : decode cX7_undo 0 = .ok (.aload_n 0, 1) := by decide +kernel
theorem dX7_undo_1 : decode cX7_undo 1 = .ok (.getfield 101, 3) := by decide +kernel
theorem dX7_undo_4 : decode cX7_undo 4 = .ok (.ifCond .ne 6, 3) := by decide +kernel
theorem dX7_undo_7 : decode cX7_undo 7 = .ok (.bipush (-2), 2) := by decide +kernel
theorem dX7_undo_9 : decode cX7_undo 9 = .ok (.ireturn, 1) := by decide +kernel
theorem dX7_undo_10 : decode cX7_undo 10 = .ok (.aload_n 0, 1) := by decide +kernel
theorem dX7_undo_11 : decode cX7_undo 11 = .ok (.dup, 1) := by decide +kernel
theorem dX7_undo_12 : decode cX7_undo 12 = .ok (.getfield 101, 3) := by decide +kernel
theorem dX7_undo_15 : decode cX7_undo 15 = .ok (.iconst 1, 1) := by decide +kernel
theorem dX7_undo_16 : decode cX7_undo 16 = .ok (.isub, 1) := by decide +kernel
theorem dX7_undo_17 : decode cX7_undo 17 = .ok (.putfield 101, 3) := by decide +kernel
theorem dX7_undo_20 : decode cX7_undo 20 = .ok (.iconst 0, 1) := by decide +kernel
theorem dX7_undo_21 : decode cX7_undo 21 = .ok (.istore_n 1, 1) := by decide +kernel
theorem dX7_undo_22 : decode cX7_undo 22 = .ok (.iload_n 1, 1) := by decide +kernel
theorem dX7_undo_23 : decode cX7_undo 23 = .ok (.bipush 32, 2) := by decide +kernel
theorem dX7_undo_25 : decode cX7_undo 25 = .ok (.if_icmp .ge 29, 3) := by decide +kernel
theorem dX7_undo_28 : decode cX7_undo 28 = .ok (.aload_n 0, 1) := by decide +kernel
theorem dX7_undo_29 : decode cX7_undo 29 = .ok (.getfield 19, 3) := by decide +kernel
theorem dX7_undo_32 : decode cX7_undo 32 = .ok (.iload_n 1, 1) := by decide +kernel
theorem dX7_undo_33 : decode cX7_undo 33 = .ok (.aload_n 0, 1) := by decide +kernel
theorem dX7_undo_34 : decode cX7_undo 34 = .ok (.getfield 28, 3) := by decide +kernel
theorem dX7_undo_37 : decode cX7_undo 37 = .ok (.bipush 32, 2) := by decide +kernel
theorem dX7_undo_39 : decode cX7_undo 39 = .ok (.aload_n 0, 1) := by decide +kernel
theorem dX7_undo_40 : decode cX7_undo 40 = .ok (.getfield 101, 3) := by decide +kernel
theorem dX7_undo_43 : decode cX7_undo 43 = .ok (.imul, 1) := by decide +kernel
theorem dX7_undo_44 : decode cX7_undo 44 = .ok (.iload_n 1, 1) := by decide +kernel
theorem dX7_undo_45 : decode cX7_undo 45 = .ok (.iadd, 1) := by decide +kernel
theorem dX7_undo_46 : decode cX7_undo 46 = .ok (.iaload, 1) := by decide +kernel
theorem dX7_undo_47 : decode cX7_undo 47 = .ok (.iastore, 1) := by decide +kernel
theorem dX7_undo_48 : decode cX7_undo 48 = .ok (.iinc 1 1, 3) := by decide +kernel
theorem dX7_undo_51 : decode cX7_undo 51 = .ok (.goto (-29), 3) := by decide +kernel
theorem dX7_undo_54 : decode cX7_undo 54 = .ok (.aload_n 0, 1) := by decide +kernel
theorem dX7_undo_55 : decode cX7_undo 55 = .ok (.getfield 101, 3) := by decide +kernel
theorem dX7_undo_58 : decode cX7_undo 58 = .ok (.ireturn, 1) := by decide +kernel
theorem dX7_governs_0 : decode cX7_governs 0 = .ok (.aload_n 0, 1) := by decide +kernel
theorem dX7_governs_1 : decode cX7_governs 1 = .ok (.invokevirtual 136, 3) := by decide +kernel
theorem dX7_governs_4 : decode cX7_governs 4 = .ok (.aload_n 0, 1) := by decide +kernel
theorem dX7_governs_5 : decode cX7_governs 5 = .ok (.invokevirtual 125, 3) := by decide +kernel
theorem dX7_governs_8 : decode cX7_governs 8 = .ok (.ireturn, 1) := by decide +kernel
theorem dX7_behind_0 : decode cX7_behind 0 = .ok (.iload_n 1, 1) := by decide +kernel
theorem dX7_behind_1 : decode cX7_behind 1 = .ok (.i2l, 1) := by decide +kernel
theorem dX7_behind_2 : decode cX7_behind 2 = .ok (.lconst 0, 1) := by decide +kernel
theorem dX7_behind_3 : decode cX7_behind 3 = .ok (.ldc2_w 142, 3) := by decide +kernel
theorem dX7_behind_6 : decode cX7_behind 6 = .ok (.invokestatic 58, 3) := by decide +kernel
theorem dX7_behind_9 : decode cX7_behind 9 = .ok (.ifCond .eq 23, 3) := by decide +kernel
theorem dX7_behind_12 : decode cX7_behind 12 = .ok (.aload_n 0, 1) := by decide +kernel
theorem dX7_behind_13 : decode cX7_behind 13 = .ok (.iload_n 2, 1) := by decide +kernel
theorem dX7_behind_14 : decode cX7_behind 14 = .ok (.invokevirtual 131, 3) := by decide +kernel
theorem dX7_behind_17 : decode cX7_behind 17 = .ok (.ifCond .eq 15, 3) := by decide +kernel
theorem dX7_behind_20 : decode cX7_behind 20 = .ok (.iload_n 3, 1) := by decide +kernel
theorem dX7_behind_21 : decode cX7_behind 21 = .ok (.i2l, 1) := by decide +kernel
theorem dX7_behind_22 : decode cX7_behind 22 = .ok (.lconst 0, 1) := by decide +kernel
theorem dX7_behind_23 : decode cX7_behind 23 = .ok (.ldc2_w 77, 3) := by decide +kernel
theorem dX7_behind_26 : decode cX7_behind 26 = .ok (.invokestatic 58, 3) := by decide +kernel
theorem dX7_behind_29 : decode cX7_behind 29 = .ok (.ifCond .ne 5, 3) := by decide +kernel
theorem dX7_behind_32 : decode cX7_behind 32 = .ok (.iconst (-1), 1) := by decide +kernel
theorem dX7_behind_33 : decode cX7_behind 33 = .ok (.ireturn, 1) := by decide +kernel
theorem dX7_behind_34 : decode cX7_behind 34 = .ok (.aload_n 0, 1) := by decide +kernel
theorem dX7_behind_35 : decode cX7_behind 35 = .ok (.invokevirtual 136, 3) := by decide +kernel
theorem dX7_behind_38 : decode cX7_behind 38 = .ok (.aload_n 0, 1) := by decide +kernel
theorem dX7_behind_39 : decode cX7_behind 39 = .ok (.iload_n 1, 1) := by decide +kernel
theorem dX7_behind_40 : decode cX7_behind 40 = .ok (.invokevirtual 147, 3) := by decide +kernel
theorem dX7_behind_43 : decode cX7_behind 43 = .ok (.iload_n 3, 1) := by decide +kernel
theorem dX7_behind_44 : decode cX7_behind 44 = .ok (.ifCond .ne 15, 3) := by decide +kernel
theorem dX7_behind_47 : decode cX7_behind 47 = .ok (.aload_n 0, 1) := by decide +kernel
theorem dX7_behind_48 : decode cX7_behind 48 = .ok (.getfield 25, 3) := by decide +kernel
theorem dX7_behind_51 : decode cX7_behind 51 = .ok (.bipush 18, 2) := by decide +kernel
theorem dX7_behind_53 : decode cX7_behind 53 = .ok (.iload_n 2, 1) := by decide +kernel
theorem dX7_behind_54 : decode cX7_behind 54 = .ok (.iadd, 1) := by decide +kernel
theorem dX7_behind_55 : decode cX7_behind 55 = .ok (.iaload, 1) := by decide +kernel
theorem dX7_behind_56 : decode cX7_behind 56 = .ok (.goto 24, 3) := by decide +kernel
theorem dX7_behind_59 : decode cX7_behind 59 = .ok (.iload_n 3, 1) := by decide +kernel
theorem dX7_behind_60 : decode cX7_behind 60 = .ok (.iconst 1, 1) := by decide +kernel
theorem dX7_behind_61 : decode cX7_behind 61 = .ok (.if_icmp .ne 10, 3) := by decide +kernel
theorem dX7_behind_64 : decode cX7_behind 64 = .ok (.aload_n 0, 1) := by decide +kernel
theorem dX7_behind_65 : decode cX7_behind 65 = .ok (.invokevirtual 125, 3) := by decide +kernel
theorem dX7_behind_68 : decode cX7_behind 68 = .ok (.goto 12, 3) := by decide +kernel
theorem dX7_behind_71 : decode cX7_behind 71 = .ok (.aload_n 0, 1) := by decide +kernel
theorem dX7_behind_72 : decode cX7_behind 72 = .ok (.getfield 25, 3) := by decide +kernel
theorem dX7_behind_75 : decode cX7_behind 75 = .ok (.bipush 25, 2) := by decide +kernel
theorem dX7_behind_77 : decode cX7_behind 77 = .ok (.iload_n 2, 1) := by decide +kernel
theorem dX7_behind_78 : decode cX7_behind 78 = .ok (.iadd, 1) := by decide +kernel
theorem dX7_behind_79 : decode cX7_behind 79 = .ok (.iaload, 1) := by decide +kernel
theorem dX7_behind_80 : decode cX7_behind 80 = .ok (.ireturn, 1) := by decide +kernel
theorem dX7_slide_0 : decode cX7_slide 0 = .ok (.aload_n 0, 1) := by decide +kernel
theorem dX7_slide_1 : decode cX7_slide 1 = .ok (.iload_n 1, 1) := by decide +kernel
theorem dX7_slide_2 : decode cX7_slide 2 = .ok (.invokevirtual 131, 3) := by decide +kernel
theorem dX7_slide_5 : decode cX7_slide 5 = .ok (.ifCond .ne 5, 3) := by decide +kernel
theorem dX7_slide_8 : decode cX7_slide 8 = .ok (.iconst (-1), 1) := by decide +kernel
theorem dX7_slide_9 : decode cX7_slide 9 = .ok (.ireturn, 1) := by decide +kernel
theorem dX7_slide_10 : decode cX7_slide 10 = .ok (.aload_n 0, 1) := by decide +kernel
theorem dX7_slide_11 : decode cX7_slide 11 = .ok (.invokevirtual 136, 3) := by decide +kernel
theorem dX7_slide_14 : decode cX7_slide 14 = .ok (.aload_n 0, 1) := by decide +kernel
theorem dX7_slide_15 : decode cX7_slide 15 = .ok (.invokevirtual 128, 3) := by decide +kernel
theorem dX7_slide_18 : decode cX7_slide 18 = .ok (.aload_n 0, 1) := by decide +kernel
theorem dX7_slide_19 : decode cX7_slide 19 = .ok (.getfield 25, 3) := by decide +kernel
theorem dX7_slide_22 : decode cX7_slide 22 = .ok (.bipush 18, 2) := by decide +kernel
theorem dX7_slide_24 : decode cX7_slide 24 = .ok (.iload_n 1, 1) := by decide +kernel
theorem dX7_slide_25 : decode cX7_slide 25 = .ok (.iadd, 1) := by decide +kernel
theorem dX7_slide_26 : decode cX7_slide 26 = .ok (.iaload, 1) := by decide +kernel
theorem dX7_slide_27 : decode cX7_slide 27 = .ok (.ireturn, 1) := by decide +kernel
theorem dX7_top_0 : decode cX7_top 0 = .ok (.aload_n 0, 1) := by decide +kernel
theorem dX7_top_1 : decode cX7_top 1 = .ok (.iload_n 1, 1) := by decide +kernel
theorem dX7_top_2 : decode cX7_top 2 = .ok (.invokevirtual 131, 3) := by decide +kernel
theorem dX7_top_5 : decode cX7_top 5 = .ok (.ifCond .ne 5, 3) := by decide +kernel
theorem dX7_top_8 : decode cX7_top 8 = .ok (.iconst (-1), 1) := by decide +kernel
theorem dX7_top_9 : decode cX7_top 9 = .ok (.ireturn, 1) := by decide +kernel
theorem dX7_top_10 : decode cX7_top 10 = .ok (.aload_n 0, 1) := by decide +kernel
theorem dX7_top_11 : decode cX7_top 11 = .ok (.invokevirtual 136, 3) := by decide +kernel
theorem dX7_top_14 : decode cX7_top 14 = .ok (.iconst 0, 1) := by decide +kernel
theorem dX7_top_15 : decode cX7_top 15 = .ok (.istore_n 2, 1) := by decide +kernel
theorem dX7_top_16 : decode cX7_top 16 = .ok (.iload_n 2, 1) := by decide +kernel
theorem dX7_top_17 : decode cX7_top 17 = .ok (.bipush 40, 2) := by decide +kernel
theorem dX7_top_19 : decode cX7_top 19 = .ok (.if_icmp .gt 35, 3) := by decide +kernel
theorem dX7_top_22 : decode cX7_top 22 = .ok (.aload_n 0, 1) := by decide +kernel
theorem dX7_top_23 : decode cX7_top 23 = .ok (.getfield 25, 3) := by decide +kernel
theorem dX7_top_26 : decode cX7_top 26 = .ok (.bipush 18, 2) := by decide +kernel
theorem dX7_top_28 : decode cX7_top 28 = .ok (.iload_n 1, 1) := by decide +kernel
theorem dX7_top_29 : decode cX7_top 29 = .ok (.iadd, 1) := by decide +kernel
theorem dX7_top_30 : decode cX7_top 30 = .ok (.iaload, 1) := by decide +kernel
theorem dX7_top_31 : decode cX7_top 31 = .ok (.aload_n 0, 1) := by decide +kernel
theorem dX7_top_32 : decode cX7_top 32 = .ok (.getfield 13, 3) := by decide +kernel
theorem dX7_top_35 : decode cX7_top 35 = .ok (.iconst 0, 1) := by decide +kernel
theorem dX7_top_36 : decode cX7_top 36 = .ok (.iaload, 1) := by decide +kernel
theorem dX7_top_37 : decode cX7_top 37 = .ok (.iconst 1, 1) := by decide +kernel
theorem dX7_top_38 : decode cX7_top 38 = .ok (.isub, 1) := by decide +kernel
theorem dX7_top_39 : decode cX7_top 39 = .ok (.if_icmp .ne 5, 3) := by decide +kernel
theorem dX7_top_42 : decode cX7_top 42 = .ok (.iload_n 2, 1) := by decide +kernel
theorem dX7_top_43 : decode cX7_top 43 = .ok (.ireturn, 1) := by decide +kernel
theorem dX7_top_44 : decode cX7_top 44 = .ok (.aload_n 0, 1) := by decide +kernel
theorem dX7_top_45 : decode cX7_top 45 = .ok (.invokevirtual 128, 3) := by decide +kernel
theorem dX7_top_48 : decode cX7_top 48 = .ok (.iinc 2 1, 3) := by decide +kernel
theorem dX7_top_51 : decode cX7_top 51 = .ok (.goto (-35), 3) := by decide +kernel
theorem dX7_top_54 : decode cX7_top 54 = .ok (.bipush (-4), 2) := by decide +kernel
theorem dX7_top_56 : decode cX7_top 56 = .ok (.ireturn, 1) := by decide +kernel
theorem dX7_topple_0 : decode cX7_topple 0 = .ok (.aload_n 0, 1) := by decide +kernel
theorem dX7_topple_1 : decode cX7_topple 1 = .ok (.iload_n 1, 1) := by decide +kernel
theorem dX7_topple_2 : decode cX7_topple 2 = .ok (.invokevirtual 131, 3) := by decide +kernel
theorem dX7_topple_5 : decode cX7_topple 5 = .ok (.ifCond .ne 5, 3) := by decide +kernel
theorem dX7_topple_8 : decode cX7_topple 8 = .ok (.iconst (-1), 1) := by decide +kernel
theorem dX7_topple_9 : decode cX7_topple 9 = .ok (.ireturn, 1) := by decide +kernel
theorem dX7_topple_10 : decode cX7_topple 10 = .ok (.aload_n 0, 1) := by decide +kernel
theorem dX7_topple_11 : decode cX7_topple 11 = .ok (.getfield 19, 3) := by decide +kernel
theorem dX7_topple_14 : decode cX7_topple 14 = .ok (.bipush 18, 2) := by decide +kernel
theorem dX7_topple_16 : decode cX7_topple 16 = .ok (.iload_n 1, 1) := by decide +kernel
theorem dX7_topple_17 : decode cX7_topple 17 = .ok (.iadd, 1) := by decide +kernel
theorem dX7_topple_18 : decode cX7_topple 18 = .ok (.iaload, 1) := by decide +kernel
theorem dX7_topple_19 : decode cX7_topple 19 = .ok (.istore_n 2, 1) := by decide +kernel
theorem dX7_topple_20 : decode cX7_topple 20 = .ok (.iconst 0, 1) := by decide +kernel
theorem dX7_topple_21 : decode cX7_topple 21 = .ok (.istore_n 3, 1) := by decide +kernel
theorem dX7_topple_22 : decode cX7_topple 22 = .ok (.aload_n 0, 1) := by decide +kernel
theorem dX7_topple_23 : decode cX7_topple 23 = .ok (.getfield 19, 3) := by decide +kernel
theorem dX7_topple_26 : decode cX7_topple 26 = .ok (.iconst 2, 1) := by decide +kernel
theorem dX7_topple_27 : decode cX7_topple 27 = .ok (.iload_n 2, 1) := by decide +kernel
theorem dX7_topple_28 : decode cX7_topple 28 = .ok (.iadd, 1) := by decide +kernel
theorem dX7_topple_29 : decode cX7_topple 29 = .ok (.iaload, 1) := by decide +kernel
theorem dX7_topple_30 : decode cX7_topple 30 = .ok (.iload_n 3, 1) := by decide +kernel
theorem dX7_topple_31 : decode cX7_topple 31 = .ok (.iadd, 1) := by decide +kernel
theorem dX7_topple_32 : decode cX7_topple 32 = .ok (.bipush 10, 2) := by decide +kernel
theorem dX7_topple_34 : decode cX7_topple 34 = .ok (.if_icmp .ge 56, 3) := by decide +kernel
theorem dX7_topple_37 : decode cX7_topple 37 = .ok (.aload_n 0, 1) := by decide +kernel
theorem dX7_topple_38 : decode cX7_topple 38 = .ok (.invokevirtual 136, 3) := by decide +kernel
theorem dX7_topple_41 : decode cX7_topple 41 = .ok (.aload_n 0, 1) := by decide +kernel
theorem dX7_topple_42 : decode cX7_topple 42 = .ok (.getfield 25, 3) := by decide +kernel
theorem dX7_topple_45 : decode cX7_topple 45 = .ok (.iconst 2, 1) := by decide +kernel
theorem dX7_topple_46 : decode cX7_topple 46 = .ok (.iload_n 2, 1) := by decide +kernel
theorem dX7_topple_47 : decode cX7_topple 47 = .ok (.iadd, 1) := by decide +kernel
theorem dX7_topple_48 : decode cX7_topple 48 = .ok (.dup2, 1) := by decide +kernel
theorem dX7_topple_49 : decode cX7_topple 49 = .ok (.iaload, 1) := by decide +kernel
theorem dX7_topple_50 : decode cX7_topple 50 = .ok (.iload_n 3, 1) := by decide +kernel
theorem dX7_topple_51 : decode cX7_topple 51 = .ok (.iadd, 1) := by decide +kernel
theorem dX7_topple_52 : decode cX7_topple 52 = .ok (.iastore, 1) := by decide +kernel
theorem dX7_topple_53 : decode cX7_topple 53 = .ok (.iconst 0, 1) := by decide +kernel
theorem dX7_topple_54 : decode cX7_topple 54 = .ok (.istore 4, 2) := by decide +kernel
theorem dX7_topple_56 : decode cX7_topple 56 = .ok (.iload 4, 2) := by decide +kernel
theorem dX7_topple_58 : decode cX7_topple 58 = .ok (.iload_n 1, 1) := by decide +kernel
theorem dX7_topple_59 : decode cX7_topple 59 = .ok (.if_icmp .ge 15, 3) := by decide +kernel
theorem dX7_topple_62 : decode cX7_topple 62 = .ok (.aload_n 0, 1) := by decide +kernel
theorem dX7_topple_63 : decode cX7_topple 63 = .ok (.iload 4, 2) := by decide +kernel
theorem dX7_topple_65 : decode cX7_topple 65 = .ok (.invokevirtual 121, 3) := by decide +kernel
theorem dX7_topple_68 : decode cX7_topple 68 = .ok (.iinc 4 1, 3) := by decide +kernel
theorem dX7_topple_71 : decode cX7_topple 71 = .ok (.goto (-15), 3) := by decide +kernel
theorem dX7_topple_74 : decode cX7_topple 74 = .ok (.aload_n 0, 1) := by decide +kernel
theorem dX7_topple_75 : decode cX7_topple 75 = .ok (.iload_n 1, 1) := by decide +kernel
theorem dX7_topple_76 : decode cX7_topple 76 = .ok (.invokevirtual 114, 3) := by decide +kernel
theorem dX7_topple_79 : decode cX7_topple 79 = .ok (.ifCond .le 5, 3) := by decide +kernel
theorem dX7_topple_82 : decode cX7_topple 82 = .ok (.iload_n 3, 1) := by decide +kernel
theorem dX7_topple_83 : decode cX7_topple 83 = .ok (.ireturn, 1) := by decide +kernel
theorem dX7_topple_84 : decode cX7_topple 84 = .ok (.iinc 3 1, 3) := by decide +kernel
theorem dX7_topple_87 : decode cX7_topple 87 = .ok (.goto (-65), 3) := by decide +kernel
theorem dX7_topple_90 : decode cX7_topple 90 = .ok (.bipush (-4), 2) := by decide +kernel
theorem dX7_topple_92 : decode cX7_topple 92 = .ok (.ireturn, 1) := by decide +kernel
theorem dX7_governsWith_0 : decode cX7_governsWith 0 = .ok (.aload_n 0, 1) := by decide +kernel
theorem dX7_governsWith_1 : decode cX7_governsWith 1 = .ok (.invokevirtual 136, 3) := by decide +kernel
theorem dX7_governsWith_4 : decode cX7_governsWith 4 = .ok (.aload_n 0, 1) := by decide +kernel
theorem dX7_governsWith_5 : decode cX7_governsWith 5 = .ok (.getfield 25, 3) := by decide +kernel
theorem dX7_governsWith_8 : decode cX7_governsWith 8 = .ok (.iconst 2, 1) := by decide +kernel
theorem dX7_governsWith_9 : decode cX7_governsWith 9 = .ok (.iload_n 3, 1) := by decide +kernel
theorem dX7_governsWith_10 : decode cX7_governsWith 10 = .ok (.iadd, 1) := by decide +kernel
theorem dX7_governsWith_11 : decode cX7_governsWith 11 = .ok (.dup2, 1) := by decide +kernel
theorem dX7_governsWith_12 : decode cX7_governsWith 12 = .ok (.iaload, 1) := by decide +kernel
theorem dX7_governsWith_13 : decode cX7_governsWith 13 = .ok (.iload 4, 2) := by decide +kernel
theorem dX7_governsWith_15 : decode cX7_governsWith 15 = .ok (.iadd, 1) := by decide +kernel
theorem dX7_governsWith_16 : decode cX7_governsWith 16 = .ok (.iastore, 1) := by decide +kernel
theorem dX7_governsWith_17 : decode cX7_governsWith 17 = .ok (.aload_n 0, 1) := by decide +kernel
theorem dX7_governsWith_18 : decode cX7_governsWith 18 = .ok (.iload_n 2, 1) := by decide +kernel
theorem dX7_governsWith_19 : decode cX7_governsWith 19 = .ok (.invokevirtual 147, 3) := by decide +kernel
theorem dX7_governsWith_22 : decode cX7_governsWith 22 = .ok (.aload_n 0, 1) := by decide +kernel
theorem dX7_governsWith_23 : decode cX7_governsWith 23 = .ok (.invokevirtual 125, 3) := by decide +kernel
theorem dX7_governsWith_26 : decode cX7_governsWith 26 = .ok (.iload_n 1, 1) := by decide +kernel
theorem dX7_governsWith_27 : decode cX7_governsWith 27 = .ok (.if_icmp .ne 7, 3) := by decide +kernel
theorem dX7_governsWith_30 : decode cX7_governsWith 30 = .ok (.iconst 1, 1) := by decide +kernel
theorem dX7_governsWith_31 : decode cX7_governsWith 31 = .ok (.goto 4, 3) := by decide +kernel
theorem dX7_governsWith_34 : decode cX7_governsWith 34 = .ok (.iconst 0, 1) := by decide +kernel
theorem dX7_governsWith_35 : decode cX7_governsWith 35 = .ok (.ireturn, 1) := by decide +kernel
theorem dX7_plot_0 : decode cX7_plot 0 = .ok (.aload_n 0, 1) := by decide +kernel
theorem dX7_plot_1 : decode cX7_plot 1 = .ok (.iload_n 1, 1) := by decide +kernel
theorem dX7_plot_2 : decode cX7_plot 2 = .ok (.invokevirtual 131, 3) := by decide +kernel
theorem dX7_plot_5 : decode cX7_plot 5 = .ok (.ifCond .eq 25, 3) := by decide +kernel
theorem dX7_plot_8 : decode cX7_plot 8 = .ok (.iload_n 2, 1) := by decide +kernel
theorem dX7_plot_9 : decode cX7_plot 9 = .ok (.i2l, 1) := by decide +kernel
theorem dX7_plot_10 : decode cX7_plot 10 = .ok (.lconst 1, 1) := by decide +kernel
theorem dX7_plot_11 : decode cX7_plot 11 = .ok (.ldc2_w 153, 3) := by decide +kernel
theorem dX7_plot_14 : decode cX7_plot 14 = .ok (.invokestatic 58, 3) := by decide +kernel
theorem dX7_plot_17 : decode cX7_plot 17 = .ok (.ifCond .eq 13, 3) := by decide +kernel
theorem dX7_plot_20 : decode cX7_plot 20 = .ok (.iload_n 3, 1) := by decide +kernel
theorem dX7_plot_21 : decode cX7_plot 21 = .ok (.i2l, 1) := by decide +kernel
theorem dX7_plot_22 : decode cX7_plot 22 = .ok (.lconst 0, 1) := by decide +kernel
theorem dX7_plot_23 : decode cX7_plot 23 = .ok (.lconst 1, 1) := by decide +kernel
theorem dX7_plot_24 : decode cX7_plot 24 = .ok (.invokestatic 58, 3) := by decide +kernel
theorem dX7_plot_27 : decode cX7_plot 27 = .ok (.ifCond .ne 5, 3) := by decide +kernel
theorem dX7_plot_30 : decode cX7_plot 30 = .ok (.iconst (-1), 1) := by decide +kernel
theorem dX7_plot_31 : decode cX7_plot 31 = .ok (.ireturn, 1) := by decide +kernel
theorem dX7_plot_32 : decode cX7_plot 32 = .ok (.aload_n 0, 1) := by decide +kernel
theorem dX7_plot_33 : decode cX7_plot 33 = .ok (.iload_n 1, 1) := by decide +kernel
theorem dX7_plot_34 : decode cX7_plot 34 = .ok (.iload_n 2, 1) := by decide +kernel
theorem dX7_plot_35 : decode cX7_plot 35 = .ok (.iconst 0, 1) := by decide +kernel
theorem dX7_plot_36 : decode cX7_plot 36 = .ok (.iconst 0, 1) := by decide +kernel
theorem dX7_plot_37 : decode cX7_plot 37 = .ok (.invokevirtual 155, 3) := by decide +kernel
theorem dX7_plot_40 : decode cX7_plot 40 = .ok (.ifCond .eq 14, 3) := by decide +kernel
theorem dX7_plot_43 : decode cX7_plot 43 = .ok (.iload_n 3, 1) := by decide +kernel
theorem dX7_plot_44 : decode cX7_plot 44 = .ok (.ifCond .ne 7, 3) := by decide +kernel
theorem dX7_plot_47 : decode cX7_plot 47 = .ok (.iconst 0, 1) := by decide +kernel
theorem dX7_plot_48 : decode cX7_plot 48 = .ok (.goto 5, 3) := by decide +kernel
theorem dX7_plot_51 : decode cX7_plot 51 = .ok (.bipush (-4), 2) := by decide +kernel
theorem dX7_plot_53 : decode cX7_plot 53 = .ok (.ireturn, 1) := by decide +kernel
theorem dX7_plot_54 : decode cX7_plot 54 = .ok (.iconst 1, 1) := by decide +kernel
theorem dX7_plot_55 : decode cX7_plot 55 = .ok (.istore 4, 2) := by decide +kernel
theorem dX7_plot_57 : decode cX7_plot 57 = .ok (.iload 4, 2) := by decide +kernel
theorem dX7_plot_59 : decode cX7_plot 59 = .ok (.bipush 10, 2) := by decide +kernel
theorem dX7_plot_61 : decode cX7_plot 61 = .ok (.if_icmp .ge 71, 3) := by decide +kernel
theorem dX7_plot_64 : decode cX7_plot 64 = .ok (.iconst 0, 1) := by decide +kernel
theorem dX7_plot_65 : decode cX7_plot 65 = .ok (.istore 5, 2) := by decide +kernel
theorem dX7_plot_67 : decode cX7_plot 67 = .ok (.iload 5, 2) := by decide +kernel
theorem dX7_plot_69 : decode cX7_plot 69 = .ok (.aload_n 0, 1) := by decide +kernel
theorem dX7_plot_70 : decode cX7_plot 70 = .ok (.getfield 13, 3) := by decide +kernel
theorem dX7_plot_73 : decode cX7_plot 73 = .ok (.iconst 0, 1) := by decide +kernel
theorem dX7_plot_74 : decode cX7_plot 74 = .ok (.iaload, 1) := by decide +kernel
theorem dX7_plot_75 : decode cX7_plot 75 = .ok (.if_icmp .ge 51, 3) := by decide +kernel
theorem dX7_plot_78 : decode cX7_plot 78 = .ok (.aload_n 0, 1) := by decide +kernel
theorem dX7_plot_79 : decode cX7_plot 79 = .ok (.getfield 19, 3) := by decide +kernel
theorem dX7_plot_82 : decode cX7_plot 82 = .ok (.iconst 2, 1) := by decide +kernel
theorem dX7_plot_83 : decode cX7_plot 83 = .ok (.iload 5, 2) := by decide +kernel
theorem dX7_plot_85 : decode cX7_plot 85 = .ok (.iadd, 1) := by decide +kernel
theorem dX7_plot_86 : decode cX7_plot 86 = .ok (.iaload, 1) := by decide +kernel
theorem dX7_plot_87 : decode cX7_plot 87 = .ok (.iload 4, 2) := by decide +kernel
theorem dX7_plot_89 : decode cX7_plot 89 = .ok (.iadd, 1) := by decide +kernel
theorem dX7_plot_90 : decode cX7_plot 90 = .ok (.bipush 10, 2) := by decide +kernel
theorem dX7_plot_92 : decode cX7_plot 92 = .ok (.if_icmp .ge 28, 3) := by decide +kernel
theorem dX7_plot_95 : decode cX7_plot 95 = .ok (.aload_n 0, 1) := by decide +kernel
theorem dX7_plot_96 : decode cX7_plot 96 = .ok (.iload_n 1, 1) := by decide +kernel
theorem dX7_plot_97 : decode cX7_plot 97 = .ok (.iload_n 2, 1) := by decide +kernel
theorem dX7_plot_98 : decode cX7_plot 98 = .ok (.iload 5, 2) := by decide +kernel
theorem dX7_plot_100 : decode cX7_plot 100 = .ok (.iload 4, 2) := by decide +kernel
theorem dX7_plot_102 : decode cX7_plot 102 = .ok (.invokevirtual 155, 3) := by decide +kernel
theorem dX7_plot_105 : decode cX7_plot 105 = .ok (.ifCond .eq 15, 3) := by decide +kernel
theorem dX7_plot_108 : decode cX7_plot 108 = .ok (.iload_n 3, 1) := by decide +kernel
theorem dX7_plot_109 : decode cX7_plot 109 = .ok (.ifCond .ne 8, 3) := by decide +kernel
theorem dX7_plot_112 : decode cX7_plot 112 = .ok (.iload 4, 2) := by decide +kernel
theorem dX7_plot_114 : decode cX7_plot 114 = .ok (.goto 5, 3) := by decide +kernel
theorem dX7_plot_117 : decode cX7_plot 117 = .ok (.iload 5, 2) := by decide +kernel
theorem dX7_plot_119 : decode cX7_plot 119 = .ok (.ireturn, 1) := by decide +kernel
theorem dX7_plot_120 : decode cX7_plot 120 = .ok (.iinc 5 1, 3) := by decide +kernel
theorem dX7_plot_123 : decode cX7_plot 123 = .ok (.goto (-56), 3) := by decide +kernel
theorem dX7_plot_126 : decode cX7_plot 126 = .ok (.iinc 4 1, 3) := by decide +kernel
theorem dX7_plot_129 : decode cX7_plot 129 = .ok (.goto (-72), 3) := by decide +kernel
theorem dX7_plot_132 : decode cX7_plot 132 = .ok (.bipush (-4), 2) := by decide +kernel
theorem dX7_plot_134 : decode cX7_plot 134 = .ok (.ireturn, 1) := by decide +kernel
theorem dX7_holds_0 : decode cX7_holds 0 = .ok (.aload_n 0, 1) := by decide +kernel
theorem dX7_holds_1 : decode cX7_holds 1 = .ok (.invokevirtual 136, 3) := by decide +kernel
theorem dX7_holds_4 : decode cX7_holds 4 = .ok (.aload_n 0, 1) := by decide +kernel
theorem dX7_holds_5 : decode cX7_holds 5 = .ok (.invokevirtual 125, 3) := by decide +kernel
theorem dX7_holds_8 : decode cX7_holds 8 = .ok (.istore 4, 2) := by decide +kernel
theorem dX7_holds_10 : decode cX7_holds 10 = .ok (.aload_n 0, 1) := by decide +kernel
theorem dX7_holds_11 : decode cX7_holds 11 = .ok (.getfield 25, 3) := by decide +kernel
theorem dX7_holds_14 : decode cX7_holds 14 = .ok (.iconst 2, 1) := by decide +kernel
theorem dX7_holds_15 : decode cX7_holds 15 = .ok (.iload_n 2, 1) := by decide +kernel
theorem dX7_holds_16 : decode cX7_holds 16 = .ok (.iadd, 1) := by decide +kernel
theorem dX7_holds_17 : decode cX7_holds 17 = .ok (.iaload, 1) := by decide +kernel
theorem dX7_holds_18 : decode cX7_holds 18 = .ok (.iconst 2, 1) := by decide +kernel
theorem dX7_holds_19 : decode cX7_holds 19 = .ok (.iload_n 3, 1) := by decide +kernel
theorem dX7_holds_20 : decode cX7_holds 20 = .ok (.imul, 1) := by decide +kernel
theorem dX7_holds_21 : decode cX7_holds 21 = .ok (.isub, 1) := by decide +kernel
theorem dX7_holds_22 : decode cX7_holds 22 = .ok (.istore 5, 2) := by decide +kernel
theorem dX7_holds_24 : decode cX7_holds 24 = .ok (.aload_n 0, 1) := by decide +kernel
theorem dX7_holds_25 : decode cX7_holds 25 = .ok (.getfield 25, 3) := by decide +kernel
theorem dX7_holds_28 : decode cX7_holds 28 = .ok (.iconst 2, 1) := by decide +kernel
theorem dX7_holds_29 : decode cX7_holds 29 = .ok (.iload_n 2, 1) := by decide +kernel
theorem dX7_holds_30 : decode cX7_holds 30 = .ok (.iadd, 1) := by decide +kernel
theorem dX7_holds_31 : decode cX7_holds 31 = .ok (.iload 5, 2) := by decide +kernel
theorem dX7_holds_33 : decode cX7_holds 33 = .ok (.ifCond .le 8, 3) := by decide +kernel
theorem dX7_holds_36 : decode cX7_holds 36 = .ok (.iload 5, 2) := by decide +kernel
theorem dX7_holds_38 : decode cX7_holds 38 = .ok (.goto 4, 3) := by decide +kernel
theorem dX7_holds_41 : decode cX7_holds 41 = .ok (.iconst 0, 1) := by decide +kernel
theorem dX7_holds_42 : decode cX7_holds 42 = .ok (.iastore, 1) := by decide +kernel
theorem dX7_holds_43 : decode cX7_holds 43 = .ok (.iconst 1, 1) := by decide +kernel
theorem dX7_holds_44 : decode cX7_holds 44 = .ok (.istore 6, 2) := by decide +kernel
theorem dX7_holds_46 : decode cX7_holds 46 = .ok (.iconst 0, 1) := by decide +kernel
theorem dX7_holds_47 : decode cX7_holds 47 = .ok (.istore 7, 2) := by decide +kernel
theorem dX7_holds_49 : decode cX7_holds 49 = .ok (.iload 7, 2) := by decide +kernel
theorem dX7_holds_51 : decode cX7_holds 51 = .ok (.iload_n 1, 1) := by decide +kernel
theorem dX7_holds_52 : decode cX7_holds 52 = .ok (.if_icmp .ge 34, 3) := by decide +kernel
theorem dX7_holds_55 : decode cX7_holds 55 = .ok (.aload_n 0, 1) := by decide +kernel
theorem dX7_holds_56 : decode cX7_holds 56 = .ok (.invokevirtual 128, 3) := by decide +kernel
theorem dX7_holds_59 : decode cX7_holds 59 = .ok (.iload 6, 2) := by decide +kernel
theorem dX7_holds_61 : decode cX7_holds 61 = .ok (.ifCond .eq 16, 3) := by decide +kernel
theorem dX7_holds_64 : decode cX7_holds 64 = .ok (.aload_n 0, 1) := by decide +kernel
theorem dX7_holds_65 : decode cX7_holds 65 = .ok (.invokevirtual 125, 3) := by decide +kernel
theorem dX7_holds_68 : decode cX7_holds 68 = .ok (.iload 4, 2) := by decide +kernel
theorem dX7_holds_70 : decode cX7_holds 70 = .ok (.if_icmp .ne 7, 3) := by decide +kernel
theorem dX7_holds_73 : decode cX7_holds 73 = .ok (.iconst 1, 1) := by decide +kernel
theorem dX7_holds_74 : decode cX7_holds 74 = .ok (.goto 4, 3) := by decide +kernel
theorem dX7_holds_77 : decode cX7_holds 77 = .ok (.iconst 0, 1) := by decide +kernel
theorem dX7_holds_78 : decode cX7_holds 78 = .ok (.istore 6, 2) := by decide +kernel
theorem dX7_holds_80 : decode cX7_holds 80 = .ok (.iinc 7 1, 3) := by decide +kernel
theorem dX7_holds_83 : decode cX7_holds 83 = .ok (.goto (-34), 3) := by decide +kernel
theorem dX7_holds_86 : decode cX7_holds 86 = .ok (.iload 6, 2) := by decide +kernel
theorem dX7_holds_88 : decode cX7_holds 88 = .ok (.ireturn, 1) := by decide +kernel
theorem dX7_hold_0 : decode cX7_hold 0 = .ok (.iload_n 1, 1) := by decide +kernel
theorem dX7_hold_1 : decode cX7_hold 1 = .ok (.i2l, 1) := by decide +kernel
theorem dX7_hold_2 : decode cX7_hold 2 = .ok (.lconst 1, 1) := by decide +kernel
theorem dX7_hold_3 : decode cX7_hold 3 = .ok (.ldc2_w 153, 3) := by decide +kernel
theorem dX7_hold_6 : decode cX7_hold 6 = .ok (.invokestatic 58, 3) := by decide +kernel
theorem dX7_hold_9 : decode cX7_hold 9 = .ok (.ifCond .eq 13, 3) := by decide +kernel
theorem dX7_hold_12 : decode cX7_hold 12 = .ok (.iload_n 2, 1) := by decide +kernel
theorem dX7_hold_13 : decode cX7_hold 13 = .ok (.i2l, 1) := by decide +kernel
theorem dX7_hold_14 : decode cX7_hold 14 = .ok (.lconst 0, 1) := by decide +kernel
theorem dX7_hold_15 : decode cX7_hold 15 = .ok (.lconst 1, 1) := by decide +kernel
theorem dX7_hold_16 : decode cX7_hold 16 = .ok (.invokestatic 58, 3) := by decide +kernel
theorem dX7_hold_19 : decode cX7_hold 19 = .ok (.ifCond .ne 5, 3) := by decide +kernel
theorem dX7_hold_22 : decode cX7_hold 22 = .ok (.iconst (-1), 1) := by decide +kernel
theorem dX7_hold_23 : decode cX7_hold 23 = .ok (.ireturn, 1) := by decide +kernel
theorem dX7_hold_24 : decode cX7_hold 24 = .ok (.aload_n 0, 1) := by decide +kernel
theorem dX7_hold_25 : decode cX7_hold 25 = .ok (.iload_n 1, 1) := by decide +kernel
theorem dX7_hold_26 : decode cX7_hold 26 = .ok (.iconst 0, 1) := by decide +kernel
theorem dX7_hold_27 : decode cX7_hold 27 = .ok (.iconst 0, 1) := by decide +kernel
theorem dX7_hold_28 : decode cX7_hold 28 = .ok (.invokevirtual 159, 3) := by decide +kernel
theorem dX7_hold_31 : decode cX7_hold 31 = .ok (.ifCond .eq 14, 3) := by decide +kernel
theorem dX7_hold_34 : decode cX7_hold 34 = .ok (.iload_n 2, 1) := by decide +kernel
theorem dX7_hold_35 : decode cX7_hold 35 = .ok (.ifCond .ne 7, 3) := by decide +kernel
theorem dX7_hold_38 : decode cX7_hold 38 = .ok (.iconst 0, 1) := by decide +kernel
theorem dX7_hold_39 : decode cX7_hold 39 = .ok (.goto 5, 3) := by decide +kernel
theorem dX7_hold_42 : decode cX7_hold 42 = .ok (.bipush (-4), 2) := by decide +kernel
theorem dX7_hold_44 : decode cX7_hold 44 = .ok (.ireturn, 1) := by decide +kernel
theorem dX7_hold_45 : decode cX7_hold 45 = .ok (.iconst 1, 1) := by decide +kernel
theorem dX7_hold_46 : decode cX7_hold 46 = .ok (.istore_n 3, 1) := by decide +kernel
theorem dX7_hold_47 : decode cX7_hold 47 = .ok (.iload_n 3, 1) := by decide +kernel
theorem dX7_hold_48 : decode cX7_hold 48 = .ok (.bipush 6, 2) := by decide +kernel
theorem dX7_hold_50 : decode cX7_hold 50 = .ok (.if_icmp .ge 51, 3) := by decide +kernel
theorem dX7_hold_53 : decode cX7_hold 53 = .ok (.iconst 0, 1) := by decide +kernel
theorem dX7_hold_54 : decode cX7_hold 54 = .ok (.istore 4, 2) := by decide +kernel
theorem dX7_hold_56 : decode cX7_hold 56 = .ok (.iload 4, 2) := by decide +kernel
theorem dX7_hold_58 : decode cX7_hold 58 = .ok (.aload_n 0, 1) := by decide +kernel
theorem dX7_hold_59 : decode cX7_hold 59 = .ok (.getfield 13, 3) := by decide +kernel
theorem dX7_hold_62 : decode cX7_hold 62 = .ok (.iconst 0, 1) := by decide +kernel
theorem dX7_hold_63 : decode cX7_hold 63 = .ok (.iaload, 1) := by decide +kernel
theorem dX7_hold_64 : decode cX7_hold 64 = .ok (.if_icmp .ge 31, 3) := by decide +kernel
theorem dX7_hold_67 : decode cX7_hold 67 = .ok (.aload_n 0, 1) := by decide +kernel
theorem dX7_hold_68 : decode cX7_hold 68 = .ok (.iload_n 1, 1) := by decide +kernel
theorem dX7_hold_69 : decode cX7_hold 69 = .ok (.iload 4, 2) := by decide +kernel
theorem dX7_hold_71 : decode cX7_hold 71 = .ok (.iload_n 3, 1) := by decide +kernel
theorem dX7_hold_72 : decode cX7_hold 72 = .ok (.invokevirtual 159, 3) := by decide +kernel
theorem dX7_hold_75 : decode cX7_hold 75 = .ok (.ifCond .eq 14, 3) := by decide +kernel
theorem dX7_hold_78 : decode cX7_hold 78 = .ok (.iload_n 2, 1) := by decide +kernel
theorem dX7_hold_79 : decode cX7_hold 79 = .ok (.ifCond .ne 7, 3) := by decide +kernel
theorem dX7_hold_82 : decode cX7_hold 82 = .ok (.iload_n 3, 1) := by decide +kernel
theorem dX7_hold_83 : decode cX7_hold 83 = .ok (.goto 5, 3) := by decide +kernel
theorem dX7_hold_86 : decode cX7_hold 86 = .ok (.iload 4, 2) := by decide +kernel
theorem dX7_hold_88 : decode cX7_hold 88 = .ok (.ireturn, 1) := by decide +kernel
theorem dX7_hold_89 : decode cX7_hold 89 = .ok (.iinc 4 1, 3) := by decide +kernel
theorem dX7_hold_92 : decode cX7_hold 92 = .ok (.goto (-36), 3) := by decide +kernel
theorem dX7_hold_95 : decode cX7_hold 95 = .ok (.iinc 3 1, 3) := by decide +kernel
theorem dX7_hold_98 : decode cX7_hold 98 = .ok (.goto (-51), 3) := by decide +kernel
theorem dX7_hold_101 : decode cX7_hold 101 = .ok (.bipush (-4), 2) := by decide +kernel
theorem dX7_hold_103 : decode cX7_hold 103 = .ok (.ireturn, 1) := by decide +kernel
theorem dX7_weight_0 : decode cX7_weight 0 = .ok (.iconst 0, 1) := by decide +kernel
theorem dX7_weight_1 : decode cX7_weight 1 = .ok (.istore_n 2, 1) := by decide +kernel
theorem dX7_weight_2 : decode cX7_weight 2 = .ok (.iconst 0, 1) := by decide +kernel
theorem dX7_weight_3 : decode cX7_weight 3 = .ok (.istore_n 3, 1) := by decide +kernel
theorem dX7_weight_4 : decode cX7_weight 4 = .ok (.iload_n 3, 1) := by decide +kernel
theorem dX7_weight_5 : decode cX7_weight 5 = .ok (.aload_n 0, 1) := by decide +kernel
theorem dX7_weight_6 : decode cX7_weight 6 = .ok (.getfield 13, 3) := by decide +kernel
theorem dX7_weight_9 : decode cX7_weight 9 = .ok (.iconst 3, 1) := by decide +kernel
theorem dX7_weight_10 : decode cX7_weight 10 = .ok (.iaload, 1) := by decide +kernel
theorem dX7_weight_11 : decode cX7_weight 11 = .ok (.if_icmp .ge 35, 3) := by decide +kernel
theorem dX7_weight_14 : decode cX7_weight 14 = .ok (.iload_n 2, 1) := by decide +kernel
theorem dX7_weight_15 : decode cX7_weight 15 = .ok (.iload_n 1, 1) := by decide +kernel
theorem dX7_weight_16 : decode cX7_weight 16 = .ok (.iload_n 3, 1) := by decide +kernel
theorem dX7_weight_17 : decode cX7_weight 17 = .ok (.invokestatic 107, 3) := by decide +kernel
theorem dX7_weight_20 : decode cX7_weight 20 = .ok (.ifCond .eq 17, 3) := by decide +kernel
theorem dX7_weight_23 : decode cX7_weight 23 = .ok (.aload_n 0, 1) := by decide +kernel
theorem dX7_weight_24 : decode cX7_weight 24 = .ok (.getfield 19, 3) := by decide +kernel
theorem dX7_weight_27 : decode cX7_weight 27 = .ok (.bipush 18, 2) := by decide +kernel
theorem dX7_weight_29 : decode cX7_weight 29 = .ok (.iload_n 3, 1) := by decide +kernel
theorem dX7_weight_30 : decode cX7_weight 30 = .ok (.iadd, 1) := by decide +kernel
theorem dX7_weight_31 : decode cX7_weight 31 = .ok (.iaload, 1) := by decide +kernel
theorem dX7_weight_32 : decode cX7_weight 32 = .ok (.iconst 1, 1) := by decide +kernel
theorem dX7_weight_33 : decode cX7_weight 33 = .ok (.iadd, 1) := by decide +kernel
theorem dX7_weight_34 : decode cX7_weight 34 = .ok (.goto 4, 3) := by decide +kernel
theorem dX7_weight_37 : decode cX7_weight 37 = .ok (.iconst 0, 1) := by decide +kernel
theorem dX7_weight_38 : decode cX7_weight 38 = .ok (.iadd, 1) := by decide +kernel
theorem dX7_weight_39 : decode cX7_weight 39 = .ok (.istore_n 2, 1) := by decide +kernel
theorem dX7_weight_40 : decode cX7_weight 40 = .ok (.iinc 3 1, 3) := by decide +kernel
theorem dX7_weight_43 : decode cX7_weight 43 = .ok (.goto (-39), 3) := by decide +kernel
theorem dX7_weight_46 : decode cX7_weight 46 = .ok (.iload_n 2, 1) := by decide +kernel
theorem dX7_weight_47 : decode cX7_weight 47 = .ok (.ireturn, 1) := by decide +kernel
theorem dX7_cabinet_0 : decode cX7_cabinet 0 = .ok (.iload_n 1, 1) := by decide +kernel
theorem dX7_cabinet_1 : decode cX7_cabinet 1 = .ok (.i2l, 1) := by decide +kernel
theorem dX7_cabinet_2 : decode cX7_cabinet 2 = .ok (.lconst 0, 1) := by decide +kernel
theorem dX7_cabinet_3 : decode cX7_cabinet 3 = .ok (.lconst 1, 1) := by decide +kernel
theorem dX7_cabinet_4 : decode cX7_cabinet 4 = .ok (.invokestatic 58, 3) := by decide +kernel
theorem dX7_cabinet_7 : decode cX7_cabinet 7 = .ok (.ifCond .ne 5, 3) := by decide +kernel
theorem dX7_cabinet_10 : decode cX7_cabinet 10 = .ok (.iconst (-1), 1) := by decide +kernel
theorem dX7_cabinet_11 : decode cX7_cabinet 11 = .ok (.ireturn, 1) := by decide +kernel
theorem dX7_cabinet_12 : decode cX7_cabinet 12 = .ok (.iconst 1, 1) := by decide +kernel
theorem dX7_cabinet_13 : decode cX7_cabinet 13 = .ok (.aload_n 0, 1) := by decide +kernel
theorem dX7_cabinet_14 : decode cX7_cabinet 14 = .ok (.getfield 13, 3) := by decide +kernel
theorem dX7_cabinet_17 : decode cX7_cabinet 17 = .ok (.iconst 3, 1) := by decide +kernel
theorem dX7_cabinet_18 : decode cX7_cabinet 18 = .ok (.iaload, 1) := by decide +kernel
theorem dX7_cabinet_19 : decode cX7_cabinet 19 = .ok (.ishl, 1) := by decide +kernel
theorem dX7_cabinet_20 : decode cX7_cabinet 20 = .ok (.iconst 1, 1) := by decide +kernel
theorem dX7_cabinet_21 : decode cX7_cabinet 21 = .ok (.isub, 1) := by decide +kernel
theorem dX7_cabinet_22 : decode cX7_cabinet 22 = .ok (.istore_n 2, 1) := by decide +kernel
theorem dX7_cabinet_23 : decode cX7_cabinet 23 = .ok (.iload_n 2, 1) := by decide +kernel
theorem dX7_cabinet_24 : decode cX7_cabinet 24 = .ok (.istore_n 3, 1) := by decide +kernel
theorem dX7_cabinet_25 : decode cX7_cabinet 25 = .ok (.iconst 1, 1) := by decide +kernel
theorem dX7_cabinet_26 : decode cX7_cabinet 26 = .ok (.istore 4, 2) := by decide +kernel
theorem dX7_cabinet_28 : decode cX7_cabinet 28 = .ok (.iload 4, 2) := by decide +kernel
theorem dX7_cabinet_30 : decode cX7_cabinet 30 = .ok (.iload_n 2, 1) := by decide +kernel
theorem dX7_cabinet_31 : decode cX7_cabinet 31 = .ok (.if_icmp .ge 44, 3) := by decide +kernel
theorem dX7_cabinet_34 : decode cX7_cabinet 34 = .ok (.iload 4, 2) := by decide +kernel
theorem dX7_cabinet_36 : decode cX7_cabinet 36 = .ok (.invokestatic 163, 3) := by decide +kernel
theorem dX7_cabinet_39 : decode cX7_cabinet 39 = .ok (.iload_n 3, 1) := by decide +kernel
theorem dX7_cabinet_40 : decode cX7_cabinet 40 = .ok (.invokestatic 163, 3) := by decide +kernel
theorem dX7_cabinet_43 : decode cX7_cabinet 43 = .ok (.if_icmp .ge 24, 3) := by decide +kernel
theorem dX7_cabinet_46 : decode cX7_cabinet 46 = .ok (.iconst 2, 1) := by decide +kernel
theorem dX7_cabinet_47 : decode cX7_cabinet 47 = .ok (.aload_n 0, 1) := by decide +kernel
theorem dX7_cabinet_48 : decode cX7_cabinet 48 = .ok (.iload 4, 2) := by decide +kernel
theorem dX7_cabinet_50 : decode cX7_cabinet 50 = .ok (.invokevirtual 166, 3) := by decide +kernel
theorem dX7_cabinet_53 : decode cX7_cabinet 53 = .ok (.imul, 1) := by decide +kernel
theorem dX7_cabinet_54 : decode cX7_cabinet 54 = .ok (.aload_n 0, 1) := by decide +kernel
theorem dX7_cabinet_55 : decode cX7_cabinet 55 = .ok (.iload_n 2, 1) := by decide +kernel
theorem dX7_cabinet_56 : decode cX7_cabinet 56 = .ok (.invokevirtual 166, 3) := by decide +kernel
theorem dX7_cabinet_59 : decode cX7_cabinet 59 = .ok (.if_icmp .le 8, 3) := by decide +kernel
theorem dX7_cabinet_62 : decode cX7_cabinet 62 = .ok (.iload 4, 2) := by decide +kernel
theorem dX7_cabinet_64 : decode cX7_cabinet 64 = .ok (.goto 4, 3) := by decide +kernel
theorem dX7_cabinet_67 : decode cX7_cabinet 67 = .ok (.iload_n 3, 1) := by decide +kernel
theorem dX7_cabinet_68 : decode cX7_cabinet 68 = .ok (.istore_n 3, 1) := by decide +kernel
theorem dX7_cabinet_69 : decode cX7_cabinet 69 = .ok (.iinc 4 1, 3) := by decide +kernel
theorem dX7_cabinet_72 : decode cX7_cabinet 72 = .ok (.goto (-44), 3) := by decide +kernel
theorem dX7_cabinet_75 : decode cX7_cabinet 75 = .ok (.iload_n 1, 1) := by decide +kernel
theorem dX7_cabinet_76 : decode cX7_cabinet 76 = .ok (.ifCond .ne 10, 3) := by decide +kernel
theorem dX7_cabinet_79 : decode cX7_cabinet 79 = .ok (.iload_n 3, 1) := by decide +kernel
theorem dX7_cabinet_80 : decode cX7_cabinet 80 = .ok (.invokestatic 163, 3) := by decide +kernel
theorem dX7_cabinet_83 : decode cX7_cabinet 83 = .ok (.goto 4, 3) := by decide +kernel
theorem dX7_cabinet_86 : decode cX7_cabinet 86 = .ok (.iload_n 3, 1) := by decide +kernel
theorem dX7_cabinet_87 : decode cX7_cabinet 87 = .ok (.ireturn, 1) := by decide +kernel
theorem dX7_seen_0 : decode cX7_seen 0 = .ok (.aload_n 0, 1) := by decide +kernel
theorem dX7_seen_1 : decode cX7_seen 1 = .ok (.iload_n 1, 1) := by decide +kernel
theorem dX7_seen_2 : decode cX7_seen 2 = .ok (.invokevirtual 131, 3) := by decide +kernel
theorem dX7_seen_5 : decode cX7_seen 5 = .ok (.ifCond .eq 11, 3) := by decide +kernel
theorem dX7_seen_8 : decode cX7_seen 8 = .ok (.aload_n 0, 1) := by decide +kernel
theorem dX7_seen_9 : decode cX7_seen 9 = .ok (.iload_n 2, 1) := by decide +kernel
theorem dX7_seen_10 : decode cX7_seen 10 = .ok (.invokevirtual 139, 3) := by decide +kernel
theorem dX7_seen_13 : decode cX7_seen 13 = .ok (.ifCond .ne 5, 3) := by decide +kernel
theorem dX7_seen_16 : decode cX7_seen 16 = .ok (.iconst (-1), 1) := by decide +kernel
theorem dX7_seen_17 : decode cX7_seen 17 = .ok (.ireturn, 1) := by decide +kernel
theorem dX7_seen_18 : decode cX7_seen 18 = .ok (.aload_n 0, 1) := by decide +kernel
theorem dX7_seen_19 : decode cX7_seen 19 = .ok (.getfield 98, 3) := by decide +kernel
theorem dX7_seen_22 : decode cX7_seen 22 = .ok (.bipush 6, 2) := by decide +kernel
theorem dX7_seen_24 : decode cX7_seen 24 = .ok (.if_icmp .ne 6, 3) := by decide +kernel
theorem dX7_seen_27 : decode cX7_seen 27 = .ok (.bipush (-3), 2) := by decide +kernel
theorem dX7_seen_29 : decode cX7_seen 29 = .ok (.ireturn, 1) := by decide +kernel
theorem dX7_seen_30 : decode cX7_seen 30 = .ok (.aload_n 0, 1) := by decide +kernel
theorem dX7_seen_31 : decode cX7_seen 31 = .ok (.getfield 34, 3) := by decide +kernel
theorem dX7_seen_34 : decode cX7_seen 34 = .ok (.iconst 2, 1) := by decide +kernel
theorem dX7_seen_35 : decode cX7_seen 35 = .ok (.aload_n 0, 1) := by decide +kernel
theorem dX7_seen_36 : decode cX7_seen 36 = .ok (.getfield 98, 3) := by decide +kernel
theorem dX7_seen_39 : decode cX7_seen 39 = .ok (.imul, 1) := by decide +kernel
theorem dX7_seen_40 : decode cX7_seen 40 = .ok (.iload_n 1, 1) := by decide +kernel
theorem dX7_seen_41 : decode cX7_seen 41 = .ok (.iastore, 1) := by decide +kernel
theorem dX7_seen_42 : decode cX7_seen 42 = .ok (.aload_n 0, 1) := by decide +kernel
theorem dX7_seen_43 : decode cX7_seen 43 = .ok (.getfield 34, 3) := by decide +kernel
theorem dX7_seen_46 : decode cX7_seen 46 = .ok (.iconst 2, 1) := by decide +kernel
theorem dX7_seen_47 : decode cX7_seen 47 = .ok (.aload_n 0, 1) := by decide +kernel
theorem dX7_seen_48 : decode cX7_seen 48 = .ok (.getfield 98, 3) := by decide +kernel
theorem dX7_seen_51 : decode cX7_seen 51 = .ok (.imul, 1) := by decide +kernel
theorem dX7_seen_52 : decode cX7_seen 52 = .ok (.iconst 1, 1) := by decide +kernel
theorem dX7_seen_53 : decode cX7_seen 53 = .ok (.iadd, 1) := by decide +kernel
theorem dX7_seen_54 : decode cX7_seen 54 = .ok (.iload_n 2, 1) := by decide +kernel
theorem dX7_seen_55 : decode cX7_seen 55 = .ok (.iastore, 1) := by decide +kernel
theorem dX7_seen_56 : decode cX7_seen 56 = .ok (.aload_n 0, 1) := by decide +kernel
theorem dX7_seen_57 : decode cX7_seen 57 = .ok (.dup, 1) := by decide +kernel
theorem dX7_seen_58 : decode cX7_seen 58 = .ok (.getfield 98, 3) := by decide +kernel
theorem dX7_seen_61 : decode cX7_seen 61 = .ok (.iconst 1, 1) := by decide +kernel
theorem dX7_seen_62 : decode cX7_seen 62 = .ok (.iadd, 1) := by decide +kernel
theorem dX7_seen_63 : decode cX7_seen 63 = .ok (.putfield 98, 3) := by decide +kernel
theorem dX7_seen_66 : decode cX7_seen 66 = .ok (.aload_n 0, 1) := by decide +kernel
theorem dX7_seen_67 : decode cX7_seen 67 = .ok (.getfield 98, 3) := by decide +kernel
theorem dX7_seen_70 : decode cX7_seen 70 = .ok (.ireturn, 1) := by decide +kernel
theorem dX7_forget_0 : decode cX7_forget 0 = .ok (.aload_n 0, 1) := by decide +kernel
theorem dX7_forget_1 : decode cX7_forget 1 = .ok (.getfield 98, 3) := by decide +kernel
theorem dX7_forget_4 : decode cX7_forget 4 = .ok (.istore_n 1, 1) := by decide +kernel
theorem dX7_forget_5 : decode cX7_forget 5 = .ok (.aload_n 0, 1) := by decide +kernel
theorem dX7_forget_6 : decode cX7_forget 6 = .ok (.iconst 0, 1) := by decide +kernel
theorem dX7_forget_7 : decode cX7_forget 7 = .ok (.putfield 98, 3) := by decide +kernel
theorem dX7_forget_10 : decode cX7_forget 10 = .ok (.iload_n 1, 1) := by decide +kernel
theorem dX7_forget_11 : decode cX7_forget 11 = .ok (.ireturn, 1) := by decide +kernel
theorem dX7_isSeen_0 : decode cX7_isSeen 0 = .ok (.aload_n 0, 1) := by decide +kernel
theorem dX7_isSeen_1 : decode cX7_isSeen 1 = .ok (.invokevirtual 128, 3) := by decide +kernel
theorem dX7_isSeen_4 : decode cX7_isSeen 4 = .ok (.iconst 1, 1) := by decide +kernel
theorem dX7_isSeen_5 : decode cX7_isSeen 5 = .ok (.istore_n 1, 1) := by decide +kernel
theorem dX7_isSeen_6 : decode cX7_isSeen 6 = .ok (.iconst 0, 1) := by decide +kernel
theorem dX7_isSeen_7 : decode cX7_isSeen 7 = .ok (.istore_n 2, 1) := by decide +kernel
theorem dX7_isSeen_8 : decode cX7_isSeen 8 = .ok (.iload_n 2, 1) := by decide +kernel
theorem dX7_isSeen_9 : decode cX7_isSeen 9 = .ok (.aload_n 0, 1) := by decide +kernel
theorem dX7_isSeen_10 : decode cX7_isSeen 10 = .ok (.getfield 98, 3) := by decide +kernel
theorem dX7_isSeen_13 : decode cX7_isSeen 13 = .ok (.if_icmp .ge 48, 3) := by decide +kernel
theorem dX7_isSeen_16 : decode cX7_isSeen 16 = .ok (.iload_n 1, 1) := by decide +kernel
theorem dX7_isSeen_17 : decode cX7_isSeen 17 = .ok (.ifCond .eq 36, 3) := by decide +kernel
theorem dX7_isSeen_20 : decode cX7_isSeen 20 = .ok (.aload_n 0, 1) := by decide +kernel
theorem dX7_isSeen_21 : decode cX7_isSeen 21 = .ok (.getfield 25, 3) := by decide +kernel
theorem dX7_isSeen_24 : decode cX7_isSeen 24 = .ok (.bipush 18, 2) := by decide +kernel
theorem dX7_isSeen_26 : decode cX7_isSeen 26 = .ok (.aload_n 0, 1) := by decide +kernel
theorem dX7_isSeen_27 : decode cX7_isSeen 27 = .ok (.getfield 34, 3) := by decide +kernel
theorem dX7_isSeen_30 : decode cX7_isSeen 30 = .ok (.iconst 2, 1) := by decide +kernel
theorem dX7_isSeen_31 : decode cX7_isSeen 31 = .ok (.iload_n 2, 1) := by decide +kernel
theorem dX7_isSeen_32 : decode cX7_isSeen 32 = .ok (.imul, 1) := by decide +kernel
theorem dX7_isSeen_33 : decode cX7_isSeen 33 = .ok (.iaload, 1) := by decide +kernel
theorem dX7_isSeen_34 : decode cX7_isSeen 34 = .ok (.iadd, 1) := by decide +kernel
theorem dX7_isSeen_35 : decode cX7_isSeen 35 = .ok (.iaload, 1) := by decide +kernel
theorem dX7_isSeen_36 : decode cX7_isSeen 36 = .ok (.aload_n 0, 1) := by decide +kernel
theorem dX7_isSeen_37 : decode cX7_isSeen 37 = .ok (.getfield 34, 3) := by decide +kernel
theorem dX7_isSeen_40 : decode cX7_isSeen 40 = .ok (.iconst 2, 1) := by decide +kernel
theorem dX7_isSeen_41 : decode cX7_isSeen 41 = .ok (.iload_n 2, 1) := by decide +kernel
theorem dX7_isSeen_42 : decode cX7_isSeen 42 = .ok (.imul, 1) := by decide +kernel
theorem dX7_isSeen_43 : decode cX7_isSeen 43 = .ok (.iconst 1, 1) := by decide +kernel
theorem dX7_isSeen_44 : decode cX7_isSeen 44 = .ok (.iadd, 1) := by decide +kernel
theorem dX7_isSeen_45 : decode cX7_isSeen 45 = .ok (.iaload, 1) := by decide +kernel
theorem dX7_isSeen_46 : decode cX7_isSeen 46 = .ok (.if_icmp .ne 7, 3) := by decide +kernel
theorem dX7_isSeen_49 : decode cX7_isSeen 49 = .ok (.iconst 1, 1) := by decide +kernel
theorem dX7_isSeen_50 : decode cX7_isSeen 50 = .ok (.goto 4, 3) := by decide +kernel
theorem dX7_isSeen_53 : decode cX7_isSeen 53 = .ok (.iconst 0, 1) := by decide +kernel
theorem dX7_isSeen_54 : decode cX7_isSeen 54 = .ok (.istore_n 1, 1) := by decide +kernel
theorem dX7_isSeen_55 : decode cX7_isSeen 55 = .ok (.iinc 2 1, 3) := by decide +kernel
theorem dX7_isSeen_58 : decode cX7_isSeen 58 = .ok (.goto (-50), 3) := by decide +kernel
theorem dX7_isSeen_61 : decode cX7_isSeen 61 = .ok (.iload_n 1, 1) := by decide +kernel
theorem dX7_isSeen_62 : decode cX7_isSeen 62 = .ok (.ireturn, 1) := by decide +kernel
theorem dX7_waxes_0 : decode cX7_waxes 0 = .ok (.aload_n 0, 1) := by decide +kernel
theorem dX7_waxes_1 : decode cX7_waxes 1 = .ok (.iload_n 1, 1) := by decide +kernel
theorem dX7_waxes_2 : decode cX7_waxes 2 = .ok (.invokevirtual 139, 3) := by decide +kernel
theorem dX7_waxes_5 : decode cX7_waxes 5 = .ok (.ifCond .ne 5, 3) := by decide +kernel
theorem dX7_waxes_8 : decode cX7_waxes 8 = .ok (.iconst (-1), 1) := by decide +kernel
theorem dX7_waxes_9 : decode cX7_waxes 9 = .ok (.ireturn, 1) := by decide +kernel
theorem dX7_waxes_10 : decode cX7_waxes 10 = .ok (.iconst 0, 1) := by decide +kernel
theorem dX7_waxes_11 : decode cX7_waxes 11 = .ok (.istore_n 2, 1) := by decide +kernel
theorem dX7_waxes_12 : decode cX7_waxes 12 = .ok (.iconst 0, 1) := by decide +kernel
theorem dX7_waxes_13 : decode cX7_waxes 13 = .ok (.istore_n 3, 1) := by decide +kernel
theorem dX7_waxes_14 : decode cX7_waxes 14 = .ok (.iload_n 3, 1) := by decide +kernel
theorem dX7_waxes_15 : decode cX7_waxes 15 = .ok (.bipush 10, 2) := by decide +kernel
theorem dX7_waxes_17 : decode cX7_waxes 17 = .ok (.if_icmp .ge 39, 3) := by decide +kernel
theorem dX7_waxes_20 : decode cX7_waxes 20 = .ok (.aload_n 0, 1) := by decide +kernel
theorem dX7_waxes_21 : decode cX7_waxes 21 = .ok (.invokevirtual 136, 3) := by decide +kernel
theorem dX7_waxes_24 : decode cX7_waxes 24 = .ok (.aload_n 0, 1) := by decide +kernel
theorem dX7_waxes_25 : decode cX7_waxes 25 = .ok (.getfield 25, 3) := by decide +kernel
theorem dX7_waxes_28 : decode cX7_waxes 28 = .ok (.iconst 2, 1) := by decide +kernel
theorem dX7_waxes_29 : decode cX7_waxes 29 = .ok (.iload_n 1, 1) := by decide +kernel
theorem dX7_waxes_30 : decode cX7_waxes 30 = .ok (.iadd, 1) := by decide +kernel
theorem dX7_waxes_31 : decode cX7_waxes 31 = .ok (.iload_n 3, 1) := by decide +kernel
theorem dX7_waxes_32 : decode cX7_waxes 32 = .ok (.iastore, 1) := by decide +kernel
theorem dX7_waxes_33 : decode cX7_waxes 33 = .ok (.iload_n 2, 1) := by decide +kernel
theorem dX7_waxes_34 : decode cX7_waxes 34 = .ok (.aload_n 0, 1) := by decide +kernel
theorem dX7_waxes_35 : decode cX7_waxes 35 = .ok (.invokevirtual 169, 3) := by decide +kernel
theorem dX7_waxes_38 : decode cX7_waxes 38 = .ok (.ifCond .eq 9, 3) := by decide +kernel
theorem dX7_waxes_41 : decode cX7_waxes 41 = .ok (.iconst 1, 1) := by decide +kernel
theorem dX7_waxes_42 : decode cX7_waxes 42 = .ok (.iload_n 3, 1) := by decide +kernel
theorem dX7_waxes_43 : decode cX7_waxes 43 = .ok (.ishl, 1) := by decide +kernel
theorem dX7_waxes_44 : decode cX7_waxes 44 = .ok (.goto 4, 3) := by decide +kernel
theorem dX7_waxes_47 : decode cX7_waxes 47 = .ok (.iconst 0, 1) := by decide +kernel
theorem dX7_waxes_48 : decode cX7_waxes 48 = .ok (.ior, 1) := by decide +kernel
theorem dX7_waxes_49 : decode cX7_waxes 49 = .ok (.istore_n 2, 1) := by decide +kernel
theorem dX7_waxes_50 : decode cX7_waxes 50 = .ok (.iinc 3 1, 3) := by decide +kernel
theorem dX7_waxes_53 : decode cX7_waxes 53 = .ok (.goto (-39), 3) := by decide +kernel
theorem dX7_waxes_56 : decode cX7_waxes 56 = .ok (.iload_n 2, 1) := by decide +kernel
theorem dX7_waxes_57 : decode cX7_waxes 57 = .ok (.ireturn, 1) := by decide +kernel
theorem dX7_grips_0 : decode cX7_grips 0 = .ok (.aload_n 0, 1) := by decide +kernel
theorem dX7_grips_1 : decode cX7_grips 1 = .ok (.iload_n 1, 1) := by decide +kernel
theorem dX7_grips_2 : decode cX7_grips 2 = .ok (.invokevirtual 131, 3) := by decide +kernel
theorem dX7_grips_5 : decode cX7_grips 5 = .ok (.ifCond .ne 5, 3) := by decide +kernel
theorem dX7_grips_8 : decode cX7_grips 8 = .ok (.iconst (-1), 1) := by decide +kernel
theorem dX7_grips_9 : decode cX7_grips 9 = .ok (.ireturn, 1) := by decide +kernel
theorem dX7_grips_10 : decode cX7_grips 10 = .ok (.aload_n 0, 1) := by decide +kernel
theorem dX7_grips_11 : decode cX7_grips 11 = .ok (.getfield 13, 3) := by decide +kernel
theorem dX7_grips_14 : decode cX7_grips 14 = .ok (.bipush 11, 2) := by decide +kernel
theorem dX7_grips_16 : decode cX7_grips 16 = .ok (.iload_n 1, 1) := by decide +kernel
theorem dX7_grips_17 : decode cX7_grips 17 = .ok (.iadd, 1) := by decide +kernel
theorem dX7_grips_18 : decode cX7_grips 18 = .ok (.iaload, 1) := by decide +kernel
theorem dX7_grips_19 : decode cX7_grips 19 = .ok (.istore_n 2, 1) := by decide +kernel
theorem dX7_grips_20 : decode cX7_grips 20 = .ok (.iconst 0, 1) := by decide +kernel
theorem dX7_grips_21 : decode cX7_grips 21 = .ok (.istore_n 3, 1) := by decide +kernel
theorem dX7_grips_22 : decode cX7_grips 22 = .ok (.iconst 0, 1) := by decide +kernel
theorem dX7_grips_23 : decode cX7_grips 23 = .ok (.istore 4, 2) := by decide +kernel
theorem dX7_grips_25 : decode cX7_grips 25 = .ok (.iload 4, 2) := by decide +kernel
theorem dX7_grips_27 : decode cX7_grips 27 = .ok (.bipush 10, 2) := by decide +kernel
theorem dX7_grips_29 : decode cX7_grips 29 = .ok (.if_icmp .ge 42, 3) := by decide +kernel
theorem dX7_grips_32 : decode cX7_grips 32 = .ok (.aload_n 0, 1) := by decide +kernel
theorem dX7_grips_33 : decode cX7_grips 33 = .ok (.invokevirtual 136, 3) := by decide +kernel
theorem dX7_grips_36 : decode cX7_grips 36 = .ok (.aload_n 0, 1) := by decide +kernel
theorem dX7_grips_37 : decode cX7_grips 37 = .ok (.getfield 13, 3) := by decide +kernel
theorem dX7_grips_40 : decode cX7_grips 40 = .ok (.bipush 11, 2) := by decide +kernel
theorem dX7_grips_42 : decode cX7_grips 42 = .ok (.iload_n 1, 1) := by decide +kernel
theorem dX7_grips_43 : decode cX7_grips 43 = .ok (.iadd, 1) := by decide +kernel
theorem dX7_grips_44 : decode cX7_grips 44 = .ok (.iload 4, 2) := by decide +kernel
theorem dX7_grips_46 : decode cX7_grips 46 = .ok (.iastore, 1) := by decide +kernel
theorem dX7_grips_47 : decode cX7_grips 47 = .ok (.iload_n 3, 1) := by decide +kernel
theorem dX7_grips_48 : decode cX7_grips 48 = .ok (.aload_n 0, 1) := by decide +kernel
theorem dX7_grips_49 : decode cX7_grips 49 = .ok (.invokevirtual 169, 3) := by decide +kernel
theorem dX7_grips_52 : decode cX7_grips 52 = .ok (.ifCond .eq 10, 3) := by decide +kernel
theorem dX7_grips_55 : decode cX7_grips 55 = .ok (.iconst 1, 1) := by decide +kernel
theorem dX7_grips_56 : decode cX7_grips 56 = .ok (.iload 4, 2) := by decide +kernel
theorem dX7_grips_58 : decode cX7_grips 58 = .ok (.ishl, 1) := by decide +kernel
theorem dX7_grips_59 : decode cX7_grips 59 = .ok (.goto 4, 3) := by decide +kernel
theorem dX7_grips_62 : decode cX7_grips 62 = .ok (.iconst 0, 1) := by decide +kernel
theorem dX7_grips_63 : decode cX7_grips 63 = .ok (.ior, 1) := by decide +kernel
theorem dX7_grips_64 : decode cX7_grips 64 = .ok (.istore_n 3, 1) := by decide +kernel
theorem dX7_grips_65 : decode cX7_grips 65 = .ok (.iinc 4 1, 3) := by decide +kernel
theorem dX7_grips_68 : decode cX7_grips 68 = .ok (.goto (-43), 3) := by decide +kernel
theorem dX7_grips_71 : decode cX7_grips 71 = .ok (.aload_n 0, 1) := by decide +kernel
theorem dX7_grips_72 : decode cX7_grips 72 = .ok (.getfield 13, 3) := by decide +kernel
theorem dX7_grips_75 : decode cX7_grips 75 = .ok (.bipush 11, 2) := by decide +kernel
theorem dX7_grips_77 : decode cX7_grips 77 = .ok (.iload_n 1, 1) := by decide +kernel
theorem dX7_grips_78 : decode cX7_grips 78 = .ok (.iadd, 1) := by decide +kernel
theorem dX7_grips_79 : decode cX7_grips 79 = .ok (.iload_n 2, 1) := by decide +kernel
theorem dX7_grips_80 : decode cX7_grips 80 = .ok (.iastore, 1) := by decide +kernel
theorem dX7_grips_81 : decode cX7_grips 81 = .ok (.iload_n 3, 1) := by decide +kernel
theorem dX7_grips_82 : decode cX7_grips 82 = .ok (.ireturn, 1) := by decide +kernel
theorem dX7_more_0 : decode cX7_more 0 = .ok (.aload_n 0, 1) := by decide +kernel
theorem dX7_more_1 : decode cX7_more 1 = .ok (.getfield 25, 3) := by decide +kernel
theorem dX7_more_4 : decode cX7_more 4 = .ok (.iconst 2, 1) := by decide +kernel
theorem dX7_more_5 : decode cX7_more 5 = .ok (.iload_n 1, 1) := by decide +kernel
theorem dX7_more_6 : decode cX7_more 6 = .ok (.iadd, 1) := by decide +kernel
theorem dX7_more_7 : decode cX7_more 7 = .ok (.iaload, 1) := by decide +kernel
theorem dX7_more_8 : decode cX7_more 8 = .ok (.iload_n 2, 1) := by decide +kernel
theorem dX7_more_9 : decode cX7_more 9 = .ok (.iadd, 1) := by decide +kernel
theorem dX7_more_10 : decode cX7_more 10 = .ok (.istore_n 3, 1) := by decide +kernel
theorem dX7_more_11 : decode cX7_more 11 = .ok (.aload_n 0, 1) := by decide +kernel
theorem dX7_more_12 : decode cX7_more 12 = .ok (.getfield 25, 3) := by decide +kernel
theorem dX7_more_15 : decode cX7_more 15 = .ok (.iconst 2, 1) := by decide +kernel
theorem dX7_more_16 : decode cX7_more 16 = .ok (.iload_n 1, 1) := by decide +kernel
theorem dX7_more_17 : decode cX7_more 17 = .ok (.iadd, 1) := by decide +kernel
theorem dX7_more_18 : decode cX7_more 18 = .ok (.iload_n 3, 1) := by decide +kernel
theorem dX7_more_19 : decode cX7_more 19 = .ok (.bipush 9, 2) := by decide +kernel
theorem dX7_more_21 : decode cX7_more 21 = .ok (.if_icmp .le 8, 3) := by decide +kernel
theorem dX7_more_24 : decode cX7_more 24 = .ok (.bipush 9, 2) := by decide +kernel
theorem dX7_more_26 : decode cX7_more 26 = .ok (.goto 12, 3) := by decide +kernel
theorem dX7_more_29 : decode cX7_more 29 = .ok (.iload_n 3, 1) := by decide +kernel
theorem dX7_more_30 : decode cX7_more 30 = .ok (.ifCond .ge 7, 3) := by decide +kernel
theorem dX7_more_33 : decode cX7_more 33 = .ok (.iconst 0, 1) := by decide +kernel
theorem dX7_more_34 : decode cX7_more 34 = .ok (.goto 4, 3) := by decide +kernel
theorem dX7_more_37 : decode cX7_more 37 = .ok (.iload_n 3, 1) := by decide +kernel
theorem dX7_more_38 : decode cX7_more 38 = .ok (.iastore, 1) := by decide +kernel
theorem dX7_more_39 : decode cX7_more 39 = .ok (.return_, 1) := by decide +kernel
theorem dX7_likely_0 : decode cX7_likely 0 = .ok (.aload_n 0, 1) := by decide +kernel
theorem dX7_likely_1 : decode cX7_likely 1 = .ok (.iload_n 1, 1) := by decide +kernel
theorem dX7_likely_2 : decode cX7_likely 2 = .ok (.invokevirtual 131, 3) := by decide +kernel
theorem dX7_likely_5 : decode cX7_likely 5 = .ok (.ifCond .eq 38, 3) := by decide +kernel
theorem dX7_likely_8 : decode cX7_likely 8 = .ok (.iload_n 2, 1) := by decide +kernel
theorem dX7_likely_9 : decode cX7_likely 9 = .ok (.i2l, 1) := by decide +kernel
theorem dX7_likely_10 : decode cX7_likely 10 = .ok (.lconst 0, 1) := by decide +kernel
theorem dX7_likely_11 : decode cX7_likely 11 = .ok (.ldc2_w 172, 3) := by decide +kernel
theorem dX7_likely_14 : decode cX7_likely 14 = .ok (.invokestatic 58, 3) := by decide +kernel
theorem dX7_likely_17 : decode cX7_likely 17 = .ok (.ifCond .eq 26, 3) := by decide +kernel
theorem dX7_likely_20 : decode cX7_likely 20 = .ok (.iload_n 3, 1) := by decide +kernel
theorem dX7_likely_21 : decode cX7_likely 21 = .ok (.i2l, 1) := by decide +kernel
theorem dX7_likely_22 : decode cX7_likely 22 = .ok (.lconst 0, 1) := by decide +kernel
theorem dX7_likely_23 : decode cX7_likely 23 = .ok (.ldc2_w 174, 3) := by decide +kernel
theorem dX7_likely_26 : decode cX7_likely 26 = .ok (.invokestatic 58, 3) := by decide +kernel
theorem dX7_likely_29 : decode cX7_likely 29 = .ok (.ifCond .eq 14, 3) := by decide +kernel
theorem dX7_likely_32 : decode cX7_likely 32 = .ok (.iload 4, 2) := by decide +kernel
theorem dX7_likely_34 : decode cX7_likely 34 = .ok (.i2l, 1) := by decide +kernel
theorem dX7_likely_35 : decode cX7_likely 35 = .ok (.lconst 0, 1) := by decide +kernel
theorem dX7_likely_36 : decode cX7_likely 36 = .ok (.lconst 1, 1) := by decide +kernel
theorem dX7_likely_37 : decode cX7_likely 37 = .ok (.invokestatic 58, 3) := by decide +kernel
theorem dX7_likely_40 : decode cX7_likely 40 = .ok (.ifCond .ne 5, 3) := by decide +kernel
theorem dX7_likely_43 : decode cX7_likely 43 = .ok (.iconst (-1), 1) := by decide +kernel
theorem dX7_likely_44 : decode cX7_likely 44 = .ok (.ireturn, 1) := by decide +kernel
theorem dX7_likely_45 : decode cX7_likely 45 = .ok (.iconst 0, 1) := by decide +kernel
theorem dX7_likely_46 : decode cX7_likely 46 = .ok (.istore 5, 2) := by decide +kernel
theorem dX7_likely_48 : decode cX7_likely 48 = .ok (.iconst 1, 1) := by decide +kernel
theorem dX7_likely_49 : decode cX7_likely 49 = .ok (.istore 6, 2) := by decide +kernel
theorem dX7_likely_51 : decode cX7_likely 51 = .ok (.iconst 0, 1) := by decide +kernel
theorem dX7_likely_52 : decode cX7_likely 52 = .ok (.istore 7, 2) := by decide +kernel
theorem dX7_likely_54 : decode cX7_likely 54 = .ok (.iload 7, 2) := by decide +kernel
theorem dX7_likely_56 : decode cX7_likely 56 = .ok (.iconst 1, 1) := by decide +kernel
theorem dX7_likely_57 : decode cX7_likely 57 = .ok (.iload_n 2, 1) := by decide +kernel
theorem dX7_likely_58 : decode cX7_likely 58 = .ok (.ishl, 1) := by decide +kernel
theorem dX7_likely_59 : decode cX7_likely 59 = .ok (.if_icmp .ge 108, 3) := by decide +kernel
theorem dX7_likely_62 : decode cX7_likely 62 = .ok (.iconst 1, 1) := by decide +kernel
theorem dX7_likely_63 : decode cX7_likely 63 = .ok (.istore 8, 2) := by decide +kernel
theorem dX7_likely_65 : decode cX7_likely 65 = .ok (.aload_n 0, 1) := by decide +kernel
theorem dX7_likely_66 : decode cX7_likely 66 = .ok (.invokevirtual 136, 3) := by decide +kernel
theorem dX7_likely_69 : decode cX7_likely 69 = .ok (.iconst 0, 1) := by decide +kernel
theorem dX7_likely_70 : decode cX7_likely 70 = .ok (.istore 9, 2) := by decide +kernel
theorem dX7_likely_72 : decode cX7_likely 72 = .ok (.iload 9, 2) := by decide +kernel
theorem dX7_likely_74 : decode cX7_likely 74 = .ok (.iload_n 2, 1) := by decide +kernel
theorem dX7_likely_75 : decode cX7_likely 75 = .ok (.if_icmp .ge 67, 3) := by decide +kernel
theorem dX7_likely_78 : decode cX7_likely 78 = .ok (.iload 8, 2) := by decide +kernel
theorem dX7_likely_80 : decode cX7_likely 80 = .ok (.iload 7, 2) := by decide +kernel
theorem dX7_likely_82 : decode cX7_likely 82 = .ok (.iload 9, 2) := by decide +kernel
theorem dX7_likely_84 : decode cX7_likely 84 = .ok (.invokestatic 107, 3) := by decide +kernel
theorem dX7_likely_87 : decode cX7_likely 87 = .ok (.ifCond .eq 7, 3) := by decide +kernel
theorem dX7_likely_90 : decode cX7_likely 90 = .ok (.iload_n 3, 1) := by decide +kernel
theorem dX7_likely_91 : decode cX7_likely 91 = .ok (.goto 7, 3) := by decide +kernel
theorem dX7_likely_94 : decode cX7_likely 94 = .ok (.bipush 10, 2) := by decide +kernel
theorem dX7_likely_96 : decode cX7_likely 96 = .ok (.iload_n 3, 1) := by decide +kernel
theorem dX7_likely_97 : decode cX7_likely 97 = .ok (.isub, 1) := by decide +kernel
theorem dX7_likely_98 : decode cX7_likely 98 = .ok (.imul, 1) := by decide +kernel
theorem dX7_likely_99 : decode cX7_likely 99 = .ok (.istore 8, 2) := by decide +kernel
theorem dX7_likely_101 : decode cX7_likely 101 = .ok (.aload_n 0, 1) := by decide +kernel
theorem dX7_likely_102 : decode cX7_likely 102 = .ok (.aload_n 0, 1) := by decide +kernel
theorem dX7_likely_103 : decode cX7_likely 103 = .ok (.getfield 25, 3) := by decide +kernel
theorem dX7_likely_106 : decode cX7_likely 106 = .ok (.bipush 18, 2) := by decide +kernel
theorem dX7_likely_108 : decode cX7_likely 108 = .ok (.aload_n 0, 1) := by decide +kernel
theorem dX7_likely_109 : decode cX7_likely 109 = .ok (.invokevirtual 125, 3) := by decide +kernel
theorem dX7_likely_112 : decode cX7_likely 112 = .ok (.iadd, 1) := by decide +kernel
theorem dX7_likely_113 : decode cX7_likely 113 = .ok (.iaload, 1) := by decide +kernel
theorem dX7_likely_114 : decode cX7_likely 114 = .ok (.iload 7, 2) := by decide +kernel
theorem dX7_likely_116 : decode cX7_likely 116 = .ok (.iload 9, 2) := by decide +kernel
theorem dX7_likely_118 : decode cX7_likely 118 = .ok (.invokestatic 107, 3) := by decide +kernel
theorem dX7_likely_121 : decode cX7_likely 121 = .ok (.ifCond .eq 7, 3) := by decide +kernel
theorem dX7_likely_124 : decode cX7_likely 124 = .ok (.iconst 2, 1) := by decide +kernel
theorem dX7_likely_125 : decode cX7_likely 125 = .ok (.goto 4, 3) := by decide +kernel
theorem dX7_likely_128 : decode cX7_likely 128 = .ok (.iconst 0, 1) := by decide +kernel
theorem dX7_likely_129 : decode cX7_likely 129 = .ok (.invokevirtual 176, 3) := by decide +kernel
theorem dX7_likely_132 : decode cX7_likely 132 = .ok (.aload_n 0, 1) := by decide +kernel
theorem dX7_likely_133 : decode cX7_likely 133 = .ok (.invokevirtual 128, 3) := by decide +kernel
theorem dX7_likely_136 : decode cX7_likely 136 = .ok (.iinc 9 1, 3) := by decide +kernel
theorem dX7_likely_139 : decode cX7_likely 139 = .ok (.goto (-67), 3) := by decide +kernel
theorem dX7_likely_142 : decode cX7_likely 142 = .ok (.iload 5, 2) := by decide +kernel
theorem dX7_likely_144 : decode cX7_likely 144 = .ok (.aload_n 0, 1) := by decide +kernel
theorem dX7_likely_145 : decode cX7_likely 145 = .ok (.invokevirtual 125, 3) := by decide +kernel
theorem dX7_likely_148 : decode cX7_likely 148 = .ok (.iload_n 1, 1) := by decide +kernel
theorem dX7_likely_149 : decode cX7_likely 149 = .ok (.if_icmp .ne 8, 3) := by decide +kernel
theorem dX7_likely_152 : decode cX7_likely 152 = .ok (.iload 8, 2) := by decide +kernel
theorem dX7_likely_154 : decode cX7_likely 154 = .ok (.goto 4, 3) := by decide +kernel
theorem dX7_likely_157 : decode cX7_likely 157 = .ok (.iconst 0, 1) := by decide +kernel
theorem dX7_likely_158 : decode cX7_likely 158 = .ok (.iadd, 1) := by decide +kernel
theorem dX7_likely_159 : decode cX7_likely 159 = .ok (.istore 5, 2) := by decide +kernel
theorem dX7_likely_161 : decode cX7_likely 161 = .ok (.iinc 7 1, 3) := by decide +kernel
theorem dX7_likely_164 : decode cX7_likely 164 = .ok (.goto (-110), 3) := by decide +kernel
theorem dX7_likely_167 : decode cX7_likely 167 = .ok (.iconst 0, 1) := by decide +kernel
theorem dX7_likely_168 : decode cX7_likely 168 = .ok (.istore 7, 2) := by decide +kernel
theorem dX7_likely_170 : decode cX7_likely 170 = .ok (.iload 7, 2) := by decide +kernel
theorem dX7_likely_172 : decode cX7_likely 172 = .ok (.iload_n 2, 1) := by decide +kernel
theorem dX7_likely_173 : decode cX7_likely 173 = .ok (.if_icmp .ge 16, 3) := by decide +kernel
theorem dX7_likely_176 : decode cX7_likely 176 = .ok (.iload 6, 2) := by decide +kernel
theorem dX7_likely_178 : decode cX7_likely 178 = .ok (.bipush 10, 2) := by decide +kernel
theorem dX7_likely_180 : decode cX7_likely 180 = .ok (.imul, 1) := by decide +kernel
theorem dX7_likely_181 : decode cX7_likely 181 = .ok (.istore 6, 2) := by decide +kernel
theorem dX7_likely_183 : decode cX7_likely 183 = .ok (.iinc 7 1, 3) := by decide +kernel
theorem dX7_likely_186 : decode cX7_likely 186 = .ok (.goto (-16), 3) := by decide +kernel
theorem dX7_likely_189 : decode cX7_likely 189 = .ok (.iload 5, 2) := by decide +kernel
theorem dX7_likely_191 : decode cX7_likely 191 = .ok (.istore 7, 2) := by decide +kernel
theorem dX7_likely_193 : decode cX7_likely 193 = .ok (.iload 6, 2) := by decide +kernel
theorem dX7_likely_195 : decode cX7_likely 195 = .ok (.istore 8, 2) := by decide +kernel
theorem dX7_likely_197 : decode cX7_likely 197 = .ok (.iload 8, 2) := by decide +kernel
theorem dX7_likely_199 : decode cX7_likely 199 = .ok (.ifCond .eq 21, 3) := by decide +kernel
theorem dX7_likely_202 : decode cX7_likely 202 = .ok (.iload 7, 2) := by decide +kernel
theorem dX7_likely_204 : decode cX7_likely 204 = .ok (.iload 8, 2) := by decide +kernel
theorem dX7_likely_206 : decode cX7_likely 206 = .ok (.irem, 1) := by decide +kernel
theorem dX7_likely_207 : decode cX7_likely 207 = .ok (.istore 9, 2) := by decide +kernel
theorem dX7_likely_209 : decode cX7_likely 209 = .ok (.iload 8, 2) := by decide +kernel
theorem dX7_likely_211 : decode cX7_likely 211 = .ok (.istore 7, 2) := by decide +kernel
theorem dX7_likely_213 : decode cX7_likely 213 = .ok (.iload 9, 2) := by decide +kernel
theorem dX7_likely_215 : decode cX7_likely 215 = .ok (.istore 8, 2) := by decide +kernel
theorem dX7_likely_217 : decode cX7_likely 217 = .ok (.goto (-20), 3) := by decide +kernel
theorem dX7_likely_220 : decode cX7_likely 220 = .ok (.iload 4, 2) := by decide +kernel
theorem dX7_likely_222 : decode cX7_likely 222 = .ok (.ifCond .ne 11, 3) := by decide +kernel
theorem dX7_likely_225 : decode cX7_likely 225 = .ok (.iload 5, 2) := by decide +kernel
theorem dX7_likely_227 : decode cX7_likely 227 = .ok (.iload 7, 2) := by decide +kernel
theorem dX7_likely_229 : decode cX7_likely 229 = .ok (.idiv, 1) := by decide +kernel
theorem dX7_likely_230 : decode cX7_likely 230 = .ok (.goto 8, 3) := by decide +kernel
theorem dX7_likely_233 : decode cX7_likely 233 = .ok (.iload 6, 2) := by decide +kernel
theorem dX7_likely_235 : decode cX7_likely 235 = .ok (.iload 7, 2) := by decide +kernel
theorem dX7_likely_237 : decode cX7_likely 237 = .ok (.idiv, 1) := by decide +kernel
theorem dX7_likely_238 : decode cX7_likely 238 = .ok (.ireturn, 1) := by decide +kernel
theorem dX7_century_0 : decode cX7_century 0 = .ok (.iload_n 1, 1) := by decide +kernel
theorem dX7_century_1 : decode cX7_century 1 = .ok (.i2l, 1) := by decide +kernel
theorem dX7_century_2 : decode cX7_century 2 = .ok (.lconst 0, 1) := by decide +kernel
theorem dX7_century_3 : decode cX7_century 3 = .ok (.ldc2_w 179, 3) := by decide +kernel
theorem dX7_century_6 : decode cX7_century 6 = .ok (.invokestatic 58, 3) := by decide +kernel
theorem dX7_century_9 : decode cX7_century 9 = .ok (.ifCond .eq 25, 3) := by decide +kernel
theorem dX7_century_12 : decode cX7_century 12 = .ok (.iload_n 2, 1) := by decide +kernel
theorem dX7_century_13 : decode cX7_century 13 = .ok (.i2l, 1) := by decide +kernel
theorem dX7_century_14 : decode cX7_century 14 = .ok (.lconst 1, 1) := by decide +kernel
theorem dX7_century_15 : decode cX7_century 15 = .ok (.ldc2_w 181, 3) := by decide +kernel
theorem dX7_century_18 : decode cX7_century 18 = .ok (.invokestatic 58, 3) := by decide +kernel
theorem dX7_century_21 : decode cX7_century 21 = .ok (.ifCond .eq 13, 3) := by decide +kernel
theorem dX7_century_24 : decode cX7_century 24 = .ok (.iload_n 3, 1) := by decide +kernel
theorem dX7_century_25 : decode cX7_century 25 = .ok (.i2l, 1) := by decide +kernel
theorem dX7_century_26 : decode cX7_century 26 = .ok (.lconst 0, 1) := by decide +kernel
theorem dX7_century_27 : decode cX7_century 27 = .ok (.lconst 1, 1) := by decide +kernel
theorem dX7_century_28 : decode cX7_century 28 = .ok (.invokestatic 58, 3) := by decide +kernel
theorem dX7_century_31 : decode cX7_century 31 = .ok (.ifCond .ne 5, 3) := by decide +kernel
theorem dX7_century_34 : decode cX7_century 34 = .ok (.iconst (-1), 1) := by decide +kernel
theorem dX7_century_35 : decode cX7_century 35 = .ok (.ireturn, 1) := by decide +kernel
theorem dX7_century_36 : decode cX7_century 36 = .ok (.aload_n 0, 1) := by decide +kernel
theorem dX7_century_37 : decode cX7_century 37 = .ok (.invokevirtual 136, 3) := by decide +kernel
theorem dX7_century_40 : decode cX7_century 40 = .ok (.iconst 0, 1) := by decide +kernel
theorem dX7_century_41 : decode cX7_century 41 = .ok (.istore 4, 2) := by decide +kernel
theorem dX7_century_43 : decode cX7_century 43 = .ok (.aload_n 0, 1) := by decide +kernel
theorem dX7_century_44 : decode cX7_century 44 = .ok (.invokevirtual 125, 3) := by decide +kernel
theorem dX7_century_47 : decode cX7_century 47 = .ok (.istore 5, 2) := by decide +kernel
theorem dX7_century_49 : decode cX7_century 49 = .ok (.iconst 0, 1) := by decide +kernel
theorem dX7_century_50 : decode cX7_century 50 = .ok (.istore 6, 2) := by decide +kernel
theorem dX7_century_52 : decode cX7_century 52 = .ok (.iload 6, 2) := by decide +kernel
theorem dX7_century_54 : decode cX7_century 54 = .ok (.iload_n 2, 1) := by decide +kernel
theorem dX7_century_55 : decode cX7_century 55 = .ok (.if_icmp .ge 131, 3) := by decide +kernel
theorem dX7_century_58 : decode cX7_century 58 = .ok (.ldc2_w 183, 3) := by decide +kernel
theorem dX7_century_61 : decode cX7_century 61 = .ok (.iload_n 1, 1) := by decide +kernel
theorem dX7_century_62 : decode cX7_century 62 = .ok (.i2l, 1) := by decide +kernel
theorem dX7_century_63 : decode cX7_century 63 = .ok (.lmul, 1) := by decide +kernel
theorem dX7_century_64 : decode cX7_century 64 = .ok (.ldc2_w 185, 3) := by decide +kernel
theorem dX7_century_67 : decode cX7_century 67 = .ok (.iload 6, 2) := by decide +kernel
theorem dX7_century_69 : decode cX7_century 69 = .ok (.i2l, 1) := by decide +kernel
theorem dX7_century_70 : decode cX7_century 70 = .ok (.lmul, 1) := by decide +kernel
theorem dX7_century_71 : decode cX7_century 71 = .ok (.ladd, 1) := by decide +kernel
theorem dX7_century_72 : decode cX7_century 72 = .ok (.lconst 1, 1) := by decide +kernel
theorem dX7_century_73 : decode cX7_century 73 = .ok (.ladd, 1) := by decide +kernel
theorem dX7_century_74 : decode cX7_century 74 = .ok (.lstore 7, 2) := by decide +kernel
theorem dX7_century_76 : decode cX7_century 76 = .ok (.lload 7, 2) := by decide +kernel
theorem dX7_century_78 : decode cX7_century 78 = .ok (.lload 7, 2) := by decide +kernel
theorem dX7_century_80 : decode cX7_century 80 = .ok (.lmul, 1) := by decide +kernel
theorem dX7_century_81 : decode cX7_century 81 = .ok (.ldc2_w 187, 3) := by decide +kernel
theorem dX7_century_84 : decode cX7_century 84 = .ok (.lrem, 1) := by decide +kernel
theorem dX7_century_85 : decode cX7_century 85 = .ok (.l2i, 1) := by decide +kernel
theorem dX7_century_86 : decode cX7_century 86 = .ok (.iconst 2, 1) := by decide +kernel
theorem dX7_century_87 : decode cX7_century 87 = .ok (.idiv, 1) := by decide +kernel
theorem dX7_century_88 : decode cX7_century 88 = .ok (.istore 9, 2) := by decide +kernel
theorem dX7_century_90 : decode cX7_century 90 = .ok (.aload_n 0, 1) := by decide +kernel
theorem dX7_century_91 : decode cX7_century 91 = .ok (.iload 9, 2) := by decide +kernel
theorem dX7_century_93 : decode cX7_century 93 = .ok (.aload_n 0, 1) := by decide +kernel
theorem dX7_century_94 : decode cX7_century 94 = .ok (.getfield 13, 3) := by decide +kernel
theorem dX7_century_97 : decode cX7_century 97 = .ok (.iconst 0, 1) := by decide +kernel
theorem dX7_century_98 : decode cX7_century 98 = .ok (.iaload, 1) := by decide +kernel
theorem dX7_century_99 : decode cX7_century 99 = .ok (.irem, 1) := by decide +kernel
theorem dX7_century_100 : decode cX7_century 100 = .ok (.iload 9, 2) := by decide +kernel
theorem dX7_century_102 : decode cX7_century 102 = .ok (.bipush 16, 2) := by decide +kernel
theorem dX7_century_104 : decode cX7_century 104 = .ok (.idiv, 1) := by decide +kernel
theorem dX7_century_105 : decode cX7_century 105 = .ok (.iconst 2, 1) := by decide +kernel
theorem dX7_century_106 : decode cX7_century 106 = .ok (.irem, 1) := by decide +kernel
theorem dX7_century_107 : decode cX7_century 107 = .ok (.ifCond .ne 7, 3) := by decide +kernel
theorem dX7_century_110 : decode cX7_century 110 = .ok (.iconst 1, 1) := by decide +kernel
theorem dX7_century_111 : decode cX7_century 111 = .ok (.goto 4, 3) := by decide +kernel
theorem dX7_century_114 : decode cX7_century 114 = .ok (.iconst 0, 1) := by decide +kernel
theorem dX7_century_115 : decode cX7_century 115 = .ok (.invokevirtual 176, 3) := by decide +kernel
theorem dX7_century_118 : decode cX7_century 118 = .ok (.aload_n 0, 1) := by decide +kernel
theorem dX7_century_119 : decode cX7_century 119 = .ok (.iload 9, 2) := by decide +kernel
theorem dX7_century_121 : decode cX7_century 121 = .ok (.bipush 32, 2) := by decide +kernel
theorem dX7_century_123 : decode cX7_century 123 = .ok (.idiv, 1) := by decide +kernel
theorem dX7_century_124 : decode cX7_century 124 = .ok (.aload_n 0, 1) := by decide +kernel
theorem dX7_century_125 : decode cX7_century 125 = .ok (.getfield 13, 3) := by decide +kernel
theorem dX7_century_128 : decode cX7_century 128 = .ok (.iconst 0, 1) := by decide +kernel
theorem dX7_century_129 : decode cX7_century 129 = .ok (.iaload, 1) := by decide +kernel
theorem dX7_century_130 : decode cX7_century 130 = .ok (.irem, 1) := by decide +kernel
theorem dX7_century_131 : decode cX7_century 131 = .ok (.iload 9, 2) := by decide +kernel
theorem dX7_century_133 : decode cX7_century 133 = .ok (.sipush 512, 3) := by decide +kernel
theorem dX7_century_136 : decode cX7_century 136 = .ok (.idiv, 1) := by decide +kernel
theorem dX7_century_137 : decode cX7_century 137 = .ok (.iconst 3, 1) := by decide +kernel
theorem dX7_century_138 : decode cX7_century 138 = .ok (.irem, 1) := by decide +kernel
theorem dX7_century_139 : decode cX7_century 139 = .ok (.ifCond .ne 8, 3) := by decide +kernel
theorem dX7_century_142 : decode cX7_century 142 = .ok (.bipush (-2), 2) := by decide +kernel
theorem dX7_century_144 : decode cX7_century 144 = .ok (.goto 4, 3) := by decide +kernel
theorem dX7_century_147 : decode cX7_century 147 = .ok (.iconst 0, 1) := by decide +kernel
theorem dX7_century_148 : decode cX7_century 148 = .ok (.invokevirtual 176, 3) := by decide +kernel
theorem dX7_century_151 : decode cX7_century 151 = .ok (.aload_n 0, 1) := by decide +kernel
theorem dX7_century_152 : decode cX7_century 152 = .ok (.invokevirtual 128, 3) := by decide +kernel
theorem dX7_century_155 : decode cX7_century 155 = .ok (.iload 4, 2) := by decide +kernel
theorem dX7_century_157 : decode cX7_century 157 = .ok (.aload_n 0, 1) := by decide +kernel
theorem dX7_century_158 : decode cX7_century 158 = .ok (.invokevirtual 125, 3) := by decide +kernel
theorem dX7_century_161 : decode cX7_century 161 = .ok (.iload 5, 2) := by decide +kernel
theorem dX7_century_163 : decode cX7_century 163 = .ok (.if_icmp .ne 7, 3) := by decide +kernel
theorem dX7_century_166 : decode cX7_century 166 = .ok (.iconst 0, 1) := by decide +kernel
theorem dX7_century_167 : decode cX7_century 167 = .ok (.goto 4, 3) := by decide +kernel
theorem dX7_century_170 : decode cX7_century 170 = .ok (.iconst 1, 1) := by decide +kernel
theorem dX7_century_171 : decode cX7_century 171 = .ok (.iadd, 1) := by decide +kernel
theorem dX7_century_172 : decode cX7_century 172 = .ok (.istore 4, 2) := by decide +kernel
theorem dX7_century_174 : decode cX7_century 174 = .ok (.aload_n 0, 1) := by decide +kernel
theorem dX7_century_175 : decode cX7_century 175 = .ok (.invokevirtual 125, 3) := by decide +kernel
theorem dX7_century_178 : decode cX7_century 178 = .ok (.istore 5, 2) := by decide +kernel
theorem dX7_century_180 : decode cX7_century 180 = .ok (.iinc 6 1, 3) := by decide +kernel
theorem dX7_century_183 : decode cX7_century 183 = .ok (.goto (-131), 3) := by decide +kernel
theorem dX7_century_186 : decode cX7_century 186 = .ok (.iload_n 3, 1) := by decide +kernel
theorem dX7_century_187 : decode cX7_century 187 = .ok (.ifCond .ne 8, 3) := by decide +kernel
theorem dX7_century_190 : decode cX7_century 190 = .ok (.iload 5, 2) := by decide +kernel
theorem dX7_century_192 : decode cX7_century 192 = .ok (.goto 5, 3) := by decide +kernel
theorem dX7_century_195 : decode cX7_century 195 = .ok (.iload 4, 2) := by decide +kernel
theorem dX7_century_197 : decode cX7_century 197 = .ok (.ireturn, 1) := by decide +kernel
theorem dX7_keep_0 : decode cX7_keep 0 = .ok (.aload_n 0, 1) := by decide +kernel
theorem dX7_keep_1 : decode cX7_keep 1 = .ok (.getfield 104, 3) := by decide +kernel
theorem dX7_keep_4 : decode cX7_keep 4 = .ok (.iconst 2, 1) := by decide +kernel
theorem dX7_keep_5 : decode cX7_keep 5 = .ok (.if_icmp .ne 6, 3) := by decide +kernel
theorem dX7_keep_8 : decode cX7_keep 8 = .ok (.bipush (-3), 2) := by decide +kernel
theorem dX7_keep_10 : decode cX7_keep 10 = .ok (.ireturn, 1) := by decide +kernel
theorem dX7_keep_11 : decode cX7_keep 11 = .ok (.iconst 0, 1) := by decide +kernel
theorem dX7_keep_12 : decode cX7_keep 12 = .ok (.istore_n 1, 1) := by decide +kernel
theorem dX7_keep_13 : decode cX7_keep 13 = .ok (.iload_n 1, 1) := by decide +kernel
theorem dX7_keep_14 : decode cX7_keep 14 = .ok (.bipush 32, 2) := by decide +kernel
theorem dX7_keep_16 : decode cX7_keep 16 = .ok (.if_icmp .ge 29, 3) := by decide +kernel
theorem dX7_keep_19 : decode cX7_keep 19 = .ok (.aload_n 0, 1) := by decide +kernel
theorem dX7_keep_20 : decode cX7_keep 20 = .ok (.getfield 31, 3) := by decide +kernel
theorem dX7_keep_23 : decode cX7_keep 23 = .ok (.bipush 32, 2) := by decide +kernel
theorem dX7_keep_25 : decode cX7_keep 25 = .ok (.aload_n 0, 1) := by decide +kernel
theorem dX7_keep_26 : decode cX7_keep 26 = .ok (.getfield 104, 3) := by decide +kernel
theorem dX7_keep_29 : decode cX7_keep 29 = .ok (.imul, 1) := by decide +kernel
theorem dX7_keep_30 : decode cX7_keep 30 = .ok (.iload_n 1, 1) := by decide +kernel
theorem dX7_keep_31 : decode cX7_keep 31 = .ok (.iadd, 1) := by decide +kernel
theorem dX7_keep_32 : decode cX7_keep 32 = .ok (.aload_n 0, 1) := by decide +kernel
theorem dX7_keep_33 : decode cX7_keep 33 = .ok (.getfield 19, 3) := by decide +kernel
theorem dX7_keep_36 : decode cX7_keep 36 = .ok (.iload_n 1, 1) := by decide +kernel
theorem dX7_keep_37 : decode cX7_keep 37 = .ok (.iaload, 1) := by decide +kernel
theorem dX7_keep_38 : decode cX7_keep 38 = .ok (.iastore, 1) := by decide +kernel
theorem dX7_keep_39 : decode cX7_keep 39 = .ok (.iinc 1 1, 3) := by decide +kernel
theorem dX7_keep_42 : decode cX7_keep 42 = .ok (.goto (-29), 3) := by decide +kernel
theorem dX7_keep_45 : decode cX7_keep 45 = .ok (.aload_n 0, 1) := by decide +kernel
theorem dX7_keep_46 : decode cX7_keep 46 = .ok (.dup, 1) := by decide +kernel
theorem dX7_keep_47 : decode cX7_keep 47 = .ok (.getfield 104, 3) := by decide +kernel
theorem dX7_keep_50 : decode cX7_keep 50 = .ok (.iconst 1, 1) := by decide +kernel
theorem dX7_keep_51 : decode cX7_keep 51 = .ok (.iadd, 1) := by decide +kernel
theorem dX7_keep_52 : decode cX7_keep 52 = .ok (.putfield 104, 3) := by decide +kernel
theorem dX7_keep_55 : decode cX7_keep 55 = .ok (.aload_n 0, 1) := by decide +kernel
theorem dX7_keep_56 : decode cX7_keep 56 = .ok (.getfield 104, 3) := by decide +kernel
theorem dX7_keep_59 : decode cX7_keep 59 = .ok (.ireturn, 1) := by decide +kernel
theorem dX7_back_0 : decode cX7_back 0 = .ok (.aload_n 0, 1) := by decide +kernel
theorem dX7_back_1 : decode cX7_back 1 = .ok (.getfield 104, 3) := by decide +kernel
theorem dX7_back_4 : decode cX7_back 4 = .ok (.ifCond .ne 6, 3) := by decide +kernel
theorem dX7_back_7 : decode cX7_back 7 = .ok (.bipush (-2), 2) := by decide +kernel
theorem dX7_back_9 : decode cX7_back 9 = .ok (.ireturn, 1) := by decide +kernel
theorem dX7_back_10 : decode cX7_back 10 = .ok (.aload_n 0, 1) := by decide +kernel
theorem dX7_back_11 : decode cX7_back 11 = .ok (.dup, 1) := by decide +kernel
theorem dX7_back_12 : decode cX7_back 12 = .ok (.getfield 104, 3) := by decide +kernel
theorem dX7_back_15 : decode cX7_back 15 = .ok (.iconst 1, 1) := by decide +kernel
theorem dX7_back_16 : decode cX7_back 16 = .ok (.isub, 1) := by decide +kernel
theorem dX7_back_17 : decode cX7_back 17 = .ok (.putfield 104, 3) := by decide +kernel
theorem dX7_back_20 : decode cX7_back 20 = .ok (.iconst 0, 1) := by decide +kernel
theorem dX7_back_21 : decode cX7_back 21 = .ok (.istore_n 1, 1) := by decide +kernel
theorem dX7_back_22 : decode cX7_back 22 = .ok (.iload_n 1, 1) := by decide +kernel
theorem dX7_back_23 : decode cX7_back 23 = .ok (.bipush 32, 2) := by decide +kernel
theorem dX7_back_25 : decode cX7_back 25 = .ok (.if_icmp .ge 29, 3) := by decide +kernel
theorem dX7_back_28 : decode cX7_back 28 = .ok (.aload_n 0, 1) := by decide +kernel
theorem dX7_back_29 : decode cX7_back 29 = .ok (.getfield 19, 3) := by decide +kernel
theorem dX7_back_32 : decode cX7_back 32 = .ok (.iload_n 1, 1) := by decide +kernel
theorem dX7_back_33 : decode cX7_back 33 = .ok (.aload_n 0, 1) := by decide +kernel
theorem dX7_back_34 : decode cX7_back 34 = .ok (.getfield 31, 3) := by decide +kernel
theorem dX7_back_37 : decode cX7_back 37 = .ok (.bipush 32, 2) := by decide +kernel
theorem dX7_back_39 : decode cX7_back 39 = .ok (.aload_n 0, 1) := by decide +kernel
theorem dX7_back_40 : decode cX7_back 40 = .ok (.getfield 104, 3) := by decide +kernel
theorem dX7_back_43 : decode cX7_back 43 = .ok (.imul, 1) := by decide +kernel
theorem dX7_back_44 : decode cX7_back 44 = .ok (.iload_n 1, 1) := by decide +kernel
theorem dX7_back_45 : decode cX7_back 45 = .ok (.iadd, 1) := by decide +kernel
theorem dX7_back_46 : decode cX7_back 46 = .ok (.iaload, 1) := by decide +kernel
theorem dX7_back_47 : decode cX7_back 47 = .ok (.iastore, 1) := by decide +kernel
theorem dX7_back_48 : decode cX7_back 48 = .ok (.iinc 1 1, 3) := by decide +kernel
theorem dX7_back_51 : decode cX7_back 51 = .ok (.goto (-29), 3) := by decide +kernel
theorem dX7_back_54 : decode cX7_back 54 = .ok (.aload_n 0, 1) := by decide +kernel
theorem dX7_back_55 : decode cX7_back 55 = .ok (.iconst 0, 1) := by decide +kernel
theorem dX7_back_56 : decode cX7_back 56 = .ok (.putfield 101, 3) := by decide +kernel
theorem dX7_back_59 : decode cX7_back 59 = .ok (.aload_n 0, 1) := by decide +kernel
theorem dX7_back_60 : decode cX7_back 60 = .ok (.getfield 104, 3) := by decide +kernel
theorem dX7_back_63 : decode cX7_back 63 = .ok (.ireturn, 1) := by decide +kernel
theorem dX7_waxInAll_0 : decode cX7_waxInAll 0 = .ok (.iconst 0, 1) := by decide +kernel
theorem dX7_waxInAll_1 : decode cX7_waxInAll 1 = .ok (.istore_n 1, 1) := by decide +kernel
theorem dX7_waxInAll_2 : decode cX7_waxInAll 2 = .ok (.iconst 0, 1) := by decide +kernel
theorem dX7_waxInAll_3 : decode cX7_waxInAll 3 = .ok (.istore_n 2, 1) := by decide +kernel
theorem dX7_waxInAll_4 : decode cX7_waxInAll 4 = .ok (.iload_n 2, 1) := by decide +kernel
theorem dX7_waxInAll_5 : decode cX7_waxInAll 5 = .ok (.bipush 16, 2) := by decide +kernel
theorem dX7_waxInAll_7 : decode cX7_waxInAll 7 = .ok (.if_icmp .ge 20, 3) := by decide +kernel
theorem dX7_waxInAll_10 : decode cX7_waxInAll 10 = .ok (.iload_n 1, 1) := by decide +kernel
theorem dX7_waxInAll_11 : decode cX7_waxInAll 11 = .ok (.aload_n 0, 1) := by decide +kernel
theorem dX7_waxInAll_12 : decode cX7_waxInAll 12 = .ok (.getfield 19, 3) := by decide +kernel
theorem dX7_waxInAll_15 : decode cX7_waxInAll 15 = .ok (.iconst 2, 1) := by decide +kernel
theorem dX7_waxInAll_16 : decode cX7_waxInAll 16 = .ok (.iload_n 2, 1) := by decide +kernel
theorem dX7_waxInAll_17 : decode cX7_waxInAll 17 = .ok (.iadd, 1) := by decide +kernel
theorem dX7_waxInAll_18 : decode cX7_waxInAll 18 = .ok (.iaload, 1) := by decide +kernel
theorem dX7_waxInAll_19 : decode cX7_waxInAll 19 = .ok (.iadd, 1) := by decide +kernel
theorem dX7_waxInAll_20 : decode cX7_waxInAll 20 = .ok (.istore_n 1, 1) := by decide +kernel
theorem dX7_waxInAll_21 : decode cX7_waxInAll 21 = .ok (.iinc 2 1, 3) := by decide +kernel
theorem dX7_waxInAll_24 : decode cX7_waxInAll 24 = .ok (.goto (-20), 3) := by decide +kernel
theorem dX7_waxInAll_27 : decode cX7_waxInAll 27 = .ok (.iload_n 1, 1) := by decide +kernel
theorem dX7_waxInAll_28 : decode cX7_waxInAll 28 = .ok (.ireturn, 1) := by decide +kernel
theorem dX7_count_0 : decode cX7_count 0 = .ok (.iload_n 1, 1) := by decide +kernel
theorem dX7_count_1 : decode cX7_count 1 = .ok (.tableswitch 104 0 8 #[51, 58, 65, 72, 79, 84, 89, 94, 99], 51) := by decide +kernel
theorem dX7_count_52 : decode cX7_count 52 = .ok (.aload_n 0, 1) := by decide +kernel
theorem dX7_count_53 : decode cX7_count 53 = .ok (.getfield 13, 3) := by decide +kernel
theorem dX7_count_56 : decode cX7_count 56 = .ok (.iconst 3, 1) := by decide +kernel
theorem dX7_count_57 : decode cX7_count 57 = .ok (.iaload, 1) := by decide +kernel
theorem dX7_count_58 : decode cX7_count 58 = .ok (.ireturn, 1) := by decide +kernel
theorem dX7_count_59 : decode cX7_count 59 = .ok (.aload_n 0, 1) := by decide +kernel
theorem dX7_count_60 : decode cX7_count 60 = .ok (.getfield 13, 3) := by decide +kernel
theorem dX7_count_63 : decode cX7_count 63 = .ok (.iconst 0, 1) := by decide +kernel
theorem dX7_count_64 : decode cX7_count 64 = .ok (.iaload, 1) := by decide +kernel
theorem dX7_count_65 : decode cX7_count 65 = .ok (.ireturn, 1) := by decide +kernel
theorem dX7_count_66 : decode cX7_count 66 = .ok (.aload_n 0, 1) := by decide +kernel
theorem dX7_count_67 : decode cX7_count 67 = .ok (.getfield 19, 3) := by decide +kernel
theorem dX7_count_70 : decode cX7_count 70 = .ok (.iconst 0, 1) := by decide +kernel
theorem dX7_count_71 : decode cX7_count 71 = .ok (.iaload, 1) := by decide +kernel
theorem dX7_count_72 : decode cX7_count 72 = .ok (.ireturn, 1) := by decide +kernel
theorem dX7_count_73 : decode cX7_count 73 = .ok (.aload_n 0, 1) := by decide +kernel
theorem dX7_count_74 : decode cX7_count 74 = .ok (.getfield 19, 3) := by decide +kernel
theorem dX7_count_77 : decode cX7_count 77 = .ok (.iconst 1, 1) := by decide +kernel
theorem dX7_count_78 : decode cX7_count 78 = .ok (.iaload, 1) := by decide +kernel
theorem dX7_count_79 : decode cX7_count 79 = .ok (.ireturn, 1) := by decide +kernel
theorem dX7_count_80 : decode cX7_count 80 = .ok (.aload_n 0, 1) := by decide +kernel
theorem dX7_count_81 : decode cX7_count 81 = .ok (.invokevirtual 189, 3) := by decide +kernel
theorem dX7_count_84 : decode cX7_count 84 = .ok (.ireturn, 1) := by decide +kernel
theorem dX7_count_85 : decode cX7_count 85 = .ok (.aload_n 0, 1) := by decide +kernel
theorem dX7_count_86 : decode cX7_count 86 = .ok (.getfield 98, 3) := by decide +kernel
theorem dX7_count_89 : decode cX7_count 89 = .ok (.ireturn, 1) := by decide +kernel
theorem dX7_count_90 : decode cX7_count 90 = .ok (.aload_n 0, 1) := by decide +kernel
theorem dX7_count_91 : decode cX7_count 91 = .ok (.getfield 101, 3) := by decide +kernel
theorem dX7_count_94 : decode cX7_count 94 = .ok (.ireturn, 1) := by decide +kernel
theorem dX7_count_95 : decode cX7_count 95 = .ok (.aload_n 0, 1) := by decide +kernel
theorem dX7_count_96 : decode cX7_count 96 = .ok (.getfield 104, 3) := by decide +kernel
theorem dX7_count_99 : decode cX7_count 99 = .ok (.ireturn, 1) := by decide +kernel
theorem dX7_count_100 : decode cX7_count 100 = .ok (.aload_n 0, 1) := by decide +kernel
theorem dX7_count_101 : decode cX7_count 101 = .ok (.getfield 62, 3) := by decide +kernel
theorem dX7_count_104 : decode cX7_count 104 = .ok (.ireturn, 1) := by decide +kernel
theorem dX7_count_105 : decode cX7_count 105 = .ok (.iconst (-1), 1) := by decide +kernel
theorem dX7_count_106 : decode cX7_count 106 = .ok (.ireturn, 1) := by decide +kernel
