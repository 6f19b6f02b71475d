theorem dd_P_isMissing_0 : decode cc_P_isMissing 0 = .ok (.aload_n 0, 1) := by decide +kernel
theorem dd_P_isMissing_1 : decode cc_P_isMissing 1 = .ok (.getfield 47, 3) := by decide +kernel
theorem dd_P_isMissing_4 : decode cc_P_isMissing 4 = .ok (.ifCond .ne 7, 3) := by decide +kernel
theorem dd_P_isMissing_7 : decode cc_P_isMissing 7 = .ok (.iconst 1, 1) := by decide +kernel
theorem dd_P_isMissing_8 : decode cc_P_isMissing 8 = .ok (.goto 4, 3) := by decide +kernel
theorem dd_P_isMissing_11 : decode cc_P_isMissing 11 = .ok (.iconst 0, 1) := by decide +kernel
theorem dd_P_isMissing_12 : decode cc_P_isMissing 12 = .ok (.ireturn, 1) := by decide +kernel
theorem dd_P_becomeCopiesOf_0 : decode cc_P_becomeCopiesOf 0 = .ok (.aload_n 0, 1) := by decide +kernel
theorem dd_P_becomeCopiesOf_1 : decode cc_P_becomeCopiesOf 1 = .ok (.iconst 0, 1) := by decide +kernel
theorem dd_P_becomeCopiesOf_2 : decode cc_P_becomeCopiesOf 2 = .ok (.putfield 47, 3) := by decide +kernel
theorem dd_P_becomeCopiesOf_5 : decode cc_P_becomeCopiesOf 5 = .ok (.aload_n 0, 1) := by decide +kernel
theorem dd_P_becomeCopiesOf_6 : decode cc_P_becomeCopiesOf 6 = .ok (.iconst 0, 1) := by decide +kernel
theorem dd_P_becomeCopiesOf_7 : decode cc_P_becomeCopiesOf 7 = .ok (.putfield 51, 3) := by decide +kernel
theorem dd_P_becomeCopiesOf_10 : decode cc_P_becomeCopiesOf 10 = .ok (.aload_n 0, 1) := by decide +kernel
theorem dd_P_becomeCopiesOf_11 : decode cc_P_becomeCopiesOf 11 = .ok (.iconst 0, 1) := by decide +kernel
theorem dd_P_becomeCopiesOf_12 : decode cc_P_becomeCopiesOf 12 = .ok (.putfield 57, 3) := by decide +kernel
theorem dd_P_becomeCopiesOf_15 : decode cc_P_becomeCopiesOf 15 = .ok (.aload_n 0, 1) := by decide +kernel
theorem dd_P_becomeCopiesOf_16 : decode cc_P_becomeCopiesOf 16 = .ok (.bipush 8, 2) := by decide +kernel
theorem dd_P_becomeCopiesOf_18 : decode cc_P_becomeCopiesOf 18 = .ok (.putfield 54, 3) := by decide +kernel
theorem dd_P_becomeCopiesOf_21 : decode cc_P_becomeCopiesOf 21 = .ok (.iconst 0, 1) := by decide +kernel
theorem dd_P_becomeCopiesOf_22 : decode cc_P_becomeCopiesOf 22 = .ok (.istore_n 3, 1) := by decide +kernel
theorem dd_P_becomeCopiesOf_23 : decode cc_P_becomeCopiesOf 23 = .ok (.iload_n 3, 1) := by decide +kernel
theorem dd_P_becomeCopiesOf_24 : decode cc_P_becomeCopiesOf 24 = .ok (.bipush 8, 2) := by decide +kernel
theorem dd_P_becomeCopiesOf_26 : decode cc_P_becomeCopiesOf 26 = .ok (.if_icmp .ge 16, 3) := by decide +kernel
theorem dd_P_becomeCopiesOf_29 : decode cc_P_becomeCopiesOf 29 = .ok (.aload_n 0, 1) := by decide +kernel
theorem dd_P_becomeCopiesOf_30 : decode cc_P_becomeCopiesOf 30 = .ok (.getfield 30, 3) := by decide +kernel
theorem dd_P_becomeCopiesOf_33 : decode cc_P_becomeCopiesOf 33 = .ok (.iload_n 3, 1) := by decide +kernel
theorem dd_P_becomeCopiesOf_34 : decode cc_P_becomeCopiesOf 34 = .ok (.iload_n 3, 1) := by decide +kernel
theorem dd_P_becomeCopiesOf_35 : decode cc_P_becomeCopiesOf 35 = .ok (.iastore, 1) := by decide +kernel
theorem dd_P_becomeCopiesOf_36 : decode cc_P_becomeCopiesOf 36 = .ok (.iinc 3 1, 3) := by decide +kernel
theorem dd_P_becomeCopiesOf_39 : decode cc_P_becomeCopiesOf 39 = .ok (.goto (-16), 3) := by decide +kernel
theorem dd_P_becomeCopiesOf_42 : decode cc_P_becomeCopiesOf 42 = .ok (.aload_n 0, 1) := by decide +kernel
theorem dd_P_becomeCopiesOf_43 : decode cc_P_becomeCopiesOf 43 = .ok (.aload_n 1, 1) := by decide +kernel
theorem dd_P_becomeCopiesOf_44 : decode cc_P_becomeCopiesOf 44 = .ok (.iload_n 2, 1) := by decide +kernel
theorem dd_P_becomeCopiesOf_45 : decode cc_P_becomeCopiesOf 45 = .ok (.iconst (-1), 1) := by decide +kernel
theorem dd_P_becomeCopiesOf_46 : decode cc_P_becomeCopiesOf 46 = .ok (.invokevirtual 70, 3) := by decide +kernel
theorem dd_P_becomeCopiesOf_49 : decode cc_P_becomeCopiesOf 49 = .ok (.pop, 1) := by decide +kernel
theorem dd_P_becomeCopiesOf_50 : decode cc_P_becomeCopiesOf 50 = .ok (.aload_n 0, 1) := by decide +kernel
theorem dd_P_becomeCopiesOf_51 : decode cc_P_becomeCopiesOf 51 = .ok (.iconst 0, 1) := by decide +kernel
theorem dd_P_becomeCopiesOf_52 : decode cc_P_becomeCopiesOf 52 = .ok (.putfield 63, 3) := by decide +kernel
theorem dd_P_becomeCopiesOf_55 : decode cc_P_becomeCopiesOf 55 = .ok (.aload_n 0, 1) := by decide +kernel
theorem dd_P_becomeCopiesOf_56 : decode cc_P_becomeCopiesOf 56 = .ok (.invokevirtual 74, 3) := by decide +kernel
theorem dd_P_becomeCopiesOf_59 : decode cc_P_becomeCopiesOf 59 = .ok (.return_, 1) := by decide +kernel
theorem dd_P_rewind_0 : decode cc_P_rewind 0 = .ok (.iconst 0, 1) := by decide +kernel
theorem dd_P_rewind_1 : decode cc_P_rewind 1 = .ok (.istore_n 1, 1) := by decide +kernel
theorem dd_P_rewind_2 : decode cc_P_rewind 2 = .ok (.iload_n 1, 1) := by decide +kernel
theorem dd_P_rewind_3 : decode cc_P_rewind 3 = .ok (.aload_n 0, 1) := by decide +kernel
theorem dd_P_rewind_4 : decode cc_P_rewind 4 = .ok (.getfield 51, 3) := by decide +kernel
theorem dd_P_rewind_7 : decode cc_P_rewind 7 = .ok (.if_icmp .ge 16, 3) := by decide +kernel
theorem dd_P_rewind_10 : decode cc_P_rewind 10 = .ok (.aload_n 0, 1) := by decide +kernel
theorem dd_P_rewind_11 : decode cc_P_rewind 11 = .ok (.getfield 43, 3) := by decide +kernel
theorem dd_P_rewind_14 : decode cc_P_rewind 14 = .ok (.iload_n 1, 1) := by decide +kernel
theorem dd_P_rewind_15 : decode cc_P_rewind 15 = .ok (.iconst 0, 1) := by decide +kernel
theorem dd_P_rewind_16 : decode cc_P_rewind 16 = .ok (.bastore, 1) := by decide +kernel
theorem dd_P_rewind_17 : decode cc_P_rewind 17 = .ok (.iinc 1 1, 3) := by decide +kernel
theorem dd_P_rewind_20 : decode cc_P_rewind 20 = .ok (.goto (-18), 3) := by decide +kernel
theorem dd_P_rewind_23 : decode cc_P_rewind 23 = .ok (.aload_n 0, 1) := by decide +kernel
theorem dd_P_rewind_24 : decode cc_P_rewind 24 = .ok (.iconst 0, 1) := by decide +kernel
theorem dd_P_rewind_25 : decode cc_P_rewind 25 = .ok (.putfield 60, 3) := by decide +kernel
theorem dd_P_rewind_28 : decode cc_P_rewind 28 = .ok (.aload_n 0, 1) := by decide +kernel
theorem dd_P_rewind_29 : decode cc_P_rewind 29 = .ok (.iconst 0, 1) := by decide +kernel
theorem dd_P_rewind_30 : decode cc_P_rewind 30 = .ok (.putfield 66, 3) := by decide +kernel
theorem dd_P_rewind_33 : decode cc_P_rewind 33 = .ok (.return_, 1) := by decide +kernel
theorem dd_P_addCopy_0 : decode cc_P_addCopy 0 = .ok (.aload_n 1, 1) := by decide +kernel
theorem dd_P_addCopy_1 : decode cc_P_addCopy 1 = .ok (.iload_n 2, 1) := by decide +kernel
theorem dd_P_addCopy_2 : decode cc_P_addCopy 2 = .ok (.invokevirtual 77, 3) := by decide +kernel
theorem dd_P_addCopy_5 : decode cc_P_addCopy 5 = .ok (.ifCond .ne 5, 3) := by decide +kernel
theorem dd_P_addCopy_8 : decode cc_P_addCopy 8 = .ok (.iconst (-1), 1) := by decide +kernel
theorem dd_P_addCopy_9 : decode cc_P_addCopy 9 = .ok (.ireturn, 1) := by decide +kernel
theorem dd_P_addCopy_10 : decode cc_P_addCopy 10 = .ok (.aload_n 0, 1) := by decide +kernel
theorem dd_P_addCopy_11 : decode cc_P_addCopy 11 = .ok (.dup, 1) := by decide +kernel
theorem dd_P_addCopy_12 : decode cc_P_addCopy 12 = .ok (.getfield 47, 3) := by decide +kernel
theorem dd_P_addCopy_15 : decode cc_P_addCopy 15 = .ok (.dup_x1, 1) := by decide +kernel
theorem dd_P_addCopy_16 : decode cc_P_addCopy 16 = .ok (.iconst 1, 1) := by decide +kernel
theorem dd_P_addCopy_17 : decode cc_P_addCopy 17 = .ok (.iadd, 1) := by decide +kernel
theorem dd_P_addCopy_18 : decode cc_P_addCopy 18 = .ok (.putfield 47, 3) := by decide +kernel
theorem dd_P_addCopy_21 : decode cc_P_addCopy 21 = .ok (.istore 4, 2) := by decide +kernel
theorem dd_P_addCopy_23 : decode cc_P_addCopy 23 = .ok (.aload_n 1, 1) := by decide +kernel
theorem dd_P_addCopy_24 : decode cc_P_addCopy 24 = .ok (.getfield 83, 3) := by decide +kernel
theorem dd_P_addCopy_27 : decode cc_P_addCopy 27 = .ok (.iload_n 2, 1) := by decide +kernel
theorem dd_P_addCopy_28 : decode cc_P_addCopy 28 = .ok (.iaload, 1) := by decide +kernel
theorem dd_P_addCopy_29 : decode cc_P_addCopy 29 = .ok (.istore 5, 2) := by decide +kernel
theorem dd_P_addCopy_31 : decode cc_P_addCopy 31 = .ok (.aload_n 1, 1) := by decide +kernel
theorem dd_P_addCopy_32 : decode cc_P_addCopy 32 = .ok (.getfield 84, 3) := by decide +kernel
theorem dd_P_addCopy_35 : decode cc_P_addCopy 35 = .ok (.iload_n 2, 1) := by decide +kernel
theorem dd_P_addCopy_36 : decode cc_P_addCopy 36 = .ok (.iaload, 1) := by decide +kernel
theorem dd_P_addCopy_37 : decode cc_P_addCopy 37 = .ok (.istore 6, 2) := by decide +kernel
theorem dd_P_addCopy_39 : decode cc_P_addCopy 39 = .ok (.iload 5, 2) := by decide +kernel
theorem dd_P_addCopy_41 : decode cc_P_addCopy 41 = .ok (.bipush 8, 2) := by decide +kernel
theorem dd_P_addCopy_43 : decode cc_P_addCopy 43 = .ok (.if_icmp .ne 13, 3) := by decide +kernel
theorem dd_P_addCopy_46 : decode cc_P_addCopy 46 = .ok (.aload_n 0, 1) := by decide +kernel
theorem dd_P_addCopy_47 : decode cc_P_addCopy 47 = .ok (.getfield 30, 3) := by decide +kernel
theorem dd_P_addCopy_50 : decode cc_P_addCopy 50 = .ok (.iload 6, 2) := by decide +kernel
theorem dd_P_addCopy_52 : decode cc_P_addCopy 52 = .ok (.iaload, 1) := by decide +kernel
theorem dd_P_addCopy_53 : decode cc_P_addCopy 53 = .ok (.goto 4, 3) := by decide +kernel
theorem dd_P_addCopy_56 : decode cc_P_addCopy 56 = .ok (.iconst (-1), 1) := by decide +kernel
theorem dd_P_addCopy_57 : decode cc_P_addCopy 57 = .ok (.istore 7, 2) := by decide +kernel
theorem dd_P_addCopy_59 : decode cc_P_addCopy 59 = .ok (.iload 5, 2) := by decide +kernel
theorem dd_P_addCopy_61 : decode cc_P_addCopy 61 = .ok (.bipush 8, 2) := by decide +kernel
theorem dd_P_addCopy_63 : decode cc_P_addCopy 63 = .ok (.if_icmp .ne 21, 3) := by decide +kernel
theorem dd_P_addCopy_66 : decode cc_P_addCopy 66 = .ok (.aload_n 0, 1) := by decide +kernel
theorem dd_P_addCopy_67 : decode cc_P_addCopy 67 = .ok (.getfield 30, 3) := by decide +kernel
theorem dd_P_addCopy_70 : decode cc_P_addCopy 70 = .ok (.iload 6, 2) := by decide +kernel
theorem dd_P_addCopy_72 : decode cc_P_addCopy 72 = .ok (.aload_n 0, 1) := by decide +kernel
theorem dd_P_addCopy_73 : decode cc_P_addCopy 73 = .ok (.dup, 1) := by decide +kernel
theorem dd_P_addCopy_74 : decode cc_P_addCopy 74 = .ok (.getfield 54, 3) := by decide +kernel
theorem dd_P_addCopy_77 : decode cc_P_addCopy 77 = .ok (.dup_x1, 1) := by decide +kernel
theorem dd_P_addCopy_78 : decode cc_P_addCopy 78 = .ok (.iconst 1, 1) := by decide +kernel
theorem dd_P_addCopy_79 : decode cc_P_addCopy 79 = .ok (.iadd, 1) := by decide +kernel
theorem dd_P_addCopy_80 : decode cc_P_addCopy 80 = .ok (.putfield 54, 3) := by decide +kernel
theorem dd_P_addCopy_83 : decode cc_P_addCopy 83 = .ok (.iastore, 1) := by decide +kernel
theorem dd_P_addCopy_84 : decode cc_P_addCopy 84 = .ok (.aload_n 0, 1) := by decide +kernel
theorem dd_P_addCopy_85 : decode cc_P_addCopy 85 = .ok (.getfield 9, 3) := by decide +kernel
theorem dd_P_addCopy_88 : decode cc_P_addCopy 88 = .ok (.iload 4, 2) := by decide +kernel
theorem dd_P_addCopy_90 : decode cc_P_addCopy 90 = .ok (.iload 5, 2) := by decide +kernel
theorem dd_P_addCopy_92 : decode cc_P_addCopy 92 = .ok (.iastore, 1) := by decide +kernel
theorem dd_P_addCopy_93 : decode cc_P_addCopy 93 = .ok (.aload_n 0, 1) := by decide +kernel
theorem dd_P_addCopy_94 : decode cc_P_addCopy 94 = .ok (.getfield 15, 3) := by decide +kernel
theorem dd_P_addCopy_97 : decode cc_P_addCopy 97 = .ok (.iload 4, 2) := by decide +kernel
theorem dd_P_addCopy_99 : decode cc_P_addCopy 99 = .ok (.aload_n 0, 1) := by decide +kernel
theorem dd_P_addCopy_100 : decode cc_P_addCopy 100 = .ok (.iload 5, 2) := by decide +kernel
theorem dd_P_addCopy_102 : decode cc_P_addCopy 102 = .ok (.iload 6, 2) := by decide +kernel
theorem dd_P_addCopy_104 : decode cc_P_addCopy 104 = .ok (.invokevirtual 85, 3) := by decide +kernel
theorem dd_P_addCopy_107 : decode cc_P_addCopy 107 = .ok (.iastore, 1) := by decide +kernel
theorem dd_P_addCopy_108 : decode cc_P_addCopy 108 = .ok (.aload_n 0, 1) := by decide +kernel
theorem dd_P_addCopy_109 : decode cc_P_addCopy 109 = .ok (.getfield 18, 3) := by decide +kernel
theorem dd_P_addCopy_112 : decode cc_P_addCopy 112 = .ok (.iload 4, 2) := by decide +kernel
theorem dd_P_addCopy_114 : decode cc_P_addCopy 114 = .ok (.iload_n 3, 1) := by decide +kernel
theorem dd_P_addCopy_115 : decode cc_P_addCopy 115 = .ok (.iastore, 1) := by decide +kernel
theorem dd_P_addCopy_116 : decode cc_P_addCopy 116 = .ok (.aload_n 0, 1) := by decide +kernel
theorem dd_P_addCopy_117 : decode cc_P_addCopy 117 = .ok (.getfield 27, 3) := by decide +kernel
theorem dd_P_addCopy_120 : decode cc_P_addCopy 120 = .ok (.aload_n 0, 1) := by decide +kernel
theorem dd_P_addCopy_121 : decode cc_P_addCopy 121 = .ok (.dup, 1) := by decide +kernel
theorem dd_P_addCopy_122 : decode cc_P_addCopy 122 = .ok (.getfield 57, 3) := by decide +kernel
theorem dd_P_addCopy_125 : decode cc_P_addCopy 125 = .ok (.dup_x1, 1) := by decide +kernel
theorem dd_P_addCopy_126 : decode cc_P_addCopy 126 = .ok (.iconst 1, 1) := by decide +kernel
theorem dd_P_addCopy_127 : decode cc_P_addCopy 127 = .ok (.iadd, 1) := by decide +kernel
theorem dd_P_addCopy_128 : decode cc_P_addCopy 128 = .ok (.putfield 57, 3) := by decide +kernel
theorem dd_P_addCopy_131 : decode cc_P_addCopy 131 = .ok (.iload 4, 2) := by decide +kernel
theorem dd_P_addCopy_133 : decode cc_P_addCopy 133 = .ok (.iastore, 1) := by decide +kernel
theorem dd_P_addCopy_134 : decode cc_P_addCopy 134 = .ok (.aload_n 0, 1) := by decide +kernel
theorem dd_P_addCopy_135 : decode cc_P_addCopy 135 = .ok (.getfield 21, 3) := by decide +kernel
theorem dd_P_addCopy_138 : decode cc_P_addCopy 138 = .ok (.iload 4, 2) := by decide +kernel
theorem dd_P_addCopy_140 : decode cc_P_addCopy 140 = .ok (.aload_n 0, 1) := by decide +kernel
theorem dd_P_addCopy_141 : decode cc_P_addCopy 141 = .ok (.aload_n 1, 1) := by decide +kernel
theorem dd_P_addCopy_142 : decode cc_P_addCopy 142 = .ok (.aload_n 1, 1) := by decide +kernel
theorem dd_P_addCopy_143 : decode cc_P_addCopy 143 = .ok (.getfield 89, 3) := by decide +kernel
theorem dd_P_addCopy_146 : decode cc_P_addCopy 146 = .ok (.iload_n 2, 1) := by decide +kernel
theorem dd_P_addCopy_147 : decode cc_P_addCopy 147 = .ok (.iaload, 1) := by decide +kernel
theorem dd_P_addCopy_148 : decode cc_P_addCopy 148 = .ok (.iload 4, 2) := by decide +kernel
theorem dd_P_addCopy_150 : decode cc_P_addCopy 150 = .ok (.invokevirtual 70, 3) := by decide +kernel
theorem dd_P_addCopy_153 : decode cc_P_addCopy 153 = .ok (.iastore, 1) := by decide +kernel
theorem dd_P_addCopy_154 : decode cc_P_addCopy 154 = .ok (.aload_n 0, 1) := by decide +kernel
theorem dd_P_addCopy_155 : decode cc_P_addCopy 155 = .ok (.getfield 24, 3) := by decide +kernel
theorem dd_P_addCopy_158 : decode cc_P_addCopy 158 = .ok (.iload 4, 2) := by decide +kernel
theorem dd_P_addCopy_160 : decode cc_P_addCopy 160 = .ok (.aload_n 0, 1) := by decide +kernel
theorem dd_P_addCopy_161 : decode cc_P_addCopy 161 = .ok (.aload_n 1, 1) := by decide +kernel
theorem dd_P_addCopy_162 : decode cc_P_addCopy 162 = .ok (.aload_n 1, 1) := by decide +kernel
theorem dd_P_addCopy_163 : decode cc_P_addCopy 163 = .ok (.getfield 90, 3) := by decide +kernel
theorem dd_P_addCopy_166 : decode cc_P_addCopy 166 = .ok (.iload_n 2, 1) := by decide +kernel
theorem dd_P_addCopy_167 : decode cc_P_addCopy 167 = .ok (.iaload, 1) := by decide +kernel
theorem dd_P_addCopy_168 : decode cc_P_addCopy 168 = .ok (.iload 4, 2) := by decide +kernel
theorem dd_P_addCopy_170 : decode cc_P_addCopy 170 = .ok (.invokevirtual 70, 3) := by decide +kernel
theorem dd_P_addCopy_173 : decode cc_P_addCopy 173 = .ok (.iastore, 1) := by decide +kernel
theorem dd_P_addCopy_174 : decode cc_P_addCopy 174 = .ok (.aload_n 0, 1) := by decide +kernel
theorem dd_P_addCopy_175 : decode cc_P_addCopy 175 = .ok (.getfield 27, 3) := by decide +kernel
theorem dd_P_addCopy_178 : decode cc_P_addCopy 178 = .ok (.aload_n 0, 1) := by decide +kernel
theorem dd_P_addCopy_179 : decode cc_P_addCopy 179 = .ok (.dup, 1) := by decide +kernel
theorem dd_P_addCopy_180 : decode cc_P_addCopy 180 = .ok (.getfield 57, 3) := by decide +kernel
theorem dd_P_addCopy_183 : decode cc_P_addCopy 183 = .ok (.dup_x1, 1) := by decide +kernel
theorem dd_P_addCopy_184 : decode cc_P_addCopy 184 = .ok (.iconst 1, 1) := by decide +kernel
theorem dd_P_addCopy_185 : decode cc_P_addCopy 185 = .ok (.iadd, 1) := by decide +kernel
theorem dd_P_addCopy_186 : decode cc_P_addCopy 186 = .ok (.putfield 57, 3) := by decide +kernel
theorem dd_P_addCopy_189 : decode cc_P_addCopy 189 = .ok (.iload 4, 2) := by decide +kernel
theorem dd_P_addCopy_191 : decode cc_P_addCopy 191 = .ok (.iconst (-1), 1) := by decide +kernel
theorem dd_P_addCopy_192 : decode cc_P_addCopy 192 = .ok (.ixor, 1) := by decide +kernel
theorem dd_P_addCopy_193 : decode cc_P_addCopy 193 = .ok (.iastore, 1) := by decide +kernel
theorem dd_P_addCopy_194 : decode cc_P_addCopy 194 = .ok (.iload 5, 2) := by decide +kernel
theorem dd_P_addCopy_196 : decode cc_P_addCopy 196 = .ok (.bipush 8, 2) := by decide +kernel
theorem dd_P_addCopy_198 : decode cc_P_addCopy 198 = .ok (.if_icmp .ne 12, 3) := by decide +kernel
theorem dd_P_addCopy_201 : decode cc_P_addCopy 201 = .ok (.aload_n 0, 1) := by decide +kernel
theorem dd_P_addCopy_202 : decode cc_P_addCopy 202 = .ok (.getfield 30, 3) := by decide +kernel
theorem dd_P_addCopy_205 : decode cc_P_addCopy 205 = .ok (.iload 6, 2) := by decide +kernel
theorem dd_P_addCopy_207 : decode cc_P_addCopy 207 = .ok (.iload 7, 2) := by decide +kernel
theorem dd_P_addCopy_209 : decode cc_P_addCopy 209 = .ok (.iastore, 1) := by decide +kernel
theorem dd_P_addCopy_210 : decode cc_P_addCopy 210 = .ok (.iload 4, 2) := by decide +kernel
theorem dd_P_addCopy_212 : decode cc_P_addCopy 212 = .ok (.ireturn, 1) := by decide +kernel
theorem dd_P_numberOfCopy_0 : decode cc_P_numberOfCopy 0 = .ok (.iload_n 1, 1) := by decide +kernel
theorem dd_P_numberOfCopy_1 : decode cc_P_numberOfCopy 1 = .ok (.iconst 1, 1) := by decide +kernel
theorem dd_P_numberOfCopy_2 : decode cc_P_numberOfCopy 2 = .ok (.if_icmp .ne 15, 3) := by decide +kernel
theorem dd_P_numberOfCopy_5 : decode cc_P_numberOfCopy 5 = .ok (.aload_n 0, 1) := by decide +kernel
theorem dd_P_numberOfCopy_6 : decode cc_P_numberOfCopy 6 = .ok (.dup, 1) := by decide +kernel
theorem dd_P_numberOfCopy_7 : decode cc_P_numberOfCopy 7 = .ok (.getfield 51, 3) := by decide +kernel
theorem dd_P_numberOfCopy_10 : decode cc_P_numberOfCopy 10 = .ok (.dup_x1, 1) := by decide +kernel
theorem dd_P_numberOfCopy_11 : decode cc_P_numberOfCopy 11 = .ok (.iconst 1, 1) := by decide +kernel
theorem dd_P_numberOfCopy_12 : decode cc_P_numberOfCopy 12 = .ok (.iadd, 1) := by decide +kernel
theorem dd_P_numberOfCopy_13 : decode cc_P_numberOfCopy 13 = .ok (.putfield 51, 3) := by decide +kernel
theorem dd_P_numberOfCopy_16 : decode cc_P_numberOfCopy 16 = .ok (.ireturn, 1) := by decide +kernel
theorem dd_P_numberOfCopy_17 : decode cc_P_numberOfCopy 17 = .ok (.iload_n 1, 1) := by decide +kernel
theorem dd_P_numberOfCopy_18 : decode cc_P_numberOfCopy 18 = .ok (.bipush 10, 2) := by decide +kernel
theorem dd_P_numberOfCopy_20 : decode cc_P_numberOfCopy 20 = .ok (.if_icmp .eq 10, 3) := by decide +kernel
theorem dd_P_numberOfCopy_23 : decode cc_P_numberOfCopy 23 = .ok (.iload_n 1, 1) := by decide +kernel
theorem dd_P_numberOfCopy_24 : decode cc_P_numberOfCopy 24 = .ok (.invokestatic 91, 3) := by decide +kernel
theorem dd_P_numberOfCopy_27 : decode cc_P_numberOfCopy 27 = .ok (.ifCond .ne 7, 3) := by decide +kernel
theorem dd_P_numberOfCopy_30 : decode cc_P_numberOfCopy 30 = .ok (.iload_n 2, 1) := by decide +kernel
theorem dd_P_numberOfCopy_31 : decode cc_P_numberOfCopy 31 = .ok (.goto 9, 3) := by decide +kernel
theorem dd_P_numberOfCopy_34 : decode cc_P_numberOfCopy 34 = .ok (.aload_n 0, 1) := by decide +kernel
theorem dd_P_numberOfCopy_35 : decode cc_P_numberOfCopy 35 = .ok (.getfield 30, 3) := by decide +kernel
theorem dd_P_numberOfCopy_38 : decode cc_P_numberOfCopy 38 = .ok (.iload_n 2, 1) := by decide +kernel
theorem dd_P_numberOfCopy_39 : decode cc_P_numberOfCopy 39 = .ok (.iaload, 1) := by decide +kernel
theorem dd_P_numberOfCopy_40 : decode cc_P_numberOfCopy 40 = .ok (.ireturn, 1) := by decide +kernel
theorem dd_P_solve_0 : decode cc_P_solve 0 = .ok (.aload_n 0, 1) := by decide +kernel
theorem dd_P_solve_1 : decode cc_P_solve 1 = .ok (.iload_n 1, 1) := by decide +kernel
theorem dd_P_solve_2 : decode cc_P_solve 2 = .ok (.invokevirtual 94, 3) := by decide +kernel
theorem dd_P_solve_5 : decode cc_P_solve 5 = .ok (.iconst 1, 1) := by decide +kernel
theorem dd_P_solve_6 : decode cc_P_solve 6 = .ok (.istore_n 2, 1) := by decide +kernel
theorem dd_P_solve_7 : decode cc_P_solve 7 = .ok (.iconst 0, 1) := by decide +kernel
theorem dd_P_solve_8 : decode cc_P_solve 8 = .ok (.istore_n 3, 1) := by decide +kernel
theorem dd_P_solve_9 : decode cc_P_solve 9 = .ok (.iload_n 2, 1) := by decide +kernel
theorem dd_P_solve_10 : decode cc_P_solve 10 = .ok (.ifCond .eq 37, 3) := by decide +kernel
theorem dd_P_solve_13 : decode cc_P_solve 13 = .ok (.iload_n 3, 1) := by decide +kernel
theorem dd_P_solve_14 : decode cc_P_solve 14 = .ok (.sipush 10000, 3) := by decide +kernel
theorem dd_P_solve_17 : decode cc_P_solve 17 = .ok (.if_icmp .ge 30, 3) := by decide +kernel
theorem dd_P_solve_20 : decode cc_P_solve 20 = .ok (.aload_n 0, 1) := by decide +kernel
theorem dd_P_solve_21 : decode cc_P_solve 21 = .ok (.aload_n 0, 1) := by decide +kernel
theorem dd_P_solve_22 : decode cc_P_solve 22 = .ok (.getfield 36, 3) := by decide +kernel
theorem dd_P_solve_25 : decode cc_P_solve 25 = .ok (.invokevirtual 98, 3) := by decide +kernel
theorem dd_P_solve_28 : decode cc_P_solve 28 = .ok (.aload_n 0, 1) := by decide +kernel
theorem dd_P_solve_29 : decode cc_P_solve 29 = .ok (.aload_n 0, 1) := by decide +kernel
theorem dd_P_solve_30 : decode cc_P_solve 30 = .ok (.getfield 40, 3) := by decide +kernel
theorem dd_P_solve_33 : decode cc_P_solve 33 = .ok (.invokevirtual 98, 3) := by decide +kernel
theorem dd_P_solve_36 : decode cc_P_solve 36 = .ok (.aload_n 0, 1) := by decide +kernel
theorem dd_P_solve_37 : decode cc_P_solve 37 = .ok (.invokevirtual 102, 3) := by decide +kernel
theorem dd_P_solve_40 : decode cc_P_solve 40 = .ok (.istore_n 2, 1) := by decide +kernel
theorem dd_P_solve_41 : decode cc_P_solve 41 = .ok (.iinc 3 1, 3) := by decide +kernel
theorem dd_P_solve_44 : decode cc_P_solve 44 = .ok (.goto (-35), 3) := by decide +kernel
theorem dd_P_solve_47 : decode cc_P_solve 47 = .ok (.return_, 1) := by decide +kernel
theorem dd_P_makeUnknown_0 : decode cc_P_makeUnknown 0 = .ok (.iconst 0, 1) := by decide +kernel
theorem dd_P_makeUnknown_1 : decode cc_P_makeUnknown 1 = .ok (.istore_n 2, 1) := by decide +kernel
theorem dd_P_makeUnknown_2 : decode cc_P_makeUnknown 2 = .ok (.iload_n 2, 1) := by decide +kernel
theorem dd_P_makeUnknown_3 : decode cc_P_makeUnknown 3 = .ok (.aload_n 0, 1) := by decide +kernel
theorem dd_P_makeUnknown_4 : decode cc_P_makeUnknown 4 = .ok (.getfield 47, 3) := by decide +kernel
theorem dd_P_makeUnknown_7 : decode cc_P_makeUnknown 7 = .ok (.if_icmp .ge 31, 3) := by decide +kernel
theorem dd_P_makeUnknown_10 : decode cc_P_makeUnknown 10 = .ok (.aload_n 0, 1) := by decide +kernel
theorem dd_P_makeUnknown_11 : decode cc_P_makeUnknown 11 = .ok (.getfield 36, 3) := by decide +kernel
theorem dd_P_makeUnknown_14 : decode cc_P_makeUnknown 14 = .ok (.getfield 106, 3) := by decide +kernel
theorem dd_P_makeUnknown_17 : decode cc_P_makeUnknown 17 = .ok (.iload_n 2, 1) := by decide +kernel
theorem dd_P_makeUnknown_18 : decode cc_P_makeUnknown 18 = .ok (.iconst 0, 1) := by decide +kernel
theorem dd_P_makeUnknown_19 : decode cc_P_makeUnknown 19 = .ok (.iastore, 1) := by decide +kernel
theorem dd_P_makeUnknown_20 : decode cc_P_makeUnknown 20 = .ok (.aload_n 0, 1) := by decide +kernel
theorem dd_P_makeUnknown_21 : decode cc_P_makeUnknown 21 = .ok (.getfield 40, 3) := by decide +kernel
theorem dd_P_makeUnknown_24 : decode cc_P_makeUnknown 24 = .ok (.getfield 106, 3) := by decide +kernel
theorem dd_P_makeUnknown_27 : decode cc_P_makeUnknown 27 = .ok (.iload_n 2, 1) := by decide +kernel
theorem dd_P_makeUnknown_28 : decode cc_P_makeUnknown 28 = .ok (.sipush 2047, 3) := by decide +kernel
theorem dd_P_makeUnknown_31 : decode cc_P_makeUnknown 31 = .ok (.iastore, 1) := by decide +kernel
theorem dd_P_makeUnknown_32 : decode cc_P_makeUnknown 32 = .ok (.iinc 2 1, 3) := by decide +kernel
theorem dd_P_makeUnknown_35 : decode cc_P_makeUnknown 35 = .ok (.goto (-33), 3) := by decide +kernel
theorem dd_P_makeUnknown_38 : decode cc_P_makeUnknown 38 = .ok (.iconst 0, 1) := by decide +kernel
theorem dd_P_makeUnknown_39 : decode cc_P_makeUnknown 39 = .ok (.istore_n 2, 1) := by decide +kernel
theorem dd_P_makeUnknown_40 : decode cc_P_makeUnknown 40 = .ok (.iload_n 2, 1) := by decide +kernel
theorem dd_P_makeUnknown_41 : decode cc_P_makeUnknown 41 = .ok (.iconst 3, 1) := by decide +kernel
theorem dd_P_makeUnknown_42 : decode cc_P_makeUnknown 42 = .ok (.if_icmp .ge 43, 3) := by decide +kernel
theorem dd_P_makeUnknown_45 : decode cc_P_makeUnknown 45 = .ok (.iload_n 1, 1) := by decide +kernel
theorem dd_P_makeUnknown_46 : decode cc_P_makeUnknown 46 = .ok (.iload_n 2, 1) := by decide +kernel
theorem dd_P_makeUnknown_47 : decode cc_P_makeUnknown 47 = .ok (.ishr, 1) := by decide +kernel
theorem dd_P_makeUnknown_48 : decode cc_P_makeUnknown 48 = .ok (.iconst 1, 1) := by decide +kernel
theorem dd_P_makeUnknown_49 : decode cc_P_makeUnknown 49 = .ok (.iand, 1) := by decide +kernel
theorem dd_P_makeUnknown_50 : decode cc_P_makeUnknown 50 = .ok (.ifCond .eq 7, 3) := by decide +kernel
theorem dd_P_makeUnknown_53 : decode cc_P_makeUnknown 53 = .ok (.iconst 1, 1) := by decide +kernel
theorem dd_P_makeUnknown_54 : decode cc_P_makeUnknown 54 = .ok (.goto 4, 3) := by decide +kernel
theorem dd_P_makeUnknown_57 : decode cc_P_makeUnknown 57 = .ok (.iconst 0, 1) := by decide +kernel
theorem dd_P_makeUnknown_58 : decode cc_P_makeUnknown 58 = .ok (.istore_n 3, 1) := by decide +kernel
theorem dd_P_makeUnknown_59 : decode cc_P_makeUnknown 59 = .ok (.aload_n 0, 1) := by decide +kernel
theorem dd_P_makeUnknown_60 : decode cc_P_makeUnknown 60 = .ok (.getfield 36, 3) := by decide +kernel
theorem dd_P_makeUnknown_63 : decode cc_P_makeUnknown 63 = .ok (.getfield 109, 3) := by decide +kernel
theorem dd_P_makeUnknown_66 : decode cc_P_makeUnknown 66 = .ok (.iload_n 2, 1) := by decide +kernel
theorem dd_P_makeUnknown_67 : decode cc_P_makeUnknown 67 = .ok (.iload_n 3, 1) := by decide +kernel
theorem dd_P_makeUnknown_68 : decode cc_P_makeUnknown 68 = .ok (.bastore, 1) := by decide +kernel
theorem dd_P_makeUnknown_69 : decode cc_P_makeUnknown 69 = .ok (.aload_n 0, 1) := by decide +kernel
theorem dd_P_makeUnknown_70 : decode cc_P_makeUnknown 70 = .ok (.getfield 40, 3) := by decide +kernel
theorem dd_P_makeUnknown_73 : decode cc_P_makeUnknown 73 = .ok (.getfield 109, 3) := by decide +kernel
theorem dd_P_makeUnknown_76 : decode cc_P_makeUnknown 76 = .ok (.iload_n 2, 1) := by decide +kernel
theorem dd_P_makeUnknown_77 : decode cc_P_makeUnknown 77 = .ok (.iload_n 3, 1) := by decide +kernel
theorem dd_P_makeUnknown_78 : decode cc_P_makeUnknown 78 = .ok (.bastore, 1) := by decide +kernel
theorem dd_P_makeUnknown_79 : decode cc_P_makeUnknown 79 = .ok (.iinc 2 1, 3) := by decide +kernel
theorem dd_P_makeUnknown_82 : decode cc_P_makeUnknown 82 = .ok (.goto (-42), 3) := by decide +kernel
theorem dd_P_makeUnknown_85 : decode cc_P_makeUnknown 85 = .ok (.return_, 1) := by decide +kernel
theorem dd_P_gatherSignals_0 : decode cc_P_gatherSignals 0 = .ok (.iconst 3, 1) := by decide +kernel
theorem dd_P_gatherSignals_1 : decode cc_P_gatherSignals 1 = .ok (.istore_n 2, 1) := by decide +kernel
theorem dd_P_gatherSignals_2 : decode cc_P_gatherSignals 2 = .ok (.iload_n 2, 1) := by decide +kernel
theorem dd_P_gatherSignals_3 : decode cc_P_gatherSignals 3 = .ok (.aload_n 0, 1) := by decide +kernel
theorem dd_P_gatherSignals_4 : decode cc_P_gatherSignals 4 = .ok (.getfield 54, 3) := by decide +kernel
theorem dd_P_gatherSignals_7 : decode cc_P_gatherSignals 7 = .ok (.if_icmp .ge 16, 3) := by decide +kernel
theorem dd_P_gatherSignals_10 : decode cc_P_gatherSignals 10 = .ok (.aload_n 1, 1) := by decide +kernel
theorem dd_P_gatherSignals_11 : decode cc_P_gatherSignals 11 = .ok (.getfield 109, 3) := by decide +kernel
theorem dd_P_gatherSignals_14 : decode cc_P_gatherSignals 14 = .ok (.iload_n 2, 1) := by decide +kernel
theorem dd_P_gatherSignals_15 : decode cc_P_gatherSignals 15 = .ok (.iconst 0, 1) := by decide +kernel
theorem dd_P_gatherSignals_16 : decode cc_P_gatherSignals 16 = .ok (.bastore, 1) := by decide +kernel
theorem dd_P_gatherSignals_17 : decode cc_P_gatherSignals 17 = .ok (.iinc 2 1, 3) := by decide +kernel
theorem dd_P_gatherSignals_20 : decode cc_P_gatherSignals 20 = .ok (.goto (-18), 3) := by decide +kernel
theorem dd_P_gatherSignals_23 : decode cc_P_gatherSignals 23 = .ok (.iconst 0, 1) := by decide +kernel
theorem dd_P_gatherSignals_24 : decode cc_P_gatherSignals 24 = .ok (.istore_n 2, 1) := by decide +kernel
theorem dd_P_gatherSignals_25 : decode cc_P_gatherSignals 25 = .ok (.iload_n 2, 1) := by decide +kernel
theorem dd_P_gatherSignals_26 : decode cc_P_gatherSignals 26 = .ok (.aload_n 0, 1) := by decide +kernel
theorem dd_P_gatherSignals_27 : decode cc_P_gatherSignals 27 = .ok (.getfield 47, 3) := by decide +kernel
theorem dd_P_gatherSignals_30 : decode cc_P_gatherSignals 30 = .ok (.if_icmp .ge 42, 3) := by decide +kernel
theorem dd_P_gatherSignals_33 : decode cc_P_gatherSignals 33 = .ok (.aload_n 0, 1) := by decide +kernel
theorem dd_P_gatherSignals_34 : decode cc_P_gatherSignals 34 = .ok (.getfield 9, 3) := by decide +kernel
theorem dd_P_gatherSignals_37 : decode cc_P_gatherSignals 37 = .ok (.iload_n 2, 1) := by decide +kernel
theorem dd_P_gatherSignals_38 : decode cc_P_gatherSignals 38 = .ok (.iaload, 1) := by decide +kernel
theorem dd_P_gatherSignals_39 : decode cc_P_gatherSignals 39 = .ok (.iconst 2, 1) := by decide +kernel
theorem dd_P_gatherSignals_40 : decode cc_P_gatherSignals 40 = .ok (.if_icmp .ne 26, 3) := by decide +kernel
theorem dd_P_gatherSignals_43 : decode cc_P_gatherSignals 43 = .ok (.aload_n 1, 1) := by decide +kernel
theorem dd_P_gatherSignals_44 : decode cc_P_gatherSignals 44 = .ok (.iload_n 2, 1) := by decide +kernel
theorem dd_P_gatherSignals_45 : decode cc_P_gatherSignals 45 = .ok (.sipush 128, 3) := by decide +kernel
theorem dd_P_gatherSignals_48 : decode cc_P_gatherSignals 48 = .ok (.invokevirtual 112, 3) := by decide +kernel
theorem dd_P_gatherSignals_51 : decode cc_P_gatherSignals 51 = .ok (.ifCond .eq 15, 3) := by decide +kernel
theorem dd_P_gatherSignals_54 : decode cc_P_gatherSignals 54 = .ok (.aload_n 1, 1) := by decide +kernel
theorem dd_P_gatherSignals_55 : decode cc_P_gatherSignals 55 = .ok (.getfield 109, 3) := by decide +kernel
theorem dd_P_gatherSignals_58 : decode cc_P_gatherSignals 58 = .ok (.aload_n 0, 1) := by decide +kernel
theorem dd_P_gatherSignals_59 : decode cc_P_gatherSignals 59 = .ok (.getfield 15, 3) := by decide +kernel
theorem dd_P_gatherSignals_62 : decode cc_P_gatherSignals 62 = .ok (.iload_n 2, 1) := by decide +kernel
theorem dd_P_gatherSignals_63 : decode cc_P_gatherSignals 63 = .ok (.iaload, 1) := by decide +kernel
theorem dd_P_gatherSignals_64 : decode cc_P_gatherSignals 64 = .ok (.iconst 1, 1) := by decide +kernel
theorem dd_P_gatherSignals_65 : decode cc_P_gatherSignals 65 = .ok (.bastore, 1) := by decide +kernel
theorem dd_P_gatherSignals_66 : decode cc_P_gatherSignals 66 = .ok (.iinc 2 1, 3) := by decide +kernel
theorem dd_P_gatherSignals_69 : decode cc_P_gatherSignals 69 = .ok (.goto (-44), 3) := by decide +kernel
theorem dd_P_gatherSignals_72 : decode cc_P_gatherSignals 72 = .ok (.return_, 1) := by decide +kernel
theorem dd_P_takeAllSteps_0 : decode cc_P_takeAllSteps 0 = .ok (.iconst 0, 1) := by decide +kernel
theorem dd_P_takeAllSteps_1 : decode cc_P_takeAllSteps 1 = .ok (.istore_n 1, 1) := by decide +kernel
theorem dd_P_takeAllSteps_2 : decode cc_P_takeAllSteps 2 = .ok (.iconst 0, 1) := by decide +kernel
theorem dd_P_takeAllSteps_3 : decode cc_P_takeAllSteps 3 = .ok (.istore_n 2, 1) := by decide +kernel
theorem dd_P_takeAllSteps_4 : decode cc_P_takeAllSteps 4 = .ok (.iload_n 2, 1) := by decide +kernel
theorem dd_P_takeAllSteps_5 : decode cc_P_takeAllSteps 5 = .ok (.aload_n 0, 1) := by decide +kernel
theorem dd_P_takeAllSteps_6 : decode cc_P_takeAllSteps 6 = .ok (.getfield 57, 3) := by decide +kernel
theorem dd_P_takeAllSteps_9 : decode cc_P_takeAllSteps 9 = .ok (.if_icmp .ge 55, 3) := by decide +kernel
theorem dd_P_takeAllSteps_12 : decode cc_P_takeAllSteps 12 = .ok (.aload_n 0, 1) := by decide +kernel
theorem dd_P_takeAllSteps_13 : decode cc_P_takeAllSteps 13 = .ok (.aload_n 0, 1) := by decide +kernel
theorem dd_P_takeAllSteps_14 : decode cc_P_takeAllSteps 14 = .ok (.getfield 27, 3) := by decide +kernel
theorem dd_P_takeAllSteps_17 : decode cc_P_takeAllSteps 17 = .ok (.iload_n 2, 1) := by decide +kernel
theorem dd_P_takeAllSteps_18 : decode cc_P_takeAllSteps 18 = .ok (.iaload, 1) := by decide +kernel
theorem dd_P_takeAllSteps_19 : decode cc_P_takeAllSteps 19 = .ok (.aload_n 0, 1) := by decide +kernel
theorem dd_P_takeAllSteps_20 : decode cc_P_takeAllSteps 20 = .ok (.getfield 36, 3) := by decide +kernel
theorem dd_P_takeAllSteps_23 : decode cc_P_takeAllSteps 23 = .ok (.aload_n 0, 1) := by decide +kernel
theorem dd_P_takeAllSteps_24 : decode cc_P_takeAllSteps 24 = .ok (.getfield 40, 3) := by decide +kernel
theorem dd_P_takeAllSteps_27 : decode cc_P_takeAllSteps 27 = .ok (.invokevirtual 115, 3) := by decide +kernel
theorem dd_P_takeAllSteps_30 : decode cc_P_takeAllSteps 30 = .ok (.ifCond .eq 5, 3) := by decide +kernel
theorem dd_P_takeAllSteps_33 : decode cc_P_takeAllSteps 33 = .ok (.iconst 1, 1) := by decide +kernel
theorem dd_P_takeAllSteps_34 : decode cc_P_takeAllSteps 34 = .ok (.istore_n 1, 1) := by decide +kernel
theorem dd_P_takeAllSteps_35 : decode cc_P_takeAllSteps 35 = .ok (.aload_n 0, 1) := by decide +kernel
theorem dd_P_takeAllSteps_36 : decode cc_P_takeAllSteps 36 = .ok (.aload_n 0, 1) := by decide +kernel
theorem dd_P_takeAllSteps_37 : decode cc_P_takeAllSteps 37 = .ok (.getfield 27, 3) := by decide +kernel
theorem dd_P_takeAllSteps_40 : decode cc_P_takeAllSteps 40 = .ok (.iload_n 2, 1) := by decide +kernel
theorem dd_P_takeAllSteps_41 : decode cc_P_takeAllSteps 41 = .ok (.iaload, 1) := by decide +kernel
theorem dd_P_takeAllSteps_42 : decode cc_P_takeAllSteps 42 = .ok (.aload_n 0, 1) := by decide +kernel
theorem dd_P_takeAllSteps_43 : decode cc_P_takeAllSteps 43 = .ok (.getfield 40, 3) := by decide +kernel
theorem dd_P_takeAllSteps_46 : decode cc_P_takeAllSteps 46 = .ok (.aload_n 0, 1) := by decide +kernel
theorem dd_P_takeAllSteps_47 : decode cc_P_takeAllSteps 47 = .ok (.getfield 36, 3) := by decide +kernel
theorem dd_P_takeAllSteps_50 : decode cc_P_takeAllSteps 50 = .ok (.invokevirtual 115, 3) := by decide +kernel
theorem dd_P_takeAllSteps_53 : decode cc_P_takeAllSteps 53 = .ok (.ifCond .eq 5, 3) := by decide +kernel
theorem dd_P_takeAllSteps_56 : decode cc_P_takeAllSteps 56 = .ok (.iconst 1, 1) := by decide +kernel
theorem dd_P_takeAllSteps_57 : decode cc_P_takeAllSteps 57 = .ok (.istore_n 1, 1) := by decide +kernel
theorem dd_P_takeAllSteps_58 : decode cc_P_takeAllSteps 58 = .ok (.iinc 2 1, 3) := by decide +kernel
theorem dd_P_takeAllSteps_61 : decode cc_P_takeAllSteps 61 = .ok (.goto (-57), 3) := by decide +kernel
theorem dd_P_takeAllSteps_64 : decode cc_P_takeAllSteps 64 = .ok (.iload_n 1, 1) := by decide +kernel
theorem dd_P_takeAllSteps_65 : decode cc_P_takeAllSteps 65 = .ok (.ireturn, 1) := by decide +kernel
theorem dd_P_takeStep_0 : decode cc_P_takeStep 0 = .ok (.iload_n 1, 1) := by decide +kernel
theorem dd_P_takeStep_1 : decode cc_P_takeStep 1 = .ok (.ifCond .lt 7, 3) := by decide +kernel
theorem dd_P_takeStep_4 : decode cc_P_takeStep 4 = .ok (.iconst 1, 1) := by decide +kernel
theorem dd_P_takeStep_5 : decode cc_P_takeStep 5 = .ok (.goto 4, 3) := by decide +kernel
theorem dd_P_takeStep_8 : decode cc_P_takeStep 8 = .ok (.iconst 0, 1) := by decide +kernel
theorem dd_P_takeStep_9 : decode cc_P_takeStep 9 = .ok (.istore 4, 2) := by decide +kernel
theorem dd_P_takeStep_11 : decode cc_P_takeStep 11 = .ok (.iload 4, 2) := by decide +kernel
theorem dd_P_takeStep_13 : decode cc_P_takeStep 13 = .ok (.ifCond .eq 7, 3) := by decide +kernel
theorem dd_P_takeStep_16 : decode cc_P_takeStep 16 = .ok (.iload_n 1, 1) := by decide +kernel
theorem dd_P_takeStep_17 : decode cc_P_takeStep 17 = .ok (.goto 6, 3) := by decide +kernel
theorem dd_P_takeStep_20 : decode cc_P_takeStep 20 = .ok (.iload_n 1, 1) := by decide +kernel
theorem dd_P_takeStep_21 : decode cc_P_takeStep 21 = .ok (.iconst (-1), 1) := by decide +kernel
theorem dd_P_takeStep_22 : decode cc_P_takeStep 22 = .ok (.ixor, 1) := by decide +kernel
theorem dd_P_takeStep_23 : decode cc_P_takeStep 23 = .ok (.istore 5, 2) := by decide +kernel
theorem dd_P_takeStep_25 : decode cc_P_takeStep 25 = .ok (.aload_n 2, 1) := by decide +kernel
theorem dd_P_takeStep_26 : decode cc_P_takeStep 26 = .ok (.getfield 106, 3) := by decide +kernel
theorem dd_P_takeStep_29 : decode cc_P_takeStep 29 = .ok (.iload 5, 2) := by decide +kernel
theorem dd_P_takeStep_31 : decode cc_P_takeStep 31 = .ok (.iaload, 1) := by decide +kernel
theorem dd_P_takeStep_32 : decode cc_P_takeStep 32 = .ok (.istore 6, 2) := by decide +kernel
theorem dd_P_takeStep_34 : decode cc_P_takeStep 34 = .ok (.iload 4, 2) := by decide +kernel
theorem dd_P_takeStep_36 : decode cc_P_takeStep 36 = .ok (.ifCond .eq 20, 3) := by decide +kernel
theorem dd_P_takeStep_39 : decode cc_P_takeStep 39 = .ok (.iload 6, 2) := by decide +kernel
theorem dd_P_takeStep_41 : decode cc_P_takeStep 41 = .ok (.bipush 127, 2) := by decide +kernel
theorem dd_P_takeStep_43 : decode cc_P_takeStep 43 = .ok (.iand, 1) := by decide +kernel
theorem dd_P_takeStep_44 : decode cc_P_takeStep 44 = .ok (.aload_n 0, 1) := by decide +kernel
theorem dd_P_takeStep_45 : decode cc_P_takeStep 45 = .ok (.iload 5, 2) := by decide +kernel
theorem dd_P_takeStep_47 : decode cc_P_takeStep 47 = .ok (.aload_n 2, 1) := by decide +kernel
theorem dd_P_takeStep_48 : decode cc_P_takeStep 48 = .ok (.aload_n 3, 1) := by decide +kernel
theorem dd_P_takeStep_49 : decode cc_P_takeStep 49 = .ok (.invokevirtual 119, 3) := by decide +kernel
theorem dd_P_takeStep_52 : decode cc_P_takeStep 52 = .ok (.ior, 1) := by decide +kernel
theorem dd_P_takeStep_53 : decode cc_P_takeStep 53 = .ok (.goto 18, 3) := by decide +kernel
theorem dd_P_takeStep_56 : decode cc_P_takeStep 56 = .ok (.iload 6, 2) := by decide +kernel
theorem dd_P_takeStep_58 : decode cc_P_takeStep 58 = .ok (.sipush 1920, 3) := by decide +kernel
theorem dd_P_takeStep_61 : decode cc_P_takeStep 61 = .ok (.iand, 1) := by decide +kernel
theorem dd_P_takeStep_62 : decode cc_P_takeStep 62 = .ok (.aload_n 0, 1) := by decide +kernel
theorem dd_P_takeStep_63 : decode cc_P_takeStep 63 = .ok (.iload 5, 2) := by decide +kernel
theorem dd_P_takeStep_65 : decode cc_P_takeStep 65 = .ok (.aload_n 2, 1) := by decide +kernel
theorem dd_P_takeStep_66 : decode cc_P_takeStep 66 = .ok (.aload_n 3, 1) := by decide +kernel
theorem dd_P_takeStep_67 : decode cc_P_takeStep 67 = .ok (.invokevirtual 123, 3) := by decide +kernel
theorem dd_P_takeStep_70 : decode cc_P_takeStep 70 = .ok (.ior, 1) := by decide +kernel
theorem dd_P_takeStep_71 : decode cc_P_takeStep 71 = .ok (.istore 7, 2) := by decide +kernel
theorem dd_P_takeStep_73 : decode cc_P_takeStep 73 = .ok (.aload_n 2, 1) := by decide +kernel
theorem dd_P_takeStep_74 : decode cc_P_takeStep 74 = .ok (.getfield 106, 3) := by decide +kernel
theorem dd_P_takeStep_77 : decode cc_P_takeStep 77 = .ok (.iload 5, 2) := by decide +kernel
theorem dd_P_takeStep_79 : decode cc_P_takeStep 79 = .ok (.iload 7, 2) := by decide +kernel
theorem dd_P_takeStep_81 : decode cc_P_takeStep 81 = .ok (.iastore, 1) := by decide +kernel
theorem dd_P_takeStep_82 : decode cc_P_takeStep 82 = .ok (.iload 7, 2) := by decide +kernel
theorem dd_P_takeStep_84 : decode cc_P_takeStep 84 = .ok (.iload 6, 2) := by decide +kernel
theorem dd_P_takeStep_86 : decode cc_P_takeStep 86 = .ok (.if_icmp .eq 7, 3) := by decide +kernel
theorem dd_P_takeStep_89 : decode cc_P_takeStep 89 = .ok (.iconst 1, 1) := by decide +kernel
theorem dd_P_takeStep_90 : decode cc_P_takeStep 90 = .ok (.goto 4, 3) := by decide +kernel
theorem dd_P_takeStep_93 : decode cc_P_takeStep 93 = .ok (.iconst 0, 1) := by decide +kernel
theorem dd_P_takeStep_94 : decode cc_P_takeStep 94 = .ok (.ireturn, 1) := by decide +kernel
theorem dd_P_comingTo_0 : decode cc_P_comingTo 0 = .ok (.aload_n 0, 1) := by decide +kernel
theorem dd_P_comingTo_1 : decode cc_P_comingTo 1 = .ok (.getfield 18, 3) := by decide +kernel
theorem dd_P_comingTo_4 : decode cc_P_comingTo 4 = .ok (.iload_n 1, 1) := by decide +kernel
theorem dd_P_comingTo_5 : decode cc_P_comingTo 5 = .ok (.iaload, 1) := by decide +kernel
theorem dd_P_comingTo_6 : decode cc_P_comingTo 6 = .ok (.istore 4, 2) := by decide +kernel
theorem dd_P_comingTo_8 : decode cc_P_comingTo 8 = .ok (.iload 4, 2) := by decide +kernel
theorem dd_P_comingTo_10 : decode cc_P_comingTo 10 = .ok (.iconst (-1), 1) := by decide +kernel
theorem dd_P_comingTo_11 : decode cc_P_comingTo 11 = .ok (.if_icmp .ne 20, 3) := by decide +kernel
theorem dd_P_comingTo_14 : decode cc_P_comingTo 14 = .ok (.aload_n 0, 1) := by decide +kernel
theorem dd_P_comingTo_15 : decode cc_P_comingTo 15 = .ok (.getfield 60, 3) := by decide +kernel
theorem dd_P_comingTo_18 : decode cc_P_comingTo 18 = .ok (.ifCond .ne 9, 3) := by decide +kernel
theorem dd_P_comingTo_21 : decode cc_P_comingTo 21 = .ok (.sipush 128, 3) := by decide +kernel
theorem dd_P_comingTo_24 : decode cc_P_comingTo 24 = .ok (.goto 6, 3) := by decide +kernel
theorem dd_P_comingTo_27 : decode cc_P_comingTo 27 = .ok (.sipush 256, 3) := by decide +kernel
theorem dd_P_comingTo_30 : decode cc_P_comingTo 30 = .ok (.ireturn, 1) := by decide +kernel
theorem dd_P_comingTo_31 : decode cc_P_comingTo 31 = .ok (.aload_n 2, 1) := by decide +kernel
theorem dd_P_comingTo_32 : decode cc_P_comingTo 32 = .ok (.getfield 106, 3) := by decide +kernel
theorem dd_P_comingTo_35 : decode cc_P_comingTo 35 = .ok (.iload 4, 2) := by decide +kernel
theorem dd_P_comingTo_37 : decode cc_P_comingTo 37 = .ok (.iaload, 1) := by decide +kernel
theorem dd_P_comingTo_38 : decode cc_P_comingTo 38 = .ok (.sipush 1920, 3) := by decide +kernel
theorem dd_P_comingTo_41 : decode cc_P_comingTo 41 = .ok (.iand, 1) := by decide +kernel
theorem dd_P_comingTo_42 : decode cc_P_comingTo 42 = .ok (.istore 5, 2) := by decide +kernel
theorem dd_P_comingTo_44 : decode cc_P_comingTo 44 = .ok (.aload_n 0, 1) := by decide +kernel
theorem dd_P_comingTo_45 : decode cc_P_comingTo 45 = .ok (.getfield 21, 3) := by decide +kernel
theorem dd_P_comingTo_48 : decode cc_P_comingTo 48 = .ok (.iload 4, 2) := by decide +kernel
theorem dd_P_comingTo_50 : decode cc_P_comingTo 50 = .ok (.iaload, 1) := by decide +kernel
theorem dd_P_comingTo_51 : decode cc_P_comingTo 51 = .ok (.istore 6, 2) := by decide +kernel
theorem dd_P_comingTo_53 : decode cc_P_comingTo 53 = .ok (.aload_n 0, 1) := by decide +kernel
theorem dd_P_comingTo_54 : decode cc_P_comingTo 54 = .ok (.getfield 9, 3) := by decide +kernel
theorem dd_P_comingTo_57 : decode cc_P_comingTo 57 = .ok (.iload 4, 2) := by decide +kernel
theorem dd_P_comingTo_59 : decode cc_P_comingTo 59 = .ok (.iaload, 1) := by decide +kernel
theorem dd_P_comingTo_60 : decode cc_P_comingTo 60 = .ok (.tableswitch 255 3 9 #[44, 255, 68, 122, 184, 255, 234], 44) := by decide +kernel
theorem dd_P_comingTo_104 : decode cc_P_comingTo 104 = .ok (.iload_n 1, 1) := by decide +kernel
theorem dd_P_comingTo_105 : decode cc_P_comingTo 105 = .ok (.iload 6, 2) := by decide +kernel
theorem dd_P_comingTo_107 : decode cc_P_comingTo 107 = .ok (.if_icmp .ne 8, 3) := by decide +kernel
theorem dd_P_comingTo_110 : decode cc_P_comingTo 110 = .ok (.iload 5, 2) := by decide +kernel
theorem dd_P_comingTo_112 : decode cc_P_comingTo 112 = .ok (.goto 15, 3) := by decide +kernel
theorem dd_P_comingTo_115 : decode cc_P_comingTo 115 = .ok (.iload 5, 2) := by decide +kernel
theorem dd_P_comingTo_117 : decode cc_P_comingTo 117 = .ok (.aload_n 2, 1) := by decide +kernel
theorem dd_P_comingTo_118 : decode cc_P_comingTo 118 = .ok (.iload 6, 2) := by decide +kernel
theorem dd_P_comingTo_120 : decode cc_P_comingTo 120 = .ok (.iconst 1, 1) := by decide +kernel
theorem dd_P_comingTo_121 : decode cc_P_comingTo 121 = .ok (.invokevirtual 112, 3) := by decide +kernel
theorem dd_P_comingTo_124 : decode cc_P_comingTo 124 = .ok (.invokestatic 126, 3) := by decide +kernel
theorem dd_P_comingTo_127 : decode cc_P_comingTo 127 = .ok (.ireturn, 1) := by decide +kernel
theorem dd_P_comingTo_128 : decode cc_P_comingTo 128 = .ok (.iload 5, 2) := by decide +kernel
theorem dd_P_comingTo_130 : decode cc_P_comingTo 130 = .ok (.iload_n 1, 1) := by decide +kernel
theorem dd_P_comingTo_131 : decode cc_P_comingTo 131 = .ok (.iload 6, 2) := by decide +kernel
theorem dd_P_comingTo_133 : decode cc_P_comingTo 133 = .ok (.if_icmp .ne 38, 3) := by decide +kernel
theorem dd_P_comingTo_136 : decode cc_P_comingTo 136 = .ok (.aload_n 2, 1) := by decide +kernel
theorem dd_P_comingTo_137 : decode cc_P_comingTo 137 = .ok (.iload 4, 2) := by decide +kernel
theorem dd_P_comingTo_139 : decode cc_P_comingTo 139 = .ok (.sipush 128, 3) := by decide +kernel
theorem dd_P_comingTo_142 : decode cc_P_comingTo 142 = .ok (.invokevirtual 112, 3) := by decide +kernel
theorem dd_P_comingTo_145 : decode cc_P_comingTo 145 = .ok (.ifCond .ne 18, 3) := by decide +kernel
theorem dd_P_comingTo_148 : decode cc_P_comingTo 148 = .ok (.aload_n 2, 1) := by decide +kernel
theorem dd_P_comingTo_149 : decode cc_P_comingTo 149 = .ok (.aload_n 0, 1) := by decide +kernel
theorem dd_P_comingTo_150 : decode cc_P_comingTo 150 = .ok (.getfield 24, 3) := by decide +kernel
theorem dd_P_comingTo_153 : decode cc_P_comingTo 153 = .ok (.iload 4, 2) := by decide +kernel
theorem dd_P_comingTo_155 : decode cc_P_comingTo 155 = .ok (.iaload, 1) := by decide +kernel
theorem dd_P_comingTo_156 : decode cc_P_comingTo 156 = .ok (.iconst 1, 1) := by decide +kernel
theorem dd_P_comingTo_157 : decode cc_P_comingTo 157 = .ok (.invokevirtual 112, 3) := by decide +kernel
theorem dd_P_comingTo_160 : decode cc_P_comingTo 160 = .ok (.ifCond .eq 7, 3) := by decide +kernel
theorem dd_P_comingTo_163 : decode cc_P_comingTo 163 = .ok (.iconst 1, 1) := by decide +kernel
theorem dd_P_comingTo_164 : decode cc_P_comingTo 164 = .ok (.goto 14, 3) := by decide +kernel
theorem dd_P_comingTo_167 : decode cc_P_comingTo 167 = .ok (.iconst 0, 1) := by decide +kernel
theorem dd_P_comingTo_168 : decode cc_P_comingTo 168 = .ok (.goto 10, 3) := by decide +kernel
theorem dd_P_comingTo_171 : decode cc_P_comingTo 171 = .ok (.aload_n 2, 1) := by decide +kernel
theorem dd_P_comingTo_172 : decode cc_P_comingTo 172 = .ok (.iload 6, 2) := by decide +kernel
theorem dd_P_comingTo_174 : decode cc_P_comingTo 174 = .ok (.iconst 1, 1) := by decide +kernel
theorem dd_P_comingTo_175 : decode cc_P_comingTo 175 = .ok (.invokevirtual 112, 3) := by decide +kernel
theorem dd_P_comingTo_178 : decode cc_P_comingTo 178 = .ok (.invokestatic 126, 3) := by decide +kernel
theorem dd_P_comingTo_181 : decode cc_P_comingTo 181 = .ok (.ireturn, 1) := by decide +kernel
theorem dd_P_comingTo_182 : decode cc_P_comingTo 182 = .ok (.iload 5, 2) := by decide +kernel
theorem dd_P_comingTo_184 : decode cc_P_comingTo 184 = .ok (.aload_n 2, 1) := by decide +kernel
theorem dd_P_comingTo_185 : decode cc_P_comingTo 185 = .ok (.iload 4, 2) := by decide +kernel
theorem dd_P_comingTo_187 : decode cc_P_comingTo 187 = .ok (.sipush 128, 3) := by decide +kernel
theorem dd_P_comingTo_190 : decode cc_P_comingTo 190 = .ok (.invokevirtual 112, 3) := by decide +kernel
theorem dd_P_comingTo_193 : decode cc_P_comingTo 193 = .ok (.ifCond .eq 46, 3) := by decide +kernel
theorem dd_P_comingTo_196 : decode cc_P_comingTo 196 = .ok (.iload_n 1, 1) := by decide +kernel
theorem dd_P_comingTo_197 : decode cc_P_comingTo 197 = .ok (.iload 6, 2) := by decide +kernel
theorem dd_P_comingTo_199 : decode cc_P_comingTo 199 = .ok (.if_icmp .ne 21, 3) := by decide +kernel
theorem dd_P_comingTo_202 : decode cc_P_comingTo 202 = .ok (.aload_n 2, 1) := by decide +kernel
theorem dd_P_comingTo_203 : decode cc_P_comingTo 203 = .ok (.getfield 109, 3) := by decide +kernel
theorem dd_P_comingTo_206 : decode cc_P_comingTo 206 = .ok (.aload_n 0, 1) := by decide +kernel
theorem dd_P_comingTo_207 : decode cc_P_comingTo 207 = .ok (.getfield 15, 3) := by decide +kernel
theorem dd_P_comingTo_210 : decode cc_P_comingTo 210 = .ok (.iload 4, 2) := by decide +kernel
theorem dd_P_comingTo_212 : decode cc_P_comingTo 212 = .ok (.iaload, 1) := by decide +kernel
theorem dd_P_comingTo_213 : decode cc_P_comingTo 213 = .ok (.baload, 1) := by decide +kernel
theorem dd_P_comingTo_214 : decode cc_P_comingTo 214 = .ok (.ifCond .eq 25, 3) := by decide +kernel
theorem dd_P_comingTo_217 : decode cc_P_comingTo 217 = .ok (.goto 18, 3) := by decide +kernel
theorem dd_P_comingTo_220 : decode cc_P_comingTo 220 = .ok (.aload_n 3, 1) := by decide +kernel
theorem dd_P_comingTo_221 : decode cc_P_comingTo 221 = .ok (.getfield 109, 3) := by decide +kernel
theorem dd_P_comingTo_224 : decode cc_P_comingTo 224 = .ok (.aload_n 0, 1) := by decide +kernel
theorem dd_P_comingTo_225 : decode cc_P_comingTo 225 = .ok (.getfield 15, 3) := by decide +kernel
theorem dd_P_comingTo_228 : decode cc_P_comingTo 228 = .ok (.iload 4, 2) := by decide +kernel
theorem dd_P_comingTo_230 : decode cc_P_comingTo 230 = .ok (.iaload, 1) := by decide +kernel
theorem dd_P_comingTo_231 : decode cc_P_comingTo 231 = .ok (.baload, 1) := by decide +kernel
theorem dd_P_comingTo_232 : decode cc_P_comingTo 232 = .ok (.ifCond .ne 7, 3) := by decide +kernel
theorem dd_P_comingTo_235 : decode cc_P_comingTo 235 = .ok (.iconst 1, 1) := by decide +kernel
theorem dd_P_comingTo_236 : decode cc_P_comingTo 236 = .ok (.goto 4, 3) := by decide +kernel
theorem dd_P_comingTo_239 : decode cc_P_comingTo 239 = .ok (.iconst 0, 1) := by decide +kernel
theorem dd_P_comingTo_240 : decode cc_P_comingTo 240 = .ok (.invokestatic 126, 3) := by decide +kernel
theorem dd_P_comingTo_243 : decode cc_P_comingTo 243 = .ok (.ireturn, 1) := by decide +kernel
theorem dd_P_comingTo_244 : decode cc_P_comingTo 244 = .ok (.aload_n 3, 1) := by decide +kernel
theorem dd_P_comingTo_245 : decode cc_P_comingTo 245 = .ok (.getfield 109, 3) := by decide +kernel
theorem dd_P_comingTo_248 : decode cc_P_comingTo 248 = .ok (.aload_n 0, 1) := by decide +kernel
theorem dd_P_comingTo_249 : decode cc_P_comingTo 249 = .ok (.getfield 15, 3) := by decide +kernel
theorem dd_P_comingTo_252 : decode cc_P_comingTo 252 = .ok (.iload 4, 2) := by decide +kernel
theorem dd_P_comingTo_254 : decode cc_P_comingTo 254 = .ok (.iaload, 1) := by decide +kernel
theorem dd_P_comingTo_255 : decode cc_P_comingTo 255 = .ok (.baload, 1) := by decide +kernel
theorem dd_P_comingTo_256 : decode cc_P_comingTo 256 = .ok (.ifCond .eq 12, 3) := by decide +kernel
theorem dd_P_comingTo_259 : decode cc_P_comingTo 259 = .ok (.iload 5, 2) := by decide +kernel
theorem dd_P_comingTo_261 : decode cc_P_comingTo 261 = .ok (.sipush (-257), 3) := by decide +kernel
theorem dd_P_comingTo_264 : decode cc_P_comingTo 264 = .ok (.iand, 1) := by decide +kernel
theorem dd_P_comingTo_265 : decode cc_P_comingTo 265 = .ok (.goto 5, 3) := by decide +kernel
theorem dd_P_comingTo_268 : decode cc_P_comingTo 268 = .ok (.iload 5, 2) := by decide +kernel
theorem dd_P_comingTo_270 : decode cc_P_comingTo 270 = .ok (.istore 7, 2) := by decide +kernel
theorem dd_P_comingTo_272 : decode cc_P_comingTo 272 = .ok (.aload_n 0, 1) := by decide +kernel
theorem dd_P_comingTo_273 : decode cc_P_comingTo 273 = .ok (.iload 4, 2) := by decide +kernel
theorem dd_P_comingTo_275 : decode cc_P_comingTo 275 = .ok (.aload_n 2, 1) := by decide +kernel
theorem dd_P_comingTo_276 : decode cc_P_comingTo 276 = .ok (.invokevirtual 130, 3) := by decide +kernel
theorem dd_P_comingTo_279 : decode cc_P_comingTo 279 = .ok (.ifCond .eq 12, 3) := by decide +kernel
theorem dd_P_comingTo_282 : decode cc_P_comingTo 282 = .ok (.iload 7, 2) := by decide +kernel
theorem dd_P_comingTo_284 : decode cc_P_comingTo 284 = .ok (.sipush 512, 3) := by decide +kernel
theorem dd_P_comingTo_287 : decode cc_P_comingTo 287 = .ok (.ior, 1) := by decide +kernel
theorem dd_P_comingTo_288 : decode cc_P_comingTo 288 = .ok (.goto 5, 3) := by decide +kernel
theorem dd_P_comingTo_291 : decode cc_P_comingTo 291 = .ok (.iload 7, 2) := by decide +kernel
theorem dd_P_comingTo_293 : decode cc_P_comingTo 293 = .ok (.ireturn, 1) := by decide +kernel
theorem dd_P_comingTo_294 : decode cc_P_comingTo 294 = .ok (.aload_n 2, 1) := by decide +kernel
theorem dd_P_comingTo_295 : decode cc_P_comingTo 295 = .ok (.iload_n 1, 1) := by decide +kernel
theorem dd_P_comingTo_296 : decode cc_P_comingTo 296 = .ok (.iconst 4, 1) := by decide +kernel
theorem dd_P_comingTo_297 : decode cc_P_comingTo 297 = .ok (.invokevirtual 112, 3) := by decide +kernel
theorem dd_P_comingTo_300 : decode cc_P_comingTo 300 = .ok (.ifCond .eq 12, 3) := by decide +kernel
theorem dd_P_comingTo_303 : decode cc_P_comingTo 303 = .ok (.iload 5, 2) := by decide +kernel
theorem dd_P_comingTo_305 : decode cc_P_comingTo 305 = .ok (.sipush 1024, 3) := by decide +kernel
theorem dd_P_comingTo_308 : decode cc_P_comingTo 308 = .ok (.ior, 1) := by decide +kernel
theorem dd_P_comingTo_309 : decode cc_P_comingTo 309 = .ok (.goto 5, 3) := by decide +kernel
theorem dd_P_comingTo_312 : decode cc_P_comingTo 312 = .ok (.iload 5, 2) := by decide +kernel
theorem dd_P_comingTo_314 : decode cc_P_comingTo 314 = .ok (.ireturn, 1) := by decide +kernel
theorem dd_P_comingTo_315 : decode cc_P_comingTo 315 = .ok (.iload 5, 2) := by decide +kernel
theorem dd_P_comingTo_317 : decode cc_P_comingTo 317 = .ok (.ireturn, 1) := by decide +kernel
theorem dd_P_withGo_0 : decode cc_P_withGo 0 = .ok (.iload_n 1, 1) := by decide +kernel
theorem dd_P_withGo_1 : decode cc_P_withGo 1 = .ok (.ifCond .eq 11, 3) := by decide +kernel
theorem dd_P_withGo_4 : decode cc_P_withGo 4 = .ok (.iload_n 0, 1) := by decide +kernel
theorem dd_P_withGo_5 : decode cc_P_withGo 5 = .ok (.sipush 128, 3) := by decide +kernel
theorem dd_P_withGo_8 : decode cc_P_withGo 8 = .ok (.ior, 1) := by decide +kernel
theorem dd_P_withGo_9 : decode cc_P_withGo 9 = .ok (.goto 8, 3) := by decide +kernel
theorem dd_P_withGo_12 : decode cc_P_withGo 12 = .ok (.iload_n 0, 1) := by decide +kernel
theorem dd_P_withGo_13 : decode cc_P_withGo 13 = .ok (.sipush (-129), 3) := by decide +kernel
theorem dd_P_withGo_16 : decode cc_P_withGo 16 = .ok (.iand, 1) := by decide +kernel
theorem dd_P_withGo_17 : decode cc_P_withGo 17 = .ok (.ireturn, 1) := by decide +kernel
theorem dd_P_holds_0 : decode cc_P_holds 0 = .ok (.aload_n 2, 1) := by decide +kernel
theorem dd_P_holds_1 : decode cc_P_holds 1 = .ok (.iload_n 1, 1) := by decide +kernel
theorem dd_P_holds_2 : decode cc_P_holds 2 = .ok (.sipush 256, 3) := by decide +kernel
theorem dd_P_holds_5 : decode cc_P_holds 5 = .ok (.invokevirtual 112, 3) := by decide +kernel
theorem dd_P_holds_8 : decode cc_P_holds 8 = .ok (.ifCond .eq 36, 3) := by decide +kernel
theorem dd_P_holds_11 : decode cc_P_holds 11 = .ok (.aload_n 2, 1) := by decide +kernel
theorem dd_P_holds_12 : decode cc_P_holds 12 = .ok (.aload_n 0, 1) := by decide +kernel
theorem dd_P_holds_13 : decode cc_P_holds 13 = .ok (.getfield 21, 3) := by decide +kernel
theorem dd_P_holds_16 : decode cc_P_holds 16 = .ok (.iload_n 1, 1) := by decide +kernel
theorem dd_P_holds_17 : decode cc_P_holds 17 = .ok (.iaload, 1) := by decide +kernel
theorem dd_P_holds_18 : decode cc_P_holds 18 = .ok (.bipush 64, 2) := by decide +kernel
theorem dd_P_holds_20 : decode cc_P_holds 20 = .ok (.invokevirtual 112, 3) := by decide +kernel
theorem dd_P_holds_23 : decode cc_P_holds 23 = .ok (.ifCond .eq 21, 3) := by decide +kernel
theorem dd_P_holds_26 : decode cc_P_holds 26 = .ok (.aload_n 2, 1) := by decide +kernel
theorem dd_P_holds_27 : decode cc_P_holds 27 = .ok (.getfield 109, 3) := by decide +kernel
theorem dd_P_holds_30 : decode cc_P_holds 30 = .ok (.aload_n 0, 1) := by decide +kernel
theorem dd_P_holds_31 : decode cc_P_holds 31 = .ok (.getfield 15, 3) := by decide +kernel
theorem dd_P_holds_34 : decode cc_P_holds 34 = .ok (.iload_n 1, 1) := by decide +kernel
theorem dd_P_holds_35 : decode cc_P_holds 35 = .ok (.iaload, 1) := by decide +kernel
theorem dd_P_holds_36 : decode cc_P_holds 36 = .ok (.baload, 1) := by decide +kernel
theorem dd_P_holds_37 : decode cc_P_holds 37 = .ok (.ifCond .eq 7, 3) := by decide +kernel
theorem dd_P_holds_40 : decode cc_P_holds 40 = .ok (.iconst 1, 1) := by decide +kernel
theorem dd_P_holds_41 : decode cc_P_holds 41 = .ok (.goto 4, 3) := by decide +kernel
theorem dd_P_holds_44 : decode cc_P_holds 44 = .ok (.iconst 0, 1) := by decide +kernel
theorem dd_P_holds_45 : decode cc_P_holds 45 = .ok (.ireturn, 1) := by decide +kernel
theorem dd_P_givenBy_0 : decode cc_P_givenBy 0 = .ok (.aload_n 2, 1) := by decide +kernel
theorem dd_P_givenBy_1 : decode cc_P_givenBy 1 = .ok (.iload_n 1, 1) := by decide +kernel
theorem dd_P_givenBy_2 : decode cc_P_givenBy 2 = .ok (.sipush 128, 3) := by decide +kernel
theorem dd_P_givenBy_5 : decode cc_P_givenBy 5 = .ok (.invokevirtual 112, 3) := by decide +kernel
theorem dd_P_givenBy_8 : decode cc_P_givenBy 8 = .ok (.ifCond .eq 8, 3) := by decide +kernel
theorem dd_P_givenBy_11 : decode cc_P_givenBy 11 = .ok (.bipush 63, 2) := by decide +kernel
theorem dd_P_givenBy_13 : decode cc_P_givenBy 13 = .ok (.goto 4, 3) := by decide +kernel
theorem dd_P_givenBy_16 : decode cc_P_givenBy 16 = .ok (.iconst 0, 1) := by decide +kernel
theorem dd_P_givenBy_17 : decode cc_P_givenBy 17 = .ok (.istore 4, 2) := by decide +kernel
theorem dd_P_givenBy_19 : decode cc_P_givenBy 19 = .ok (.aload_n 0, 1) := by decide +kernel
theorem dd_P_givenBy_20 : decode cc_P_givenBy 20 = .ok (.getfield 21, 3) := by decide +kernel
theorem dd_P_givenBy_23 : decode cc_P_givenBy 23 = .ok (.iload_n 1, 1) := by decide +kernel
theorem dd_P_givenBy_24 : decode cc_P_givenBy 24 = .ok (.iaload, 1) := by decide +kernel
theorem dd_P_givenBy_25 : decode cc_P_givenBy 25 = .ok (.aload_n 2, 1) := by decide +kernel
theorem dd_P_givenBy_26 : decode cc_P_givenBy 26 = .ok (.invokestatic 134, 3) := by decide +kernel
theorem dd_P_givenBy_29 : decode cc_P_givenBy 29 = .ok (.istore 5, 2) := by decide +kernel
theorem dd_P_givenBy_31 : decode cc_P_givenBy 31 = .ok (.aload_n 0, 1) := by decide +kernel
theorem dd_P_givenBy_32 : decode cc_P_givenBy 32 = .ok (.getfield 24, 3) := by decide +kernel
theorem dd_P_givenBy_35 : decode cc_P_givenBy 35 = .ok (.iload_n 1, 1) := by decide +kernel
theorem dd_P_givenBy_36 : decode cc_P_givenBy 36 = .ok (.iaload, 1) := by decide +kernel
theorem dd_P_givenBy_37 : decode cc_P_givenBy 37 = .ok (.aload_n 2, 1) := by decide +kernel
theorem dd_P_givenBy_38 : decode cc_P_givenBy 38 = .ok (.invokestatic 134, 3) := by decide +kernel
theorem dd_P_givenBy_41 : decode cc_P_givenBy 41 = .ok (.istore 6, 2) := by decide +kernel
theorem dd_P_givenBy_43 : decode cc_P_givenBy 43 = .ok (.aload_n 0, 1) := by decide +kernel
theorem dd_P_givenBy_44 : decode cc_P_givenBy 44 = .ok (.getfield 9, 3) := by decide +kernel
theorem dd_P_givenBy_47 : decode cc_P_givenBy 47 = .ok (.iload_n 1, 1) := by decide +kernel
theorem dd_P_givenBy_48 : decode cc_P_givenBy 48 = .ok (.iaload, 1) := by decide +kernel
theorem dd_P_givenBy_49 : decode cc_P_givenBy 49 = .ok (.tableswitch 152 0 10 #[59, 64, 59, 83, 92, 103, 112, 118, 152, 137, 71], 59) := by decide +kernel
theorem dd_P_givenBy_108 : decode cc_P_givenBy 108 = .ok (.iload 4, 2) := by decide +kernel
theorem dd_P_givenBy_110 : decode cc_P_givenBy 110 = .ok (.iconst 1, 1) := by decide +kernel
theorem dd_P_givenBy_111 : decode cc_P_givenBy 111 = .ok (.iand, 1) := by decide +kernel
theorem dd_P_givenBy_112 : decode cc_P_givenBy 112 = .ok (.ireturn, 1) := by decide +kernel
theorem dd_P_givenBy_113 : decode cc_P_givenBy 113 = .ok (.aload_n 0, 1) := by decide +kernel
theorem dd_P_givenBy_114 : decode cc_P_givenBy 114 = .ok (.iload_n 1, 1) := by decide +kernel
theorem dd_P_givenBy_115 : decode cc_P_givenBy 115 = .ok (.aload_n 2, 1) := by decide +kernel
theorem dd_P_givenBy_116 : decode cc_P_givenBy 116 = .ok (.invokevirtual 138, 3) := by decide +kernel
theorem dd_P_givenBy_119 : decode cc_P_givenBy 119 = .ok (.ireturn, 1) := by decide +kernel
theorem dd_P_givenBy_120 : decode cc_P_givenBy 120 = .ok (.iload 4, 2) := by decide +kernel
theorem dd_P_givenBy_122 : decode cc_P_givenBy 122 = .ok (.iconst 4, 1) := by decide +kernel
theorem dd_P_givenBy_123 : decode cc_P_givenBy 123 = .ok (.aload_n 0, 1) := by decide +kernel
theorem dd_P_givenBy_124 : decode cc_P_givenBy 124 = .ok (.getfield 15, 3) := by decide +kernel
theorem dd_P_givenBy_127 : decode cc_P_givenBy 127 = .ok (.iload_n 1, 1) := by decide +kernel
theorem dd_P_givenBy_128 : decode cc_P_givenBy 128 = .ok (.iaload, 1) := by decide +kernel
theorem dd_P_givenBy_129 : decode cc_P_givenBy 129 = .ok (.ishl, 1) := by decide +kernel
theorem dd_P_givenBy_130 : decode cc_P_givenBy 130 = .ok (.iand, 1) := by decide +kernel
theorem dd_P_givenBy_131 : decode cc_P_givenBy 131 = .ok (.ireturn, 1) := by decide +kernel
theorem dd_P_givenBy_132 : decode cc_P_givenBy 132 = .ok (.iload 5, 2) := by decide +kernel
theorem dd_P_givenBy_134 : decode cc_P_givenBy 134 = .ok (.bipush (-2), 2) := by decide +kernel
theorem dd_P_givenBy_136 : decode cc_P_givenBy 136 = .ok (.iand, 1) := by decide +kernel
theorem dd_P_givenBy_137 : decode cc_P_givenBy 137 = .ok (.iload 6, 2) := by decide +kernel
theorem dd_P_givenBy_139 : decode cc_P_givenBy 139 = .ok (.ior, 1) := by decide +kernel
theorem dd_P_givenBy_140 : decode cc_P_givenBy 140 = .ok (.ireturn, 1) := by decide +kernel
theorem dd_P_givenBy_141 : decode cc_P_givenBy 141 = .ok (.aload_n 0, 1) := by decide +kernel
theorem dd_P_givenBy_142 : decode cc_P_givenBy 142 = .ok (.iload_n 1, 1) := by decide +kernel
theorem dd_P_givenBy_143 : decode cc_P_givenBy 143 = .ok (.iload 5, 2) := by decide +kernel
theorem dd_P_givenBy_145 : decode cc_P_givenBy 145 = .ok (.iload 6, 2) := by decide +kernel
theorem dd_P_givenBy_147 : decode cc_P_givenBy 147 = .ok (.aload_n 3, 1) := by decide +kernel
theorem dd_P_givenBy_148 : decode cc_P_givenBy 148 = .ok (.invokevirtual 141, 3) := by decide +kernel
theorem dd_P_givenBy_151 : decode cc_P_givenBy 151 = .ok (.ireturn, 1) := by decide +kernel
theorem dd_P_givenBy_152 : decode cc_P_givenBy 152 = .ok (.iload 5, 2) := by decide +kernel
theorem dd_P_givenBy_154 : decode cc_P_givenBy 154 = .ok (.iload 6, 2) := by decide +kernel
theorem dd_P_givenBy_156 : decode cc_P_givenBy 156 = .ok (.ior, 1) := by decide +kernel
theorem dd_P_givenBy_157 : decode cc_P_givenBy 157 = .ok (.bipush (-2), 2) := by decide +kernel
theorem dd_P_givenBy_159 : decode cc_P_givenBy 159 = .ok (.iand, 1) := by decide +kernel
theorem dd_P_givenBy_160 : decode cc_P_givenBy 160 = .ok (.ireturn, 1) := by decide +kernel
theorem dd_P_givenBy_161 : decode cc_P_givenBy 161 = .ok (.iload 5, 2) := by decide +kernel
theorem dd_P_givenBy_163 : decode cc_P_givenBy 163 = .ok (.iload 6, 2) := by decide +kernel
theorem dd_P_givenBy_165 : decode cc_P_givenBy 165 = .ok (.ior, 1) := by decide +kernel
theorem dd_P_givenBy_166 : decode cc_P_givenBy 166 = .ok (.ireturn, 1) := by decide +kernel
theorem dd_P_givenBy_167 : decode cc_P_givenBy 167 = .ok (.aload_n 0, 1) := by decide +kernel
theorem dd_P_givenBy_168 : decode cc_P_givenBy 168 = .ok (.iload_n 1, 1) := by decide +kernel
theorem dd_P_givenBy_169 : decode cc_P_givenBy 169 = .ok (.aload_n 2, 1) := by decide +kernel
theorem dd_P_givenBy_170 : decode cc_P_givenBy 170 = .ok (.invokevirtual 130, 3) := by decide +kernel
theorem dd_P_givenBy_173 : decode cc_P_givenBy 173 = .ok (.ifCond .eq 10, 3) := by decide +kernel
theorem dd_P_givenBy_176 : decode cc_P_givenBy 176 = .ok (.iload 5, 2) := by decide +kernel
theorem dd_P_givenBy_178 : decode cc_P_givenBy 178 = .ok (.iconst 2, 1) := by decide +kernel
theorem dd_P_givenBy_179 : decode cc_P_givenBy 179 = .ok (.ior, 1) := by decide +kernel
theorem dd_P_givenBy_180 : decode cc_P_givenBy 180 = .ok (.goto 5, 3) := by decide +kernel
theorem dd_P_givenBy_183 : decode cc_P_givenBy 183 = .ok (.iload 5, 2) := by decide +kernel
theorem dd_P_givenBy_185 : decode cc_P_givenBy 185 = .ok (.ireturn, 1) := by decide +kernel
theorem dd_P_givenBy_186 : decode cc_P_givenBy 186 = .ok (.iload 5, 2) := by decide +kernel
theorem dd_P_givenBy_188 : decode cc_P_givenBy 188 = .ok (.bipush 64, 2) := by decide +kernel
theorem dd_P_givenBy_190 : decode cc_P_givenBy 190 = .ok (.iand, 1) := by decide +kernel
theorem dd_P_givenBy_191 : decode cc_P_givenBy 191 = .ok (.iload 5, 2) := by decide +kernel
theorem dd_P_givenBy_193 : decode cc_P_givenBy 193 = .ok (.bipush 63, 2) := by decide +kernel
theorem dd_P_givenBy_195 : decode cc_P_givenBy 195 = .ok (.iand, 1) := by decide +kernel
theorem dd_P_givenBy_196 : decode cc_P_givenBy 196 = .ok (.invokestatic 145, 3) := by decide +kernel
theorem dd_P_givenBy_199 : decode cc_P_givenBy 199 = .ok (.ior, 1) := by decide +kernel
theorem dd_P_givenBy_200 : decode cc_P_givenBy 200 = .ok (.ireturn, 1) := by decide +kernel
theorem dd_P_givenBy_201 : decode cc_P_givenBy 201 = .ok (.iload 5, 2) := by decide +kernel
theorem dd_P_givenBy_203 : decode cc_P_givenBy 203 = .ok (.ireturn, 1) := by decide +kernel
theorem dd_P_givenBySide_0 : decode cc_P_givenBySide 0 = .ok (.iload_n 0, 1) := by decide +kernel
theorem dd_P_givenBySide_1 : decode cc_P_givenBySide 1 = .ok (.iconst (-1), 1) := by decide +kernel
theorem dd_P_givenBySide_2 : decode cc_P_givenBySide 2 = .ok (.if_icmp .ne 7, 3) := by decide +kernel
theorem dd_P_givenBySide_5 : decode cc_P_givenBySide 5 = .ok (.iconst 0, 1) := by decide +kernel
theorem dd_P_givenBySide_6 : decode cc_P_givenBySide 6 = .ok (.goto 12, 3) := by decide +kernel
theorem dd_P_givenBySide_9 : decode cc_P_givenBySide 9 = .ok (.aload_n 1, 1) := by decide +kernel
theorem dd_P_givenBySide_10 : decode cc_P_givenBySide 10 = .ok (.getfield 106, 3) := by decide +kernel
theorem dd_P_givenBySide_13 : decode cc_P_givenBySide 13 = .ok (.iload_n 0, 1) := by decide +kernel
theorem dd_P_givenBySide_14 : decode cc_P_givenBySide 14 = .ok (.iaload, 1) := by decide +kernel
theorem dd_P_givenBySide_15 : decode cc_P_givenBySide 15 = .ok (.bipush 127, 2) := by decide +kernel
theorem dd_P_givenBySide_17 : decode cc_P_givenBySide 17 = .ok (.iand, 1) := by decide +kernel
theorem dd_P_givenBySide_18 : decode cc_P_givenBySide 18 = .ok (.ireturn, 1) := by decide +kernel
theorem dd_P_givenByPause_0 : decode cc_P_givenByPause 0 = .ok (.aload_n 2, 1) := by decide +kernel
theorem dd_P_givenByPause_1 : decode cc_P_givenByPause 1 = .ok (.iload_n 1, 1) := by decide +kernel
theorem dd_P_givenByPause_2 : decode cc_P_givenByPause 2 = .ok (.sipush 128, 3) := by decide +kernel
theorem dd_P_givenByPause_5 : decode cc_P_givenByPause 5 = .ok (.invokevirtual 112, 3) := by decide +kernel
theorem dd_P_givenByPause_8 : decode cc_P_givenByPause 8 = .ok (.ifCond .eq 7, 3) := by decide +kernel
theorem dd_P_givenByPause_11 : decode cc_P_givenByPause 11 = .ok (.iconst 2, 1) := by decide +kernel
theorem dd_P_givenByPause_12 : decode cc_P_givenByPause 12 = .ok (.goto 4, 3) := by decide +kernel
theorem dd_P_givenByPause_15 : decode cc_P_givenByPause 15 = .ok (.iconst 0, 1) := by decide +kernel
theorem dd_P_givenByPause_16 : decode cc_P_givenByPause 16 = .ok (.istore_n 3, 1) := by decide +kernel
theorem dd_P_givenByPause_17 : decode cc_P_givenByPause 17 = .ok (.aload_n 0, 1) := by decide +kernel
theorem dd_P_givenByPause_18 : decode cc_P_givenByPause 18 = .ok (.getfield 43, 3) := by decide +kernel
theorem dd_P_givenByPause_21 : decode cc_P_givenByPause 21 = .ok (.aload_n 0, 1) := by decide +kernel
theorem dd_P_givenByPause_22 : decode cc_P_givenByPause 22 = .ok (.getfield 15, 3) := by decide +kernel
theorem dd_P_givenByPause_25 : decode cc_P_givenByPause 25 = .ok (.iload_n 1, 1) := by decide +kernel
theorem dd_P_givenByPause_26 : decode cc_P_givenByPause 26 = .ok (.iaload, 1) := by decide +kernel
theorem dd_P_givenByPause_27 : decode cc_P_givenByPause 27 = .ok (.baload, 1) := by decide +kernel
theorem dd_P_givenByPause_28 : decode cc_P_givenByPause 28 = .ok (.ifCond .eq 24, 3) := by decide +kernel
theorem dd_P_givenByPause_31 : decode cc_P_givenByPause 31 = .ok (.iload_n 3, 1) := by decide +kernel
theorem dd_P_givenByPause_32 : decode cc_P_givenByPause 32 = .ok (.aload_n 2, 1) := by decide +kernel
theorem dd_P_givenByPause_33 : decode cc_P_givenByPause 33 = .ok (.iload_n 1, 1) := by decide +kernel
theorem dd_P_givenByPause_34 : decode cc_P_givenByPause 34 = .ok (.sipush 256, 3) := by decide +kernel
theorem dd_P_givenByPause_37 : decode cc_P_givenByPause 37 = .ok (.invokevirtual 112, 3) := by decide +kernel
theorem dd_P_givenByPause_40 : decode cc_P_givenByPause 40 = .ok (.ifCond .eq 8, 3) := by decide +kernel
theorem dd_P_givenByPause_43 : decode cc_P_givenByPause 43 = .ok (.bipush 65, 2) := by decide +kernel
theorem dd_P_givenByPause_45 : decode cc_P_givenByPause 45 = .ok (.goto 5, 3) := by decide +kernel
theorem dd_P_givenByPause_48 : decode cc_P_givenByPause 48 = .ok (.bipush 64, 2) := by decide +kernel
theorem dd_P_givenByPause_50 : decode cc_P_givenByPause 50 = .ok (.ior, 1) := by decide +kernel
theorem dd_P_givenByPause_51 : decode cc_P_givenByPause 51 = .ok (.istore_n 3, 1) := by decide +kernel
theorem dd_P_givenByPause_52 : decode cc_P_givenByPause 52 = .ok (.iload_n 3, 1) := by decide +kernel
theorem dd_P_givenByPause_53 : decode cc_P_givenByPause 53 = .ok (.ireturn, 1) := by decide +kernel
theorem dd_P_givenByParallel_0 : decode cc_P_givenByParallel 0 = .ok (.aload 4, 2) := by decide +kernel
theorem dd_P_givenByParallel_2 : decode cc_P_givenByParallel 2 = .ok (.iload_n 1, 1) := by decide +kernel
theorem dd_P_givenByParallel_3 : decode cc_P_givenByParallel 3 = .ok (.sipush 128, 3) := by decide +kernel
theorem dd_P_givenByParallel_6 : decode cc_P_givenByParallel 6 = .ok (.invokevirtual 112, 3) := by decide +kernel
theorem dd_P_givenByParallel_9 : decode cc_P_givenByParallel 9 = .ok (.istore 5, 2) := by decide +kernel
theorem dd_P_givenByParallel_11 : decode cc_P_givenByParallel 11 = .ok (.iload 5, 2) := by decide +kernel
theorem dd_P_givenByParallel_13 : decode cc_P_givenByParallel 13 = .ok (.ifCond .ne 19, 3) := by decide +kernel
theorem dd_P_givenByParallel_16 : decode cc_P_givenByParallel 16 = .ok (.aload 4, 2) := by decide +kernel
theorem dd_P_givenByParallel_18 : decode cc_P_givenByParallel 18 = .ok (.aload_n 0, 1) := by decide +kernel
theorem dd_P_givenByParallel_19 : decode cc_P_givenByParallel 19 = .ok (.getfield 21, 3) := by decide +kernel
theorem dd_P_givenByParallel_22 : decode cc_P_givenByParallel 22 = .ok (.iload_n 1, 1) := by decide +kernel
theorem dd_P_givenByParallel_23 : decode cc_P_givenByParallel 23 = .ok (.iaload, 1) := by decide +kernel
theorem dd_P_givenByParallel_24 : decode cc_P_givenByParallel 24 = .ok (.bipush 64, 2) := by decide +kernel
theorem dd_P_givenByParallel_26 : decode cc_P_givenByParallel 26 = .ok (.invokevirtual 112, 3) := by decide +kernel
theorem dd_P_givenByParallel_29 : decode cc_P_givenByParallel 29 = .ok (.ifCond .eq 7, 3) := by decide +kernel
theorem dd_P_givenByParallel_32 : decode cc_P_givenByParallel 32 = .ok (.iconst 1, 1) := by decide +kernel
theorem dd_P_givenByParallel_33 : decode cc_P_givenByParallel 33 = .ok (.goto 4, 3) := by decide +kernel
theorem dd_P_givenByParallel_36 : decode cc_P_givenByParallel 36 = .ok (.iconst 0, 1) := by decide +kernel
theorem dd_P_givenByParallel_37 : decode cc_P_givenByParallel 37 = .ok (.istore 6, 2) := by decide +kernel
theorem dd_P_givenByParallel_39 : decode cc_P_givenByParallel 39 = .ok (.iload 5, 2) := by decide +kernel
theorem dd_P_givenByParallel_41 : decode cc_P_givenByParallel 41 = .ok (.ifCond .ne 19, 3) := by decide +kernel
theorem dd_P_givenByParallel_44 : decode cc_P_givenByParallel 44 = .ok (.aload 4, 2) := by decide +kernel
theorem dd_P_givenByParallel_46 : decode cc_P_givenByParallel 46 = .ok (.aload_n 0, 1) := by decide +kernel
theorem dd_P_givenByParallel_47 : decode cc_P_givenByParallel 47 = .ok (.getfield 24, 3) := by decide +kernel
theorem dd_P_givenByParallel_50 : decode cc_P_givenByParallel 50 = .ok (.iload_n 1, 1) := by decide +kernel
theorem dd_P_givenByParallel_51 : decode cc_P_givenByParallel 51 = .ok (.iaload, 1) := by decide +kernel
theorem dd_P_givenByParallel_52 : decode cc_P_givenByParallel 52 = .ok (.bipush 64, 2) := by decide +kernel
theorem dd_P_givenByParallel_54 : decode cc_P_givenByParallel 54 = .ok (.invokevirtual 112, 3) := by decide +kernel
theorem dd_P_givenByParallel_57 : decode cc_P_givenByParallel 57 = .ok (.ifCond .eq 7, 3) := by decide +kernel
theorem dd_P_givenByParallel_60 : decode cc_P_givenByParallel 60 = .ok (.iconst 1, 1) := by decide +kernel
theorem dd_P_givenByParallel_61 : decode cc_P_givenByParallel 61 = .ok (.goto 4, 3) := by decide +kernel
theorem dd_P_givenByParallel_64 : decode cc_P_givenByParallel 64 = .ok (.iconst 0, 1) := by decide +kernel
theorem dd_P_givenByParallel_65 : decode cc_P_givenByParallel 65 = .ok (.istore 7, 2) := by decide +kernel
theorem dd_P_givenByParallel_67 : decode cc_P_givenByParallel 67 = .ok (.iload 6, 2) := by decide +kernel
theorem dd_P_givenByParallel_69 : decode cc_P_givenByParallel 69 = .ok (.ifCond .eq 13, 3) := by decide +kernel
theorem dd_P_givenByParallel_72 : decode cc_P_givenByParallel 72 = .ok (.iload_n 2, 1) := by decide +kernel
theorem dd_P_givenByParallel_73 : decode cc_P_givenByParallel 73 = .ok (.bipush 63, 2) := by decide +kernel
theorem dd_P_givenByParallel_75 : decode cc_P_givenByParallel 75 = .ok (.iand, 1) := by decide +kernel
theorem dd_P_givenByParallel_76 : decode cc_P_givenByParallel 76 = .ok (.invokestatic 149, 3) := by decide +kernel
theorem dd_P_givenByParallel_79 : decode cc_P_givenByParallel 79 = .ok (.goto 5, 3) := by decide +kernel
theorem dd_P_givenByParallel_82 : decode cc_P_givenByParallel 82 = .ok (.bipush 63, 2) := by decide +kernel
theorem dd_P_givenByParallel_84 : decode cc_P_givenByParallel 84 = .ok (.istore 8, 2) := by decide +kernel
theorem dd_P_givenByParallel_86 : decode cc_P_givenByParallel 86 = .ok (.iload 7, 2) := by decide +kernel
theorem dd_P_givenByParallel_88 : decode cc_P_givenByParallel 88 = .ok (.ifCond .eq 13, 3) := by decide +kernel
theorem dd_P_givenByParallel_91 : decode cc_P_givenByParallel 91 = .ok (.iload_n 3, 1) := by decide +kernel
theorem dd_P_givenByParallel_92 : decode cc_P_givenByParallel 92 = .ok (.bipush 63, 2) := by decide +kernel
theorem dd_P_givenByParallel_94 : decode cc_P_givenByParallel 94 = .ok (.iand, 1) := by decide +kernel
theorem dd_P_givenByParallel_95 : decode cc_P_givenByParallel 95 = .ok (.invokestatic 149, 3) := by decide +kernel
theorem dd_P_givenByParallel_98 : decode cc_P_givenByParallel 98 = .ok (.goto 5, 3) := by decide +kernel
theorem dd_P_givenByParallel_101 : decode cc_P_givenByParallel 101 = .ok (.bipush 63, 2) := by decide +kernel
theorem dd_P_givenByParallel_103 : decode cc_P_givenByParallel 103 = .ok (.istore 9, 2) := by decide +kernel
theorem dd_P_givenByParallel_105 : decode cc_P_givenByParallel 105 = .ok (.iload_n 2, 1) := by decide +kernel
theorem dd_P_givenByParallel_106 : decode cc_P_givenByParallel 106 = .ok (.iload_n 3, 1) := by decide +kernel
theorem dd_P_givenByParallel_107 : decode cc_P_givenByParallel 107 = .ok (.ior, 1) := by decide +kernel
theorem dd_P_givenByParallel_108 : decode cc_P_givenByParallel 108 = .ok (.bipush 64, 2) := by decide +kernel
theorem dd_P_givenByParallel_110 : decode cc_P_givenByParallel 110 = .ok (.iand, 1) := by decide +kernel
theorem dd_P_givenByParallel_111 : decode cc_P_givenByParallel 111 = .ok (.iload_n 2, 1) := by decide +kernel
theorem dd_P_givenByParallel_112 : decode cc_P_givenByParallel 112 = .ok (.iload 9, 2) := by decide +kernel
theorem dd_P_givenByParallel_114 : decode cc_P_givenByParallel 114 = .ok (.iand, 1) := by decide +kernel
theorem dd_P_givenByParallel_115 : decode cc_P_givenByParallel 115 = .ok (.ior, 1) := by decide +kernel
theorem dd_P_givenByParallel_116 : decode cc_P_givenByParallel 116 = .ok (.iload_n 3, 1) := by decide +kernel
theorem dd_P_givenByParallel_117 : decode cc_P_givenByParallel 117 = .ok (.iload 8, 2) := by decide +kernel
theorem dd_P_givenByParallel_119 : decode cc_P_givenByParallel 119 = .ok (.iand, 1) := by decide +kernel
theorem dd_P_givenByParallel_120 : decode cc_P_givenByParallel 120 = .ok (.ior, 1) := by decide +kernel
theorem dd_P_givenByParallel_121 : decode cc_P_givenByParallel 121 = .ok (.ireturn, 1) := by decide +kernel
theorem dd_P_isConstructive_0 : decode cc_P_isConstructive 0 = .ok (.iconst 0, 1) := by decide +kernel
theorem dd_P_isConstructive_1 : decode cc_P_isConstructive 1 = .ok (.istore_n 1, 1) := by decide +kernel
theorem dd_P_isConstructive_2 : decode cc_P_isConstructive 2 = .ok (.iload_n 1, 1) := by decide +kernel
theorem dd_P_isConstructive_3 : decode cc_P_isConstructive 3 = .ok (.aload_n 0, 1) := by decide +kernel
theorem dd_P_isConstructive_4 : decode cc_P_isConstructive 4 = .ok (.getfield 47, 3) := by decide +kernel
theorem dd_P_isConstructive_7 : decode cc_P_isConstructive 7 = .ok (.if_icmp .ge 32, 3) := by decide +kernel
theorem dd_P_isConstructive_10 : decode cc_P_isConstructive 10 = .ok (.aload_n 0, 1) := by decide +kernel
theorem dd_P_isConstructive_11 : decode cc_P_isConstructive 11 = .ok (.getfield 36, 3) := by decide +kernel
theorem dd_P_isConstructive_14 : decode cc_P_isConstructive 14 = .ok (.getfield 106, 3) := by decide +kernel
theorem dd_P_isConstructive_17 : decode cc_P_isConstructive 17 = .ok (.iload_n 1, 1) := by decide +kernel
theorem dd_P_isConstructive_18 : decode cc_P_isConstructive 18 = .ok (.iaload, 1) := by decide +kernel
theorem dd_P_isConstructive_19 : decode cc_P_isConstructive 19 = .ok (.aload_n 0, 1) := by decide +kernel
theorem dd_P_isConstructive_20 : decode cc_P_isConstructive 20 = .ok (.getfield 40, 3) := by decide +kernel
theorem dd_P_isConstructive_23 : decode cc_P_isConstructive 23 = .ok (.getfield 106, 3) := by decide +kernel
theorem dd_P_isConstructive_26 : decode cc_P_isConstructive 26 = .ok (.iload_n 1, 1) := by decide +kernel
theorem dd_P_isConstructive_27 : decode cc_P_isConstructive 27 = .ok (.iaload, 1) := by decide +kernel
theorem dd_P_isConstructive_28 : decode cc_P_isConstructive 28 = .ok (.if_icmp .eq 5, 3) := by decide +kernel
theorem dd_P_isConstructive_31 : decode cc_P_isConstructive 31 = .ok (.iconst 0, 1) := by decide +kernel
theorem dd_P_isConstructive_32 : decode cc_P_isConstructive 32 = .ok (.ireturn, 1) := by decide +kernel
theorem dd_P_isConstructive_33 : decode cc_P_isConstructive 33 = .ok (.iinc 1 1, 3) := by decide +kernel
theorem dd_P_isConstructive_36 : decode cc_P_isConstructive 36 = .ok (.goto (-34), 3) := by decide +kernel
theorem dd_P_isConstructive_39 : decode cc_P_isConstructive 39 = .ok (.iconst 1, 1) := by decide +kernel
theorem dd_P_isConstructive_40 : decode cc_P_isConstructive 40 = .ok (.ireturn, 1) := by decide +kernel
theorem dd_P_countUnknownSignals_0 : decode cc_P_countUnknownSignals 0 = .ok (.iconst 0, 1) := by decide +kernel
theorem dd_P_countUnknownSignals_1 : decode cc_P_countUnknownSignals 1 = .ok (.istore_n 1, 1) := by decide +kernel
theorem dd_P_countUnknownSignals_2 : decode cc_P_countUnknownSignals 2 = .ok (.iconst 0, 1) := by decide +kernel
theorem dd_P_countUnknownSignals_3 : decode cc_P_countUnknownSignals 3 = .ok (.istore_n 2, 1) := by decide +kernel
theorem dd_P_countUnknownSignals_4 : decode cc_P_countUnknownSignals 4 = .ok (.iload_n 2, 1) := by decide +kernel
theorem dd_P_countUnknownSignals_5 : decode cc_P_countUnknownSignals 5 = .ok (.bipush 8, 2) := by decide +kernel
theorem dd_P_countUnknownSignals_7 : decode cc_P_countUnknownSignals 7 = .ok (.if_icmp .ge 33, 3) := by decide +kernel
theorem dd_P_countUnknownSignals_10 : decode cc_P_countUnknownSignals 10 = .ok (.aload_n 0, 1) := by decide +kernel
theorem dd_P_countUnknownSignals_11 : decode cc_P_countUnknownSignals 11 = .ok (.getfield 36, 3) := by decide +kernel
theorem dd_P_countUnknownSignals_14 : decode cc_P_countUnknownSignals 14 = .ok (.getfield 109, 3) := by decide +kernel
theorem dd_P_countUnknownSignals_17 : decode cc_P_countUnknownSignals 17 = .ok (.iload_n 2, 1) := by decide +kernel
theorem dd_P_countUnknownSignals_18 : decode cc_P_countUnknownSignals 18 = .ok (.baload, 1) := by decide +kernel
theorem dd_P_countUnknownSignals_19 : decode cc_P_countUnknownSignals 19 = .ok (.aload_n 0, 1) := by decide +kernel
theorem dd_P_countUnknownSignals_20 : decode cc_P_countUnknownSignals 20 = .ok (.getfield 40, 3) := by decide +kernel
theorem dd_P_countUnknownSignals_23 : decode cc_P_countUnknownSignals 23 = .ok (.getfield 109, 3) := by decide +kernel
theorem dd_P_countUnknownSignals_26 : decode cc_P_countUnknownSignals 26 = .ok (.iload_n 2, 1) := by decide +kernel
theorem dd_P_countUnknownSignals_27 : decode cc_P_countUnknownSignals 27 = .ok (.baload, 1) := by decide +kernel
theorem dd_P_countUnknownSignals_28 : decode cc_P_countUnknownSignals 28 = .ok (.if_icmp .eq 6, 3) := by decide +kernel
theorem dd_P_countUnknownSignals_31 : decode cc_P_countUnknownSignals 31 = .ok (.iinc 1 1, 3) := by decide +kernel
theorem dd_P_countUnknownSignals_34 : decode cc_P_countUnknownSignals 34 = .ok (.iinc 2 1, 3) := by decide +kernel
theorem dd_P_countUnknownSignals_37 : decode cc_P_countUnknownSignals 37 = .ok (.goto (-33), 3) := by decide +kernel
theorem dd_P_countUnknownSignals_40 : decode cc_P_countUnknownSignals 40 = .ok (.iload_n 1, 1) := by decide +kernel
theorem dd_P_countUnknownSignals_41 : decode cc_P_countUnknownSignals 41 = .ok (.ireturn, 1) := by decide +kernel
theorem dd_P_finishInstant_0 : decode cc_P_finishInstant 0 = .ok (.iconst 0, 1) := by decide +kernel
theorem dd_P_finishInstant_1 : decode cc_P_finishInstant 1 = .ok (.istore_n 1, 1) := by decide +kernel
theorem dd_P_finishInstant_2 : decode cc_P_finishInstant 2 = .ok (.iload_n 1, 1) := by decide +kernel
theorem dd_P_finishInstant_3 : decode cc_P_finishInstant 3 = .ok (.aload_n 0, 1) := by decide +kernel
theorem dd_P_finishInstant_4 : decode cc_P_finishInstant 4 = .ok (.getfield 47, 3) := by decide +kernel
theorem dd_P_finishInstant_7 : decode cc_P_finishInstant 7 = .ok (.if_icmp .ge 24, 3) := by decide +kernel
theorem dd_P_finishInstant_10 : decode cc_P_finishInstant 10 = .ok (.aload_n 0, 1) := by decide +kernel
theorem dd_P_finishInstant_11 : decode cc_P_finishInstant 11 = .ok (.getfield 9, 3) := by decide +kernel
theorem dd_P_finishInstant_14 : decode cc_P_finishInstant 14 = .ok (.iload_n 1, 1) := by decide +kernel
theorem dd_P_finishInstant_15 : decode cc_P_finishInstant 15 = .ok (.iaload, 1) := by decide +kernel
theorem dd_P_finishInstant_16 : decode cc_P_finishInstant 16 = .ok (.iconst 1, 1) := by decide +kernel
theorem dd_P_finishInstant_17 : decode cc_P_finishInstant 17 = .ok (.if_icmp .ne 8, 3) := by decide +kernel
theorem dd_P_finishInstant_20 : decode cc_P_finishInstant 20 = .ok (.aload_n 0, 1) := by decide +kernel
theorem dd_P_finishInstant_21 : decode cc_P_finishInstant 21 = .ok (.iload_n 1, 1) := by decide +kernel
theorem dd_P_finishInstant_22 : decode cc_P_finishInstant 22 = .ok (.invokevirtual 152, 3) := by decide +kernel
theorem dd_P_finishInstant_25 : decode cc_P_finishInstant 25 = .ok (.iinc 1 1, 3) := by decide +kernel
theorem dd_P_finishInstant_28 : decode cc_P_finishInstant 28 = .ok (.goto (-26), 3) := by decide +kernel
theorem dd_P_finishInstant_31 : decode cc_P_finishInstant 31 = .ok (.aload_n 0, 1) := by decide +kernel
theorem dd_P_finishInstant_32 : decode cc_P_finishInstant 32 = .ok (.aload_n 0, 1) := by decide +kernel
theorem dd_P_finishInstant_33 : decode cc_P_finishInstant 33 = .ok (.getfield 36, 3) := by decide +kernel
theorem dd_P_finishInstant_36 : decode cc_P_finishInstant 36 = .ok (.iconst 0, 1) := by decide +kernel
theorem dd_P_finishInstant_37 : decode cc_P_finishInstant 37 = .ok (.iconst 1, 1) := by decide +kernel
theorem dd_P_finishInstant_38 : decode cc_P_finishInstant 38 = .ok (.invokevirtual 112, 3) := by decide +kernel
theorem dd_P_finishInstant_41 : decode cc_P_finishInstant 41 = .ok (.putfield 66, 3) := by decide +kernel
theorem dd_P_finishInstant_44 : decode cc_P_finishInstant 44 = .ok (.aload_n 0, 1) := by decide +kernel
theorem dd_P_finishInstant_45 : decode cc_P_finishInstant 45 = .ok (.dup, 1) := by decide +kernel
theorem dd_P_finishInstant_46 : decode cc_P_finishInstant 46 = .ok (.getfield 60, 3) := by decide +kernel
theorem dd_P_finishInstant_49 : decode cc_P_finishInstant 49 = .ok (.iconst 1, 1) := by decide +kernel
theorem dd_P_finishInstant_50 : decode cc_P_finishInstant 50 = .ok (.iadd, 1) := by decide +kernel
theorem dd_P_finishInstant_51 : decode cc_P_finishInstant 51 = .ok (.putfield 60, 3) := by decide +kernel
theorem dd_P_finishInstant_54 : decode cc_P_finishInstant 54 = .ok (.return_, 1) := by decide +kernel
theorem dd_P_setRegister_0 : decode cc_P_setRegister 0 = .ok (.aload_n 0, 1) := by decide +kernel
theorem dd_P_setRegister_1 : decode cc_P_setRegister 1 = .ok (.getfield 15, 3) := by decide +kernel
theorem dd_P_setRegister_4 : decode cc_P_setRegister 4 = .ok (.iload_n 1, 1) := by decide +kernel
theorem dd_P_setRegister_5 : decode cc_P_setRegister 5 = .ok (.iaload, 1) := by decide +kernel
theorem dd_P_setRegister_6 : decode cc_P_setRegister 6 = .ok (.istore_n 2, 1) := by decide +kernel
theorem dd_P_setRegister_7 : decode cc_P_setRegister 7 = .ok (.aload_n 0, 1) := by decide +kernel
theorem dd_P_setRegister_8 : decode cc_P_setRegister 8 = .ok (.getfield 36, 3) := by decide +kernel
theorem dd_P_setRegister_11 : decode cc_P_setRegister 11 = .ok (.iload_n 1, 1) := by decide +kernel
theorem dd_P_setRegister_12 : decode cc_P_setRegister 12 = .ok (.sipush 512, 3) := by decide +kernel
theorem dd_P_setRegister_15 : decode cc_P_setRegister 15 = .ok (.invokevirtual 112, 3) := by decide +kernel
theorem dd_P_setRegister_18 : decode cc_P_setRegister 18 = .ok (.ifCond .eq 16, 3) := by decide +kernel
theorem dd_P_setRegister_21 : decode cc_P_setRegister 21 = .ok (.aload_n 0, 1) := by decide +kernel
theorem dd_P_setRegister_22 : decode cc_P_setRegister 22 = .ok (.getfield 43, 3) := by decide +kernel
theorem dd_P_setRegister_25 : decode cc_P_setRegister 25 = .ok (.iload_n 2, 1) := by decide +kernel
theorem dd_P_setRegister_26 : decode cc_P_setRegister 26 = .ok (.baload, 1) := by decide +kernel
theorem dd_P_setRegister_27 : decode cc_P_setRegister 27 = .ok (.ifCond .eq 7, 3) := by decide +kernel
theorem dd_P_setRegister_30 : decode cc_P_setRegister 30 = .ok (.iconst 1, 1) := by decide +kernel
theorem dd_P_setRegister_31 : decode cc_P_setRegister 31 = .ok (.goto 4, 3) := by decide +kernel
theorem dd_P_setRegister_34 : decode cc_P_setRegister 34 = .ok (.iconst 0, 1) := by decide +kernel
theorem dd_P_setRegister_35 : decode cc_P_setRegister 35 = .ok (.istore_n 3, 1) := by decide +kernel
theorem dd_P_setRegister_36 : decode cc_P_setRegister 36 = .ok (.aload_n 0, 1) := by decide +kernel
theorem dd_P_setRegister_37 : decode cc_P_setRegister 37 = .ok (.getfield 43, 3) := by decide +kernel
theorem dd_P_setRegister_40 : decode cc_P_setRegister 40 = .ok (.iload_n 2, 1) := by decide +kernel
theorem dd_P_setRegister_41 : decode cc_P_setRegister 41 = .ok (.aload_n 0, 1) := by decide +kernel
theorem dd_P_setRegister_42 : decode cc_P_setRegister 42 = .ok (.getfield 36, 3) := by decide +kernel
theorem dd_P_setRegister_45 : decode cc_P_setRegister 45 = .ok (.iload_n 1, 1) := by decide +kernel
theorem dd_P_setRegister_46 : decode cc_P_setRegister 46 = .ok (.sipush 128, 3) := by decide +kernel
theorem dd_P_setRegister_49 : decode cc_P_setRegister 49 = .ok (.invokevirtual 112, 3) := by decide +kernel
theorem dd_P_setRegister_52 : decode cc_P_setRegister 52 = .ok (.ifCond .ne 7, 3) := by decide +kernel
theorem dd_P_setRegister_55 : decode cc_P_setRegister 55 = .ok (.iload_n 3, 1) := by decide +kernel
theorem dd_P_setRegister_56 : decode cc_P_setRegister 56 = .ok (.ifCond .eq 21, 3) := by decide +kernel
theorem dd_P_setRegister_59 : decode cc_P_setRegister 59 = .ok (.aload_n 0, 1) := by decide +kernel
theorem dd_P_setRegister_60 : decode cc_P_setRegister 60 = .ok (.getfield 36, 3) := by decide +kernel
theorem dd_P_setRegister_63 : decode cc_P_setRegister 63 = .ok (.iload_n 1, 1) := by decide +kernel
theorem dd_P_setRegister_64 : decode cc_P_setRegister 64 = .ok (.sipush 1024, 3) := by decide +kernel
theorem dd_P_setRegister_67 : decode cc_P_setRegister 67 = .ok (.invokevirtual 112, 3) := by decide +kernel
theorem dd_P_setRegister_70 : decode cc_P_setRegister 70 = .ok (.ifCond .ne 7, 3) := by decide +kernel
theorem dd_P_setRegister_73 : decode cc_P_setRegister 73 = .ok (.iconst 1, 1) := by decide +kernel
theorem dd_P_setRegister_74 : decode cc_P_setRegister 74 = .ok (.goto 4, 3) := by decide +kernel
theorem dd_P_setRegister_77 : decode cc_P_setRegister 77 = .ok (.iconst 0, 1) := by decide +kernel
theorem dd_P_setRegister_78 : decode cc_P_setRegister 78 = .ok (.bastore, 1) := by decide +kernel
theorem dd_P_setRegister_79 : decode cc_P_setRegister 79 = .ok (.return_, 1) := by decide +kernel
theorem dd_P_signalsThere_0 : decode cc_P_signalsThere 0 = .ok (.iconst 0, 1) := by decide +kernel
theorem dd_P_signalsThere_1 : decode cc_P_signalsThere 1 = .ok (.istore_n 1, 1) := by decide +kernel
theorem dd_P_signalsThere_2 : decode cc_P_signalsThere 2 = .ok (.iconst 0, 1) := by decide +kernel
theorem dd_P_signalsThere_3 : decode cc_P_signalsThere 3 = .ok (.istore_n 2, 1) := by decide +kernel
theorem dd_P_signalsThere_4 : decode cc_P_signalsThere 4 = .ok (.iload_n 2, 1) := by decide +kernel
theorem dd_P_signalsThere_5 : decode cc_P_signalsThere 5 = .ok (.bipush 8, 2) := by decide +kernel
theorem dd_P_signalsThere_7 : decode cc_P_signalsThere 7 = .ok (.if_icmp .ge 27, 3) := by decide +kernel
theorem dd_P_signalsThere_10 : decode cc_P_signalsThere 10 = .ok (.aload_n 0, 1) := by decide +kernel
theorem dd_P_signalsThere_11 : decode cc_P_signalsThere 11 = .ok (.getfield 36, 3) := by decide +kernel
theorem dd_P_signalsThere_14 : decode cc_P_signalsThere 14 = .ok (.getfield 109, 3) := by decide +kernel
theorem dd_P_signalsThere_17 : decode cc_P_signalsThere 17 = .ok (.iload_n 2, 1) := by decide +kernel
theorem dd_P_signalsThere_18 : decode cc_P_signalsThere 18 = .ok (.baload, 1) := by decide +kernel
theorem dd_P_signalsThere_19 : decode cc_P_signalsThere 19 = .ok (.ifCond .eq 9, 3) := by decide +kernel
theorem dd_P_signalsThere_22 : decode cc_P_signalsThere 22 = .ok (.iload_n 1, 1) := by decide +kernel
theorem dd_P_signalsThere_23 : decode cc_P_signalsThere 23 = .ok (.iconst 1, 1) := by decide +kernel
theorem dd_P_signalsThere_24 : decode cc_P_signalsThere 24 = .ok (.iload_n 2, 1) := by decide +kernel
theorem dd_P_signalsThere_25 : decode cc_P_signalsThere 25 = .ok (.ishl, 1) := by decide +kernel
theorem dd_P_signalsThere_26 : decode cc_P_signalsThere 26 = .ok (.ior, 1) := by decide +kernel
theorem dd_P_signalsThere_27 : decode cc_P_signalsThere 27 = .ok (.istore_n 1, 1) := by decide +kernel
theorem dd_P_signalsThere_28 : decode cc_P_signalsThere 28 = .ok (.iinc 2 1, 3) := by decide +kernel
theorem dd_P_signalsThere_31 : decode cc_P_signalsThere 31 = .ok (.goto (-27), 3) := by decide +kernel
theorem dd_P_signalsThere_34 : decode cc_P_signalsThere 34 = .ok (.iload_n 1, 1) := by decide +kernel
theorem dd_P_signalsThere_35 : decode cc_P_signalsThere 35 = .ok (.ireturn, 1) := by decide +kernel
