/-! decode rows of the throwing methods and of the helpers -/
theorem dd_X_make_0 : decode cc_X_make 0 = .ok (.iload_n 1, 1) := by decide +kernel
theorem dd_X_make_1 : decode cc_X_make 1 = .ok (.invokestatic 27, 3) := by decide +kernel
theorem dd_X_make_4 : decode cc_X_make 4 = .ok (.istore 5, 2) := by decide +kernel
theorem dd_X_make_6 : decode cc_X_make 6 = .ok (.iload 5, 2) := by decide +kernel
theorem dd_X_make_8 : decode cc_X_make 8 = .ok (.ifCond .eq 7, 3) := by decide +kernel
theorem dd_X_make_11 : decode cc_X_make 11 = .ok (.iload_n 2, 1) := by decide +kernel
theorem dd_X_make_12 : decode cc_X_make 12 = .ok (.goto 4, 3) := by decide +kernel
theorem dd_X_make_15 : decode cc_X_make 15 = .ok (.iconst (-1), 1) := by decide +kernel
theorem dd_X_make_16 : decode cc_X_make 16 = .ok (.istore 6, 2) := by decide +kernel
theorem dd_X_make_18 : decode cc_X_make 18 = .ok (.iload_n 1, 1) := by decide +kernel
theorem dd_X_make_19 : decode cc_X_make 19 = .ok (.invokestatic 31, 3) := by decide +kernel
theorem dd_X_make_22 : decode cc_X_make 22 = .ok (.iconst 1, 1) := by decide +kernel
theorem dd_X_make_23 : decode cc_X_make 23 = .ok (.if_icmp .ge 7, 3) := by decide +kernel
theorem dd_X_make_26 : decode cc_X_make 26 = .ok (.iconst (-1), 1) := by decide +kernel
theorem dd_X_make_27 : decode cc_X_make 27 = .ok (.goto 13, 3) := by decide +kernel
theorem dd_X_make_30 : decode cc_X_make 30 = .ok (.iload 5, 2) := by decide +kernel
theorem dd_X_make_32 : decode cc_X_make 32 = .ok (.ifCond .eq 7, 3) := by decide +kernel
theorem dd_X_make_35 : decode cc_X_make 35 = .ok (.iload_n 3, 1) := by decide +kernel
theorem dd_X_make_36 : decode cc_X_make 36 = .ok (.goto 4, 3) := by decide +kernel
theorem dd_X_make_39 : decode cc_X_make 39 = .ok (.iload_n 2, 1) := by decide +kernel
theorem dd_X_make_40 : decode cc_X_make 40 = .ok (.istore 7, 2) := by decide +kernel
theorem dd_X_make_42 : decode cc_X_make 42 = .ok (.iload_n 1, 1) := by decide +kernel
theorem dd_X_make_43 : decode cc_X_make 43 = .ok (.invokestatic 31, 3) := by decide +kernel
theorem dd_X_make_46 : decode cc_X_make 46 = .ok (.iconst 2, 1) := by decide +kernel
theorem dd_X_make_47 : decode cc_X_make 47 = .ok (.if_icmp .ge 7, 3) := by decide +kernel
theorem dd_X_make_50 : decode cc_X_make 50 = .ok (.iconst (-1), 1) := by decide +kernel
theorem dd_X_make_51 : decode cc_X_make 51 = .ok (.goto 14, 3) := by decide +kernel
theorem dd_X_make_54 : decode cc_X_make 54 = .ok (.iload 5, 2) := by decide +kernel
theorem dd_X_make_56 : decode cc_X_make 56 = .ok (.ifCond .eq 8, 3) := by decide +kernel
theorem dd_X_make_59 : decode cc_X_make 59 = .ok (.iload 4, 2) := by decide +kernel
theorem dd_X_make_61 : decode cc_X_make 61 = .ok (.goto 4, 3) := by decide +kernel
theorem dd_X_make_64 : decode cc_X_make 64 = .ok (.iload_n 3, 1) := by decide +kernel
theorem dd_X_make_65 : decode cc_X_make 65 = .ok (.istore 8, 2) := by decide +kernel
theorem dd_X_make_67 : decode cc_X_make 67 = .ok (.iload_n 1, 1) := by decide +kernel
theorem dd_X_make_68 : decode cc_X_make 68 = .ok (.ifCond .lt 18, 3) := by decide +kernel
theorem dd_X_make_71 : decode cc_X_make 71 = .ok (.iload_n 1, 1) := by decide +kernel
theorem dd_X_make_72 : decode cc_X_make 72 = .ok (.bipush 10, 2) := by decide +kernel
theorem dd_X_make_74 : decode cc_X_make 74 = .ok (.if_icmp .gt 12, 3) := by decide +kernel
theorem dd_X_make_77 : decode cc_X_make 77 = .ok (.iload_n 1, 1) := by decide +kernel
theorem dd_X_make_78 : decode cc_X_make 78 = .ok (.iload 6, 2) := by decide +kernel
theorem dd_X_make_80 : decode cc_X_make 80 = .ok (.invokestatic 35, 3) := by decide +kernel
theorem dd_X_make_83 : decode cc_X_make 83 = .ok (.ifCond .ne 13, 3) := by decide +kernel
theorem dd_X_make_86 : decode cc_X_make 86 = .ok (.new 39, 3) := by decide +kernel
theorem dd_X_make_89 : decode cc_X_make 89 = .ok (.dup, 1) := by decide +kernel
theorem dd_X_make_90 : decode cc_X_make 90 = .ok (.ldc 41, 2) := by decide +kernel
theorem dd_X_make_92 : decode cc_X_make 92 = .ok (.invokespecial 43, 3) := by decide +kernel
theorem dd_X_make_95 : decode cc_X_make 95 = .ok (.athrow, 1) := by decide +kernel
theorem dd_X_make_96 : decode cc_X_make 96 = .ok (.aload_n 0, 1) := by decide +kernel
theorem dd_X_make_97 : decode cc_X_make 97 = .ok (.getfield 12, 3) := by decide +kernel
theorem dd_X_make_100 : decode cc_X_make 100 = .ok (.iload_n 1, 1) := by decide +kernel
theorem dd_X_make_101 : decode cc_X_make 101 = .ok (.iload 7, 2) := by decide +kernel
theorem dd_X_make_103 : decode cc_X_make 103 = .ok (.iload 8, 2) := by decide +kernel
theorem dd_X_make_105 : decode cc_X_make 105 = .ok (.invokevirtual 46, 3) := by decide +kernel
theorem dd_X_make_108 : decode cc_X_make 108 = .ok (.ifCond .ne 13, 3) := by decide +kernel
theorem dd_X_make_111 : decode cc_X_make 111 = .ok (.new 39, 3) := by decide +kernel
theorem dd_X_make_114 : decode cc_X_make 114 = .ok (.dup, 1) := by decide +kernel
theorem dd_X_make_115 : decode cc_X_make 115 = .ok (.ldc 50, 2) := by decide +kernel
theorem dd_X_make_117 : decode cc_X_make 117 = .ok (.invokespecial 43, 3) := by decide +kernel
theorem dd_X_make_120 : decode cc_X_make 120 = .ok (.athrow, 1) := by decide +kernel
theorem dd_X_make_121 : decode cc_X_make 121 = .ok (.aload_n 0, 1) := by decide +kernel
theorem dd_X_make_122 : decode cc_X_make 122 = .ok (.getfield 12, 3) := by decide +kernel
theorem dd_X_make_125 : decode cc_X_make 125 = .ok (.getfield 52, 3) := by decide +kernel
theorem dd_X_make_128 : decode cc_X_make 128 = .ok (.bipush 60, 2) := by decide +kernel
theorem dd_X_make_130 : decode cc_X_make 130 = .ok (.if_icmp .ge 19, 3) := by decide +kernel
theorem dd_X_make_133 : decode cc_X_make 133 = .ok (.aload_n 0, 1) := by decide +kernel
theorem dd_X_make_134 : decode cc_X_make 134 = .ok (.getfield 12, 3) := by decide +kernel
theorem dd_X_make_137 : decode cc_X_make 137 = .ok (.iload 7, 2) := by decide +kernel
theorem dd_X_make_139 : decode cc_X_make 139 = .ok (.iload 8, 2) := by decide +kernel
theorem dd_X_make_141 : decode cc_X_make 141 = .ok (.invokevirtual 55, 3) := by decide +kernel
theorem dd_X_make_144 : decode cc_X_make 144 = .ok (.bipush 20, 2) := by decide +kernel
theorem dd_X_make_146 : decode cc_X_make 146 = .ok (.if_icmp .le 13, 3) := by decide +kernel
theorem dd_X_make_149 : decode cc_X_make 149 = .ok (.new 59, 3) := by decide +kernel
theorem dd_X_make_152 : decode cc_X_make 152 = .ok (.dup, 1) := by decide +kernel
theorem dd_X_make_153 : decode cc_X_make 153 = .ok (.ldc 61, 2) := by decide +kernel
theorem dd_X_make_155 : decode cc_X_make 155 = .ok (.invokespecial 63, 3) := by decide +kernel
theorem dd_X_make_158 : decode cc_X_make 158 = .ok (.athrow, 1) := by decide +kernel
theorem dd_X_make_159 : decode cc_X_make 159 = .ok (.aload_n 0, 1) := by decide +kernel
theorem dd_X_make_160 : decode cc_X_make 160 = .ok (.getfield 12, 3) := by decide +kernel
theorem dd_X_make_163 : decode cc_X_make 163 = .ok (.iload_n 1, 1) := by decide +kernel
theorem dd_X_make_164 : decode cc_X_make 164 = .ok (.iload 6, 2) := by decide +kernel
theorem dd_X_make_166 : decode cc_X_make 166 = .ok (.iload 7, 2) := by decide +kernel
theorem dd_X_make_168 : decode cc_X_make 168 = .ok (.iload 8, 2) := by decide +kernel
theorem dd_X_make_170 : decode cc_X_make 170 = .ok (.invokevirtual 64, 3) := by decide +kernel
theorem dd_X_make_173 : decode cc_X_make 173 = .ok (.ireturn, 1) := by decide +kernel
theorem dd_X_can_0 : decode cc_X_can 0 = .ok (.aload_n 0, 1) := by decide +kernel
theorem dd_X_can_1 : decode cc_X_can 1 = .ok (.getfield 12, 3) := by decide +kernel
theorem dd_X_can_4 : decode cc_X_can 4 = .ok (.iload_n 1, 1) := by decide +kernel
theorem dd_X_can_5 : decode cc_X_can 5 = .ok (.invokevirtual 68, 3) := by decide +kernel
theorem dd_X_can_8 : decode cc_X_can 8 = .ok (.ifCond .ne 13, 3) := by decide +kernel
theorem dd_X_can_11 : decode cc_X_can 11 = .ok (.new 71, 3) := by decide +kernel
theorem dd_X_can_14 : decode cc_X_can 14 = .ok (.dup, 1) := by decide +kernel
theorem dd_X_can_15 : decode cc_X_can 15 = .ok (.ldc 73, 2) := by decide +kernel
theorem dd_X_can_17 : decode cc_X_can 17 = .ok (.invokespecial 75, 3) := by decide +kernel
theorem dd_X_can_20 : decode cc_X_can 20 = .ok (.athrow, 1) := by decide +kernel
theorem dd_X_can_21 : decode cc_X_can 21 = .ok (.aload_n 0, 1) := by decide +kernel
theorem dd_X_can_22 : decode cc_X_can 22 = .ok (.getfield 12, 3) := by decide +kernel
theorem dd_X_can_25 : decode cc_X_can 25 = .ok (.getfield 76, 3) := by decide +kernel
theorem dd_X_can_28 : decode cc_X_can 28 = .ok (.iload_n 1, 1) := by decide +kernel
theorem dd_X_can_29 : decode cc_X_can 29 = .ok (.iaload, 1) := by decide +kernel
theorem dd_X_can_30 : decode cc_X_can 30 = .ok (.ireturn, 1) := by decide +kernel
theorem dd_X_build_0 : decode cc_X_build 0 = .ok (.aload_n 0, 1) := by decide +kernel
theorem dd_X_build_1 : decode cc_X_build 1 = .ok (.getfield 12, 3) := by decide +kernel
theorem dd_X_build_4 : decode cc_X_build 4 = .ok (.iload_n 1, 1) := by decide +kernel
theorem dd_X_build_5 : decode cc_X_build 5 = .ok (.invokevirtual 68, 3) := by decide +kernel
theorem dd_X_build_8 : decode cc_X_build 8 = .ok (.ifCond .ne 13, 3) := by decide +kernel
theorem dd_X_build_11 : decode cc_X_build 11 = .ok (.new 71, 3) := by decide +kernel
theorem dd_X_build_14 : decode cc_X_build 14 = .ok (.dup, 1) := by decide +kernel
theorem dd_X_build_15 : decode cc_X_build 15 = .ok (.ldc 73, 2) := by decide +kernel
theorem dd_X_build_17 : decode cc_X_build 17 = .ok (.invokespecial 75, 3) := by decide +kernel
theorem dd_X_build_20 : decode cc_X_build 20 = .ok (.athrow, 1) := by decide +kernel
theorem dd_X_build_21 : decode cc_X_build 21 = .ok (.aload_n 0, 1) := by decide +kernel
theorem dd_X_build_22 : decode cc_X_build 22 = .ok (.getfield 12, 3) := by decide +kernel
theorem dd_X_build_25 : decode cc_X_build 25 = .ok (.iload_n 1, 1) := by decide +kernel
theorem dd_X_build_26 : decode cc_X_build 26 = .ok (.invokevirtual 80, 3) := by decide +kernel
theorem dd_X_build_29 : decode cc_X_build 29 = .ok (.ifCond .eq 13, 3) := by decide +kernel
theorem dd_X_build_32 : decode cc_X_build 32 = .ok (.new 83, 3) := by decide +kernel
theorem dd_X_build_35 : decode cc_X_build 35 = .ok (.dup, 1) := by decide +kernel
theorem dd_X_build_36 : decode cc_X_build 36 = .ok (.ldc 85, 2) := by decide +kernel
theorem dd_X_build_38 : decode cc_X_build 38 = .ok (.invokespecial 87, 3) := by decide +kernel
theorem dd_X_build_41 : decode cc_X_build 41 = .ok (.athrow, 1) := by decide +kernel
theorem dd_X_build_42 : decode cc_X_build 42 = .ok (.aload_n 0, 1) := by decide +kernel
theorem dd_X_build_43 : decode cc_X_build 43 = .ok (.getfield 19, 3) := by decide +kernel
theorem dd_X_build_46 : decode cc_X_build 46 = .ok (.aload_n 0, 1) := by decide +kernel
theorem dd_X_build_47 : decode cc_X_build 47 = .ok (.getfield 12, 3) := by decide +kernel
theorem dd_X_build_50 : decode cc_X_build 50 = .ok (.iload_n 1, 1) := by decide +kernel
theorem dd_X_build_51 : decode cc_X_build 51 = .ok (.invokevirtual 88, 3) := by decide +kernel
theorem dd_X_build_54 : decode cc_X_build 54 = .ok (.aload_n 0, 1) := by decide +kernel
theorem dd_X_build_55 : decode cc_X_build 55 = .ok (.getfield 19, 3) := by decide +kernel
theorem dd_X_build_58 : decode cc_X_build 58 = .ok (.getfield 92, 3) := by decide +kernel
theorem dd_X_build_61 : decode cc_X_build 61 = .ok (.ireturn, 1) := by decide +kernel
theorem dd_X_react_0 : decode cc_X_react 0 = .ok (.iload_n 1, 1) := by decide +kernel
theorem dd_X_react_1 : decode cc_X_react 1 = .ok (.ifCond .lt 9, 3) := by decide +kernel
theorem dd_X_react_4 : decode cc_X_react 4 = .ok (.iload_n 1, 1) := by decide +kernel
theorem dd_X_react_5 : decode cc_X_react 5 = .ok (.bipush 8, 2) := by decide +kernel
theorem dd_X_react_7 : decode cc_X_react 7 = .ok (.if_icmp .lt 13, 3) := by decide +kernel
theorem dd_X_react_10 : decode cc_X_react 10 = .ok (.new 39, 3) := by decide +kernel
theorem dd_X_react_13 : decode cc_X_react 13 = .ok (.dup, 1) := by decide +kernel
theorem dd_X_react_14 : decode cc_X_react 14 = .ok (.ldc 95, 2) := by decide +kernel
theorem dd_X_react_16 : decode cc_X_react 16 = .ok (.invokespecial 43, 3) := by decide +kernel
theorem dd_X_react_19 : decode cc_X_react 19 = .ok (.athrow, 1) := by decide +kernel
theorem dd_X_react_20 : decode cc_X_react 20 = .ok (.aload_n 0, 1) := by decide +kernel
theorem dd_X_react_21 : decode cc_X_react 21 = .ok (.getfield 19, 3) := by decide +kernel
theorem dd_X_react_24 : decode cc_X_react 24 = .ok (.invokevirtual 97, 3) := by decide +kernel
theorem dd_X_react_27 : decode cc_X_react 27 = .ok (.ifCond .eq 13, 3) := by decide +kernel
theorem dd_X_react_30 : decode cc_X_react 30 = .ok (.new 59, 3) := by decide +kernel
theorem dd_X_react_33 : decode cc_X_react 33 = .ok (.dup, 1) := by decide +kernel
theorem dd_X_react_34 : decode cc_X_react 34 = .ok (.ldc 101, 2) := by decide +kernel
theorem dd_X_react_36 : decode cc_X_react 36 = .ok (.invokespecial 63, 3) := by decide +kernel
theorem dd_X_react_39 : decode cc_X_react 39 = .ok (.athrow, 1) := by decide +kernel
theorem dd_X_react_40 : decode cc_X_react 40 = .ok (.aload_n 0, 1) := by decide +kernel
theorem dd_X_react_41 : decode cc_X_react 41 = .ok (.getfield 19, 3) := by decide +kernel
theorem dd_X_react_44 : decode cc_X_react 44 = .ok (.getfield 103, 3) := by decide +kernel
theorem dd_X_react_47 : decode cc_X_react 47 = .ok (.ifCond .eq 18, 3) := by decide +kernel
theorem dd_X_react_50 : decode cc_X_react 50 = .ok (.aload_n 0, 1) := by decide +kernel
theorem dd_X_react_51 : decode cc_X_react 51 = .ok (.getfield 19, 3) := by decide +kernel
theorem dd_X_react_54 : decode cc_X_react 54 = .ok (.dup, 1) := by decide +kernel
theorem dd_X_react_55 : decode cc_X_react 55 = .ok (.getfield 107, 3) := by decide +kernel
theorem dd_X_react_58 : decode cc_X_react 58 = .ok (.iconst 1, 1) := by decide +kernel
theorem dd_X_react_59 : decode cc_X_react 59 = .ok (.iadd, 1) := by decide +kernel
theorem dd_X_react_60 : decode cc_X_react 60 = .ok (.putfield 107, 3) := by decide +kernel
theorem dd_X_react_63 : decode cc_X_react 63 = .ok (.iload_n 1, 1) := by decide +kernel
theorem dd_X_react_64 : decode cc_X_react 64 = .ok (.ireturn, 1) := by decide +kernel
theorem dd_X_react_65 : decode cc_X_react 65 = .ok (.aload_n 0, 1) := by decide +kernel
theorem dd_X_react_66 : decode cc_X_react 66 = .ok (.getfield 19, 3) := by decide +kernel
theorem dd_X_react_69 : decode cc_X_react 69 = .ok (.iload_n 1, 1) := by decide +kernel
theorem dd_X_react_70 : decode cc_X_react 70 = .ok (.invokevirtual 110, 3) := by decide +kernel
theorem dd_X_react_73 : decode cc_X_react 73 = .ok (.aload_n 0, 1) := by decide +kernel
theorem dd_X_react_74 : decode cc_X_react 74 = .ok (.getfield 19, 3) := by decide +kernel
theorem dd_X_react_77 : decode cc_X_react 77 = .ok (.invokevirtual 114, 3) := by decide +kernel
theorem dd_X_react_80 : decode cc_X_react 80 = .ok (.ifCond .ne 37, 3) := by decide +kernel
theorem dd_X_react_83 : decode cc_X_react 83 = .ok (.aload_n 0, 1) := by decide +kernel
theorem dd_X_react_84 : decode cc_X_react 84 = .ok (.dup, 1) := by decide +kernel
theorem dd_X_react_85 : decode cc_X_react 85 = .ok (.getfield 23, 3) := by decide +kernel
theorem dd_X_react_88 : decode cc_X_react 88 = .ok (.iconst 1, 1) := by decide +kernel
theorem dd_X_react_89 : decode cc_X_react 89 = .ok (.iadd, 1) := by decide +kernel
theorem dd_X_react_90 : decode cc_X_react 90 = .ok (.putfield 23, 3) := by decide +kernel
theorem dd_X_react_93 : decode cc_X_react 93 = .ok (.aload_n 0, 1) := by decide +kernel
theorem dd_X_react_94 : decode cc_X_react 94 = .ok (.getfield 19, 3) := by decide +kernel
theorem dd_X_react_97 : decode cc_X_react 97 = .ok (.aload_n 0, 1) := by decide +kernel
theorem dd_X_react_98 : decode cc_X_react 98 = .ok (.getfield 19, 3) := by decide +kernel
theorem dd_X_react_101 : decode cc_X_react 101 = .ok (.invokevirtual 117, 3) := by decide +kernel
theorem dd_X_react_104 : decode cc_X_react 104 = .ok (.putfield 121, 3) := by decide +kernel
theorem dd_X_react_107 : decode cc_X_react 107 = .ok (.new 59, 3) := by decide +kernel
theorem dd_X_react_110 : decode cc_X_react 110 = .ok (.dup, 1) := by decide +kernel
theorem dd_X_react_111 : decode cc_X_react 111 = .ok (.ldc 124, 2) := by decide +kernel
theorem dd_X_react_113 : decode cc_X_react 113 = .ok (.invokespecial 63, 3) := by decide +kernel
theorem dd_X_react_116 : decode cc_X_react 116 = .ok (.athrow, 1) := by decide +kernel
theorem dd_X_react_117 : decode cc_X_react 117 = .ok (.aload_n 0, 1) := by decide +kernel
theorem dd_X_react_118 : decode cc_X_react 118 = .ok (.getfield 19, 3) := by decide +kernel
theorem dd_X_react_121 : decode cc_X_react 121 = .ok (.invokevirtual 126, 3) := by decide +kernel
theorem dd_X_react_124 : decode cc_X_react 124 = .ok (.aload_n 0, 1) := by decide +kernel
theorem dd_X_react_125 : decode cc_X_react 125 = .ok (.getfield 19, 3) := by decide +kernel
theorem dd_X_react_128 : decode cc_X_react 128 = .ok (.invokevirtual 129, 3) := by decide +kernel
theorem dd_X_react_131 : decode cc_X_react 131 = .ok (.ireturn, 1) := by decide +kernel
theorem dd_X_reset_0 : decode cc_X_reset 0 = .ok (.aload_n 0, 1) := by decide +kernel
theorem dd_X_reset_1 : decode cc_X_reset 1 = .ok (.getfield 19, 3) := by decide +kernel
theorem dd_X_reset_4 : decode cc_X_reset 4 = .ok (.invokevirtual 97, 3) := by decide +kernel
theorem dd_X_reset_7 : decode cc_X_reset 7 = .ok (.ifCond .eq 13, 3) := by decide +kernel
theorem dd_X_reset_10 : decode cc_X_reset 10 = .ok (.new 59, 3) := by decide +kernel
theorem dd_X_reset_13 : decode cc_X_reset 13 = .ok (.dup, 1) := by decide +kernel
theorem dd_X_reset_14 : decode cc_X_reset 14 = .ok (.ldc 101, 2) := by decide +kernel
theorem dd_X_reset_16 : decode cc_X_reset 16 = .ok (.invokespecial 63, 3) := by decide +kernel
theorem dd_X_reset_19 : decode cc_X_reset 19 = .ok (.athrow, 1) := by decide +kernel
theorem dd_X_reset_20 : decode cc_X_reset 20 = .ok (.aload_n 0, 1) := by decide +kernel
theorem dd_X_reset_21 : decode cc_X_reset 21 = .ok (.getfield 19, 3) := by decide +kernel
theorem dd_X_reset_24 : decode cc_X_reset 24 = .ok (.getfield 107, 3) := by decide +kernel
theorem dd_X_reset_27 : decode cc_X_reset 27 = .ok (.istore_n 1, 1) := by decide +kernel
theorem dd_X_reset_28 : decode cc_X_reset 28 = .ok (.aload_n 0, 1) := by decide +kernel
theorem dd_X_reset_29 : decode cc_X_reset 29 = .ok (.getfield 19, 3) := by decide +kernel
theorem dd_X_reset_32 : decode cc_X_reset 32 = .ok (.invokevirtual 132, 3) := by decide +kernel
theorem dd_X_reset_35 : decode cc_X_reset 35 = .ok (.iload_n 1, 1) := by decide +kernel
theorem dd_X_reset_36 : decode cc_X_reset 36 = .ok (.ireturn, 1) := by decide +kernel
theorem dd_X_register_0 : decode cc_X_register 0 = .ok (.iload_n 1, 1) := by decide +kernel
theorem dd_X_register_1 : decode cc_X_register 1 = .ok (.ifCond .lt 14, 3) := by decide +kernel
theorem dd_X_register_4 : decode cc_X_register 4 = .ok (.iload_n 1, 1) := by decide +kernel
theorem dd_X_register_5 : decode cc_X_register 5 = .ok (.aload_n 0, 1) := by decide +kernel
theorem dd_X_register_6 : decode cc_X_register 6 = .ok (.getfield 19, 3) := by decide +kernel
theorem dd_X_register_9 : decode cc_X_register 9 = .ok (.getfield 92, 3) := by decide +kernel
theorem dd_X_register_12 : decode cc_X_register 12 = .ok (.if_icmp .lt 13, 3) := by decide +kernel
theorem dd_X_register_15 : decode cc_X_register 15 = .ok (.new 71, 3) := by decide +kernel
theorem dd_X_register_18 : decode cc_X_register 18 = .ok (.dup, 1) := by decide +kernel
theorem dd_X_register_19 : decode cc_X_register 19 = .ok (.ldc 135, 2) := by decide +kernel
theorem dd_X_register_21 : decode cc_X_register 21 = .ok (.invokespecial 75, 3) := by decide +kernel
theorem dd_X_register_24 : decode cc_X_register 24 = .ok (.athrow, 1) := by decide +kernel
theorem dd_X_register_25 : decode cc_X_register 25 = .ok (.aload_n 0, 1) := by decide +kernel
theorem dd_X_register_26 : decode cc_X_register 26 = .ok (.getfield 19, 3) := by decide +kernel
theorem dd_X_register_29 : decode cc_X_register 29 = .ok (.getfield 137, 3) := by decide +kernel
theorem dd_X_register_32 : decode cc_X_register 32 = .ok (.iload_n 1, 1) := by decide +kernel
theorem dd_X_register_33 : decode cc_X_register 33 = .ok (.baload, 1) := by decide +kernel
theorem dd_X_register_34 : decode cc_X_register 34 = .ok (.ireturn, 1) := by decide +kernel
theorem dd_X_count_0 : decode cc_X_count 0 = .ok (.iload_n 1, 1) := by decide +kernel
theorem dd_X_count_1 : decode cc_X_count 1 = .ok (.tableswitch 60 0 3 #[31, 39, 47, 55], 31) := by decide +kernel
theorem dd_X_count_32 : decode cc_X_count 32 = .ok (.aload_n 0, 1) := by decide +kernel
theorem dd_X_count_33 : decode cc_X_count 33 = .ok (.getfield 12, 3) := by decide +kernel
theorem dd_X_count_36 : decode cc_X_count 36 = .ok (.getfield 52, 3) := by decide +kernel
theorem dd_X_count_39 : decode cc_X_count 39 = .ok (.ireturn, 1) := by decide +kernel
theorem dd_X_count_40 : decode cc_X_count 40 = .ok (.aload_n 0, 1) := by decide +kernel
theorem dd_X_count_41 : decode cc_X_count 41 = .ok (.getfield 19, 3) := by decide +kernel
theorem dd_X_count_44 : decode cc_X_count 44 = .ok (.getfield 141, 3) := by decide +kernel
theorem dd_X_count_47 : decode cc_X_count 47 = .ok (.ireturn, 1) := by decide +kernel
theorem dd_X_count_48 : decode cc_X_count 48 = .ok (.aload_n 0, 1) := by decide +kernel
theorem dd_X_count_49 : decode cc_X_count 49 = .ok (.getfield 19, 3) := by decide +kernel
theorem dd_X_count_52 : decode cc_X_count 52 = .ok (.getfield 107, 3) := by decide +kernel
theorem dd_X_count_55 : decode cc_X_count 55 = .ok (.ireturn, 1) := by decide +kernel
theorem dd_X_count_56 : decode cc_X_count 56 = .ok (.aload_n 0, 1) := by decide +kernel
theorem dd_X_count_57 : decode cc_X_count 57 = .ok (.getfield 23, 3) := by decide +kernel
theorem dd_X_count_60 : decode cc_X_count 60 = .ok (.ireturn, 1) := by decide +kernel
theorem dd_X_count_61 : decode cc_X_count 61 = .ok (.new 71, 3) := by decide +kernel
theorem dd_X_count_64 : decode cc_X_count 64 = .ok (.dup, 1) := by decide +kernel
theorem dd_X_count_65 : decode cc_X_count 65 = .ok (.ldc 144, 2) := by decide +kernel
theorem dd_X_count_67 : decode cc_X_count 67 = .ok (.invokespecial 75, 3) := by decide +kernel
theorem dd_X_count_70 : decode cc_X_count 70 = .ok (.athrow, 1) := by decide +kernel
theorem dd_L_make_0 : decode cc_L_make 0 = .ok (.aload 5, 2) := by decide +kernel
theorem dd_L_make_2 : decode cc_L_make 2 = .ok (.iconst 0, 1) := by decide +kernel
theorem dd_L_make_3 : decode cc_L_make 3 = .ok (.aload_n 0, 1) := by decide +kernel
theorem dd_L_make_4 : decode cc_L_make 4 = .ok (.iload_n 1, 1) := by decide +kernel
theorem dd_L_make_5 : decode cc_L_make 5 = .ok (.iload_n 2, 1) := by decide +kernel
theorem dd_L_make_6 : decode cc_L_make 6 = .ok (.iload_n 3, 1) := by decide +kernel
theorem dd_L_make_7 : decode cc_L_make 7 = .ok (.iload 4, 2) := by decide +kernel
theorem dd_L_make_9 : decode cc_L_make 9 = .ok (.invokevirtual 7, 3) := by decide +kernel
theorem dd_L_make_12 : decode cc_L_make 12 = .ok (.i2l, 1) := by decide +kernel
theorem dd_L_make_13 : decode cc_L_make 13 = .ok (.lastore, 1) := by decide +kernel
theorem dd_L_make_14 : decode cc_L_make 14 = .ok (.goto 11, 3) := by decide +kernel
theorem dd_L_make_17 : decode cc_L_make 17 = .ok (.astore 6, 2) := by decide +kernel
theorem dd_L_make_19 : decode cc_L_make 19 = .ok (.iconst 1, 1) := by decide +kernel
theorem dd_L_make_20 : decode cc_L_make 20 = .ok (.ireturn, 1) := by decide +kernel
theorem dd_L_make_21 : decode cc_L_make 21 = .ok (.astore 6, 2) := by decide +kernel
theorem dd_L_make_23 : decode cc_L_make 23 = .ok (.iconst 2, 1) := by decide +kernel
theorem dd_L_make_24 : decode cc_L_make 24 = .ok (.ireturn, 1) := by decide +kernel
theorem dd_L_make_25 : decode cc_L_make 25 = .ok (.iconst 0, 1) := by decide +kernel
theorem dd_L_make_26 : decode cc_L_make 26 = .ok (.ireturn, 1) := by decide +kernel
theorem dd_L_can_0 : decode cc_L_can 0 = .ok (.aload_n 2, 1) := by decide +kernel
theorem dd_L_can_1 : decode cc_L_can 1 = .ok (.iconst 0, 1) := by decide +kernel
theorem dd_L_can_2 : decode cc_L_can 2 = .ok (.aload_n 0, 1) := by decide +kernel
theorem dd_L_can_3 : decode cc_L_can 3 = .ok (.iload_n 1, 1) := by decide +kernel
theorem dd_L_can_4 : decode cc_L_can 4 = .ok (.invokevirtual 17, 3) := by decide +kernel
theorem dd_L_can_7 : decode cc_L_can 7 = .ok (.i2l, 1) := by decide +kernel
theorem dd_L_can_8 : decode cc_L_can 8 = .ok (.lastore, 1) := by decide +kernel
theorem dd_L_can_9 : decode cc_L_can 9 = .ok (.goto 6, 3) := by decide +kernel
theorem dd_L_can_12 : decode cc_L_can 12 = .ok (.astore_n 3, 1) := by decide +kernel
theorem dd_L_can_13 : decode cc_L_can 13 = .ok (.iconst 1, 1) := by decide +kernel
theorem dd_L_can_14 : decode cc_L_can 14 = .ok (.ireturn, 1) := by decide +kernel
theorem dd_L_can_15 : decode cc_L_can 15 = .ok (.iconst 0, 1) := by decide +kernel
theorem dd_L_can_16 : decode cc_L_can 16 = .ok (.ireturn, 1) := by decide +kernel
theorem dd_L_build_0 : decode cc_L_build 0 = .ok (.aload_n 2, 1) := by decide +kernel
theorem dd_L_build_1 : decode cc_L_build 1 = .ok (.iconst 0, 1) := by decide +kernel
theorem dd_L_build_2 : decode cc_L_build 2 = .ok (.aload_n 0, 1) := by decide +kernel
theorem dd_L_build_3 : decode cc_L_build 3 = .ok (.iload_n 1, 1) := by decide +kernel
theorem dd_L_build_4 : decode cc_L_build 4 = .ok (.invokevirtual 23, 3) := by decide +kernel
theorem dd_L_build_7 : decode cc_L_build 7 = .ok (.i2l, 1) := by decide +kernel
theorem dd_L_build_8 : decode cc_L_build 8 = .ok (.lastore, 1) := by decide +kernel
theorem dd_L_build_9 : decode cc_L_build 9 = .ok (.goto 9, 3) := by decide +kernel
theorem dd_L_build_12 : decode cc_L_build 12 = .ok (.astore_n 3, 1) := by decide +kernel
theorem dd_L_build_13 : decode cc_L_build 13 = .ok (.iconst 1, 1) := by decide +kernel
theorem dd_L_build_14 : decode cc_L_build 14 = .ok (.ireturn, 1) := by decide +kernel
theorem dd_L_build_15 : decode cc_L_build 15 = .ok (.astore_n 3, 1) := by decide +kernel
theorem dd_L_build_16 : decode cc_L_build 16 = .ok (.iconst 2, 1) := by decide +kernel
theorem dd_L_build_17 : decode cc_L_build 17 = .ok (.ireturn, 1) := by decide +kernel
theorem dd_L_build_18 : decode cc_L_build 18 = .ok (.iconst 0, 1) := by decide +kernel
theorem dd_L_build_19 : decode cc_L_build 19 = .ok (.ireturn, 1) := by decide +kernel
theorem dd_L_react_0 : decode cc_L_react 0 = .ok (.aload_n 2, 1) := by decide +kernel
theorem dd_L_react_1 : decode cc_L_react 1 = .ok (.iconst 0, 1) := by decide +kernel
theorem dd_L_react_2 : decode cc_L_react 2 = .ok (.aload_n 0, 1) := by decide +kernel
theorem dd_L_react_3 : decode cc_L_react 3 = .ok (.iload_n 1, 1) := by decide +kernel
theorem dd_L_react_4 : decode cc_L_react 4 = .ok (.invokevirtual 28, 3) := by decide +kernel
theorem dd_L_react_7 : decode cc_L_react 7 = .ok (.i2l, 1) := by decide +kernel
theorem dd_L_react_8 : decode cc_L_react 8 = .ok (.lastore, 1) := by decide +kernel
theorem dd_L_react_9 : decode cc_L_react 9 = .ok (.goto 9, 3) := by decide +kernel
theorem dd_L_react_12 : decode cc_L_react 12 = .ok (.astore_n 3, 1) := by decide +kernel
theorem dd_L_react_13 : decode cc_L_react 13 = .ok (.iconst 1, 1) := by decide +kernel
theorem dd_L_react_14 : decode cc_L_react 14 = .ok (.ireturn, 1) := by decide +kernel
theorem dd_L_react_15 : decode cc_L_react 15 = .ok (.astore_n 3, 1) := by decide +kernel
theorem dd_L_react_16 : decode cc_L_react 16 = .ok (.iconst 2, 1) := by decide +kernel
theorem dd_L_react_17 : decode cc_L_react 17 = .ok (.ireturn, 1) := by decide +kernel
theorem dd_L_react_18 : decode cc_L_react 18 = .ok (.iconst 0, 1) := by decide +kernel
theorem dd_L_react_19 : decode cc_L_react 19 = .ok (.ireturn, 1) := by decide +kernel
theorem dd_L_reset_0 : decode cc_L_reset 0 = .ok (.aload_n 1, 1) := by decide +kernel
theorem dd_L_reset_1 : decode cc_L_reset 1 = .ok (.iconst 0, 1) := by decide +kernel
theorem dd_L_reset_2 : decode cc_L_reset 2 = .ok (.aload_n 0, 1) := by decide +kernel
theorem dd_L_reset_3 : decode cc_L_reset 3 = .ok (.invokevirtual 31, 3) := by decide +kernel
theorem dd_L_reset_6 : decode cc_L_reset 6 = .ok (.i2l, 1) := by decide +kernel
theorem dd_L_reset_7 : decode cc_L_reset 7 = .ok (.lastore, 1) := by decide +kernel
theorem dd_L_reset_8 : decode cc_L_reset 8 = .ok (.goto 6, 3) := by decide +kernel
theorem dd_L_reset_11 : decode cc_L_reset 11 = .ok (.astore_n 2, 1) := by decide +kernel
theorem dd_L_reset_12 : decode cc_L_reset 12 = .ok (.iconst 1, 1) := by decide +kernel
theorem dd_L_reset_13 : decode cc_L_reset 13 = .ok (.ireturn, 1) := by decide +kernel
theorem dd_L_reset_14 : decode cc_L_reset 14 = .ok (.iconst 0, 1) := by decide +kernel
theorem dd_L_reset_15 : decode cc_L_reset 15 = .ok (.ireturn, 1) := by decide +kernel
theorem dd_L_register_0 : decode cc_L_register 0 = .ok (.aload_n 2, 1) := by decide +kernel
theorem dd_L_register_1 : decode cc_L_register 1 = .ok (.iconst 0, 1) := by decide +kernel
theorem dd_L_register_2 : decode cc_L_register 2 = .ok (.aload_n 0, 1) := by decide +kernel
theorem dd_L_register_3 : decode cc_L_register 3 = .ok (.iload_n 1, 1) := by decide +kernel
theorem dd_L_register_4 : decode cc_L_register 4 = .ok (.invokevirtual 35, 3) := by decide +kernel
theorem dd_L_register_7 : decode cc_L_register 7 = .ok (.ifCond .eq 7, 3) := by decide +kernel
theorem dd_L_register_10 : decode cc_L_register 10 = .ok (.lconst 1, 1) := by decide +kernel
theorem dd_L_register_11 : decode cc_L_register 11 = .ok (.goto 4, 3) := by decide +kernel
theorem dd_L_register_14 : decode cc_L_register 14 = .ok (.lconst 0, 1) := by decide +kernel
theorem dd_L_register_15 : decode cc_L_register 15 = .ok (.lastore, 1) := by decide +kernel
theorem dd_L_register_16 : decode cc_L_register 16 = .ok (.goto 6, 3) := by decide +kernel
theorem dd_L_register_19 : decode cc_L_register 19 = .ok (.astore_n 3, 1) := by decide +kernel
theorem dd_L_register_20 : decode cc_L_register 20 = .ok (.iconst 1, 1) := by decide +kernel
theorem dd_L_register_21 : decode cc_L_register 21 = .ok (.ireturn, 1) := by decide +kernel
theorem dd_L_register_22 : decode cc_L_register 22 = .ok (.iconst 0, 1) := by decide +kernel
theorem dd_L_register_23 : decode cc_L_register 23 = .ok (.ireturn, 1) := by decide +kernel
theorem dd_L_count_0 : decode cc_L_count 0 = .ok (.aload_n 2, 1) := by decide +kernel
theorem dd_L_count_1 : decode cc_L_count 1 = .ok (.iconst 0, 1) := by decide +kernel
theorem dd_L_count_2 : decode cc_L_count 2 = .ok (.aload_n 0, 1) := by decide +kernel
theorem dd_L_count_3 : decode cc_L_count 3 = .ok (.iload_n 1, 1) := by decide +kernel
theorem dd_L_count_4 : decode cc_L_count 4 = .ok (.invokevirtual 39, 3) := by decide +kernel
theorem dd_L_count_7 : decode cc_L_count 7 = .ok (.i2l, 1) := by decide +kernel
theorem dd_L_count_8 : decode cc_L_count 8 = .ok (.lastore, 1) := by decide +kernel
theorem dd_L_count_9 : decode cc_L_count 9 = .ok (.goto 6, 3) := by decide +kernel
theorem dd_L_count_12 : decode cc_L_count 12 = .ok (.astore_n 3, 1) := by decide +kernel
theorem dd_L_count_13 : decode cc_L_count 13 = .ok (.iconst 1, 1) := by decide +kernel
theorem dd_L_count_14 : decode cc_L_count 14 = .ok (.ireturn, 1) := by decide +kernel
theorem dd_L_count_15 : decode cc_L_count 15 = .ok (.iconst 0, 1) := by decide +kernel
theorem dd_L_count_16 : decode cc_L_count 16 = .ok (.ireturn, 1) := by decide +kernel
