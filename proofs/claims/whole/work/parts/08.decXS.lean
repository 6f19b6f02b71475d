theorem dd_R_has_0 : decode cc_R_has 0 = .ok (.aload_n 0, 1) := by decide +kernel
theorem dd_R_has_1 : decode cc_R_has 1 = .ok (.getfield 9, 3) := by decide +kernel
theorem dd_R_has_4 : decode cc_R_has 4 = .ok (.iload_n 1, 1) := by decide +kernel
theorem dd_R_has_5 : decode cc_R_has 5 = .ok (.iaload, 1) := by decide +kernel
theorem dd_R_has_6 : decode cc_R_has 6 = .ok (.iload_n 2, 1) := by decide +kernel
theorem dd_R_has_7 : decode cc_R_has 7 = .ok (.iand, 1) := by decide +kernel
theorem dd_R_has_8 : decode cc_R_has 8 = .ok (.ifCond .eq 7, 3) := by decide +kernel
theorem dd_R_has_11 : decode cc_R_has 11 = .ok (.iconst 1, 1) := by decide +kernel
theorem dd_R_has_12 : decode cc_R_has 12 = .ok (.goto 4, 3) := by decide +kernel
theorem dd_R_has_15 : decode cc_R_has 15 = .ok (.iconst 0, 1) := by decide +kernel
theorem dd_R_has_16 : decode cc_R_has 16 = .ok (.ireturn, 1) := by decide +kernel
theorem dd_X_unknown_0 : decode cc_X_unknown 0 = .ok (.aload_n 0, 1) := by decide +kernel
theorem dd_X_unknown_1 : decode cc_X_unknown 1 = .ok (.getfield 19, 3) := by decide +kernel
theorem dd_X_unknown_4 : decode cc_X_unknown 4 = .ok (.getfield 121, 3) := by decide +kernel
theorem dd_X_unknown_7 : decode cc_X_unknown 7 = .ok (.ireturn, 1) := by decide +kernel
theorem dd_X_over_0 : decode cc_X_over 0 = .ok (.aload_n 0, 1) := by decide +kernel
theorem dd_X_over_1 : decode cc_X_over 1 = .ok (.getfield 19, 3) := by decide +kernel
theorem dd_X_over_4 : decode cc_X_over 4 = .ok (.getfield 103, 3) := by decide +kernel
theorem dd_X_over_7 : decode cc_X_over 7 = .ok (.ireturn, 1) := by decide +kernel
theorem dd_X_hasNumber_0 : decode cc_X_hasNumber 0 = .ok (.iload_n 0, 1) := by decide +kernel
theorem dd_X_hasNumber_1 : decode cc_X_hasNumber 1 = .ok (.iconst 2, 1) := by decide +kernel
theorem dd_X_hasNumber_2 : decode cc_X_hasNumber 2 = .ok (.if_icmp .eq 27, 3) := by decide +kernel
theorem dd_X_hasNumber_5 : decode cc_X_hasNumber 5 = .ok (.iload_n 0, 1) := by decide +kernel
theorem dd_X_hasNumber_6 : decode cc_X_hasNumber 6 = .ok (.bipush 6, 2) := by decide +kernel
theorem dd_X_hasNumber_8 : decode cc_X_hasNumber 8 = .ok (.if_icmp .eq 21, 3) := by decide +kernel
theorem dd_X_hasNumber_11 : decode cc_X_hasNumber 11 = .ok (.iload_n 0, 1) := by decide +kernel
theorem dd_X_hasNumber_12 : decode cc_X_hasNumber 12 = .ok (.bipush 7, 2) := by decide +kernel
theorem dd_X_hasNumber_14 : decode cc_X_hasNumber 14 = .ok (.if_icmp .eq 15, 3) := by decide +kernel
theorem dd_X_hasNumber_17 : decode cc_X_hasNumber 17 = .ok (.iload_n 0, 1) := by decide +kernel
theorem dd_X_hasNumber_18 : decode cc_X_hasNumber 18 = .ok (.bipush 8, 2) := by decide +kernel
theorem dd_X_hasNumber_20 : decode cc_X_hasNumber 20 = .ok (.if_icmp .eq 9, 3) := by decide +kernel
theorem dd_X_hasNumber_23 : decode cc_X_hasNumber 23 = .ok (.iload_n 0, 1) := by decide +kernel
theorem dd_X_hasNumber_24 : decode cc_X_hasNumber 24 = .ok (.bipush 10, 2) := by decide +kernel
theorem dd_X_hasNumber_26 : decode cc_X_hasNumber 26 = .ok (.if_icmp .ne 7, 3) := by decide +kernel
theorem dd_X_hasNumber_29 : decode cc_X_hasNumber 29 = .ok (.iconst 1, 1) := by decide +kernel
theorem dd_X_hasNumber_30 : decode cc_X_hasNumber 30 = .ok (.goto 4, 3) := by decide +kernel
theorem dd_X_hasNumber_33 : decode cc_X_hasNumber 33 = .ok (.iconst 0, 1) := by decide +kernel
theorem dd_X_hasNumber_34 : decode cc_X_hasNumber 34 = .ok (.ireturn, 1) := by decide +kernel
theorem dd_X_partsOf_0 : decode cc_X_partsOf 0 = .ok (.iload_n 0, 1) := by decide +kernel
theorem dd_X_partsOf_1 : decode cc_X_partsOf 1 = .ok (.tableswitch 47 3 9 #[43, 43, 45, 43, 45, 45, 45], 43) := by decide +kernel
theorem dd_X_partsOf_44 : decode cc_X_partsOf 44 = .ok (.iconst 2, 1) := by decide +kernel
theorem dd_X_partsOf_45 : decode cc_X_partsOf 45 = .ok (.ireturn, 1) := by decide +kernel
theorem dd_X_partsOf_46 : decode cc_X_partsOf 46 = .ok (.iconst 1, 1) := by decide +kernel
theorem dd_X_partsOf_47 : decode cc_X_partsOf 47 = .ok (.ireturn, 1) := by decide +kernel
theorem dd_X_partsOf_48 : decode cc_X_partsOf 48 = .ok (.iconst 0, 1) := by decide +kernel
theorem dd_X_partsOf_49 : decode cc_X_partsOf 49 = .ok (.ireturn, 1) := by decide +kernel
theorem dd_X_numberFits_0 : decode cc_X_numberFits 0 = .ok (.iload_n 0, 1) := by decide +kernel
theorem dd_X_numberFits_1 : decode cc_X_numberFits 1 = .ok (.tableswitch 99 2 10 #[51, 99, 99, 99, 68, 68, 51, 99, 84], 51) := by decide +kernel
theorem dd_X_numberFits_52 : decode cc_X_numberFits 52 = .ok (.iload_n 1, 1) := by decide +kernel
theorem dd_X_numberFits_53 : decode cc_X_numberFits 53 = .ok (.iconst 3, 1) := by decide +kernel
theorem dd_X_numberFits_54 : decode cc_X_numberFits 54 = .ok (.if_icmp .lt 13, 3) := by decide +kernel
theorem dd_X_numberFits_57 : decode cc_X_numberFits 57 = .ok (.iload_n 1, 1) := by decide +kernel
theorem dd_X_numberFits_58 : decode cc_X_numberFits 58 = .ok (.bipush 8, 2) := by decide +kernel
theorem dd_X_numberFits_60 : decode cc_X_numberFits 60 = .ok (.if_icmp .ge 7, 3) := by decide +kernel
theorem dd_X_numberFits_63 : decode cc_X_numberFits 63 = .ok (.iconst 1, 1) := by decide +kernel
theorem dd_X_numberFits_64 : decode cc_X_numberFits 64 = .ok (.goto 4, 3) := by decide +kernel
theorem dd_X_numberFits_67 : decode cc_X_numberFits 67 = .ok (.iconst 0, 1) := by decide +kernel
theorem dd_X_numberFits_68 : decode cc_X_numberFits 68 = .ok (.ireturn, 1) := by decide +kernel
theorem dd_X_numberFits_69 : decode cc_X_numberFits 69 = .ok (.iload_n 1, 1) := by decide +kernel
theorem dd_X_numberFits_70 : decode cc_X_numberFits 70 = .ok (.ifCond .lt 13, 3) := by decide +kernel
theorem dd_X_numberFits_73 : decode cc_X_numberFits 73 = .ok (.iload_n 1, 1) := by decide +kernel
theorem dd_X_numberFits_74 : decode cc_X_numberFits 74 = .ok (.bipush 8, 2) := by decide +kernel
theorem dd_X_numberFits_76 : decode cc_X_numberFits 76 = .ok (.if_icmp .ge 7, 3) := by decide +kernel
theorem dd_X_numberFits_79 : decode cc_X_numberFits 79 = .ok (.iconst 1, 1) := by decide +kernel
theorem dd_X_numberFits_80 : decode cc_X_numberFits 80 = .ok (.goto 4, 3) := by decide +kernel
theorem dd_X_numberFits_83 : decode cc_X_numberFits 83 = .ok (.iconst 0, 1) := by decide +kernel
theorem dd_X_numberFits_84 : decode cc_X_numberFits 84 = .ok (.ireturn, 1) := by decide +kernel
theorem dd_X_numberFits_85 : decode cc_X_numberFits 85 = .ok (.iload_n 1, 1) := by decide +kernel
theorem dd_X_numberFits_86 : decode cc_X_numberFits 86 = .ok (.ifCond .lt 12, 3) := by decide +kernel
theorem dd_X_numberFits_89 : decode cc_X_numberFits 89 = .ok (.iload_n 1, 1) := by decide +kernel
theorem dd_X_numberFits_90 : decode cc_X_numberFits 90 = .ok (.iconst 3, 1) := by decide +kernel
theorem dd_X_numberFits_91 : decode cc_X_numberFits 91 = .ok (.if_icmp .gt 7, 3) := by decide +kernel
theorem dd_X_numberFits_94 : decode cc_X_numberFits 94 = .ok (.iconst 1, 1) := by decide +kernel
theorem dd_X_numberFits_95 : decode cc_X_numberFits 95 = .ok (.goto 4, 3) := by decide +kernel
theorem dd_X_numberFits_98 : decode cc_X_numberFits 98 = .ok (.iconst 0, 1) := by decide +kernel
theorem dd_X_numberFits_99 : decode cc_X_numberFits 99 = .ok (.ireturn, 1) := by decide +kernel
theorem dd_X_numberFits_100 : decode cc_X_numberFits 100 = .ok (.iconst 1, 1) := by decide +kernel
theorem dd_X_numberFits_101 : decode cc_X_numberFits 101 = .ok (.ireturn, 1) := by decide +kernel
theorem dd_X_reached_0 : decode cc_X_reached 0 = .ok (.iload_n 0, 1) := by decide +kernel
theorem dd_X_reached_1 : decode cc_X_reached 1 = .ok (.iload_n 0, 1) := by decide +kernel
theorem dd_X_reached_2 : decode cc_X_reached 2 = .ok (.iconst 1, 1) := by decide +kernel
theorem dd_X_reached_3 : decode cc_X_reached 3 = .ok (.ishl, 1) := by decide +kernel
theorem dd_X_reached_4 : decode cc_X_reached 4 = .ok (.ior, 1) := by decide +kernel
theorem dd_X_reached_5 : decode cc_X_reached 5 = .ok (.istore_n 1, 1) := by decide +kernel
theorem dd_X_reached_6 : decode cc_X_reached 6 = .ok (.iload_n 1, 1) := by decide +kernel
theorem dd_X_reached_7 : decode cc_X_reached 7 = .ok (.iload_n 1, 1) := by decide +kernel
theorem dd_X_reached_8 : decode cc_X_reached 8 = .ok (.iconst 2, 1) := by decide +kernel
theorem dd_X_reached_9 : decode cc_X_reached 9 = .ok (.ishl, 1) := by decide +kernel
theorem dd_X_reached_10 : decode cc_X_reached 10 = .ok (.ior, 1) := by decide +kernel
theorem dd_X_reached_11 : decode cc_X_reached 11 = .ok (.istore_n 1, 1) := by decide +kernel
theorem dd_X_reached_12 : decode cc_X_reached 12 = .ok (.iload_n 1, 1) := by decide +kernel
theorem dd_X_reached_13 : decode cc_X_reached 13 = .ok (.iload_n 1, 1) := by decide +kernel
theorem dd_X_reached_14 : decode cc_X_reached 14 = .ok (.iconst 4, 1) := by decide +kernel
theorem dd_X_reached_15 : decode cc_X_reached 15 = .ok (.ishl, 1) := by decide +kernel
theorem dd_X_reached_16 : decode cc_X_reached 16 = .ok (.ior, 1) := by decide +kernel
theorem dd_X_reached_17 : decode cc_X_reached 17 = .ok (.istore_n 1, 1) := by decide +kernel
theorem dd_X_reached_18 : decode cc_X_reached 18 = .ok (.iload_n 1, 1) := by decide +kernel
theorem dd_X_reached_19 : decode cc_X_reached 19 = .ok (.bipush 63, 2) := by decide +kernel
theorem dd_X_reached_21 : decode cc_X_reached 21 = .ok (.iand, 1) := by decide +kernel
theorem dd_X_reached_22 : decode cc_X_reached 22 = .ok (.ireturn, 1) := by decide +kernel
theorem dd_X_outsideTrap_0 : decode cc_X_outsideTrap 0 = .ok (.iload_n 0, 1) := by decide +kernel
theorem dd_X_outsideTrap_1 : decode cc_X_outsideTrap 1 = .ok (.iconst 3, 1) := by decide +kernel
theorem dd_X_outsideTrap_2 : decode cc_X_outsideTrap 2 = .ok (.iand, 1) := by decide +kernel
theorem dd_X_outsideTrap_3 : decode cc_X_outsideTrap 3 = .ok (.istore_n 1, 1) := by decide +kernel
theorem dd_X_outsideTrap_4 : decode cc_X_outsideTrap 4 = .ok (.iload_n 0, 1) := by decide +kernel
theorem dd_X_outsideTrap_5 : decode cc_X_outsideTrap 5 = .ok (.iconst 4, 1) := by decide +kernel
theorem dd_X_outsideTrap_6 : decode cc_X_outsideTrap 6 = .ok (.iand, 1) := by decide +kernel
theorem dd_X_outsideTrap_7 : decode cc_X_outsideTrap 7 = .ok (.ifCond .eq 7, 3) := by decide +kernel
theorem dd_X_outsideTrap_10 : decode cc_X_outsideTrap 10 = .ok (.iconst 1, 1) := by decide +kernel
theorem dd_X_outsideTrap_11 : decode cc_X_outsideTrap 11 = .ok (.goto 4, 3) := by decide +kernel
theorem dd_X_outsideTrap_14 : decode cc_X_outsideTrap 14 = .ok (.iconst 0, 1) := by decide +kernel
theorem dd_X_outsideTrap_15 : decode cc_X_outsideTrap 15 = .ok (.istore_n 2, 1) := by decide +kernel
theorem dd_X_outsideTrap_16 : decode cc_X_outsideTrap 16 = .ok (.iload_n 0, 1) := by decide +kernel
theorem dd_X_outsideTrap_17 : decode cc_X_outsideTrap 17 = .ok (.iconst 1, 1) := by decide +kernel
theorem dd_X_outsideTrap_18 : decode cc_X_outsideTrap 18 = .ok (.ishr, 1) := by decide +kernel
theorem dd_X_outsideTrap_19 : decode cc_X_outsideTrap 19 = .ok (.bipush 63, 2) := by decide +kernel
theorem dd_X_outsideTrap_21 : decode cc_X_outsideTrap 21 = .ok (.iand, 1) := by decide +kernel
theorem dd_X_outsideTrap_22 : decode cc_X_outsideTrap 22 = .ok (.bipush (-4), 2) := by decide +kernel
theorem dd_X_outsideTrap_24 : decode cc_X_outsideTrap 24 = .ok (.iand, 1) := by decide +kernel
theorem dd_X_outsideTrap_25 : decode cc_X_outsideTrap 25 = .ok (.istore_n 3, 1) := by decide +kernel
theorem dd_X_outsideTrap_26 : decode cc_X_outsideTrap 26 = .ok (.iload_n 1, 1) := by decide +kernel
theorem dd_X_outsideTrap_27 : decode cc_X_outsideTrap 27 = .ok (.iload_n 2, 1) := by decide +kernel
theorem dd_X_outsideTrap_28 : decode cc_X_outsideTrap 28 = .ok (.ior, 1) := by decide +kernel
theorem dd_X_outsideTrap_29 : decode cc_X_outsideTrap 29 = .ok (.iload_n 3, 1) := by decide +kernel
theorem dd_X_outsideTrap_30 : decode cc_X_outsideTrap 30 = .ok (.ior, 1) := by decide +kernel
theorem dd_X_outsideTrap_31 : decode cc_X_outsideTrap 31 = .ok (.ireturn, 1) := by decide +kernel
theorem dd_S_has_0 : decode cc_S_has 0 = .ok (.iload_n 1, 1) := by decide +kernel
theorem dd_S_has_1 : decode cc_S_has 1 = .ok (.ifCond .lt 15, 3) := by decide +kernel
theorem dd_S_has_4 : decode cc_S_has 4 = .ok (.iload_n 1, 1) := by decide +kernel
theorem dd_S_has_5 : decode cc_S_has 5 = .ok (.aload_n 0, 1) := by decide +kernel
theorem dd_S_has_6 : decode cc_S_has 6 = .ok (.getfield 43, 3) := by decide +kernel
theorem dd_S_has_9 : decode cc_S_has 9 = .ok (.if_icmp .ge 7, 3) := by decide +kernel
theorem dd_S_has_12 : decode cc_S_has 12 = .ok (.iconst 1, 1) := by decide +kernel
theorem dd_S_has_13 : decode cc_S_has 13 = .ok (.goto 4, 3) := by decide +kernel
theorem dd_S_has_16 : decode cc_S_has 16 = .ok (.iconst 0, 1) := by decide +kernel
theorem dd_S_has_17 : decode cc_S_has 17 = .ok (.ireturn, 1) := by decide +kernel
theorem dd_S_haveParts_0 : decode cc_S_haveParts 0 = .ok (.iload_n 1, 1) := by decide +kernel
theorem dd_S_haveParts_1 : decode cc_S_haveParts 1 = .ok (.invokestatic 47, 3) := by decide +kernel
theorem dd_S_haveParts_4 : decode cc_S_haveParts 4 = .ok (.istore 4, 2) := by decide +kernel
theorem dd_S_haveParts_6 : decode cc_S_haveParts 6 = .ok (.iload 4, 2) := by decide +kernel
theorem dd_S_haveParts_8 : decode cc_S_haveParts 8 = .ok (.iconst 1, 1) := by decide +kernel
theorem dd_S_haveParts_9 : decode cc_S_haveParts 9 = .ok (.if_icmp .lt 11, 3) := by decide +kernel
theorem dd_S_haveParts_12 : decode cc_S_haveParts 12 = .ok (.aload_n 0, 1) := by decide +kernel
theorem dd_S_haveParts_13 : decode cc_S_haveParts 13 = .ok (.iload_n 2, 1) := by decide +kernel
theorem dd_S_haveParts_14 : decode cc_S_haveParts 14 = .ok (.invokevirtual 51, 3) := by decide +kernel
theorem dd_S_haveParts_17 : decode cc_S_haveParts 17 = .ok (.ifCond .eq 21, 3) := by decide +kernel
theorem dd_S_haveParts_20 : decode cc_S_haveParts 20 = .ok (.iload 4, 2) := by decide +kernel
theorem dd_S_haveParts_22 : decode cc_S_haveParts 22 = .ok (.iconst 2, 1) := by decide +kernel
theorem dd_S_haveParts_23 : decode cc_S_haveParts 23 = .ok (.if_icmp .lt 11, 3) := by decide +kernel
theorem dd_S_haveParts_26 : decode cc_S_haveParts 26 = .ok (.aload_n 0, 1) := by decide +kernel
theorem dd_S_haveParts_27 : decode cc_S_haveParts 27 = .ok (.iload_n 3, 1) := by decide +kernel
theorem dd_S_haveParts_28 : decode cc_S_haveParts 28 = .ok (.invokevirtual 51, 3) := by decide +kernel
theorem dd_S_haveParts_31 : decode cc_S_haveParts 31 = .ok (.ifCond .eq 7, 3) := by decide +kernel
theorem dd_S_haveParts_34 : decode cc_S_haveParts 34 = .ok (.iconst 1, 1) := by decide +kernel
theorem dd_S_haveParts_35 : decode cc_S_haveParts 35 = .ok (.goto 4, 3) := by decide +kernel
theorem dd_S_haveParts_38 : decode cc_S_haveParts 38 = .ok (.iconst 0, 1) := by decide +kernel
theorem dd_S_haveParts_39 : decode cc_S_haveParts 39 = .ok (.ireturn, 1) := by decide +kernel
theorem dd_S_depthAround_0 : decode cc_S_depthAround 0 = .ok (.iconst 1, 1) := by decide +kernel
theorem dd_S_depthAround_1 : decode cc_S_depthAround 1 = .ok (.aload_n 0, 1) := by decide +kernel
theorem dd_S_depthAround_2 : decode cc_S_depthAround 2 = .ok (.aload_n 0, 1) := by decide +kernel
theorem dd_S_depthAround_3 : decode cc_S_depthAround 3 = .ok (.getfield 27, 3) := by decide +kernel
theorem dd_S_depthAround_6 : decode cc_S_depthAround 6 = .ok (.iload_n 1, 1) := by decide +kernel
theorem dd_S_depthAround_7 : decode cc_S_depthAround 7 = .ok (.invokevirtual 55, 3) := by decide +kernel
theorem dd_S_depthAround_10 : decode cc_S_depthAround 10 = .ok (.aload_n 0, 1) := by decide +kernel
theorem dd_S_depthAround_11 : decode cc_S_depthAround 11 = .ok (.aload_n 0, 1) := by decide +kernel
theorem dd_S_depthAround_12 : decode cc_S_depthAround 12 = .ok (.getfield 27, 3) := by decide +kernel
theorem dd_S_depthAround_15 : decode cc_S_depthAround 15 = .ok (.iload_n 2, 1) := by decide +kernel
theorem dd_S_depthAround_16 : decode cc_S_depthAround 16 = .ok (.invokevirtual 55, 3) := by decide +kernel
theorem dd_S_depthAround_19 : decode cc_S_depthAround 19 = .ok (.invokestatic 59, 3) := by decide +kernel
theorem dd_S_depthAround_22 : decode cc_S_depthAround 22 = .ok (.iadd, 1) := by decide +kernel
theorem dd_S_depthAround_23 : decode cc_S_depthAround 23 = .ok (.ireturn, 1) := by decide +kernel
theorem dd_S_isRefused_0 : decode cc_S_isRefused 0 = .ok (.aload_n 0, 1) := by decide +kernel
theorem dd_S_isRefused_1 : decode cc_S_isRefused 1 = .ok (.getfield 39, 3) := by decide +kernel
theorem dd_S_isRefused_4 : decode cc_S_isRefused 4 = .ok (.iload_n 1, 1) := by decide +kernel
theorem dd_S_isRefused_5 : decode cc_S_isRefused 5 = .ok (.baload, 1) := by decide +kernel
theorem dd_S_isRefused_6 : decode cc_S_isRefused 6 = .ok (.ifCond .ne 35, 3) := by decide +kernel
theorem dd_S_isRefused_9 : decode cc_S_isRefused 9 = .ok (.aload_n 0, 1) := by decide +kernel
theorem dd_S_isRefused_10 : decode cc_S_isRefused 10 = .ok (.getfield 36, 3) := by decide +kernel
theorem dd_S_isRefused_13 : decode cc_S_isRefused 13 = .ok (.iload_n 1, 1) := by decide +kernel
theorem dd_S_isRefused_14 : decode cc_S_isRefused 14 = .ok (.iaload, 1) := by decide +kernel
theorem dd_S_isRefused_15 : decode cc_S_isRefused 15 = .ok (.ifCond .gt 26, 3) := by decide +kernel
theorem dd_S_isRefused_18 : decode cc_S_isRefused 18 = .ok (.aload_n 0, 1) := by decide +kernel
theorem dd_S_isRefused_19 : decode cc_S_isRefused 19 = .ok (.getfield 30, 3) := by decide +kernel
theorem dd_S_isRefused_22 : decode cc_S_isRefused 22 = .ok (.iload_n 1, 1) := by decide +kernel
theorem dd_S_isRefused_23 : decode cc_S_isRefused 23 = .ok (.iaload, 1) := by decide +kernel
theorem dd_S_isRefused_24 : decode cc_S_isRefused 24 = .ok (.sipush 300, 3) := by decide +kernel
theorem dd_S_isRefused_27 : decode cc_S_isRefused 27 = .ok (.if_icmp .gt 14, 3) := by decide +kernel
theorem dd_S_isRefused_30 : decode cc_S_isRefused 30 = .ok (.aload_n 0, 1) := by decide +kernel
theorem dd_S_isRefused_31 : decode cc_S_isRefused 31 = .ok (.getfield 33, 3) := by decide +kernel
theorem dd_S_isRefused_34 : decode cc_S_isRefused 34 = .ok (.iload_n 1, 1) := by decide +kernel
theorem dd_S_isRefused_35 : decode cc_S_isRefused 35 = .ok (.iaload, 1) := by decide +kernel
theorem dd_S_isRefused_36 : decode cc_S_isRefused 36 = .ok (.bipush 60, 2) := by decide +kernel
theorem dd_S_isRefused_38 : decode cc_S_isRefused 38 = .ok (.if_icmp .le 7, 3) := by decide +kernel
theorem dd_S_isRefused_41 : decode cc_S_isRefused 41 = .ok (.iconst 1, 1) := by decide +kernel
theorem dd_S_isRefused_42 : decode cc_S_isRefused 42 = .ok (.goto 4, 3) := by decide +kernel
theorem dd_S_isRefused_45 : decode cc_S_isRefused 45 = .ok (.iconst 0, 1) := by decide +kernel
theorem dd_S_isRefused_46 : decode cc_S_isRefused 46 = .ok (.ireturn, 1) := by decide +kernel
theorem dd_S_add_0 : decode cc_S_add 0 = .ok (.aload_n 0, 1) := by decide +kernel
theorem dd_S_add_1 : decode cc_S_add 1 = .ok (.getfield 43, 3) := by decide +kernel
theorem dd_S_add_4 : decode cc_S_add 4 = .ok (.istore 5, 2) := by decide +kernel
theorem dd_S_add_6 : decode cc_S_add 6 = .ok (.iload_n 1, 1) := by decide +kernel
theorem dd_S_add_7 : decode cc_S_add 7 = .ok (.iconst 5, 1) := by decide +kernel
theorem dd_S_add_8 : decode cc_S_add 8 = .ok (.if_icmp .ne 7, 3) := by decide +kernel
theorem dd_S_add_11 : decode cc_S_add 11 = .ok (.iload_n 3, 1) := by decide +kernel
theorem dd_S_add_12 : decode cc_S_add 12 = .ok (.goto 5, 3) := by decide +kernel
theorem dd_S_add_15 : decode cc_S_add 15 = .ok (.iload 4, 2) := by decide +kernel
theorem dd_S_add_17 : decode cc_S_add 17 = .ok (.istore 6, 2) := by decide +kernel
theorem dd_S_add_19 : decode cc_S_add 19 = .ok (.aload_n 0, 1) := by decide +kernel
theorem dd_S_add_20 : decode cc_S_add 20 = .ok (.getfield 9, 3) := by decide +kernel
theorem dd_S_add_23 : decode cc_S_add 23 = .ok (.iload 5, 2) := by decide +kernel
theorem dd_S_add_25 : decode cc_S_add 25 = .ok (.iload_n 1, 1) := by decide +kernel
theorem dd_S_add_26 : decode cc_S_add 26 = .ok (.iastore, 1) := by decide +kernel
theorem dd_S_add_27 : decode cc_S_add 27 = .ok (.aload_n 0, 1) := by decide +kernel
theorem dd_S_add_28 : decode cc_S_add 28 = .ok (.getfield 15, 3) := by decide +kernel
theorem dd_S_add_31 : decode cc_S_add 31 = .ok (.iload 5, 2) := by decide +kernel
theorem dd_S_add_33 : decode cc_S_add 33 = .ok (.iload_n 2, 1) := by decide +kernel
theorem dd_S_add_34 : decode cc_S_add 34 = .ok (.iastore, 1) := by decide +kernel
theorem dd_S_add_35 : decode cc_S_add 35 = .ok (.aload_n 0, 1) := by decide +kernel
theorem dd_S_add_36 : decode cc_S_add 36 = .ok (.getfield 18, 3) := by decide +kernel
theorem dd_S_add_39 : decode cc_S_add 39 = .ok (.iload 5, 2) := by decide +kernel
theorem dd_S_add_41 : decode cc_S_add 41 = .ok (.iload_n 3, 1) := by decide +kernel
theorem dd_S_add_42 : decode cc_S_add 42 = .ok (.iastore, 1) := by decide +kernel
theorem dd_S_add_43 : decode cc_S_add 43 = .ok (.aload_n 0, 1) := by decide +kernel
theorem dd_S_add_44 : decode cc_S_add 44 = .ok (.getfield 21, 3) := by decide +kernel
theorem dd_S_add_47 : decode cc_S_add 47 = .ok (.iload 5, 2) := by decide +kernel
theorem dd_S_add_49 : decode cc_S_add 49 = .ok (.iload 6, 2) := by decide +kernel
theorem dd_S_add_51 : decode cc_S_add 51 = .ok (.iastore, 1) := by decide +kernel
theorem dd_S_add_52 : decode cc_S_add 52 = .ok (.aload_n 0, 1) := by decide +kernel
theorem dd_S_add_53 : decode cc_S_add 53 = .ok (.getfield 24, 3) := by decide +kernel
theorem dd_S_add_56 : decode cc_S_add 56 = .ok (.iload 5, 2) := by decide +kernel
theorem dd_S_add_58 : decode cc_S_add 58 = .ok (.iload_n 1, 1) := by decide +kernel
theorem dd_S_add_59 : decode cc_S_add 59 = .ok (.iload_n 2, 1) := by decide +kernel
theorem dd_S_add_60 : decode cc_S_add 60 = .ok (.aload_n 0, 1) := by decide +kernel
theorem dd_S_add_61 : decode cc_S_add 61 = .ok (.aload_n 0, 1) := by decide +kernel
theorem dd_S_add_62 : decode cc_S_add 62 = .ok (.getfield 24, 3) := by decide +kernel
theorem dd_S_add_65 : decode cc_S_add 65 = .ok (.iload_n 3, 1) := by decide +kernel
theorem dd_S_add_66 : decode cc_S_add 66 = .ok (.invokevirtual 55, 3) := by decide +kernel
theorem dd_S_add_69 : decode cc_S_add 69 = .ok (.aload_n 0, 1) := by decide +kernel
theorem dd_S_add_70 : decode cc_S_add 70 = .ok (.aload_n 0, 1) := by decide +kernel
theorem dd_S_add_71 : decode cc_S_add 71 = .ok (.getfield 24, 3) := by decide +kernel
theorem dd_S_add_74 : decode cc_S_add 74 = .ok (.iload 6, 2) := by decide +kernel
theorem dd_S_add_76 : decode cc_S_add 76 = .ok (.invokevirtual 55, 3) := by decide +kernel
theorem dd_S_add_79 : decode cc_S_add 79 = .ok (.invokestatic 65, 3) := by decide +kernel
theorem dd_S_add_82 : decode cc_S_add 82 = .ok (.iastore, 1) := by decide +kernel
theorem dd_S_add_83 : decode cc_S_add 83 = .ok (.aload_n 0, 1) := by decide +kernel
theorem dd_S_add_84 : decode cc_S_add 84 = .ok (.getfield 27, 3) := by decide +kernel
theorem dd_S_add_87 : decode cc_S_add 87 = .ok (.iload 5, 2) := by decide +kernel
theorem dd_S_add_89 : decode cc_S_add 89 = .ok (.aload_n 0, 1) := by decide +kernel
theorem dd_S_add_90 : decode cc_S_add 90 = .ok (.iload_n 3, 1) := by decide +kernel
theorem dd_S_add_91 : decode cc_S_add 91 = .ok (.iload 4, 2) := by decide +kernel
theorem dd_S_add_93 : decode cc_S_add 93 = .ok (.invokevirtual 69, 3) := by decide +kernel
theorem dd_S_add_96 : decode cc_S_add 96 = .ok (.iastore, 1) := by decide +kernel
theorem dd_S_add_97 : decode cc_S_add 97 = .ok (.aload_n 0, 1) := by decide +kernel
theorem dd_S_add_98 : decode cc_S_add 98 = .ok (.getfield 30, 3) := by decide +kernel
theorem dd_S_add_101 : decode cc_S_add 101 = .ok (.iload 5, 2) := by decide +kernel
theorem dd_S_add_103 : decode cc_S_add 103 = .ok (.iconst 1, 1) := by decide +kernel
theorem dd_S_add_104 : decode cc_S_add 104 = .ok (.aload_n 0, 1) := by decide +kernel
theorem dd_S_add_105 : decode cc_S_add 105 = .ok (.aload_n 0, 1) := by decide +kernel
theorem dd_S_add_106 : decode cc_S_add 106 = .ok (.getfield 30, 3) := by decide +kernel
theorem dd_S_add_109 : decode cc_S_add 109 = .ok (.iload_n 3, 1) := by decide +kernel
theorem dd_S_add_110 : decode cc_S_add 110 = .ok (.invokevirtual 55, 3) := by decide +kernel
theorem dd_S_add_113 : decode cc_S_add 113 = .ok (.iadd, 1) := by decide +kernel
theorem dd_S_add_114 : decode cc_S_add 114 = .ok (.aload_n 0, 1) := by decide +kernel
theorem dd_S_add_115 : decode cc_S_add 115 = .ok (.aload_n 0, 1) := by decide +kernel
theorem dd_S_add_116 : decode cc_S_add 116 = .ok (.getfield 30, 3) := by decide +kernel
theorem dd_S_add_119 : decode cc_S_add 119 = .ok (.iload 6, 2) := by decide +kernel
theorem dd_S_add_121 : decode cc_S_add 121 = .ok (.invokevirtual 55, 3) := by decide +kernel
theorem dd_S_add_124 : decode cc_S_add 124 = .ok (.iadd, 1) := by decide +kernel
theorem dd_S_add_125 : decode cc_S_add 125 = .ok (.iastore, 1) := by decide +kernel
theorem dd_S_add_126 : decode cc_S_add 126 = .ok (.aload_n 0, 1) := by decide +kernel
theorem dd_S_add_127 : decode cc_S_add 127 = .ok (.getfield 33, 3) := by decide +kernel
theorem dd_S_add_130 : decode cc_S_add 130 = .ok (.iload 5, 2) := by decide +kernel
theorem dd_S_add_132 : decode cc_S_add 132 = .ok (.iload_n 1, 1) := by decide +kernel
theorem dd_S_add_133 : decode cc_S_add 133 = .ok (.iconst 1, 1) := by decide +kernel
theorem dd_S_add_134 : decode cc_S_add 134 = .ok (.if_icmp .ne 7, 3) := by decide +kernel
theorem dd_S_add_137 : decode cc_S_add 137 = .ok (.iconst 1, 1) := by decide +kernel
theorem dd_S_add_138 : decode cc_S_add 138 = .ok (.goto 4, 3) := by decide +kernel
theorem dd_S_add_141 : decode cc_S_add 141 = .ok (.iconst 0, 1) := by decide +kernel
theorem dd_S_add_142 : decode cc_S_add 142 = .ok (.aload_n 0, 1) := by decide +kernel
theorem dd_S_add_143 : decode cc_S_add 143 = .ok (.aload_n 0, 1) := by decide +kernel
theorem dd_S_add_144 : decode cc_S_add 144 = .ok (.getfield 33, 3) := by decide +kernel
theorem dd_S_add_147 : decode cc_S_add 147 = .ok (.iload_n 3, 1) := by decide +kernel
theorem dd_S_add_148 : decode cc_S_add 148 = .ok (.invokevirtual 55, 3) := by decide +kernel
theorem dd_S_add_151 : decode cc_S_add 151 = .ok (.iadd, 1) := by decide +kernel
theorem dd_S_add_152 : decode cc_S_add 152 = .ok (.aload_n 0, 1) := by decide +kernel
theorem dd_S_add_153 : decode cc_S_add 153 = .ok (.aload_n 0, 1) := by decide +kernel
theorem dd_S_add_154 : decode cc_S_add 154 = .ok (.getfield 33, 3) := by decide +kernel
theorem dd_S_add_157 : decode cc_S_add 157 = .ok (.iload 6, 2) := by decide +kernel
theorem dd_S_add_159 : decode cc_S_add 159 = .ok (.invokevirtual 55, 3) := by decide +kernel
theorem dd_S_add_162 : decode cc_S_add 162 = .ok (.iadd, 1) := by decide +kernel
theorem dd_S_add_163 : decode cc_S_add 163 = .ok (.iastore, 1) := by decide +kernel
theorem dd_S_add_164 : decode cc_S_add 164 = .ok (.aload_n 0, 1) := by decide +kernel
theorem dd_S_add_165 : decode cc_S_add 165 = .ok (.getfield 36, 3) := by decide +kernel
theorem dd_S_add_168 : decode cc_S_add 168 = .ok (.iload 5, 2) := by decide +kernel
theorem dd_S_add_170 : decode cc_S_add 170 = .ok (.aload_n 0, 1) := by decide +kernel
theorem dd_S_add_171 : decode cc_S_add 171 = .ok (.iload_n 1, 1) := by decide +kernel
theorem dd_S_add_172 : decode cc_S_add 172 = .ok (.iload_n 2, 1) := by decide +kernel
theorem dd_S_add_173 : decode cc_S_add 173 = .ok (.iload_n 3, 1) := by decide +kernel
theorem dd_S_add_174 : decode cc_S_add 174 = .ok (.iload 6, 2) := by decide +kernel
theorem dd_S_add_176 : decode cc_S_add 176 = .ok (.invokevirtual 72, 3) := by decide +kernel
theorem dd_S_add_179 : decode cc_S_add 179 = .ok (.iastore, 1) := by decide +kernel
theorem dd_S_add_180 : decode cc_S_add 180 = .ok (.aload_n 0, 1) := by decide +kernel
theorem dd_S_add_181 : decode cc_S_add 181 = .ok (.getfield 39, 3) := by decide +kernel
theorem dd_S_add_184 : decode cc_S_add 184 = .ok (.iload 5, 2) := by decide +kernel
theorem dd_S_add_186 : decode cc_S_add 186 = .ok (.iload_n 1, 1) := by decide +kernel
theorem dd_S_add_187 : decode cc_S_add 187 = .ok (.iconst 5, 1) := by decide +kernel
theorem dd_S_add_188 : decode cc_S_add 188 = .ok (.if_icmp .ne 17, 3) := by decide +kernel
theorem dd_S_add_191 : decode cc_S_add 191 = .ok (.aload_n 0, 1) := by decide +kernel
theorem dd_S_add_192 : decode cc_S_add 192 = .ok (.aload_n 0, 1) := by decide +kernel
theorem dd_S_add_193 : decode cc_S_add 193 = .ok (.getfield 24, 3) := by decide +kernel
theorem dd_S_add_196 : decode cc_S_add 196 = .ok (.iload_n 3, 1) := by decide +kernel
theorem dd_S_add_197 : decode cc_S_add 197 = .ok (.invokevirtual 55, 3) := by decide +kernel
theorem dd_S_add_200 : decode cc_S_add 200 = .ok (.iconst 1, 1) := by decide +kernel
theorem dd_S_add_201 : decode cc_S_add 201 = .ok (.iand, 1) := by decide +kernel
theorem dd_S_add_202 : decode cc_S_add 202 = .ok (.ifCond .ne 39, 3) := by decide +kernel
theorem dd_S_add_205 : decode cc_S_add 205 = .ok (.aload_n 0, 1) := by decide +kernel
theorem dd_S_add_206 : decode cc_S_add 206 = .ok (.iload_n 3, 1) := by decide +kernel
theorem dd_S_add_207 : decode cc_S_add 207 = .ok (.invokevirtual 51, 3) := by decide +kernel
theorem dd_S_add_210 : decode cc_S_add 210 = .ok (.ifCond .eq 12, 3) := by decide +kernel
theorem dd_S_add_213 : decode cc_S_add 213 = .ok (.aload_n 0, 1) := by decide +kernel
theorem dd_S_add_214 : decode cc_S_add 214 = .ok (.getfield 39, 3) := by decide +kernel
theorem dd_S_add_217 : decode cc_S_add 217 = .ok (.iload_n 3, 1) := by decide +kernel
theorem dd_S_add_218 : decode cc_S_add 218 = .ok (.baload, 1) := by decide +kernel
theorem dd_S_add_219 : decode cc_S_add 219 = .ok (.ifCond .ne 22, 3) := by decide +kernel
theorem dd_S_add_222 : decode cc_S_add 222 = .ok (.aload_n 0, 1) := by decide +kernel
theorem dd_S_add_223 : decode cc_S_add 223 = .ok (.iload 6, 2) := by decide +kernel
theorem dd_S_add_225 : decode cc_S_add 225 = .ok (.invokevirtual 51, 3) := by decide +kernel
theorem dd_S_add_228 : decode cc_S_add 228 = .ok (.ifCond .eq 17, 3) := by decide +kernel
theorem dd_S_add_231 : decode cc_S_add 231 = .ok (.aload_n 0, 1) := by decide +kernel
theorem dd_S_add_232 : decode cc_S_add 232 = .ok (.getfield 39, 3) := by decide +kernel
theorem dd_S_add_235 : decode cc_S_add 235 = .ok (.iload 6, 2) := by decide +kernel
theorem dd_S_add_237 : decode cc_S_add 237 = .ok (.baload, 1) := by decide +kernel
theorem dd_S_add_238 : decode cc_S_add 238 = .ok (.ifCond .eq 7, 3) := by decide +kernel
theorem dd_S_add_241 : decode cc_S_add 241 = .ok (.iconst 1, 1) := by decide +kernel
theorem dd_S_add_242 : decode cc_S_add 242 = .ok (.goto 4, 3) := by decide +kernel
theorem dd_S_add_245 : decode cc_S_add 245 = .ok (.iconst 0, 1) := by decide +kernel
theorem dd_S_add_246 : decode cc_S_add 246 = .ok (.bastore, 1) := by decide +kernel
theorem dd_S_add_247 : decode cc_S_add 247 = .ok (.aload_n 0, 1) := by decide +kernel
theorem dd_S_add_248 : decode cc_S_add 248 = .ok (.dup, 1) := by decide +kernel
theorem dd_S_add_249 : decode cc_S_add 249 = .ok (.getfield 43, 3) := by decide +kernel
theorem dd_S_add_252 : decode cc_S_add 252 = .ok (.iconst 1, 1) := by decide +kernel
theorem dd_S_add_253 : decode cc_S_add 253 = .ok (.iadd, 1) := by decide +kernel
theorem dd_S_add_254 : decode cc_S_add 254 = .ok (.putfield 43, 3) := by decide +kernel
theorem dd_S_add_257 : decode cc_S_add 257 = .ok (.iload 5, 2) := by decide +kernel
theorem dd_S_add_259 : decode cc_S_add 259 = .ok (.ireturn, 1) := by decide +kernel
theorem dd_S_factOf_0 : decode cc_S_factOf 0 = .ok (.aload_n 0, 1) := by decide +kernel
theorem dd_S_factOf_1 : decode cc_S_factOf 1 = .ok (.iload_n 2, 1) := by decide +kernel
theorem dd_S_factOf_2 : decode cc_S_factOf 2 = .ok (.invokevirtual 51, 3) := by decide +kernel
theorem dd_S_factOf_5 : decode cc_S_factOf 5 = .ok (.ifCond .eq 9, 3) := by decide +kernel
theorem dd_S_factOf_8 : decode cc_S_factOf 8 = .ok (.aload_n 1, 1) := by decide +kernel
theorem dd_S_factOf_9 : decode cc_S_factOf 9 = .ok (.iload_n 2, 1) := by decide +kernel
theorem dd_S_factOf_10 : decode cc_S_factOf 10 = .ok (.iaload, 1) := by decide +kernel
theorem dd_S_factOf_11 : decode cc_S_factOf 11 = .ok (.goto 4, 3) := by decide +kernel
theorem dd_S_factOf_14 : decode cc_S_factOf 14 = .ok (.iconst 0, 1) := by decide +kernel
theorem dd_S_factOf_15 : decode cc_S_factOf 15 = .ok (.ireturn, 1) := by decide +kernel
theorem dd_S_missingTrapsOf_0 : decode cc_S_missingTrapsOf 0 = .ok (.iload_n 1, 1) := by decide +kernel
theorem dd_S_missingTrapsOf_1 : decode cc_S_missingTrapsOf 1 = .ok (.bipush 10, 2) := by decide +kernel
theorem dd_S_missingTrapsOf_3 : decode cc_S_missingTrapsOf 3 = .ok (.if_icmp .ne 7, 3) := by decide +kernel
theorem dd_S_missingTrapsOf_6 : decode cc_S_missingTrapsOf 6 = .ok (.iload_n 2, 1) := by decide +kernel
theorem dd_S_missingTrapsOf_7 : decode cc_S_missingTrapsOf 7 = .ok (.iconst 1, 1) := by decide +kernel
theorem dd_S_missingTrapsOf_8 : decode cc_S_missingTrapsOf 8 = .ok (.iadd, 1) := by decide +kernel
theorem dd_S_missingTrapsOf_9 : decode cc_S_missingTrapsOf 9 = .ok (.ireturn, 1) := by decide +kernel
theorem dd_S_missingTrapsOf_10 : decode cc_S_missingTrapsOf 10 = .ok (.aload_n 0, 1) := by decide +kernel
theorem dd_S_missingTrapsOf_11 : decode cc_S_missingTrapsOf 11 = .ok (.aload_n 0, 1) := by decide +kernel
theorem dd_S_missingTrapsOf_12 : decode cc_S_missingTrapsOf 12 = .ok (.getfield 36, 3) := by decide +kernel
theorem dd_S_missingTrapsOf_15 : decode cc_S_missingTrapsOf 15 = .ok (.iload_n 3, 1) := by decide +kernel
theorem dd_S_missingTrapsOf_16 : decode cc_S_missingTrapsOf 16 = .ok (.invokevirtual 55, 3) := by decide +kernel
theorem dd_S_missingTrapsOf_19 : decode cc_S_missingTrapsOf 19 = .ok (.aload_n 0, 1) := by decide +kernel
theorem dd_S_missingTrapsOf_20 : decode cc_S_missingTrapsOf 20 = .ok (.aload_n 0, 1) := by decide +kernel
theorem dd_S_missingTrapsOf_21 : decode cc_S_missingTrapsOf 21 = .ok (.getfield 36, 3) := by decide +kernel
theorem dd_S_missingTrapsOf_24 : decode cc_S_missingTrapsOf 24 = .ok (.iload 4, 2) := by decide +kernel
theorem dd_S_missingTrapsOf_26 : decode cc_S_missingTrapsOf 26 = .ok (.invokevirtual 55, 3) := by decide +kernel
theorem dd_S_missingTrapsOf_29 : decode cc_S_missingTrapsOf 29 = .ok (.invokestatic 59, 3) := by decide +kernel
theorem dd_S_missingTrapsOf_32 : decode cc_S_missingTrapsOf 32 = .ok (.istore 5, 2) := by decide +kernel
theorem dd_S_missingTrapsOf_34 : decode cc_S_missingTrapsOf 34 = .ok (.iload_n 1, 1) := by decide +kernel
theorem dd_S_missingTrapsOf_35 : decode cc_S_missingTrapsOf 35 = .ok (.bipush 9, 2) := by decide +kernel
theorem dd_S_missingTrapsOf_37 : decode cc_S_missingTrapsOf 37 = .ok (.if_icmp .ne 15, 3) := by decide +kernel
theorem dd_S_missingTrapsOf_40 : decode cc_S_missingTrapsOf 40 = .ok (.iload 5, 2) := by decide +kernel
theorem dd_S_missingTrapsOf_42 : decode cc_S_missingTrapsOf 42 = .ok (.ifCond .le 10, 3) := by decide +kernel
theorem dd_S_missingTrapsOf_45 : decode cc_S_missingTrapsOf 45 = .ok (.iload 5, 2) := by decide +kernel
theorem dd_S_missingTrapsOf_47 : decode cc_S_missingTrapsOf 47 = .ok (.iconst 1, 1) := by decide +kernel
theorem dd_S_missingTrapsOf_48 : decode cc_S_missingTrapsOf 48 = .ok (.isub, 1) := by decide +kernel
theorem dd_S_missingTrapsOf_49 : decode cc_S_missingTrapsOf 49 = .ok (.goto 5, 3) := by decide +kernel
theorem dd_S_missingTrapsOf_52 : decode cc_S_missingTrapsOf 52 = .ok (.iload 5, 2) := by decide +kernel
theorem dd_S_missingTrapsOf_54 : decode cc_S_missingTrapsOf 54 = .ok (.ireturn, 1) := by decide +kernel
theorem dd_S_codesOf_0 : decode cc_S_codesOf 0 = .ok (.iload_n 0, 1) := by decide +kernel
theorem dd_S_codesOf_1 : decode cc_S_codesOf 1 = .ok (.tableswitch 112 0 10 #[59, 61, 59, 67, 84, 98, 103, 112, 112, 107, 63], 59) := by decide +kernel
theorem dd_S_codesOf_60 : decode cc_S_codesOf 60 = .ok (.iconst 1, 1) := by decide +kernel
theorem dd_S_codesOf_61 : decode cc_S_codesOf 61 = .ok (.ireturn, 1) := by decide +kernel
theorem dd_S_codesOf_62 : decode cc_S_codesOf 62 = .ok (.iconst 2, 1) := by decide +kernel
theorem dd_S_codesOf_63 : decode cc_S_codesOf 63 = .ok (.ireturn, 1) := by decide +kernel
theorem dd_S_codesOf_64 : decode cc_S_codesOf 64 = .ok (.iconst 4, 1) := by decide +kernel
theorem dd_S_codesOf_65 : decode cc_S_codesOf 65 = .ok (.iload_n 1, 1) := by decide +kernel
theorem dd_S_codesOf_66 : decode cc_S_codesOf 66 = .ok (.ishl, 1) := by decide +kernel
theorem dd_S_codesOf_67 : decode cc_S_codesOf 67 = .ok (.ireturn, 1) := by decide +kernel
theorem dd_S_codesOf_68 : decode cc_S_codesOf 68 = .ok (.iload_n 2, 1) := by decide +kernel
theorem dd_S_codesOf_69 : decode cc_S_codesOf 69 = .ok (.iconst 1, 1) := by decide +kernel
theorem dd_S_codesOf_70 : decode cc_S_codesOf 70 = .ok (.iand, 1) := by decide +kernel
theorem dd_S_codesOf_71 : decode cc_S_codesOf 71 = .ok (.ifCond .eq 12, 3) := by decide +kernel
theorem dd_S_codesOf_74 : decode cc_S_codesOf 74 = .ok (.iload_n 2, 1) := by decide +kernel
theorem dd_S_codesOf_75 : decode cc_S_codesOf 75 = .ok (.bipush (-2), 2) := by decide +kernel
theorem dd_S_codesOf_77 : decode cc_S_codesOf 77 = .ok (.iand, 1) := by decide +kernel
theorem dd_S_codesOf_78 : decode cc_S_codesOf 78 = .ok (.iload_n 3, 1) := by decide +kernel
theorem dd_S_codesOf_79 : decode cc_S_codesOf 79 = .ok (.ior, 1) := by decide +kernel
theorem dd_S_codesOf_80 : decode cc_S_codesOf 80 = .ok (.goto 4, 3) := by decide +kernel
theorem dd_S_codesOf_83 : decode cc_S_codesOf 83 = .ok (.iload_n 2, 1) := by decide +kernel
theorem dd_S_codesOf_84 : decode cc_S_codesOf 84 = .ok (.ireturn, 1) := by decide +kernel
theorem dd_S_codesOf_85 : decode cc_S_codesOf 85 = .ok (.iload_n 2, 1) := by decide +kernel
theorem dd_S_codesOf_86 : decode cc_S_codesOf 86 = .ok (.iload_n 3, 1) := by decide +kernel
theorem dd_S_codesOf_87 : decode cc_S_codesOf 87 = .ok (.invokestatic 75, 3) := by decide +kernel
theorem dd_S_codesOf_90 : decode cc_S_codesOf 90 = .ok (.iand, 1) := by decide +kernel
theorem dd_S_codesOf_91 : decode cc_S_codesOf 91 = .ok (.iload_n 3, 1) := by decide +kernel
theorem dd_S_codesOf_92 : decode cc_S_codesOf 92 = .ok (.iload_n 2, 1) := by decide +kernel
theorem dd_S_codesOf_93 : decode cc_S_codesOf 93 = .ok (.invokestatic 75, 3) := by decide +kernel
theorem dd_S_codesOf_96 : decode cc_S_codesOf 96 = .ok (.iand, 1) := by decide +kernel
theorem dd_S_codesOf_97 : decode cc_S_codesOf 97 = .ok (.ior, 1) := by decide +kernel
theorem dd_S_codesOf_98 : decode cc_S_codesOf 98 = .ok (.ireturn, 1) := by decide +kernel
theorem dd_S_codesOf_99 : decode cc_S_codesOf 99 = .ok (.iload_n 2, 1) := by decide +kernel
theorem dd_S_codesOf_100 : decode cc_S_codesOf 100 = .ok (.bipush (-2), 2) := by decide +kernel
theorem dd_S_codesOf_102 : decode cc_S_codesOf 102 = .ok (.iand, 1) := by decide +kernel
theorem dd_S_codesOf_103 : decode cc_S_codesOf 103 = .ok (.ireturn, 1) := by decide +kernel
theorem dd_S_codesOf_104 : decode cc_S_codesOf 104 = .ok (.iload_n 2, 1) := by decide +kernel
theorem dd_S_codesOf_105 : decode cc_S_codesOf 105 = .ok (.iload_n 3, 1) := by decide +kernel
theorem dd_S_codesOf_106 : decode cc_S_codesOf 106 = .ok (.ior, 1) := by decide +kernel
theorem dd_S_codesOf_107 : decode cc_S_codesOf 107 = .ok (.ireturn, 1) := by decide +kernel
theorem dd_S_codesOf_108 : decode cc_S_codesOf 108 = .ok (.iload_n 2, 1) := by decide +kernel
theorem dd_S_codesOf_109 : decode cc_S_codesOf 109 = .ok (.invokestatic 78, 3) := by decide +kernel
theorem dd_S_codesOf_112 : decode cc_S_codesOf 112 = .ok (.ireturn, 1) := by decide +kernel
theorem dd_S_codesOf_113 : decode cc_S_codesOf 113 = .ok (.iload_n 2, 1) := by decide +kernel
theorem dd_S_codesOf_114 : decode cc_S_codesOf 114 = .ok (.ireturn, 1) := by decide +kernel
