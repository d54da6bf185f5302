theorem dX9_layers_163 : decode cX9_layers 163 = .ok (.getfield 84, 3) := by decide +kernel
theorem dX9_layers_166 : decode cX9_layers 166 = .ok (.aload_n 0, 1) := by decide +kernel
theorem dX9_layers_167 : decode cX9_layers 167 = .ok (.getfield 49, 3) := by decide +kernel
theorem dX9_layers_170 : decode cX9_layers 170 = .ok (.iconst 3, 1) := by decide +kernel
theorem dX9_layers_171 : decode cX9_layers 171 = .ok (.iload_n 2, 1) := by decide +kernel
theorem dX9_layers_172 : decode cX9_layers 172 = .ok (.imul, 1) := by decide +kernel
theorem dX9_layers_173 : decode cX9_layers 173 = .ok (.iaload, 1) := by decide +kernel
theorem dX9_layers_174 : decode cX9_layers 174 = .ok (.iaload, 1) := by decide +kernel
theorem dX9_layers_175 : decode cX9_layers 175 = .ok (.bipush 6, 2) := by decide +kernel
theorem dX9_layers_177 : decode cX9_layers 177 = .ok (.if_icmp .le 5, 3) := by decide +kernel
theorem dX9_layers_180 : decode cX9_layers 180 = .ok (.iconst 0, 1) := by decide +kernel
theorem dX9_layers_181 : decode cX9_layers 181 = .ok (.ireturn, 1) := by decide +kernel
theorem dX9_layers_182 : decode cX9_layers 182 = .ok (.iinc 2 1, 3) := by decide +kernel
theorem dX9_layers_185 : decode cX9_layers 185 = .ok (.goto (-154), 3) := by decide +kernel
theorem dX9_layers_188 : decode cX9_layers 188 = .ok (.goto (-165), 3) := by decide +kernel
theorem dX9_layers_191 : decode cX9_layers 191 = .ok (.iconst 1, 1) := by decide +kernel
theorem dX9_layers_192 : decode cX9_layers 192 = .ok (.ireturn, 1) := by decide +kernel
theorem dX9_factOf_0 : decode cX9_factOf 0 = .ok (.bipush 64, 2) := by decide +kernel
theorem dX9_factOf_2 : decode cX9_factOf 2 = .ok (.iload_n 0, 1) := by decide +kernel
theorem dX9_factOf_3 : decode cX9_factOf 3 = .ok (.imul, 1) := by decide +kernel
theorem dX9_factOf_4 : decode cX9_factOf 4 = .ok (.bipush 8, 2) := by decide +kernel
theorem dX9_factOf_6 : decode cX9_factOf 6 = .ok (.iload_n 1, 1) := by decide +kernel
theorem dX9_factOf_7 : decode cX9_factOf 7 = .ok (.imul, 1) := by decide +kernel
theorem dX9_factOf_8 : decode cX9_factOf 8 = .ok (.iadd, 1) := by decide +kernel
theorem dX9_factOf_9 : decode cX9_factOf 9 = .ok (.iload_n 2, 1) := by decide +kernel
theorem dX9_factOf_10 : decode cX9_factOf 10 = .ok (.iadd, 1) := by decide +kernel
theorem dX9_factOf_11 : decode cX9_factOf 11 = .ok (.ireturn, 1) := by decide +kernel
theorem dX9_factAt_0 : decode cX9_factAt 0 = .ok (.bipush 9, 2) := by decide +kernel
theorem dX9_factAt_2 : decode cX9_factAt 2 = .ok (.iload_n 1, 1) := by decide +kernel
theorem dX9_factAt_3 : decode cX9_factAt 3 = .ok (.imul, 1) := by decide +kernel
theorem dX9_factAt_4 : decode cX9_factAt 4 = .ok (.iconst 3, 1) := by decide +kernel
theorem dX9_factAt_5 : decode cX9_factAt 5 = .ok (.iload_n 2, 1) := by decide +kernel
theorem dX9_factAt_6 : decode cX9_factAt 6 = .ok (.imul, 1) := by decide +kernel
theorem dX9_factAt_7 : decode cX9_factAt 7 = .ok (.iadd, 1) := by decide +kernel
theorem dX9_factAt_8 : decode cX9_factAt 8 = .ok (.istore_n 3, 1) := by decide +kernel
theorem dX9_factAt_9 : decode cX9_factAt 9 = .ok (.aload_n 0, 1) := by decide +kernel
theorem dX9_factAt_10 : decode cX9_factAt 10 = .ok (.getfield 52, 3) := by decide +kernel
theorem dX9_factAt_13 : decode cX9_factAt 13 = .ok (.iload_n 3, 1) := by decide +kernel
theorem dX9_factAt_14 : decode cX9_factAt 14 = .ok (.iaload, 1) := by decide +kernel
theorem dX9_factAt_15 : decode cX9_factAt 15 = .ok (.aload_n 0, 1) := by decide +kernel
theorem dX9_factAt_16 : decode cX9_factAt 16 = .ok (.getfield 90, 3) := by decide +kernel
theorem dX9_factAt_19 : decode cX9_factAt 19 = .ok (.aload_n 0, 1) := by decide +kernel
theorem dX9_factAt_20 : decode cX9_factAt 20 = .ok (.getfield 52, 3) := by decide +kernel
theorem dX9_factAt_23 : decode cX9_factAt 23 = .ok (.iload_n 3, 1) := by decide +kernel
theorem dX9_factAt_24 : decode cX9_factAt 24 = .ok (.iconst 1, 1) := by decide +kernel
theorem dX9_factAt_25 : decode cX9_factAt 25 = .ok (.iadd, 1) := by decide +kernel
theorem dX9_factAt_26 : decode cX9_factAt 26 = .ok (.iaload, 1) := by decide +kernel
theorem dX9_factAt_27 : decode cX9_factAt 27 = .ok (.iaload, 1) := by decide +kernel
theorem dX9_factAt_28 : decode cX9_factAt 28 = .ok (.aload_n 0, 1) := by decide +kernel
theorem dX9_factAt_29 : decode cX9_factAt 29 = .ok (.getfield 90, 3) := by decide +kernel
theorem dX9_factAt_32 : decode cX9_factAt 32 = .ok (.aload_n 0, 1) := by decide +kernel
theorem dX9_factAt_33 : decode cX9_factAt 33 = .ok (.getfield 52, 3) := by decide +kernel
theorem dX9_factAt_36 : decode cX9_factAt 36 = .ok (.iload_n 3, 1) := by decide +kernel
theorem dX9_factAt_37 : decode cX9_factAt 37 = .ok (.iconst 2, 1) := by decide +kernel
theorem dX9_factAt_38 : decode cX9_factAt 38 = .ok (.iadd, 1) := by decide +kernel
theorem dX9_factAt_39 : decode cX9_factAt 39 = .ok (.iaload, 1) := by decide +kernel
theorem dX9_factAt_40 : decode cX9_factAt 40 = .ok (.iaload, 1) := by decide +kernel
theorem dX9_factAt_41 : decode cX9_factAt 41 = .ok (.invokestatic 120, 3) := by decide +kernel
theorem dX9_factAt_44 : decode cX9_factAt 44 = .ok (.ireturn, 1) := by decide +kernel
theorem dX9_uses_0 : decode cX9_uses 0 = .ok (.aload_n 0, 1) := by decide +kernel
theorem dX9_uses_1 : decode cX9_uses 1 = .ok (.getfield 49, 3) := by decide +kernel
theorem dX9_uses_4 : decode cX9_uses 4 = .ok (.iconst 3, 1) := by decide +kernel
theorem dX9_uses_5 : decode cX9_uses 5 = .ok (.iload_n 1, 1) := by decide +kernel
theorem dX9_uses_6 : decode cX9_uses 6 = .ok (.imul, 1) := by decide +kernel
theorem dX9_uses_7 : decode cX9_uses 7 = .ok (.iconst 1, 1) := by decide +kernel
theorem dX9_uses_8 : decode cX9_uses 8 = .ok (.iadd, 1) := by decide +kernel
theorem dX9_uses_9 : decode cX9_uses 9 = .ok (.iaload, 1) := by decide +kernel
theorem dX9_uses_10 : decode cX9_uses 10 = .ok (.iload_n 2, 1) := by decide +kernel
theorem dX9_uses_11 : decode cX9_uses 11 = .ok (.if_icmp .eq 17, 3) := by decide +kernel
theorem dX9_uses_14 : decode cX9_uses 14 = .ok (.aload_n 0, 1) := by decide +kernel
theorem dX9_uses_15 : decode cX9_uses 15 = .ok (.getfield 49, 3) := by decide +kernel
theorem dX9_uses_18 : decode cX9_uses 18 = .ok (.iconst 3, 1) := by decide +kernel
theorem dX9_uses_19 : decode cX9_uses 19 = .ok (.iload_n 1, 1) := by decide +kernel
theorem dX9_uses_20 : decode cX9_uses 20 = .ok (.imul, 1) := by decide +kernel
theorem dX9_uses_21 : decode cX9_uses 21 = .ok (.iconst 2, 1) := by decide +kernel
theorem dX9_uses_22 : decode cX9_uses 22 = .ok (.iadd, 1) := by decide +kernel
theorem dX9_uses_23 : decode cX9_uses 23 = .ok (.iaload, 1) := by decide +kernel
theorem dX9_uses_24 : decode cX9_uses 24 = .ok (.iload_n 2, 1) := by decide +kernel
theorem dX9_uses_25 : decode cX9_uses 25 = .ok (.if_icmp .ne 7, 3) := by decide +kernel
theorem dX9_uses_28 : decode cX9_uses 28 = .ok (.iconst 1, 1) := by decide +kernel
theorem dX9_uses_29 : decode cX9_uses 29 = .ok (.goto 4, 3) := by decide +kernel
theorem dX9_uses_32 : decode cX9_uses 32 = .ok (.iconst 0, 1) := by decide +kernel
theorem dX9_uses_33 : decode cX9_uses 33 = .ok (.istore_n 3, 1) := by decide +kernel
theorem dX9_uses_34 : decode cX9_uses 34 = .ok (.iconst 0, 1) := by decide +kernel
theorem dX9_uses_35 : decode cX9_uses 35 = .ok (.istore 4, 2) := by decide +kernel
theorem dX9_uses_37 : decode cX9_uses 37 = .ok (.iload 4, 2) := by decide +kernel
theorem dX9_uses_39 : decode cX9_uses 39 = .ok (.aload_n 0, 1) := by decide +kernel
theorem dX9_uses_40 : decode cX9_uses 40 = .ok (.getfield 55, 3) := by decide +kernel
theorem dX9_uses_43 : decode cX9_uses 43 = .ok (.iload_n 1, 1) := by decide +kernel
theorem dX9_uses_44 : decode cX9_uses 44 = .ok (.iaload, 1) := by decide +kernel
theorem dX9_uses_45 : decode cX9_uses 45 = .ok (.if_icmp .ge 57, 3) := by decide +kernel
theorem dX9_uses_48 : decode cX9_uses 48 = .ok (.iload_n 3, 1) := by decide +kernel
theorem dX9_uses_49 : decode cX9_uses 49 = .ok (.aload_n 0, 1) := by decide +kernel
theorem dX9_uses_50 : decode cX9_uses 50 = .ok (.getfield 52, 3) := by decide +kernel
theorem dX9_uses_53 : decode cX9_uses 53 = .ok (.bipush 9, 2) := by decide +kernel
theorem dX9_uses_55 : decode cX9_uses 55 = .ok (.iload_n 1, 1) := by decide +kernel
theorem dX9_uses_56 : decode cX9_uses 56 = .ok (.imul, 1) := by decide +kernel
theorem dX9_uses_57 : decode cX9_uses 57 = .ok (.iconst 3, 1) := by decide +kernel
theorem dX9_uses_58 : decode cX9_uses 58 = .ok (.iload 4, 2) := by decide +kernel
theorem dX9_uses_60 : decode cX9_uses 60 = .ok (.imul, 1) := by decide +kernel
theorem dX9_uses_61 : decode cX9_uses 61 = .ok (.iadd, 1) := by decide +kernel
theorem dX9_uses_62 : decode cX9_uses 62 = .ok (.iconst 1, 1) := by decide +kernel
theorem dX9_uses_63 : decode cX9_uses 63 = .ok (.iadd, 1) := by decide +kernel
theorem dX9_uses_64 : decode cX9_uses 64 = .ok (.iaload, 1) := by decide +kernel
theorem dX9_uses_65 : decode cX9_uses 65 = .ok (.iload_n 2, 1) := by decide +kernel
theorem dX9_uses_66 : decode cX9_uses 66 = .ok (.if_icmp .eq 23, 3) := by decide +kernel
theorem dX9_uses_69 : decode cX9_uses 69 = .ok (.aload_n 0, 1) := by decide +kernel
theorem dX9_uses_70 : decode cX9_uses 70 = .ok (.getfield 52, 3) := by decide +kernel
theorem dX9_uses_73 : decode cX9_uses 73 = .ok (.bipush 9, 2) := by decide +kernel
theorem dX9_uses_75 : decode cX9_uses 75 = .ok (.iload_n 1, 1) := by decide +kernel
theorem dX9_uses_76 : decode cX9_uses 76 = .ok (.imul, 1) := by decide +kernel
theorem dX9_uses_77 : decode cX9_uses 77 = .ok (.iconst 3, 1) := by decide +kernel
theorem dX9_uses_78 : decode cX9_uses 78 = .ok (.iload 4, 2) := by decide +kernel
theorem dX9_uses_80 : decode cX9_uses 80 = .ok (.imul, 1) := by decide +kernel
theorem dX9_uses_81 : decode cX9_uses 81 = .ok (.iadd, 1) := by decide +kernel
theorem dX9_uses_82 : decode cX9_uses 82 = .ok (.iconst 2, 1) := by decide +kernel
theorem dX9_uses_83 : decode cX9_uses 83 = .ok (.iadd, 1) := by decide +kernel
theorem dX9_uses_84 : decode cX9_uses 84 = .ok (.iaload, 1) := by decide +kernel
theorem dX9_uses_85 : decode cX9_uses 85 = .ok (.iload_n 2, 1) := by decide +kernel
theorem dX9_uses_86 : decode cX9_uses 86 = .ok (.if_icmp .ne 7, 3) := by decide +kernel
theorem dX9_uses_89 : decode cX9_uses 89 = .ok (.iconst 1, 1) := by decide +kernel
theorem dX9_uses_90 : decode cX9_uses 90 = .ok (.goto 4, 3) := by decide +kernel
theorem dX9_uses_93 : decode cX9_uses 93 = .ok (.iconst 0, 1) := by decide +kernel
theorem dX9_uses_94 : decode cX9_uses 94 = .ok (.ior, 1) := by decide +kernel
theorem dX9_uses_95 : decode cX9_uses 95 = .ok (.istore_n 3, 1) := by decide +kernel
theorem dX9_uses_96 : decode cX9_uses 96 = .ok (.iinc 4 1, 3) := by decide +kernel
theorem dX9_uses_99 : decode cX9_uses 99 = .ok (.goto (-62), 3) := by decide +kernel
theorem dX9_uses_102 : decode cX9_uses 102 = .ok (.iload_n 3, 1) := by decide +kernel
theorem dX9_uses_103 : decode cX9_uses 103 = .ok (.ireturn, 1) := by decide +kernel
theorem dX9_given_0 : decode cX9_given 0 = .ok (.iconst 0, 1) := by decide +kernel
theorem dX9_given_1 : decode cX9_given 1 = .ok (.istore_n 2, 1) := by decide +kernel
theorem dX9_given_2 : decode cX9_given 2 = .ok (.iconst 0, 1) := by decide +kernel
theorem dX9_given_3 : decode cX9_given 3 = .ok (.istore_n 3, 1) := by decide +kernel
theorem dX9_given_4 : decode cX9_given 4 = .ok (.iload_n 3, 1) := by decide +kernel
theorem dX9_given_5 : decode cX9_given 5 = .ok (.aload_n 0, 1) := by decide +kernel
theorem dX9_given_6 : decode cX9_given 6 = .ok (.getfield 55, 3) := by decide +kernel
theorem dX9_given_9 : decode cX9_given 9 = .ok (.iload_n 1, 1) := by decide +kernel
theorem dX9_given_10 : decode cX9_given 10 = .ok (.iaload, 1) := by decide +kernel
theorem dX9_given_11 : decode cX9_given 11 = .ok (.if_icmp .ge 65, 3) := by decide +kernel
theorem dX9_given_14 : decode cX9_given 14 = .ok (.aload_n 0, 1) := by decide +kernel
theorem dX9_given_15 : decode cX9_given 15 = .ok (.iload_n 1, 1) := by decide +kernel
theorem dX9_given_16 : decode cX9_given 16 = .ok (.iload_n 3, 1) := by decide +kernel
theorem dX9_given_17 : decode cX9_given 17 = .ok (.invokevirtual 124, 3) := by decide +kernel
theorem dX9_given_20 : decode cX9_given 20 = .ok (.istore 4, 2) := by decide +kernel
theorem dX9_given_22 : decode cX9_given 22 = .ok (.aload_n 0, 1) := by decide +kernel
theorem dX9_given_23 : decode cX9_given 23 = .ok (.getfield 58, 3) := by decide +kernel
theorem dX9_given_26 : decode cX9_given 26 = .ok (.iconst 3, 1) := by decide +kernel
theorem dX9_given_27 : decode cX9_given 27 = .ok (.iload_n 1, 1) := by decide +kernel
theorem dX9_given_28 : decode cX9_given 28 = .ok (.imul, 1) := by decide +kernel
theorem dX9_given_29 : decode cX9_given 29 = .ok (.iload_n 3, 1) := by decide +kernel
theorem dX9_given_30 : decode cX9_given 30 = .ok (.iadd, 1) := by decide +kernel
theorem dX9_given_31 : decode cX9_given 31 = .ok (.baload, 1) := by decide +kernel
theorem dX9_given_32 : decode cX9_given 32 = .ok (.ifCond .eq 26, 3) := by decide +kernel
theorem dX9_given_35 : decode cX9_given 35 = .ok (.aload_n 0, 1) := by decide +kernel
theorem dX9_given_36 : decode cX9_given 36 = .ok (.getfield 87, 3) := by decide +kernel
theorem dX9_given_39 : decode cX9_given 39 = .ok (.iload 4, 2) := by decide +kernel
theorem dX9_given_41 : decode cX9_given 41 = .ok (.iaload, 1) := by decide +kernel
theorem dX9_given_42 : decode cX9_given 42 = .ok (.sipush 9999, 3) := by decide +kernel
theorem dX9_given_45 : decode cX9_given 45 = .ok (.if_icmp .ge 9, 3) := by decide +kernel
theorem dX9_given_48 : decode cX9_given 48 = .ok (.sipush 9999, 3) := by decide +kernel
theorem dX9_given_51 : decode cX9_given 51 = .ok (.goto 18, 3) := by decide +kernel
theorem dX9_given_54 : decode cX9_given 54 = .ok (.iload_n 2, 1) := by decide +kernel
theorem dX9_given_55 : decode cX9_given 55 = .ok (.goto 14, 3) := by decide +kernel
theorem dX9_given_58 : decode cX9_given 58 = .ok (.iload_n 2, 1) := by decide +kernel
theorem dX9_given_59 : decode cX9_given 59 = .ok (.aload_n 0, 1) := by decide +kernel
theorem dX9_given_60 : decode cX9_given 60 = .ok (.getfield 87, 3) := by decide +kernel
theorem dX9_given_63 : decode cX9_given 63 = .ok (.iload 4, 2) := by decide +kernel
theorem dX9_given_65 : decode cX9_given 65 = .ok (.iaload, 1) := by decide +kernel
theorem dX9_given_66 : decode cX9_given 66 = .ok (.invokestatic 114, 3) := by decide +kernel
theorem dX9_given_69 : decode cX9_given 69 = .ok (.istore_n 2, 1) := by decide +kernel
theorem dX9_given_70 : decode cX9_given 70 = .ok (.iinc 3 1, 3) := by decide +kernel
theorem dX9_given_73 : decode cX9_given 73 = .ok (.goto (-69), 3) := by decide +kernel
theorem dX9_given_76 : decode cX9_given 76 = .ok (.iload_n 2, 1) := by decide +kernel
theorem dX9_given_77 : decode cX9_given 77 = .ok (.sipush 9999, 3) := by decide +kernel
theorem dX9_given_80 : decode cX9_given 80 = .ok (.if_icmp .lt 9, 3) := by decide +kernel
theorem dX9_given_83 : decode cX9_given 83 = .ok (.sipush 9999, 3) := by decide +kernel
theorem dX9_given_86 : decode cX9_given 86 = .ok (.goto 6, 3) := by decide +kernel
theorem dX9_given_89 : decode cX9_given 89 = .ok (.iload_n 2, 1) := by decide +kernel
theorem dX9_given_90 : decode cX9_given 90 = .ok (.iconst 1, 1) := by decide +kernel
theorem dX9_given_91 : decode cX9_given 91 = .ok (.iadd, 1) := by decide +kernel
theorem dX9_given_92 : decode cX9_given 92 = .ok (.ireturn, 1) := by decide +kernel
theorem dX9_tried_0 : decode cX9_tried 0 = .ok (.aload_n 0, 1) := by decide +kernel
theorem dX9_tried_1 : decode cX9_tried 1 = .ok (.iload_n 1, 1) := by decide +kernel
theorem dX9_tried_2 : decode cX9_tried 2 = .ok (.iload_n 2, 1) := by decide +kernel
theorem dX9_tried_3 : decode cX9_tried 3 = .ok (.invokevirtual 127, 3) := by decide +kernel
theorem dX9_tried_6 : decode cX9_tried 6 = .ok (.ifCond .eq 8, 3) := by decide +kernel
theorem dX9_tried_9 : decode cX9_tried 9 = .ok (.bipush 8, 2) := by decide +kernel
theorem dX9_tried_11 : decode cX9_tried 11 = .ok (.goto 4, 3) := by decide +kernel
theorem dX9_tried_14 : decode cX9_tried 14 = .ok (.iconst 1, 1) := by decide +kernel
theorem dX9_tried_15 : decode cX9_tried 15 = .ok (.ireturn, 1) := by decide +kernel
theorem dX9_goes_0 : decode cX9_goes 0 = .ok (.iconst 0, 1) := by decide +kernel
theorem dX9_goes_1 : decode cX9_goes 1 = .ok (.istore_n 2, 1) := by decide +kernel
theorem dX9_goes_2 : decode cX9_goes 2 = .ok (.aload_n 0, 1) := by decide +kernel
theorem dX9_goes_3 : decode cX9_goes 3 = .ok (.iload_n 1, 1) := by decide +kernel
theorem dX9_goes_4 : decode cX9_goes 4 = .ok (.iconst 0, 1) := by decide +kernel
theorem dX9_goes_5 : decode cX9_goes 5 = .ok (.invokevirtual 131, 3) := by decide +kernel
theorem dX9_goes_8 : decode cX9_goes 8 = .ok (.istore_n 3, 1) := by decide +kernel
theorem dX9_goes_9 : decode cX9_goes 9 = .ok (.aload_n 0, 1) := by decide +kernel
theorem dX9_goes_10 : decode cX9_goes 10 = .ok (.iload_n 1, 1) := by decide +kernel
theorem dX9_goes_11 : decode cX9_goes 11 = .ok (.iconst 1, 1) := by decide +kernel
theorem dX9_goes_12 : decode cX9_goes 12 = .ok (.invokevirtual 131, 3) := by decide +kernel
theorem dX9_goes_15 : decode cX9_goes 15 = .ok (.istore 4, 2) := by decide +kernel
theorem dX9_goes_17 : decode cX9_goes 17 = .ok (.aload_n 0, 1) := by decide +kernel
theorem dX9_goes_18 : decode cX9_goes 18 = .ok (.iload_n 1, 1) := by decide +kernel
theorem dX9_goes_19 : decode cX9_goes 19 = .ok (.iconst 2, 1) := by decide +kernel
theorem dX9_goes_20 : decode cX9_goes 20 = .ok (.invokevirtual 131, 3) := by decide +kernel
theorem dX9_goes_23 : decode cX9_goes 23 = .ok (.istore 5, 2) := by decide +kernel
theorem dX9_goes_25 : decode cX9_goes 25 = .ok (.iconst 0, 1) := by decide +kernel
theorem dX9_goes_26 : decode cX9_goes 26 = .ok (.istore 6, 2) := by decide +kernel
theorem dX9_goes_28 : decode cX9_goes 28 = .ok (.iload 6, 2) := by decide +kernel
theorem dX9_goes_30 : decode cX9_goes 30 = .ok (.iload_n 3, 1) := by decide +kernel
theorem dX9_goes_31 : decode cX9_goes 31 = .ok (.iload 4, 2) := by decide +kernel
theorem dX9_goes_33 : decode cX9_goes 33 = .ok (.imul, 1) := by decide +kernel
theorem dX9_goes_34 : decode cX9_goes 34 = .ok (.iload 5, 2) := by decide +kernel
theorem dX9_goes_36 : decode cX9_goes 36 = .ok (.imul, 1) := by decide +kernel
theorem dX9_goes_37 : decode cX9_goes 37 = .ok (.if_icmp .ge 137, 3) := by decide +kernel
theorem dX9_goes_40 : decode cX9_goes 40 = .ok (.aload_n 0, 1) := by decide +kernel
theorem dX9_goes_41 : decode cX9_goes 41 = .ok (.getfield 90, 3) := by decide +kernel
theorem dX9_goes_44 : decode cX9_goes 44 = .ok (.iconst 0, 1) := by decide +kernel
theorem dX9_goes_45 : decode cX9_goes 45 = .ok (.iload 6, 2) := by decide +kernel
theorem dX9_goes_47 : decode cX9_goes 47 = .ok (.iload 4, 2) := by decide +kernel
theorem dX9_goes_49 : decode cX9_goes 49 = .ok (.iload 5, 2) := by decide +kernel
theorem dX9_goes_51 : decode cX9_goes 51 = .ok (.imul, 1) := by decide +kernel
theorem dX9_goes_52 : decode cX9_goes 52 = .ok (.idiv, 1) := by decide +kernel
theorem dX9_goes_53 : decode cX9_goes 53 = .ok (.iastore, 1) := by decide +kernel
theorem dX9_goes_54 : decode cX9_goes 54 = .ok (.aload_n 0, 1) := by decide +kernel
theorem dX9_goes_55 : decode cX9_goes 55 = .ok (.getfield 90, 3) := by decide +kernel
theorem dX9_goes_58 : decode cX9_goes 58 = .ok (.iconst 1, 1) := by decide +kernel
theorem dX9_goes_59 : decode cX9_goes 59 = .ok (.iload 6, 2) := by decide +kernel
theorem dX9_goes_61 : decode cX9_goes 61 = .ok (.iload 5, 2) := by decide +kernel
theorem dX9_goes_63 : decode cX9_goes 63 = .ok (.idiv, 1) := by decide +kernel
theorem dX9_goes_64 : decode cX9_goes 64 = .ok (.iload 4, 2) := by decide +kernel
theorem dX9_goes_66 : decode cX9_goes 66 = .ok (.irem, 1) := by decide +kernel
theorem dX9_goes_67 : decode cX9_goes 67 = .ok (.iastore, 1) := by decide +kernel
theorem dX9_goes_68 : decode cX9_goes 68 = .ok (.aload_n 0, 1) := by decide +kernel
theorem dX9_goes_69 : decode cX9_goes 69 = .ok (.getfield 90, 3) := by decide +kernel
theorem dX9_goes_72 : decode cX9_goes 72 = .ok (.iconst 2, 1) := by decide +kernel
theorem dX9_goes_73 : decode cX9_goes 73 = .ok (.iload 6, 2) := by decide +kernel
theorem dX9_goes_75 : decode cX9_goes 75 = .ok (.iload 5, 2) := by decide +kernel
theorem dX9_goes_77 : decode cX9_goes 77 = .ok (.irem, 1) := by decide +kernel
theorem dX9_goes_78 : decode cX9_goes 78 = .ok (.iastore, 1) := by decide +kernel
theorem dX9_goes_79 : decode cX9_goes 79 = .ok (.aload_n 0, 1) := by decide +kernel
theorem dX9_goes_80 : decode cX9_goes 80 = .ok (.getfield 49, 3) := by decide +kernel
theorem dX9_goes_83 : decode cX9_goes 83 = .ok (.iconst 3, 1) := by decide +kernel
theorem dX9_goes_84 : decode cX9_goes 84 = .ok (.iload_n 1, 1) := by decide +kernel
theorem dX9_goes_85 : decode cX9_goes 85 = .ok (.imul, 1) := by decide +kernel
theorem dX9_goes_86 : decode cX9_goes 86 = .ok (.iaload, 1) := by decide +kernel
theorem dX9_goes_87 : decode cX9_goes 87 = .ok (.aload_n 0, 1) := by decide +kernel
theorem dX9_goes_88 : decode cX9_goes 88 = .ok (.getfield 90, 3) := by decide +kernel
theorem dX9_goes_91 : decode cX9_goes 91 = .ok (.aload_n 0, 1) := by decide +kernel
theorem dX9_goes_92 : decode cX9_goes 92 = .ok (.getfield 49, 3) := by decide +kernel
theorem dX9_goes_95 : decode cX9_goes 95 = .ok (.iconst 3, 1) := by decide +kernel
theorem dX9_goes_96 : decode cX9_goes 96 = .ok (.iload_n 1, 1) := by decide +kernel
theorem dX9_goes_97 : decode cX9_goes 97 = .ok (.imul, 1) := by decide +kernel
theorem dX9_goes_98 : decode cX9_goes 98 = .ok (.iconst 1, 1) := by decide +kernel
theorem dX9_goes_99 : decode cX9_goes 99 = .ok (.iadd, 1) := by decide +kernel
theorem dX9_goes_100 : decode cX9_goes 100 = .ok (.iaload, 1) := by decide +kernel
theorem dX9_goes_101 : decode cX9_goes 101 = .ok (.iaload, 1) := by decide +kernel
theorem dX9_goes_102 : decode cX9_goes 102 = .ok (.aload_n 0, 1) := by decide +kernel
theorem dX9_goes_103 : decode cX9_goes 103 = .ok (.getfield 90, 3) := by decide +kernel
theorem dX9_goes_106 : decode cX9_goes 106 = .ok (.aload_n 0, 1) := by decide +kernel
theorem dX9_goes_107 : decode cX9_goes 107 = .ok (.getfield 49, 3) := by decide +kernel
theorem dX9_goes_110 : decode cX9_goes 110 = .ok (.iconst 3, 1) := by decide +kernel
theorem dX9_goes_111 : decode cX9_goes 111 = .ok (.iload_n 1, 1) := by decide +kernel
theorem dX9_goes_112 : decode cX9_goes 112 = .ok (.imul, 1) := by decide +kernel
theorem dX9_goes_113 : decode cX9_goes 113 = .ok (.iconst 2, 1) := by decide +kernel
theorem dX9_goes_114 : decode cX9_goes 114 = .ok (.iadd, 1) := by decide +kernel
theorem dX9_goes_115 : decode cX9_goes 115 = .ok (.iaload, 1) := by decide +kernel
theorem dX9_goes_116 : decode cX9_goes 116 = .ok (.iaload, 1) := by decide +kernel
theorem dX9_goes_117 : decode cX9_goes 117 = .ok (.invokestatic 120, 3) := by decide +kernel
theorem dX9_goes_120 : decode cX9_goes 120 = .ok (.istore 7, 2) := by decide +kernel
theorem dX9_goes_122 : decode cX9_goes 122 = .ok (.aload_n 0, 1) := by decide +kernel
theorem dX9_goes_123 : decode cX9_goes 123 = .ok (.iload_n 1, 1) := by decide +kernel
theorem dX9_goes_124 : decode cX9_goes 124 = .ok (.invokevirtual 134, 3) := by decide +kernel
theorem dX9_goes_127 : decode cX9_goes 127 = .ok (.istore 8, 2) := by decide +kernel
theorem dX9_goes_129 : decode cX9_goes 129 = .ok (.iload_n 2, 1) := by decide +kernel
theorem dX9_goes_130 : decode cX9_goes 130 = .ok (.iload 8, 2) := by decide +kernel
theorem dX9_goes_132 : decode cX9_goes 132 = .ok (.aload_n 0, 1) := by decide +kernel
theorem dX9_goes_133 : decode cX9_goes 133 = .ok (.getfield 87, 3) := by decide +kernel
theorem dX9_goes_136 : decode cX9_goes 136 = .ok (.iload 7, 2) := by decide +kernel
theorem dX9_goes_138 : decode cX9_goes 138 = .ok (.iaload, 1) := by decide +kernel
theorem dX9_goes_139 : decode cX9_goes 139 = .ok (.if_icmp .ge 7, 3) := by decide +kernel
theorem dX9_goes_142 : decode cX9_goes 142 = .ok (.iconst 1, 1) := by decide +kernel
theorem dX9_goes_143 : decode cX9_goes 143 = .ok (.goto 4, 3) := by decide +kernel
theorem dX9_goes_146 : decode cX9_goes 146 = .ok (.iconst 0, 1) := by decide +kernel
theorem dX9_goes_147 : decode cX9_goes 147 = .ok (.ior, 1) := by decide +kernel
theorem dX9_goes_148 : decode cX9_goes 148 = .ok (.istore_n 2, 1) := by decide +kernel
theorem dX9_goes_149 : decode cX9_goes 149 = .ok (.aload_n 0, 1) := by decide +kernel
theorem dX9_goes_150 : decode cX9_goes 150 = .ok (.getfield 87, 3) := by decide +kernel
theorem dX9_goes_153 : decode cX9_goes 153 = .ok (.iload 7, 2) := by decide +kernel
theorem dX9_goes_155 : decode cX9_goes 155 = .ok (.aload_n 0, 1) := by decide +kernel
theorem dX9_goes_156 : decode cX9_goes 156 = .ok (.getfield 87, 3) := by decide +kernel
theorem dX9_goes_159 : decode cX9_goes 159 = .ok (.iload 7, 2) := by decide +kernel
theorem dX9_goes_161 : decode cX9_goes 161 = .ok (.iaload, 1) := by decide +kernel
theorem dX9_goes_162 : decode cX9_goes 162 = .ok (.iload 8, 2) := by decide +kernel
theorem dX9_goes_164 : decode cX9_goes 164 = .ok (.invokestatic 138, 3) := by decide +kernel
theorem dX9_goes_167 : decode cX9_goes 167 = .ok (.iastore, 1) := by decide +kernel
theorem dX9_goes_168 : decode cX9_goes 168 = .ok (.iinc 6 1, 3) := by decide +kernel
theorem dX9_goes_171 : decode cX9_goes 171 = .ok (.goto (-143), 3) := by decide +kernel
theorem dX9_goes_174 : decode cX9_goes 174 = .ok (.iload_n 2, 1) := by decide +kernel
theorem dX9_goes_175 : decode cX9_goes 175 = .ok (.ireturn, 1) := by decide +kernel
theorem dX9_finds_0 : decode cX9_finds 0 = .ok (.iconst 0, 1) := by decide +kernel
theorem dX9_finds_1 : decode cX9_finds 1 = .ok (.istore 4, 2) := by decide +kernel
theorem dX9_finds_3 : decode cX9_finds 3 = .ok (.iload 4, 2) := by decide +kernel
theorem dX9_finds_5 : decode cX9_finds 5 = .ok (.sipush 384, 3) := by decide +kernel
theorem dX9_finds_8 : decode cX9_finds 8 = .ok (.if_icmp .ge 17, 3) := by decide +kernel
theorem dX9_finds_11 : decode cX9_finds 11 = .ok (.aload_n 0, 1) := by decide +kernel
theorem dX9_finds_12 : decode cX9_finds 12 = .ok (.getfield 93, 3) := by decide +kernel
theorem dX9_finds_15 : decode cX9_finds 15 = .ok (.iload 4, 2) := by decide +kernel
theorem dX9_finds_17 : decode cX9_finds 17 = .ok (.iconst 0, 1) := by decide +kernel
theorem dX9_finds_18 : decode cX9_finds 18 = .ok (.bastore, 1) := by decide +kernel
theorem dX9_finds_19 : decode cX9_finds 19 = .ok (.iinc 4 1, 3) := by decide +kernel
theorem dX9_finds_22 : decode cX9_finds 22 = .ok (.goto (-19), 3) := by decide +kernel
theorem dX9_finds_25 : decode cX9_finds 25 = .ok (.iload_n 1, 1) := by decide +kernel
theorem dX9_finds_26 : decode cX9_finds 26 = .ok (.bipush 60, 2) := by decide +kernel
theorem dX9_finds_28 : decode cX9_finds 28 = .ok (.imul, 1) := by decide +kernel
theorem dX9_finds_29 : decode cX9_finds 29 = .ok (.istore 4, 2) := by decide +kernel
theorem dX9_finds_31 : decode cX9_finds 31 = .ok (.iload 4, 2) := by decide +kernel
theorem dX9_finds_33 : decode cX9_finds 33 = .ok (.iload_n 1, 1) := by decide +kernel
theorem dX9_finds_34 : decode cX9_finds 34 = .ok (.bipush 60, 2) := by decide +kernel
theorem dX9_finds_36 : decode cX9_finds 36 = .ok (.imul, 1) := by decide +kernel
theorem dX9_finds_37 : decode cX9_finds 37 = .ok (.iload_n 2, 1) := by decide +kernel
theorem dX9_finds_38 : decode cX9_finds 38 = .ok (.iadd, 1) := by decide +kernel
theorem dX9_finds_39 : decode cX9_finds 39 = .ok (.if_icmp .ge 82, 3) := by decide +kernel
theorem dX9_finds_42 : decode cX9_finds 42 = .ok (.aload_n 0, 1) := by decide +kernel
theorem dX9_finds_43 : decode cX9_finds 43 = .ok (.getfield 9, 3) := by decide +kernel
theorem dX9_finds_46 : decode cX9_finds 46 = .ok (.iload 4, 2) := by decide +kernel
theorem dX9_finds_48 : decode cX9_finds 48 = .ok (.caload, 1) := by decide +kernel
theorem dX9_finds_49 : decode cX9_finds 49 = .ok (.invokestatic 107, 3) := by decide +kernel
theorem dX9_finds_52 : decode cX9_finds 52 = .ok (.ifCond .eq 63, 3) := by decide +kernel
theorem dX9_finds_55 : decode cX9_finds 55 = .ok (.iload_n 3, 1) := by decide +kernel
theorem dX9_finds_56 : decode cX9_finds 56 = .ok (.aload_n 0, 1) := by decide +kernel
theorem dX9_finds_57 : decode cX9_finds 57 = .ok (.getfield 17, 3) := by decide +kernel
theorem dX9_finds_60 : decode cX9_finds 60 = .ok (.iload 4, 2) := by decide +kernel
theorem dX9_finds_62 : decode cX9_finds 62 = .ok (.iaload, 1) := by decide +kernel
theorem dX9_finds_63 : decode cX9_finds 63 = .ok (.aload_n 0, 1) := by decide +kernel
theorem dX9_finds_64 : decode cX9_finds 64 = .ok (.getfield 20, 3) := by decide +kernel
theorem dX9_finds_67 : decode cX9_finds 67 = .ok (.iload 4, 2) := by decide +kernel
theorem dX9_finds_69 : decode cX9_finds 69 = .ok (.iaload, 1) := by decide +kernel
theorem dX9_finds_70 : decode cX9_finds 70 = .ok (.invokestatic 99, 3) := by decide +kernel
theorem dX9_finds_73 : decode cX9_finds 73 = .ok (.ifCond .eq 42, 3) := by decide +kernel
theorem dX9_finds_76 : decode cX9_finds 76 = .ok (.aload_n 0, 1) := by decide +kernel
theorem dX9_finds_77 : decode cX9_finds 77 = .ok (.getfield 26, 3) := by decide +kernel
theorem dX9_finds_80 : decode cX9_finds 80 = .ok (.iload 4, 2) := by decide +kernel
theorem dX9_finds_82 : decode cX9_finds 82 = .ok (.baload, 1) := by decide +kernel
theorem dX9_finds_83 : decode cX9_finds 83 = .ok (.ifCond .ne 32, 3) := by decide +kernel
theorem dX9_finds_86 : decode cX9_finds 86 = .ok (.aload_n 0, 1) := by decide +kernel
theorem dX9_finds_87 : decode cX9_finds 87 = .ok (.getfield 93, 3) := by decide +kernel
theorem dX9_finds_90 : decode cX9_finds 90 = .ok (.aload_n 0, 1) := by decide +kernel
theorem dX9_finds_91 : decode cX9_finds 91 = .ok (.getfield 13, 3) := by decide +kernel
theorem dX9_finds_94 : decode cX9_finds 94 = .ok (.iload 4, 2) := by decide +kernel
theorem dX9_finds_96 : decode cX9_finds 96 = .ok (.iaload, 1) := by decide +kernel
theorem dX9_finds_97 : decode cX9_finds 97 = .ok (.aload_n 0, 1) := by decide +kernel
theorem dX9_finds_98 : decode cX9_finds 98 = .ok (.getfield 9, 3) := by decide +kernel
theorem dX9_finds_101 : decode cX9_finds 101 = .ok (.iload 4, 2) := by decide +kernel
theorem dX9_finds_103 : decode cX9_finds 103 = .ok (.caload, 1) := by decide +kernel
theorem dX9_finds_104 : decode cX9_finds 104 = .ok (.bipush 104, 2) := by decide +kernel
theorem dX9_finds_106 : decode cX9_finds 106 = .ok (.if_icmp .ne 7, 3) := by decide +kernel
theorem dX9_finds_109 : decode cX9_finds 109 = .ok (.iconst 1, 1) := by decide +kernel
theorem dX9_finds_110 : decode cX9_finds 110 = .ok (.goto 4, 3) := by decide +kernel
theorem dX9_finds_113 : decode cX9_finds 113 = .ok (.iconst 0, 1) := by decide +kernel
theorem dX9_finds_114 : decode cX9_finds 114 = .ok (.bastore, 1) := by decide +kernel
theorem dX9_finds_115 : decode cX9_finds 115 = .ok (.iinc 4 1, 3) := by decide +kernel
theorem dX9_finds_118 : decode cX9_finds 118 = .ok (.goto (-87), 3) := by decide +kernel
theorem dX9_finds_121 : decode cX9_finds 121 = .ok (.iconst 0, 1) := by decide +kernel
theorem dX9_finds_122 : decode cX9_finds 122 = .ok (.istore 4, 2) := by decide +kernel
theorem dX9_finds_124 : decode cX9_finds 124 = .ok (.iload 4, 2) := by decide +kernel
theorem dX9_finds_126 : decode cX9_finds 126 = .ok (.sipush 384, 3) := by decide +kernel
theorem dX9_finds_129 : decode cX9_finds 129 = .ok (.if_icmp .ge 33, 3) := by decide +kernel
theorem dX9_finds_132 : decode cX9_finds 132 = .ok (.aload_n 0, 1) := by decide +kernel
theorem dX9_finds_133 : decode cX9_finds 133 = .ok (.getfield 87, 3) := by decide +kernel
theorem dX9_finds_136 : decode cX9_finds 136 = .ok (.iload 4, 2) := by decide +kernel
theorem dX9_finds_138 : decode cX9_finds 138 = .ok (.aload_n 0, 1) := by decide +kernel
theorem dX9_finds_139 : decode cX9_finds 139 = .ok (.getfield 93, 3) := by decide +kernel
theorem dX9_finds_142 : decode cX9_finds 142 = .ok (.iload 4, 2) := by decide +kernel
theorem dX9_finds_144 : decode cX9_finds 144 = .ok (.baload, 1) := by decide +kernel
theorem dX9_finds_145 : decode cX9_finds 145 = .ok (.ifCond .eq 7, 3) := by decide +kernel
theorem dX9_finds_148 : decode cX9_finds 148 = .ok (.iconst 0, 1) := by decide +kernel
theorem dX9_finds_149 : decode cX9_finds 149 = .ok (.goto 6, 3) := by decide +kernel
theorem dX9_finds_152 : decode cX9_finds 152 = .ok (.sipush 9999, 3) := by decide +kernel
theorem dX9_finds_155 : decode cX9_finds 155 = .ok (.iastore, 1) := by decide +kernel
theorem dX9_finds_156 : decode cX9_finds 156 = .ok (.iinc 4 1, 3) := by decide +kernel
theorem dX9_finds_159 : decode cX9_finds 159 = .ok (.goto (-35), 3) := by decide +kernel
theorem dX9_finds_162 : decode cX9_finds 162 = .ok (.aload_n 0, 1) := by decide +kernel
theorem dX9_finds_163 : decode cX9_finds 163 = .ok (.iload_n 1, 1) := by decide +kernel
theorem dX9_finds_164 : decode cX9_finds 164 = .ok (.iload_n 2, 1) := by decide +kernel
theorem dX9_finds_165 : decode cX9_finds 165 = .ok (.invokevirtual 141, 3) := by decide +kernel
theorem dX9_finds_168 : decode cX9_finds 168 = .ok (.aload_n 0, 1) := by decide +kernel
theorem dX9_finds_169 : decode cX9_finds 169 = .ok (.invokevirtual 145, 3) := by decide +kernel
theorem dX9_finds_172 : decode cX9_finds 172 = .ok (.istore 4, 2) := by decide +kernel
theorem dX9_finds_174 : decode cX9_finds 174 = .ok (.iconst 0, 1) := by decide +kernel
theorem dX9_finds_175 : decode cX9_finds 175 = .ok (.istore 5, 2) := by decide +kernel
theorem dX9_finds_177 : decode cX9_finds 177 = .ok (.iload 5, 2) := by decide +kernel
theorem dX9_finds_179 : decode cX9_finds 179 = .ok (.bipush 6, 2) := by decide +kernel
theorem dX9_finds_181 : decode cX9_finds 181 = .ok (.if_icmp .gt 94, 3) := by decide +kernel
theorem dX9_finds_184 : decode cX9_finds 184 = .ok (.iload 4, 2) := by decide +kernel
theorem dX9_finds_186 : decode cX9_finds 186 = .ok (.ifCond .eq 89, 3) := by decide +kernel
theorem dX9_finds_189 : decode cX9_finds 189 = .ok (.iconst 1, 1) := by decide +kernel
theorem dX9_finds_190 : decode cX9_finds 190 = .ok (.istore 6, 2) := by decide +kernel
theorem dX9_finds_192 : decode cX9_finds 192 = .ok (.iload 6, 2) := by decide +kernel
theorem dX9_finds_194 : decode cX9_finds 194 = .ok (.ifCond .eq 75, 3) := by decide +kernel
theorem dX9_finds_197 : decode cX9_finds 197 = .ok (.iconst 0, 1) := by decide +kernel
theorem dX9_finds_198 : decode cX9_finds 198 = .ok (.istore 6, 2) := by decide +kernel
theorem dX9_finds_200 : decode cX9_finds 200 = .ok (.iconst 0, 1) := by decide +kernel
theorem dX9_finds_201 : decode cX9_finds 201 = .ok (.istore 7, 2) := by decide +kernel
theorem dX9_finds_203 : decode cX9_finds 203 = .ok (.iload 7, 2) := by decide +kernel
theorem dX9_finds_205 : decode cX9_finds 205 = .ok (.aload_n 0, 1) := by decide +kernel
theorem dX9_finds_206 : decode cX9_finds 206 = .ok (.getfield 111, 3) := by decide +kernel
theorem dX9_finds_209 : decode cX9_finds 209 = .ok (.if_icmp .ge 57, 3) := by decide +kernel
theorem dX9_finds_212 : decode cX9_finds 212 = .ok (.iload 6, 2) := by decide +kernel
theorem dX9_finds_214 : decode cX9_finds 214 = .ok (.aload_n 0, 1) := by decide +kernel
theorem dX9_finds_215 : decode cX9_finds 215 = .ok (.getfield 81, 3) := by decide +kernel
theorem dX9_finds_218 : decode cX9_finds 218 = .ok (.iload 7, 2) := by decide +kernel
theorem dX9_finds_220 : decode cX9_finds 220 = .ok (.baload, 1) := by decide +kernel
theorem dX9_finds_221 : decode cX9_finds 221 = .ok (.ifCond .eq 35, 3) := by decide +kernel
theorem dX9_finds_224 : decode cX9_finds 224 = .ok (.aload_n 0, 1) := by decide +kernel
theorem dX9_finds_225 : decode cX9_finds 225 = .ok (.getfield 84, 3) := by decide +kernel
theorem dX9_finds_228 : decode cX9_finds 228 = .ok (.aload_n 0, 1) := by decide +kernel
theorem dX9_finds_229 : decode cX9_finds 229 = .ok (.getfield 49, 3) := by decide +kernel
theorem dX9_finds_232 : decode cX9_finds 232 = .ok (.iconst 3, 1) := by decide +kernel
theorem dX9_finds_233 : decode cX9_finds 233 = .ok (.iload 7, 2) := by decide +kernel
theorem dX9_finds_235 : decode cX9_finds 235 = .ok (.imul, 1) := by decide +kernel
theorem dX9_finds_236 : decode cX9_finds 236 = .ok (.iaload, 1) := by decide +kernel
theorem dX9_finds_237 : decode cX9_finds 237 = .ok (.iaload, 1) := by decide +kernel
theorem dX9_finds_238 : decode cX9_finds 238 = .ok (.iload 5, 2) := by decide +kernel
theorem dX9_finds_240 : decode cX9_finds 240 = .ok (.if_icmp .ne 16, 3) := by decide +kernel
theorem dX9_finds_243 : decode cX9_finds 243 = .ok (.aload_n 0, 1) := by decide +kernel
theorem dX9_finds_244 : decode cX9_finds 244 = .ok (.iload 7, 2) := by decide +kernel
theorem dX9_finds_246 : decode cX9_finds 246 = .ok (.invokevirtual 149, 3) := by decide +kernel
theorem dX9_finds_249 : decode cX9_finds 249 = .ok (.ifCond .eq 7, 3) := by decide +kernel
theorem dX9_finds_252 : decode cX9_finds 252 = .ok (.iconst 1, 1) := by decide +kernel
theorem dX9_finds_253 : decode cX9_finds 253 = .ok (.goto 4, 3) := by decide +kernel
theorem dX9_finds_256 : decode cX9_finds 256 = .ok (.iconst 0, 1) := by decide +kernel
theorem dX9_finds_257 : decode cX9_finds 257 = .ok (.ior, 1) := by decide +kernel
theorem dX9_finds_258 : decode cX9_finds 258 = .ok (.istore 6, 2) := by decide +kernel
theorem dX9_finds_260 : decode cX9_finds 260 = .ok (.iinc 7 1, 3) := by decide +kernel
theorem dX9_finds_263 : decode cX9_finds 263 = .ok (.goto (-60), 3) := by decide +kernel
theorem dX9_finds_266 : decode cX9_finds 266 = .ok (.goto (-74), 3) := by decide +kernel
theorem dX9_finds_269 : decode cX9_finds 269 = .ok (.iinc 5 1, 3) := by decide +kernel
theorem dX9_finds_272 : decode cX9_finds 272 = .ok (.goto (-95), 3) := by decide +kernel
theorem dX9_finds_275 : decode cX9_finds 275 = .ok (.return_, 1) := by decide +kernel
theorem dX9_tells_0 : decode cX9_tells 0 = .ok (.iload_n 1, 1) := by decide +kernel
theorem dX9_tells_1 : decode cX9_tells 1 = .ok (.bipush 60, 2) := by decide +kernel
theorem dX9_tells_3 : decode cX9_tells 3 = .ok (.imul, 1) := by decide +kernel
theorem dX9_tells_4 : decode cX9_tells 4 = .ok (.aload_n 0, 1) := by decide +kernel
theorem dX9_tells_5 : decode cX9_tells 5 = .ok (.getfield 33, 3) := by decide +kernel
theorem dX9_tells_8 : decode cX9_tells 8 = .ok (.iload_n 1, 1) := by decide +kernel
theorem dX9_tells_9 : decode cX9_tells 9 = .ok (.iaload, 1) := by decide +kernel
theorem dX9_tells_10 : decode cX9_tells 10 = .ok (.iadd, 1) := by decide +kernel
theorem dX9_tells_11 : decode cX9_tells 11 = .ok (.istore 7, 2) := by decide +kernel
theorem dX9_tells_13 : decode cX9_tells 13 = .ok (.aload_n 0, 1) := by decide +kernel
theorem dX9_tells_14 : decode cX9_tells 14 = .ok (.getfield 9, 3) := by decide +kernel
theorem dX9_tells_17 : decode cX9_tells 17 = .ok (.iload 7, 2) := by decide +kernel
theorem dX9_tells_19 : decode cX9_tells 19 = .ok (.iload_n 2, 1) := by decide +kernel
theorem dX9_tells_20 : decode cX9_tells 20 = .ok (.castore, 1) := by decide +kernel
theorem dX9_tells_21 : decode cX9_tells 21 = .ok (.aload_n 0, 1) := by decide +kernel
theorem dX9_tells_22 : decode cX9_tells 22 = .ok (.getfield 13, 3) := by decide +kernel
theorem dX9_tells_25 : decode cX9_tells 25 = .ok (.iload 7, 2) := by decide +kernel
theorem dX9_tells_27 : decode cX9_tells 27 = .ok (.iload_n 3, 1) := by decide +kernel
theorem dX9_tells_28 : decode cX9_tells 28 = .ok (.iastore, 1) := by decide +kernel
theorem dX9_tells_29 : decode cX9_tells 29 = .ok (.aload_n 0, 1) := by decide +kernel
theorem dX9_tells_30 : decode cX9_tells 30 = .ok (.getfield 17, 3) := by decide +kernel
theorem dX9_tells_33 : decode cX9_tells 33 = .ok (.iload 7, 2) := by decide +kernel
theorem dX9_tells_35 : decode cX9_tells 35 = .ok (.iload 4, 2) := by decide +kernel
theorem dX9_tells_37 : decode cX9_tells 37 = .ok (.iastore, 1) := by decide +kernel
theorem dX9_tells_38 : decode cX9_tells 38 = .ok (.aload_n 0, 1) := by decide +kernel
theorem dX9_tells_39 : decode cX9_tells 39 = .ok (.getfield 20, 3) := by decide +kernel
theorem dX9_tells_42 : decode cX9_tells 42 = .ok (.iload 7, 2) := by decide +kernel
theorem dX9_tells_44 : decode cX9_tells 44 = .ok (.iload 5, 2) := by decide +kernel
theorem dX9_tells_46 : decode cX9_tells 46 = .ok (.iastore, 1) := by decide +kernel
theorem dX9_tells_47 : decode cX9_tells 47 = .ok (.aload_n 0, 1) := by decide +kernel
theorem dX9_tells_48 : decode cX9_tells 48 = .ok (.getfield 23, 3) := by decide +kernel
theorem dX9_tells_51 : decode cX9_tells 51 = .ok (.iload 7, 2) := by decide +kernel
theorem dX9_tells_53 : decode cX9_tells 53 = .ok (.iload 6, 2) := by decide +kernel
theorem dX9_tells_55 : decode cX9_tells 55 = .ok (.iastore, 1) := by decide +kernel
theorem dX9_tells_56 : decode cX9_tells 56 = .ok (.aload_n 0, 1) := by decide +kernel
theorem dX9_tells_57 : decode cX9_tells 57 = .ok (.getfield 26, 3) := by decide +kernel
theorem dX9_tells_60 : decode cX9_tells 60 = .ok (.iload 7, 2) := by decide +kernel
theorem dX9_tells_62 : decode cX9_tells 62 = .ok (.iconst 0, 1) := by decide +kernel
theorem dX9_tells_63 : decode cX9_tells 63 = .ok (.bastore, 1) := by decide +kernel
theorem dX9_tells_64 : decode cX9_tells 64 = .ok (.aload_n 0, 1) := by decide +kernel
theorem dX9_tells_65 : decode cX9_tells 65 = .ok (.getfield 33, 3) := by decide +kernel
theorem dX9_tells_68 : decode cX9_tells 68 = .ok (.iload_n 1, 1) := by decide +kernel
theorem dX9_tells_69 : decode cX9_tells 69 = .ok (.dup2, 1) := by decide +kernel
theorem dX9_tells_70 : decode cX9_tells 70 = .ok (.iaload, 1) := by decide +kernel
theorem dX9_tells_71 : decode cX9_tells 71 = .ok (.iconst 1, 1) := by decide +kernel
theorem dX9_tells_72 : decode cX9_tells 72 = .ok (.iadd, 1) := by decide +kernel
theorem dX9_tells_73 : decode cX9_tells 73 = .ok (.iastore, 1) := by decide +kernel
theorem dX9_tells_74 : decode cX9_tells 74 = .ok (.aload_n 0, 1) := by decide +kernel
theorem dX9_tells_75 : decode cX9_tells 75 = .ok (.getfield 33, 3) := by decide +kernel
theorem dX9_tells_78 : decode cX9_tells 78 = .ok (.iload_n 1, 1) := by decide +kernel
theorem dX9_tells_79 : decode cX9_tells 79 = .ok (.iaload, 1) := by decide +kernel
theorem dX9_tells_80 : decode cX9_tells 80 = .ok (.ireturn, 1) := by decide +kernel
theorem dX9_isAgainst_0 : decode cX9_isAgainst 0 = .ok (.iconst 0, 1) := by decide +kernel
theorem dX9_isAgainst_1 : decode cX9_isAgainst 1 = .ok (.istore 5, 2) := by decide +kernel
theorem dX9_isAgainst_3 : decode cX9_isAgainst 3 = .ok (.iload_n 2, 1) := by decide +kernel
theorem dX9_isAgainst_4 : decode cX9_isAgainst 4 = .ok (.bipush 8, 2) := by decide +kernel
theorem dX9_isAgainst_6 : decode cX9_isAgainst 6 = .ok (.idiv, 1) := by decide +kernel
theorem dX9_isAgainst_7 : decode cX9_isAgainst 7 = .ok (.bipush 8, 2) := by decide +kernel
theorem dX9_isAgainst_9 : decode cX9_isAgainst 9 = .ok (.imul, 1) := by decide +kernel
theorem dX9_isAgainst_10 : decode cX9_isAgainst 10 = .ok (.istore 6, 2) := by decide +kernel
theorem dX9_isAgainst_12 : decode cX9_isAgainst 12 = .ok (.iload 6, 2) := by decide +kernel
theorem dX9_isAgainst_14 : decode cX9_isAgainst 14 = .ok (.iload_n 2, 1) := by decide +kernel
theorem dX9_isAgainst_15 : decode cX9_isAgainst 15 = .ok (.bipush 8, 2) := by decide +kernel
theorem dX9_isAgainst_17 : decode cX9_isAgainst 17 = .ok (.idiv, 1) := by decide +kernel
theorem dX9_isAgainst_18 : decode cX9_isAgainst 18 = .ok (.bipush 8, 2) := by decide +kernel
theorem dX9_isAgainst_20 : decode cX9_isAgainst 20 = .ok (.imul, 1) := by decide +kernel
theorem dX9_isAgainst_21 : decode cX9_isAgainst 21 = .ok (.bipush 8, 2) := by decide +kernel
theorem dX9_isAgainst_23 : decode cX9_isAgainst 23 = .ok (.iadd, 1) := by decide +kernel
theorem dX9_isAgainst_24 : decode cX9_isAgainst 24 = .ok (.if_icmp .ge 71, 3) := by decide +kernel
theorem dX9_isAgainst_27 : decode cX9_isAgainst 27 = .ok (.aload_n 0, 1) := by decide +kernel
theorem dX9_isAgainst_28 : decode cX9_isAgainst 28 = .ok (.getfield 30, 3) := by decide +kernel
theorem dX9_isAgainst_31 : decode cX9_isAgainst 31 = .ok (.iload_n 2, 1) := by decide +kernel
theorem dX9_isAgainst_32 : decode cX9_isAgainst 32 = .ok (.bipush 64, 2) := by decide +kernel
theorem dX9_isAgainst_34 : decode cX9_isAgainst 34 = .ok (.idiv, 1) := by decide +kernel
theorem dX9_isAgainst_35 : decode cX9_isAgainst 35 = .ok (.baload, 1) := by decide +kernel
theorem dX9_isAgainst_36 : decode cX9_isAgainst 36 = .ok (.ifCond .eq 59, 3) := by decide +kernel
theorem dX9_isAgainst_39 : decode cX9_isAgainst 39 = .ok (.iload_n 3, 1) := by decide +kernel
theorem dX9_isAgainst_40 : decode cX9_isAgainst 40 = .ok (.istore 7, 2) := by decide +kernel
theorem dX9_isAgainst_42 : decode cX9_isAgainst 42 = .ok (.iload 7, 2) := by decide +kernel
theorem dX9_isAgainst_44 : decode cX9_isAgainst 44 = .ok (.iload 4, 2) := by decide +kernel
theorem dX9_isAgainst_46 : decode cX9_isAgainst 46 = .ok (.if_icmp .gt 43, 3) := by decide +kernel
theorem dX9_isAgainst_49 : decode cX9_isAgainst 49 = .ok (.iload 5, 2) := by decide +kernel
theorem dX9_isAgainst_51 : decode cX9_isAgainst 51 = .ok (.iload 6, 2) := by decide +kernel
theorem dX9_isAgainst_53 : decode cX9_isAgainst 53 = .ok (.iload_n 2, 1) := by decide +kernel
theorem dX9_isAgainst_54 : decode cX9_isAgainst 54 = .ok (.if_icmp .eq 25, 3) := by decide +kernel
theorem dX9_isAgainst_57 : decode cX9_isAgainst 57 = .ok (.aload_n 0, 1) := by decide +kernel
theorem dX9_isAgainst_58 : decode cX9_isAgainst 58 = .ok (.iload_n 1, 1) := by decide +kernel
theorem dX9_isAgainst_59 : decode cX9_isAgainst 59 = .ok (.aload_n 0, 1) := by decide +kernel
theorem dX9_isAgainst_60 : decode cX9_isAgainst 60 = .ok (.getfield 33, 3) := by decide +kernel
theorem dX9_isAgainst_63 : decode cX9_isAgainst 63 = .ok (.iload_n 1, 1) := by decide +kernel
theorem dX9_isAgainst_64 : decode cX9_isAgainst 64 = .ok (.iaload, 1) := by decide +kernel
theorem dX9_isAgainst_65 : decode cX9_isAgainst 65 = .ok (.iload 7, 2) := by decide +kernel
theorem dX9_isAgainst_67 : decode cX9_isAgainst 67 = .ok (.iload 6, 2) := by decide +kernel
theorem dX9_isAgainst_69 : decode cX9_isAgainst 69 = .ok (.invokevirtual 153, 3) := by decide +kernel
theorem dX9_isAgainst_72 : decode cX9_isAgainst 72 = .ok (.ifCond .eq 7, 3) := by decide +kernel
theorem dX9_isAgainst_75 : decode cX9_isAgainst 75 = .ok (.iconst 1, 1) := by decide +kernel
theorem dX9_isAgainst_76 : decode cX9_isAgainst 76 = .ok (.goto 4, 3) := by decide +kernel
theorem dX9_isAgainst_79 : decode cX9_isAgainst 79 = .ok (.iconst 0, 1) := by decide +kernel
theorem dX9_isAgainst_80 : decode cX9_isAgainst 80 = .ok (.ior, 1) := by decide +kernel
theorem dX9_isAgainst_81 : decode cX9_isAgainst 81 = .ok (.istore 5, 2) := by decide +kernel
theorem dX9_isAgainst_83 : decode cX9_isAgainst 83 = .ok (.iinc 7 1, 3) := by decide +kernel
theorem dX9_isAgainst_86 : decode cX9_isAgainst 86 = .ok (.goto (-44), 3) := by decide +kernel
theorem dX9_isAgainst_89 : decode cX9_isAgainst 89 = .ok (.iinc 6 1, 3) := by decide +kernel
theorem dX9_isAgainst_92 : decode cX9_isAgainst 92 = .ok (.goto (-80), 3) := by decide +kernel
theorem dX9_isAgainst_95 : decode cX9_isAgainst 95 = .ok (.iload 5, 2) := by decide +kernel
theorem dX9_isAgainst_97 : decode cX9_isAgainst 97 = .ok (.ireturn, 1) := by decide +kernel
theorem dX9_isNoBranch_0 : decode cX9_isNoBranch 0 = .ok (.aload_n 0, 1) := by decide +kernel
theorem dX9_isNoBranch_1 : decode cX9_isNoBranch 1 = .ok (.iload_n 1, 1) := by decide +kernel
theorem dX9_isNoBranch_2 : decode cX9_isNoBranch 2 = .ok (.aload_n 0, 1) := by decide +kernel
theorem dX9_isNoBranch_3 : decode cX9_isNoBranch 3 = .ok (.getfield 45, 3) := by decide +kernel
theorem dX9_isNoBranch_6 : decode cX9_isNoBranch 6 = .ok (.invokevirtual 157, 3) := by decide +kernel
theorem dX9_isNoBranch_9 : decode cX9_isNoBranch 9 = .ok (.ireturn, 1) := by decide +kernel
theorem dX9_isSpan_0 : decode cX9_isSpan 0 = .ok (.iload_n 0, 1) := by decide +kernel
theorem dX9_isSpan_1 : decode cX9_isSpan 1 = .ok (.iconst 0, 1) := by decide +kernel
theorem dX9_isSpan_2 : decode cX9_isSpan 2 = .ok (.sipush 383, 3) := by decide +kernel
theorem dX9_isSpan_5 : decode cX9_isSpan 5 = .ok (.invokestatic 99, 3) := by decide +kernel
theorem dX9_isSpan_8 : decode cX9_isSpan 8 = .ok (.ifCond .eq 27, 3) := by decide +kernel
theorem dX9_isSpan_11 : decode cX9_isSpan 11 = .ok (.iload_n 1, 1) := by decide +kernel
theorem dX9_isSpan_12 : decode cX9_isSpan 12 = .ok (.iconst 0, 1) := by decide +kernel
theorem dX9_isSpan_13 : decode cX9_isSpan 13 = .ok (.bipush 23, 2) := by decide +kernel
theorem dX9_isSpan_15 : decode cX9_isSpan 15 = .ok (.invokestatic 99, 3) := by decide +kernel
theorem dX9_isSpan_18 : decode cX9_isSpan 18 = .ok (.ifCond .eq 17, 3) := by decide +kernel
theorem dX9_isSpan_21 : decode cX9_isSpan 21 = .ok (.iload_n 2, 1) := by decide +kernel
theorem dX9_isSpan_22 : decode cX9_isSpan 22 = .ok (.iload_n 1, 1) := by decide +kernel
theorem dX9_isSpan_23 : decode cX9_isSpan 23 = .ok (.bipush 23, 2) := by decide +kernel
theorem dX9_isSpan_25 : decode cX9_isSpan 25 = .ok (.invokestatic 99, 3) := by decide +kernel
theorem dX9_isSpan_28 : decode cX9_isSpan 28 = .ok (.ifCond .eq 7, 3) := by decide +kernel
theorem dX9_isSpan_31 : decode cX9_isSpan 31 = .ok (.iconst 1, 1) := by decide +kernel
theorem dX9_isSpan_32 : decode cX9_isSpan 32 = .ok (.goto 4, 3) := by decide +kernel
theorem dX9_isSpan_35 : decode cX9_isSpan 35 = .ok (.iconst 0, 1) := by decide +kernel
theorem dX9_isSpan_36 : decode cX9_isSpan 36 = .ok (.ireturn, 1) := by decide +kernel
theorem dX9_tell_0 : decode cX9_tell 0 = .ok (.aload_n 0, 1) := by decide +kernel
theorem dX9_tell_1 : decode cX9_tell 1 = .ok (.iload_n 1, 1) := by decide +kernel
theorem dX9_tell_2 : decode cX9_tell 2 = .ok (.invokevirtual 160, 3) := by decide +kernel
theorem dX9_tell_5 : decode cX9_tell 5 = .ok (.ifCond .ne 67, 3) := by decide +kernel
theorem dX9_tell_8 : decode cX9_tell 8 = .ok (.aload_n 0, 1) := by decide +kernel
theorem dX9_tell_9 : decode cX9_tell 9 = .ok (.iload_n 2, 1) := by decide +kernel
theorem dX9_tell_10 : decode cX9_tell 10 = .ok (.iload_n 3, 1) := by decide +kernel
theorem dX9_tell_11 : decode cX9_tell 11 = .ok (.iload 4, 2) := by decide +kernel
theorem dX9_tell_13 : decode cX9_tell 13 = .ok (.invokestatic 163, 3) := by decide +kernel
theorem dX9_tell_16 : decode cX9_tell 16 = .ok (.ifCond .ne 7, 3) := by decide +kernel
theorem dX9_tell_19 : decode cX9_tell 19 = .ok (.iconst 1, 1) := by decide +kernel
theorem dX9_tell_20 : decode cX9_tell 20 = .ok (.goto 4, 3) := by decide +kernel
theorem dX9_tell_23 : decode cX9_tell 23 = .ok (.iconst 0, 1) := by decide +kernel
theorem dX9_tell_24 : decode cX9_tell 24 = .ok (.iconst 2, 1) := by decide +kernel
theorem dX9_tell_25 : decode cX9_tell 25 = .ok (.invokevirtual 103, 3) := by decide +kernel
theorem dX9_tell_28 : decode cX9_tell 28 = .ok (.ifCond .ne 44, 3) := by decide +kernel
theorem dX9_tell_31 : decode cX9_tell 31 = .ok (.aload_n 0, 1) := by decide +kernel
theorem dX9_tell_32 : decode cX9_tell 32 = .ok (.aload_n 0, 1) := by decide +kernel
theorem dX9_tell_33 : decode cX9_tell 33 = .ok (.iload_n 1, 1) := by decide +kernel
theorem dX9_tell_34 : decode cX9_tell 34 = .ok (.iload_n 2, 1) := by decide +kernel
theorem dX9_tell_35 : decode cX9_tell 35 = .ok (.iload_n 3, 1) := by decide +kernel
theorem dX9_tell_36 : decode cX9_tell 36 = .ok (.iload 4, 2) := by decide +kernel
theorem dX9_tell_38 : decode cX9_tell 38 = .ok (.invokevirtual 166, 3) := by decide +kernel
theorem dX9_tell_41 : decode cX9_tell 41 = .ok (.iconst 3, 1) := by decide +kernel
theorem dX9_tell_42 : decode cX9_tell 42 = .ok (.invokevirtual 103, 3) := by decide +kernel
theorem dX9_tell_45 : decode cX9_tell 45 = .ok (.ifCond .ne 27, 3) := by decide +kernel
theorem dX9_tell_48 : decode cX9_tell 48 = .ok (.aload_n 0, 1) := by decide +kernel
theorem dX9_tell_49 : decode cX9_tell 49 = .ok (.aload_n 0, 1) := by decide +kernel
theorem dX9_tell_50 : decode cX9_tell 50 = .ok (.getfield 33, 3) := by decide +kernel
theorem dX9_tell_53 : decode cX9_tell 53 = .ok (.iload_n 1, 1) := by decide +kernel
theorem dX9_tell_54 : decode cX9_tell 54 = .ok (.iaload, 1) := by decide +kernel
theorem dX9_tell_55 : decode cX9_tell 55 = .ok (.bipush 60, 2) := by decide +kernel
theorem dX9_tell_57 : decode cX9_tell 57 = .ok (.if_icmp .ne 7, 3) := by decide +kernel
theorem dX9_tell_60 : decode cX9_tell 60 = .ok (.iconst 1, 1) := by decide +kernel
theorem dX9_tell_61 : decode cX9_tell 61 = .ok (.goto 4, 3) := by decide +kernel
theorem dX9_tell_64 : decode cX9_tell 64 = .ok (.iconst 0, 1) := by decide +kernel
theorem dX9_tell_65 : decode cX9_tell 65 = .ok (.iconst 4, 1) := by decide +kernel
theorem dX9_tell_66 : decode cX9_tell 66 = .ok (.invokevirtual 103, 3) := by decide +kernel
theorem dX9_tell_69 : decode cX9_tell 69 = .ok (.ifCond .eq 5, 3) := by decide +kernel
theorem dX9_tell_72 : decode cX9_tell 72 = .ok (.iconst 0, 1) := by decide +kernel
theorem dX9_tell_73 : decode cX9_tell 73 = .ok (.ireturn, 1) := by decide +kernel
theorem dX9_tell_74 : decode cX9_tell 74 = .ok (.aload_n 0, 1) := by decide +kernel
theorem dX9_tell_75 : decode cX9_tell 75 = .ok (.iload_n 1, 1) := by decide +kernel
theorem dX9_tell_76 : decode cX9_tell 76 = .ok (.bipush 104, 2) := by decide +kernel
theorem dX9_tell_78 : decode cX9_tell 78 = .ok (.iload_n 2, 1) := by decide +kernel
theorem dX9_tell_79 : decode cX9_tell 79 = .ok (.iload_n 3, 1) := by decide +kernel
theorem dX9_tell_80 : decode cX9_tell 80 = .ok (.iload 4, 2) := by decide +kernel
theorem dX9_tell_82 : decode cX9_tell 82 = .ok (.iconst (-1), 1) := by decide +kernel
theorem dX9_tell_83 : decode cX9_tell 83 = .ok (.invokevirtual 169, 3) := by decide +kernel
theorem dX9_tell_86 : decode cX9_tell 86 = .ok (.istore 5, 2) := by decide +kernel
theorem dX9_tell_88 : decode cX9_tell 88 = .ok (.aload_n 0, 1) := by decide +kernel
theorem dX9_tell_89 : decode cX9_tell 89 = .ok (.iload_n 1, 1) := by decide +kernel
theorem dX9_tell_90 : decode cX9_tell 90 = .ok (.invokevirtual 173, 3) := by decide +kernel
theorem dX9_tell_93 : decode cX9_tell 93 = .ok (.iload 5, 2) := by decide +kernel
theorem dX9_tell_95 : decode cX9_tell 95 = .ok (.ireturn, 1) := by decide +kernel
theorem dX9_untell_0 : decode cX9_untell 0 = .ok (.aload_n 0, 1) := by decide +kernel
theorem dX9_untell_1 : decode cX9_untell 1 = .ok (.iload_n 1, 1) := by decide +kernel
theorem dX9_untell_2 : decode cX9_untell 2 = .ok (.invokevirtual 160, 3) := by decide +kernel
theorem dX9_untell_5 : decode cX9_untell 5 = .ok (.ifCond .ne 50, 3) := by decide +kernel
theorem dX9_untell_8 : decode cX9_untell 8 = .ok (.aload_n 0, 1) := by decide +kernel
theorem dX9_untell_9 : decode cX9_untell 9 = .ok (.iload_n 2, 1) := by decide +kernel
theorem dX9_untell_10 : decode cX9_untell 10 = .ok (.iload_n 3, 1) := by decide +kernel
theorem dX9_untell_11 : decode cX9_untell 11 = .ok (.iload 4, 2) := by decide +kernel
theorem dX9_untell_13 : decode cX9_untell 13 = .ok (.invokestatic 163, 3) := by decide +kernel
theorem dX9_untell_16 : decode cX9_untell 16 = .ok (.ifCond .ne 7, 3) := by decide +kernel
theorem dX9_untell_19 : decode cX9_untell 19 = .ok (.iconst 1, 1) := by decide +kernel
theorem dX9_untell_20 : decode cX9_untell 20 = .ok (.goto 4, 3) := by decide +kernel
theorem dX9_untell_23 : decode cX9_untell 23 = .ok (.iconst 0, 1) := by decide +kernel
theorem dX9_untell_24 : decode cX9_untell 24 = .ok (.iconst 2, 1) := by decide +kernel
theorem dX9_untell_25 : decode cX9_untell 25 = .ok (.invokevirtual 103, 3) := by decide +kernel
theorem dX9_untell_28 : decode cX9_untell 28 = .ok (.ifCond .ne 27, 3) := by decide +kernel
theorem dX9_untell_31 : decode cX9_untell 31 = .ok (.aload_n 0, 1) := by decide +kernel
theorem dX9_untell_32 : decode cX9_untell 32 = .ok (.aload_n 0, 1) := by decide +kernel
theorem dX9_untell_33 : decode cX9_untell 33 = .ok (.getfield 33, 3) := by decide +kernel
theorem dX9_untell_36 : decode cX9_untell 36 = .ok (.iload_n 1, 1) := by decide +kernel
theorem dX9_untell_37 : decode cX9_untell 37 = .ok (.iaload, 1) := by decide +kernel
theorem dX9_untell_38 : decode cX9_untell 38 = .ok (.bipush 60, 2) := by decide +kernel
theorem dX9_untell_40 : decode cX9_untell 40 = .ok (.if_icmp .ne 7, 3) := by decide +kernel
theorem dX9_untell_43 : decode cX9_untell 43 = .ok (.iconst 1, 1) := by decide +kernel
theorem dX9_untell_44 : decode cX9_untell 44 = .ok (.goto 4, 3) := by decide +kernel
theorem dX9_untell_47 : decode cX9_untell 47 = .ok (.iconst 0, 1) := by decide +kernel
theorem dX9_untell_48 : decode cX9_untell 48 = .ok (.iconst 3, 1) := by decide +kernel
theorem dX9_untell_49 : decode cX9_untell 49 = .ok (.invokevirtual 103, 3) := by decide +kernel
theorem dX9_untell_52 : decode cX9_untell 52 = .ok (.ifCond .eq 5, 3) := by decide +kernel
theorem dX9_untell_55 : decode cX9_untell 55 = .ok (.iconst 0, 1) := by decide +kernel
theorem dX9_untell_56 : decode cX9_untell 56 = .ok (.ireturn, 1) := by decide +kernel
theorem dX9_untell_57 : decode cX9_untell 57 = .ok (.aload_n 0, 1) := by decide +kernel
theorem dX9_untell_58 : decode cX9_untell 58 = .ok (.iload_n 1, 1) := by decide +kernel
theorem dX9_untell_59 : decode cX9_untell 59 = .ok (.bipush 117, 2) := by decide +kernel
theorem dX9_untell_61 : decode cX9_untell 61 = .ok (.iload_n 2, 1) := by decide +kernel
theorem dX9_untell_62 : decode cX9_untell 62 = .ok (.iload_n 3, 1) := by decide +kernel
theorem dX9_untell_63 : decode cX9_untell 63 = .ok (.iload 4, 2) := by decide +kernel
theorem dX9_untell_65 : decode cX9_untell 65 = .ok (.iconst (-1), 1) := by decide +kernel
theorem dX9_untell_66 : decode cX9_untell 66 = .ok (.invokevirtual 169, 3) := by decide +kernel
theorem dX9_untell_69 : decode cX9_untell 69 = .ok (.istore 5, 2) := by decide +kernel
theorem dX9_untell_71 : decode cX9_untell 71 = .ok (.aload_n 0, 1) := by decide +kernel
theorem dX9_untell_72 : decode cX9_untell 72 = .ok (.iload_n 1, 1) := by decide +kernel
theorem dX9_untell_73 : decode cX9_untell 73 = .ok (.invokevirtual 173, 3) := by decide +kernel
theorem dX9_untell_76 : decode cX9_untell 76 = .ok (.iload 5, 2) := by decide +kernel
theorem dX9_untell_78 : decode cX9_untell 78 = .ok (.ireturn, 1) := by decide +kernel
theorem dX9_setUnique_0 : decode cX9_setUnique 0 = .ok (.aload_n 0, 1) := by decide +kernel
theorem dX9_setUnique_1 : decode cX9_setUnique 1 = .ok (.iload_n 1, 1) := by decide +kernel
theorem dX9_setUnique_2 : decode cX9_setUnique 2 = .ok (.bipush 6, 2) := by decide +kernel
theorem dX9_setUnique_4 : decode cX9_setUnique 4 = .ok (.invokevirtual 157, 3) := by decide +kernel
theorem dX9_setUnique_7 : decode cX9_setUnique 7 = .ok (.ifCond .eq 5, 3) := by decide +kernel
theorem dX9_setUnique_10 : decode cX9_setUnique 10 = .ok (.iconst 0, 1) := by decide +kernel
theorem dX9_setUnique_11 : decode cX9_setUnique 11 = .ok (.ireturn, 1) := by decide +kernel
theorem dX9_setUnique_12 : decode cX9_setUnique 12 = .ok (.aload_n 0, 1) := by decide +kernel
theorem dX9_setUnique_13 : decode cX9_setUnique 13 = .ok (.getfield 30, 3) := by decide +kernel
theorem dX9_setUnique_16 : decode cX9_setUnique 16 = .ok (.iload_n 1, 1) := by decide +kernel
theorem dX9_setUnique_17 : decode cX9_setUnique 17 = .ok (.baload, 1) := by decide +kernel
theorem dX9_setUnique_18 : decode cX9_setUnique 18 = .ok (.istore_n 3, 1) := by decide +kernel
theorem dX9_setUnique_19 : decode cX9_setUnique 19 = .ok (.aload_n 0, 1) := by decide +kernel
theorem dX9_setUnique_20 : decode cX9_setUnique 20 = .ok (.getfield 30, 3) := by decide +kernel
theorem dX9_setUnique_23 : decode cX9_setUnique 23 = .ok (.iload_n 1, 1) := by decide +kernel
theorem dX9_setUnique_24 : decode cX9_setUnique 24 = .ok (.iload_n 2, 1) := by decide +kernel
theorem dX9_setUnique_25 : decode cX9_setUnique 25 = .ok (.bastore, 1) := by decide +kernel
theorem dX9_setUnique_26 : decode cX9_setUnique 26 = .ok (.iload_n 3, 1) := by decide +kernel
theorem dX9_setUnique_27 : decode cX9_setUnique 27 = .ok (.ireturn, 1) := by decide +kernel
theorem dX9_isPart_0 : decode cX9_isPart 0 = .ok (.iload_n 0, 1) := by decide +kernel
theorem dX9_isPart_1 : decode cX9_isPart 1 = .ok (.iconst 0, 1) := by decide +kernel
theorem dX9_isPart_2 : decode cX9_isPart 2 = .ok (.iconst 5, 1) := by decide +kernel
theorem dX9_isPart_3 : decode cX9_isPart 3 = .ok (.invokestatic 99, 3) := by decide +kernel
theorem dX9_isPart_6 : decode cX9_isPart 6 = .ok (.ifCond .eq 25, 3) := by decide +kernel
theorem dX9_isPart_9 : decode cX9_isPart 9 = .ok (.iload_n 1, 1) := by decide +kernel
theorem dX9_isPart_10 : decode cX9_isPart 10 = .ok (.iconst 0, 1) := by decide +kernel
theorem dX9_isPart_11 : decode cX9_isPart 11 = .ok (.iconst 2, 1) := by decide +kernel
theorem dX9_isPart_12 : decode cX9_isPart 12 = .ok (.invokestatic 99, 3) := by decide +kernel
theorem dX9_isPart_15 : decode cX9_isPart 15 = .ok (.ifCond .eq 16, 3) := by decide +kernel
theorem dX9_isPart_18 : decode cX9_isPart 18 = .ok (.iload_n 2, 1) := by decide +kernel
theorem dX9_isPart_19 : decode cX9_isPart 19 = .ok (.iconst 0, 1) := by decide +kernel
theorem dX9_isPart_20 : decode cX9_isPart 20 = .ok (.iconst 2, 1) := by decide +kernel
theorem dX9_isPart_21 : decode cX9_isPart 21 = .ok (.invokestatic 99, 3) := by decide +kernel
theorem dX9_isPart_24 : decode cX9_isPart 24 = .ok (.ifCond .eq 7, 3) := by decide +kernel
theorem dX9_isPart_27 : decode cX9_isPart 27 = .ok (.iconst 1, 1) := by decide +kernel
theorem dX9_isPart_28 : decode cX9_isPart 28 = .ok (.goto 4, 3) := by decide +kernel
theorem dX9_isPart_31 : decode cX9_isPart 31 = .ok (.iconst 0, 1) := by decide +kernel
theorem dX9_isPart_32 : decode cX9_isPart 32 = .ok (.ireturn, 1) := by decide +kernel
theorem dX9_adds_0 : decode cX9_adds 0 = .ok (.bipush 9, 2) := by decide +kernel
theorem dX9_adds_2 : decode cX9_adds 2 = .ok (.iload_n 1, 1) := by decide +kernel
theorem dX9_adds_3 : decode cX9_adds 3 = .ok (.imul, 1) := by decide +kernel
theorem dX9_adds_4 : decode cX9_adds 4 = .ok (.iconst 3, 1) := by decide +kernel
theorem dX9_adds_5 : decode cX9_adds 5 = .ok (.aload_n 0, 1) := by decide +kernel
theorem dX9_adds_6 : decode cX9_adds 6 = .ok (.getfield 55, 3) := by decide +kernel
theorem dX9_adds_9 : decode cX9_adds 9 = .ok (.iload_n 1, 1) := by decide +kernel
theorem dX9_adds_10 : decode cX9_adds 10 = .ok (.iaload, 1) := by decide +kernel
theorem dX9_adds_11 : decode cX9_adds 11 = .ok (.imul, 1) := by decide +kernel
theorem dX9_adds_12 : decode cX9_adds 12 = .ok (.iadd, 1) := by decide +kernel
theorem dX9_adds_13 : decode cX9_adds 13 = .ok (.istore 6, 2) := by decide +kernel
theorem dX9_adds_15 : decode cX9_adds 15 = .ok (.aload_n 0, 1) := by decide +kernel
theorem dX9_adds_16 : decode cX9_adds 16 = .ok (.getfield 52, 3) := by decide +kernel
theorem dX9_adds_19 : decode cX9_adds 19 = .ok (.iload 6, 2) := by decide +kernel
theorem dX9_adds_21 : decode cX9_adds 21 = .ok (.iload_n 2, 1) := by decide +kernel
theorem dX9_adds_22 : decode cX9_adds 22 = .ok (.iastore, 1) := by decide +kernel
theorem dX9_adds_23 : decode cX9_adds 23 = .ok (.aload_n 0, 1) := by decide +kernel
theorem dX9_adds_24 : decode cX9_adds 24 = .ok (.getfield 52, 3) := by decide +kernel
theorem dX9_adds_27 : decode cX9_adds 27 = .ok (.iload 6, 2) := by decide +kernel
theorem dX9_adds_29 : decode cX9_adds 29 = .ok (.iconst 1, 1) := by decide +kernel
theorem dX9_adds_30 : decode cX9_adds 30 = .ok (.iadd, 1) := by decide +kernel
theorem dX9_adds_31 : decode cX9_adds 31 = .ok (.iload_n 3, 1) := by decide +kernel
theorem dX9_adds_32 : decode cX9_adds 32 = .ok (.iastore, 1) := by decide +kernel
theorem dX9_adds_33 : decode cX9_adds 33 = .ok (.aload_n 0, 1) := by decide +kernel
theorem dX9_adds_34 : decode cX9_adds 34 = .ok (.getfield 52, 3) := by decide +kernel
theorem dX9_adds_37 : decode cX9_adds 37 = .ok (.iload 6, 2) := by decide +kernel
theorem dX9_adds_39 : decode cX9_adds 39 = .ok (.iconst 2, 1) := by decide +kernel
theorem dX9_adds_40 : decode cX9_adds 40 = .ok (.iadd, 1) := by decide +kernel
theorem dX9_adds_41 : decode cX9_adds 41 = .ok (.iload 4, 2) := by decide +kernel
theorem dX9_adds_43 : decode cX9_adds 43 = .ok (.iastore, 1) := by decide +kernel
theorem dX9_adds_44 : decode cX9_adds 44 = .ok (.aload_n 0, 1) := by decide +kernel
theorem dX9_adds_45 : decode cX9_adds 45 = .ok (.getfield 58, 3) := by decide +kernel
theorem dX9_adds_48 : decode cX9_adds 48 = .ok (.iconst 3, 1) := by decide +kernel
theorem dX9_adds_49 : decode cX9_adds 49 = .ok (.iload_n 1, 1) := by decide +kernel
theorem dX9_adds_50 : decode cX9_adds 50 = .ok (.imul, 1) := by decide +kernel
theorem dX9_adds_51 : decode cX9_adds 51 = .ok (.aload_n 0, 1) := by decide +kernel
theorem dX9_adds_52 : decode cX9_adds 52 = .ok (.getfield 55, 3) := by decide +kernel
theorem dX9_adds_55 : decode cX9_adds 55 = .ok (.iload_n 1, 1) := by decide +kernel
theorem dX9_adds_56 : decode cX9_adds 56 = .ok (.iaload, 1) := by decide +kernel
theorem dX9_adds_57 : decode cX9_adds 57 = .ok (.iadd, 1) := by decide +kernel
theorem dX9_adds_58 : decode cX9_adds 58 = .ok (.iload 5, 2) := by decide +kernel
theorem dX9_adds_60 : decode cX9_adds 60 = .ok (.bastore, 1) := by decide +kernel
theorem dX9_adds_61 : decode cX9_adds 61 = .ok (.aload_n 0, 1) := by decide +kernel
theorem dX9_adds_62 : decode cX9_adds 62 = .ok (.getfield 55, 3) := by decide +kernel
theorem dX9_adds_65 : decode cX9_adds 65 = .ok (.iload_n 1, 1) := by decide +kernel
theorem dX9_adds_66 : decode cX9_adds 66 = .ok (.dup2, 1) := by decide +kernel
theorem dX9_adds_67 : decode cX9_adds 67 = .ok (.iaload, 1) := by decide +kernel
theorem dX9_adds_68 : decode cX9_adds 68 = .ok (.iconst 1, 1) := by decide +kernel
theorem dX9_adds_69 : decode cX9_adds 69 = .ok (.iadd, 1) := by decide +kernel
theorem dX9_adds_70 : decode cX9_adds 70 = .ok (.iastore, 1) := by decide +kernel
theorem dX9_adds_71 : decode cX9_adds 71 = .ok (.aload_n 0, 1) := by decide +kernel
theorem dX9_adds_72 : decode cX9_adds 72 = .ok (.getfield 55, 3) := by decide +kernel
theorem dX9_adds_75 : decode cX9_adds 75 = .ok (.iload_n 1, 1) := by decide +kernel
theorem dX9_adds_76 : decode cX9_adds 76 = .ok (.iaload, 1) := by decide +kernel
theorem dX9_adds_77 : decode cX9_adds 77 = .ok (.ireturn, 1) := by decide +kernel
theorem dX9_addRule_0 : decode cX9_addRule 0 = .ok (.aload_n 0, 1) := by decide +kernel
theorem dX9_addRule_1 : decode cX9_addRule 1 = .ok (.iload_n 1, 1) := by decide +kernel
theorem dX9_addRule_2 : decode cX9_addRule 2 = .ok (.iload_n 2, 1) := by decide +kernel
theorem dX9_addRule_3 : decode cX9_addRule 3 = .ok (.iload_n 3, 1) := by decide +kernel
theorem dX9_addRule_4 : decode cX9_addRule 4 = .ok (.invokestatic 177, 3) := by decide +kernel
theorem dX9_addRule_7 : decode cX9_addRule 7 = .ok (.ifCond .eq 15, 3) := by decide +kernel
theorem dX9_addRule_10 : decode cX9_addRule 10 = .ok (.iload 4, 2) := by decide +kernel
theorem dX9_addRule_12 : decode cX9_addRule 12 = .ok (.iload 5, 2) := by decide +kernel
theorem dX9_addRule_14 : decode cX9_addRule 14 = .ok (.iload 6, 2) := by decide +kernel
theorem dX9_addRule_16 : decode cX9_addRule 16 = .ok (.invokestatic 177, 3) := by decide +kernel
theorem dX9_addRule_19 : decode cX9_addRule 19 = .ok (.ifCond .ne 7, 3) := by decide +kernel
theorem dX9_addRule_22 : decode cX9_addRule 22 = .ok (.iconst 1, 1) := by decide +kernel
theorem dX9_addRule_23 : decode cX9_addRule 23 = .ok (.goto 4, 3) := by decide +kernel
theorem dX9_addRule_26 : decode cX9_addRule 26 = .ok (.iconst 0, 1) := by decide +kernel
theorem dX9_addRule_27 : decode cX9_addRule 27 = .ok (.iconst 1, 1) := by decide +kernel
theorem dX9_addRule_28 : decode cX9_addRule 28 = .ok (.invokevirtual 103, 3) := by decide +kernel
theorem dX9_addRule_31 : decode cX9_addRule 31 = .ok (.ifCond .ne 25, 3) := by decide +kernel
theorem dX9_addRule_34 : decode cX9_addRule 34 = .ok (.aload_n 0, 1) := by decide +kernel
theorem dX9_addRule_35 : decode cX9_addRule 35 = .ok (.aload_n 0, 1) := by decide +kernel
theorem dX9_addRule_36 : decode cX9_addRule 36 = .ok (.getfield 111, 3) := by decide +kernel
theorem dX9_addRule_39 : decode cX9_addRule 39 = .ok (.bipush 10, 2) := by decide +kernel
theorem dX9_addRule_41 : decode cX9_addRule 41 = .ok (.if_icmp .ne 7, 3) := by decide +kernel
theorem dX9_addRule_44 : decode cX9_addRule 44 = .ok (.iconst 1, 1) := by decide +kernel
theorem dX9_addRule_45 : decode cX9_addRule 45 = .ok (.goto 4, 3) := by decide +kernel
theorem dX9_addRule_48 : decode cX9_addRule 48 = .ok (.iconst 0, 1) := by decide +kernel
theorem dX9_addRule_49 : decode cX9_addRule 49 = .ok (.iconst 2, 1) := by decide +kernel
theorem dX9_addRule_50 : decode cX9_addRule 50 = .ok (.invokevirtual 103, 3) := by decide +kernel
theorem dX9_addRule_53 : decode cX9_addRule 53 = .ok (.ifCond .eq 5, 3) := by decide +kernel
theorem dX9_addRule_56 : decode cX9_addRule 56 = .ok (.iconst 0, 1) := by decide +kernel
theorem dX9_addRule_57 : decode cX9_addRule 57 = .ok (.ireturn, 1) := by decide +kernel
theorem dX9_addRule_58 : decode cX9_addRule 58 = .ok (.aload_n 0, 1) := by decide +kernel
theorem dX9_addRule_59 : decode cX9_addRule 59 = .ok (.getfield 49, 3) := by decide +kernel
theorem dX9_addRule_62 : decode cX9_addRule 62 = .ok (.iconst 3, 1) := by decide +kernel
theorem dX9_addRule_63 : decode cX9_addRule 63 = .ok (.aload_n 0, 1) := by decide +kernel
theorem dX9_addRule_64 : decode cX9_addRule 64 = .ok (.getfield 111, 3) := by decide +kernel
theorem dX9_addRule_67 : decode cX9_addRule 67 = .ok (.imul, 1) := by decide +kernel
theorem dX9_addRule_68 : decode cX9_addRule 68 = .ok (.iload_n 1, 1) := by decide +kernel
theorem dX9_addRule_69 : decode cX9_addRule 69 = .ok (.iastore, 1) := by decide +kernel
theorem dX9_addRule_70 : decode cX9_addRule 70 = .ok (.aload_n 0, 1) := by decide +kernel
theorem dX9_addRule_71 : decode cX9_addRule 71 = .ok (.getfield 49, 3) := by decide +kernel
theorem dX9_addRule_74 : decode cX9_addRule 74 = .ok (.iconst 3, 1) := by decide +kernel
theorem dX9_addRule_75 : decode cX9_addRule 75 = .ok (.aload_n 0, 1) := by decide +kernel
theorem dX9_addRule_76 : decode cX9_addRule 76 = .ok (.getfield 111, 3) := by decide +kernel
theorem dX9_addRule_79 : decode cX9_addRule 79 = .ok (.imul, 1) := by decide +kernel
theorem dX9_addRule_80 : decode cX9_addRule 80 = .ok (.iconst 1, 1) := by decide +kernel
theorem dX9_addRule_81 : decode cX9_addRule 81 = .ok (.iadd, 1) := by decide +kernel
theorem dX9_addRule_82 : decode cX9_addRule 82 = .ok (.iload_n 2, 1) := by decide +kernel
theorem dX9_addRule_83 : decode cX9_addRule 83 = .ok (.iastore, 1) := by decide +kernel
theorem dX9_addRule_84 : decode cX9_addRule 84 = .ok (.aload_n 0, 1) := by decide +kernel
theorem dX9_addRule_85 : decode cX9_addRule 85 = .ok (.getfield 49, 3) := by decide +kernel
theorem dX9_addRule_88 : decode cX9_addRule 88 = .ok (.iconst 3, 1) := by decide +kernel
theorem dX9_addRule_89 : decode cX9_addRule 89 = .ok (.aload_n 0, 1) := by decide +kernel
theorem dX9_addRule_90 : decode cX9_addRule 90 = .ok (.getfield 111, 3) := by decide +kernel
theorem dX9_addRule_93 : decode cX9_addRule 93 = .ok (.imul, 1) := by decide +kernel
theorem dX9_addRule_94 : decode cX9_addRule 94 = .ok (.iconst 2, 1) := by decide +kernel
theorem dX9_addRule_95 : decode cX9_addRule 95 = .ok (.iadd, 1) := by decide +kernel
theorem dX9_addRule_96 : decode cX9_addRule 96 = .ok (.iload_n 3, 1) := by decide +kernel
theorem dX9_addRule_97 : decode cX9_addRule 97 = .ok (.iastore, 1) := by decide +kernel
theorem dX9_addRule_98 : decode cX9_addRule 98 = .ok (.aload_n 0, 1) := by decide +kernel
theorem dX9_addRule_99 : decode cX9_addRule 99 = .ok (.aload_n 0, 1) := by decide +kernel
theorem dX9_addRule_100 : decode cX9_addRule 100 = .ok (.getfield 111, 3) := by decide +kernel
theorem dX9_addRule_103 : decode cX9_addRule 103 = .ok (.iload 4, 2) := by decide +kernel
theorem dX9_addRule_105 : decode cX9_addRule 105 = .ok (.iload 5, 2) := by decide +kernel
theorem dX9_addRule_107 : decode cX9_addRule 107 = .ok (.iload 6, 2) := by decide +kernel
theorem dX9_addRule_109 : decode cX9_addRule 109 = .ok (.iconst 0, 1) := by decide +kernel
theorem dX9_addRule_110 : decode cX9_addRule 110 = .ok (.invokevirtual 180, 3) := by decide +kernel
theorem dX9_addRule_113 : decode cX9_addRule 113 = .ok (.istore 7, 2) := by decide +kernel
theorem dX9_addRule_115 : decode cX9_addRule 115 = .ok (.aload_n 0, 1) := by decide +kernel
theorem dX9_addRule_116 : decode cX9_addRule 116 = .ok (.dup, 1) := by decide +kernel
theorem dX9_addRule_117 : decode cX9_addRule 117 = .ok (.getfield 111, 3) := by decide +kernel
theorem dX9_addRule_120 : decode cX9_addRule 120 = .ok (.iconst 1, 1) := by decide +kernel
theorem dX9_addRule_121 : decode cX9_addRule 121 = .ok (.iadd, 1) := by decide +kernel
theorem dX9_addRule_122 : decode cX9_addRule 122 = .ok (.putfield 111, 3) := by decide +kernel
theorem dX9_addRule_125 : decode cX9_addRule 125 = .ok (.aload_n 0, 1) := by decide +kernel
theorem dX9_addRule_126 : decode cX9_addRule 126 = .ok (.getfield 111, 3) := by decide +kernel
theorem dX9_addRule_129 : decode cX9_addRule 129 = .ok (.iconst 1, 1) := by decide +kernel
theorem dX9_addRule_130 : decode cX9_addRule 130 = .ok (.isub, 1) := by decide +kernel
theorem dX9_addRule_131 : decode cX9_addRule 131 = .ok (.ireturn, 1) := by decide +kernel
theorem dX9_addCondition_0 : decode cX9_addCondition 0 = .ok (.aload_n 0, 1) := by decide +kernel
theorem dX9_addCondition_1 : decode cX9_addCondition 1 = .ok (.iload_n 1, 1) := by decide +kernel
theorem dX9_addCondition_2 : decode cX9_addCondition 2 = .ok (.aload_n 0, 1) := by decide +kernel
theorem dX9_addCondition_3 : decode cX9_addCondition 3 = .ok (.getfield 111, 3) := by decide +kernel
theorem dX9_addCondition_6 : decode cX9_addCondition 6 = .ok (.invokevirtual 157, 3) := by decide +kernel
theorem dX9_addCondition_9 : decode cX9_addCondition 9 = .ok (.ifCond .ne 58, 3) := by decide +kernel
theorem dX9_addCondition_12 : decode cX9_addCondition 12 = .ok (.aload_n 0, 1) := by decide +kernel
theorem dX9_addCondition_13 : decode cX9_addCondition 13 = .ok (.iload_n 2, 1) := by decide +kernel
theorem dX9_addCondition_14 : decode cX9_addCondition 14 = .ok (.iload_n 3, 1) := by decide +kernel
theorem dX9_addCondition_15 : decode cX9_addCondition 15 = .ok (.iload 4, 2) := by decide +kernel
theorem dX9_addCondition_17 : decode cX9_addCondition 17 = .ok (.invokestatic 177, 3) := by decide +kernel
theorem dX9_addCondition_20 : decode cX9_addCondition 20 = .ok (.ifCond .ne 7, 3) := by decide +kernel
theorem dX9_addCondition_23 : decode cX9_addCondition 23 = .ok (.iconst 1, 1) := by decide +kernel
theorem dX9_addCondition_24 : decode cX9_addCondition 24 = .ok (.goto 4, 3) := by decide +kernel
theorem dX9_addCondition_27 : decode cX9_addCondition 27 = .ok (.iconst 0, 1) := by decide +kernel
theorem dX9_addCondition_28 : decode cX9_addCondition 28 = .ok (.iconst 2, 1) := by decide +kernel
theorem dX9_addCondition_29 : decode cX9_addCondition 29 = .ok (.invokevirtual 103, 3) := by decide +kernel
theorem dX9_addCondition_32 : decode cX9_addCondition 32 = .ok (.ifCond .ne 35, 3) := by decide +kernel
theorem dX9_addCondition_35 : decode cX9_addCondition 35 = .ok (.aload_n 0, 1) := by decide +kernel
theorem dX9_addCondition_36 : decode cX9_addCondition 36 = .ok (.aload_n 0, 1) := by decide +kernel
theorem dX9_addCondition_37 : decode cX9_addCondition 37 = .ok (.getfield 61, 3) := by decide +kernel
theorem dX9_addCondition_40 : decode cX9_addCondition 40 = .ok (.iload_n 1, 1) := by decide +kernel
theorem dX9_addCondition_41 : decode cX9_addCondition 41 = .ok (.baload, 1) := by decide +kernel
theorem dX9_addCondition_42 : decode cX9_addCondition 42 = .ok (.ifCond .ne 13, 3) := by decide +kernel
theorem dX9_addCondition_45 : decode cX9_addCondition 45 = .ok (.aload_n 0, 1) := by decide +kernel
theorem dX9_addCondition_46 : decode cX9_addCondition 46 = .ok (.getfield 55, 3) := by decide +kernel
theorem dX9_addCondition_49 : decode cX9_addCondition 49 = .ok (.iload_n 1, 1) := by decide +kernel
theorem dX9_addCondition_50 : decode cX9_addCondition 50 = .ok (.iaload, 1) := by decide +kernel
theorem dX9_addCondition_51 : decode cX9_addCondition 51 = .ok (.iconst 3, 1) := by decide +kernel
theorem dX9_addCondition_52 : decode cX9_addCondition 52 = .ok (.if_icmp .ne 7, 3) := by decide +kernel
theorem dX9_addCondition_55 : decode cX9_addCondition 55 = .ok (.iconst 1, 1) := by decide +kernel
theorem dX9_addCondition_56 : decode cX9_addCondition 56 = .ok (.goto 4, 3) := by decide +kernel
theorem dX9_addCondition_59 : decode cX9_addCondition 59 = .ok (.iconst 0, 1) := by decide +kernel
theorem dX9_addCondition_60 : decode cX9_addCondition 60 = .ok (.iconst 3, 1) := by decide +kernel
theorem dX9_addCondition_61 : decode cX9_addCondition 61 = .ok (.invokevirtual 103, 3) := by decide +kernel
theorem dX9_addCondition_64 : decode cX9_addCondition 64 = .ok (.ifCond .eq 5, 3) := by decide +kernel
theorem dX9_addCondition_67 : decode cX9_addCondition 67 = .ok (.iconst 0, 1) := by decide +kernel
theorem dX9_addCondition_68 : decode cX9_addCondition 68 = .ok (.ireturn, 1) := by decide +kernel
theorem dX9_addCondition_69 : decode cX9_addCondition 69 = .ok (.aload_n 0, 1) := by decide +kernel
theorem dX9_addCondition_70 : decode cX9_addCondition 70 = .ok (.iload_n 1, 1) := by decide +kernel
theorem dX9_addCondition_71 : decode cX9_addCondition 71 = .ok (.iload_n 2, 1) := by decide +kernel
theorem dX9_addCondition_72 : decode cX9_addCondition 72 = .ok (.iload_n 3, 1) := by decide +kernel
theorem dX9_addCondition_73 : decode cX9_addCondition 73 = .ok (.iload 4, 2) := by decide +kernel
theorem dX9_addCondition_75 : decode cX9_addCondition 75 = .ok (.iload 5, 2) := by decide +kernel
theorem dX9_addCondition_77 : decode cX9_addCondition 77 = .ok (.invokevirtual 180, 3) := by decide +kernel
theorem dX9_addCondition_80 : decode cX9_addCondition 80 = .ok (.ireturn, 1) := by decide +kernel
theorem dX9_isBound_0 : decode cX9_isBound 0 = .ok (.iconst 0, 1) := by decide +kernel
theorem dX9_isBound_1 : decode cX9_isBound 1 = .ok (.istore_n 3, 1) := by decide +kernel
theorem dX9_isBound_2 : decode cX9_isBound 2 = .ok (.iconst 0, 1) := by decide +kernel
theorem dX9_isBound_3 : decode cX9_isBound 3 = .ok (.istore 4, 2) := by decide +kernel
theorem dX9_isBound_5 : decode cX9_isBound 5 = .ok (.iload 4, 2) := by decide +kernel
theorem dX9_isBound_7 : decode cX9_isBound 7 = .ok (.aload_n 0, 1) := by decide +kernel
theorem dX9_isBound_8 : decode cX9_isBound 8 = .ok (.getfield 55, 3) := by decide +kernel
theorem dX9_isBound_11 : decode cX9_isBound 11 = .ok (.iload_n 1, 1) := by decide +kernel
theorem dX9_isBound_12 : decode cX9_isBound 12 = .ok (.iaload, 1) := by decide +kernel
theorem dX9_isBound_13 : decode cX9_isBound 13 = .ok (.if_icmp .ge 71, 3) := by decide +kernel
theorem dX9_isBound_16 : decode cX9_isBound 16 = .ok (.iload_n 3, 1) := by decide +kernel
theorem dX9_isBound_17 : decode cX9_isBound 17 = .ok (.aload_n 0, 1) := by decide +kernel
theorem dX9_isBound_18 : decode cX9_isBound 18 = .ok (.getfield 58, 3) := by decide +kernel
theorem dX9_isBound_21 : decode cX9_isBound 21 = .ok (.iconst 3, 1) := by decide +kernel
theorem dX9_isBound_22 : decode cX9_isBound 22 = .ok (.iload_n 1, 1) := by decide +kernel
theorem dX9_isBound_23 : decode cX9_isBound 23 = .ok (.imul, 1) := by decide +kernel
theorem dX9_isBound_24 : decode cX9_isBound 24 = .ok (.iload 4, 2) := by decide +kernel
theorem dX9_isBound_26 : decode cX9_isBound 26 = .ok (.iadd, 1) := by decide +kernel
theorem dX9_isBound_27 : decode cX9_isBound 27 = .ok (.baload, 1) := by decide +kernel
theorem dX9_isBound_28 : decode cX9_isBound 28 = .ok (.ifCond .ne 47, 3) := by decide +kernel
theorem dX9_isBound_31 : decode cX9_isBound 31 = .ok (.aload_n 0, 1) := by decide +kernel
theorem dX9_isBound_32 : decode cX9_isBound 32 = .ok (.getfield 52, 3) := by decide +kernel
theorem dX9_isBound_35 : decode cX9_isBound 35 = .ok (.bipush 9, 2) := by decide +kernel
theorem dX9_isBound_37 : decode cX9_isBound 37 = .ok (.iload_n 1, 1) := by decide +kernel
theorem dX9_isBound_38 : decode cX9_isBound 38 = .ok (.imul, 1) := by decide +kernel
theorem dX9_isBound_39 : decode cX9_isBound 39 = .ok (.iconst 3, 1) := by decide +kernel
theorem dX9_isBound_40 : decode cX9_isBound 40 = .ok (.iload 4, 2) := by decide +kernel
theorem dX9_isBound_42 : decode cX9_isBound 42 = .ok (.imul, 1) := by decide +kernel
theorem dX9_isBound_43 : decode cX9_isBound 43 = .ok (.iadd, 1) := by decide +kernel
theorem dX9_isBound_44 : decode cX9_isBound 44 = .ok (.iconst 1, 1) := by decide +kernel
theorem dX9_isBound_45 : decode cX9_isBound 45 = .ok (.iadd, 1) := by decide +kernel
theorem dX9_isBound_46 : decode cX9_isBound 46 = .ok (.iaload, 1) := by decide +kernel
theorem dX9_isBound_47 : decode cX9_isBound 47 = .ok (.iload_n 2, 1) := by decide +kernel
theorem dX9_isBound_48 : decode cX9_isBound 48 = .ok (.if_icmp .eq 23, 3) := by decide +kernel
theorem dX9_isBound_51 : decode cX9_isBound 51 = .ok (.aload_n 0, 1) := by decide +kernel
theorem dX9_isBound_52 : decode cX9_isBound 52 = .ok (.getfield 52, 3) := by decide +kernel
theorem dX9_isBound_55 : decode cX9_isBound 55 = .ok (.bipush 9, 2) := by decide +kernel
theorem dX9_isBound_57 : decode cX9_isBound 57 = .ok (.iload_n 1, 1) := by decide +kernel
theorem dX9_isBound_58 : decode cX9_isBound 58 = .ok (.imul, 1) := by decide +kernel
theorem dX9_isBound_59 : decode cX9_isBound 59 = .ok (.iconst 3, 1) := by decide +kernel
theorem dX9_isBound_60 : decode cX9_isBound 60 = .ok (.iload 4, 2) := by decide +kernel
theorem dX9_isBound_62 : decode cX9_isBound 62 = .ok (.imul, 1) := by decide +kernel
theorem dX9_isBound_63 : decode cX9_isBound 63 = .ok (.iadd, 1) := by decide +kernel
theorem dX9_isBound_64 : decode cX9_isBound 64 = .ok (.iconst 2, 1) := by decide +kernel
theorem dX9_isBound_65 : decode cX9_isBound 65 = .ok (.iadd, 1) := by decide +kernel
theorem dX9_isBound_66 : decode cX9_isBound 66 = .ok (.iaload, 1) := by decide +kernel
theorem dX9_isBound_67 : decode cX9_isBound 67 = .ok (.iload_n 2, 1) := by decide +kernel
theorem dX9_isBound_68 : decode cX9_isBound 68 = .ok (.if_icmp .ne 7, 3) := by decide +kernel
theorem dX9_isBound_71 : decode cX9_isBound 71 = .ok (.iconst 1, 1) := by decide +kernel
theorem dX9_isBound_72 : decode cX9_isBound 72 = .ok (.goto 4, 3) := by decide +kernel
theorem dX9_isBound_75 : decode cX9_isBound 75 = .ok (.iconst 0, 1) := by decide +kernel
theorem dX9_isBound_76 : decode cX9_isBound 76 = .ok (.ior, 1) := by decide +kernel
theorem dX9_isBound_77 : decode cX9_isBound 77 = .ok (.istore_n 3, 1) := by decide +kernel
theorem dX9_isBound_78 : decode cX9_isBound 78 = .ok (.iinc 4 1, 3) := by decide +kernel
theorem dX9_isBound_81 : decode cX9_isBound 81 = .ok (.goto (-76), 3) := by decide +kernel
theorem dX9_isBound_84 : decode cX9_isBound 84 = .ok (.iload_n 3, 1) := by decide +kernel
theorem dX9_isBound_85 : decode cX9_isBound 85 = .ok (.ireturn, 1) := by decide +kernel
theorem dX9_canTurn_0 : decode cX9_canTurn 0 = .ok (.aload_n 0, 1) := by decide +kernel
theorem dX9_canTurn_1 : decode cX9_canTurn 1 = .ok (.iload_n 2, 1) := by decide +kernel
theorem dX9_canTurn_2 : decode cX9_canTurn 2 = .ok (.aload_n 0, 1) := by decide +kernel
theorem dX9_canTurn_3 : decode cX9_canTurn 3 = .ok (.getfield 49, 3) := by decide +kernel
theorem dX9_canTurn_6 : decode cX9_canTurn 6 = .ok (.iconst 3, 1) := by decide +kernel
theorem dX9_canTurn_7 : decode cX9_canTurn 7 = .ok (.iload_n 2, 1) := by decide +kernel
theorem dX9_canTurn_8 : decode cX9_canTurn 8 = .ok (.imul, 1) := by decide +kernel
theorem dX9_canTurn_9 : decode cX9_canTurn 9 = .ok (.iconst 1, 1) := by decide +kernel
theorem dX9_canTurn_10 : decode cX9_canTurn 10 = .ok (.iadd, 1) := by decide +kernel
theorem dX9_canTurn_11 : decode cX9_canTurn 11 = .ok (.iaload, 1) := by decide +kernel
theorem dX9_canTurn_12 : decode cX9_canTurn 12 = .ok (.invokevirtual 184, 3) := by decide +kernel
theorem dX9_canTurn_15 : decode cX9_canTurn 15 = .ok (.ifCond .eq 25, 3) := by decide +kernel
theorem dX9_canTurn_18 : decode cX9_canTurn 18 = .ok (.aload_n 0, 1) := by decide +kernel
theorem dX9_canTurn_19 : decode cX9_canTurn 19 = .ok (.iload_n 2, 1) := by decide +kernel
theorem dX9_canTurn_20 : decode cX9_canTurn 20 = .ok (.aload_n 0, 1) := by decide +kernel
theorem dX9_canTurn_21 : decode cX9_canTurn 21 = .ok (.getfield 49, 3) := by decide +kernel
theorem dX9_canTurn_24 : decode cX9_canTurn 24 = .ok (.iconst 3, 1) := by decide +kernel
theorem dX9_canTurn_25 : decode cX9_canTurn 25 = .ok (.iload_n 2, 1) := by decide +kernel
theorem dX9_canTurn_26 : decode cX9_canTurn 26 = .ok (.imul, 1) := by decide +kernel
theorem dX9_canTurn_27 : decode cX9_canTurn 27 = .ok (.iconst 2, 1) := by decide +kernel
theorem dX9_canTurn_28 : decode cX9_canTurn 28 = .ok (.iadd, 1) := by decide +kernel
theorem dX9_canTurn_29 : decode cX9_canTurn 29 = .ok (.iaload, 1) := by decide +kernel
theorem dX9_canTurn_30 : decode cX9_canTurn 30 = .ok (.invokevirtual 184, 3) := by decide +kernel
theorem dX9_canTurn_33 : decode cX9_canTurn 33 = .ok (.ifCond .eq 7, 3) := by decide +kernel
theorem dX9_canTurn_36 : decode cX9_canTurn 36 = .ok (.iconst 1, 1) := by decide +kernel
theorem dX9_canTurn_37 : decode cX9_canTurn 37 = .ok (.goto 4, 3) := by decide +kernel
theorem dX9_canTurn_40 : decode cX9_canTurn 40 = .ok (.iconst 0, 1) := by decide +kernel
theorem dX9_canTurn_41 : decode cX9_canTurn 41 = .ok (.istore_n 3, 1) := by decide +kernel
theorem dX9_canTurn_42 : decode cX9_canTurn 42 = .ok (.iconst 0, 1) := by decide +kernel
theorem dX9_canTurn_43 : decode cX9_canTurn 43 = .ok (.istore 4, 2) := by decide +kernel
theorem dX9_canTurn_45 : decode cX9_canTurn 45 = .ok (.iload 4, 2) := by decide +kernel
theorem dX9_canTurn_47 : decode cX9_canTurn 47 = .ok (.aload_n 0, 1) := by decide +kernel
theorem dX9_canTurn_48 : decode cX9_canTurn 48 = .ok (.getfield 55, 3) := by decide +kernel
theorem dX9_canTurn_51 : decode cX9_canTurn 51 = .ok (.iload_n 2, 1) := by decide +kernel
theorem dX9_canTurn_52 : decode cX9_canTurn 52 = .ok (.iaload, 1) := by decide +kernel
theorem dX9_canTurn_53 : decode cX9_canTurn 53 = .ok (.if_icmp .ge 76, 3) := by decide +kernel
theorem dX9_canTurn_56 : decode cX9_canTurn 56 = .ok (.bipush 9, 2) := by decide +kernel
theorem dX9_canTurn_58 : decode cX9_canTurn 58 = .ok (.iload_n 2, 1) := by decide +kernel
theorem dX9_canTurn_59 : decode cX9_canTurn 59 = .ok (.imul, 1) := by decide +kernel
theorem dX9_canTurn_60 : decode cX9_canTurn 60 = .ok (.iconst 3, 1) := by decide +kernel
theorem dX9_canTurn_61 : decode cX9_canTurn 61 = .ok (.iload 4, 2) := by decide +kernel
theorem dX9_canTurn_63 : decode cX9_canTurn 63 = .ok (.imul, 1) := by decide +kernel
theorem dX9_canTurn_64 : decode cX9_canTurn 64 = .ok (.iadd, 1) := by decide +kernel
theorem dX9_canTurn_65 : decode cX9_canTurn 65 = .ok (.istore 5, 2) := by decide +kernel
theorem dX9_canTurn_67 : decode cX9_canTurn 67 = .ok (.iload_n 3, 1) := by decide +kernel
theorem dX9_canTurn_68 : decode cX9_canTurn 68 = .ok (.aload_n 0, 1) := by decide +kernel
theorem dX9_canTurn_69 : decode cX9_canTurn 69 = .ok (.getfield 58, 3) := by decide +kernel
theorem dX9_canTurn_72 : decode cX9_canTurn 72 = .ok (.iconst 3, 1) := by decide +kernel
theorem dX9_canTurn_73 : decode cX9_canTurn 73 = .ok (.iload_n 2, 1) := by decide +kernel
theorem dX9_canTurn_74 : decode cX9_canTurn 74 = .ok (.imul, 1) := by decide +kernel
theorem dX9_canTurn_75 : decode cX9_canTurn 75 = .ok (.iload 4, 2) := by decide +kernel
theorem dX9_canTurn_77 : decode cX9_canTurn 77 = .ok (.iadd, 1) := by decide +kernel
theorem dX9_canTurn_78 : decode cX9_canTurn 78 = .ok (.baload, 1) := by decide +kernel
theorem dX9_canTurn_79 : decode cX9_canTurn 79 = .ok (.ifCond .eq 37, 3) := by decide +kernel
theorem dX9_canTurn_82 : decode cX9_canTurn 82 = .ok (.aload_n 0, 1) := by decide +kernel
theorem dX9_canTurn_83 : decode cX9_canTurn 83 = .ok (.iload_n 2, 1) := by decide +kernel
theorem dX9_canTurn_84 : decode cX9_canTurn 84 = .ok (.aload_n 0, 1) := by decide +kernel
theorem dX9_canTurn_85 : decode cX9_canTurn 85 = .ok (.getfield 52, 3) := by decide +kernel
theorem dX9_canTurn_88 : decode cX9_canTurn 88 = .ok (.iload 5, 2) := by decide +kernel
theorem dX9_canTurn_90 : decode cX9_canTurn 90 = .ok (.iconst 1, 1) := by decide +kernel
theorem dX9_canTurn_91 : decode cX9_canTurn 91 = .ok (.iadd, 1) := by decide +kernel
theorem dX9_canTurn_92 : decode cX9_canTurn 92 = .ok (.iaload, 1) := by decide +kernel
theorem dX9_canTurn_93 : decode cX9_canTurn 93 = .ok (.invokevirtual 184, 3) := by decide +kernel
theorem dX9_canTurn_96 : decode cX9_canTurn 96 = .ok (.ifCond .eq 24, 3) := by decide +kernel
theorem dX9_canTurn_99 : decode cX9_canTurn 99 = .ok (.aload_n 0, 1) := by decide +kernel
theorem dX9_canTurn_100 : decode cX9_canTurn 100 = .ok (.iload_n 2, 1) := by decide +kernel
theorem dX9_canTurn_101 : decode cX9_canTurn 101 = .ok (.aload_n 0, 1) := by decide +kernel
theorem dX9_canTurn_102 : decode cX9_canTurn 102 = .ok (.getfield 52, 3) := by decide +kernel
theorem dX9_canTurn_105 : decode cX9_canTurn 105 = .ok (.iload 5, 2) := by decide +kernel
theorem dX9_canTurn_107 : decode cX9_canTurn 107 = .ok (.iconst 2, 1) := by decide +kernel
theorem dX9_canTurn_108 : decode cX9_canTurn 108 = .ok (.iadd, 1) := by decide +kernel
theorem dX9_canTurn_109 : decode cX9_canTurn 109 = .ok (.iaload, 1) := by decide +kernel
theorem dX9_canTurn_110 : decode cX9_canTurn 110 = .ok (.invokevirtual 184, 3) := by decide +kernel
theorem dX9_canTurn_113 : decode cX9_canTurn 113 = .ok (.ifCond .eq 7, 3) := by decide +kernel
theorem dX9_canTurn_116 : decode cX9_canTurn 116 = .ok (.iconst 1, 1) := by decide +kernel
theorem dX9_canTurn_117 : decode cX9_canTurn 117 = .ok (.goto 4, 3) := by decide +kernel
theorem dX9_canTurn_120 : decode cX9_canTurn 120 = .ok (.iconst 0, 1) := by decide +kernel
theorem dX9_canTurn_121 : decode cX9_canTurn 121 = .ok (.iand, 1) := by decide +kernel
theorem dX9_canTurn_122 : decode cX9_canTurn 122 = .ok (.istore_n 3, 1) := by decide +kernel
theorem dX9_canTurn_123 : decode cX9_canTurn 123 = .ok (.iinc 4 1, 3) := by decide +kernel
theorem dX9_canTurn_126 : decode cX9_canTurn 126 = .ok (.goto (-81), 3) := by decide +kernel
theorem dX9_canTurn_129 : decode cX9_canTurn 129 = .ok (.aload_n 0, 1) := by decide +kernel
theorem dX9_canTurn_130 : decode cX9_canTurn 130 = .ok (.iload_n 1, 1) := by decide +kernel
theorem dX9_canTurn_131 : decode cX9_canTurn 131 = .ok (.aload_n 0, 1) := by decide +kernel
theorem dX9_canTurn_132 : decode cX9_canTurn 132 = .ok (.getfield 33, 3) := by decide +kernel
theorem dX9_canTurn_135 : decode cX9_canTurn 135 = .ok (.iload_n 1, 1) := by decide +kernel
theorem dX9_canTurn_136 : decode cX9_canTurn 136 = .ok (.iaload, 1) := by decide +kernel
theorem dX9_canTurn_137 : decode cX9_canTurn 137 = .ok (.invokevirtual 141, 3) := by decide +kernel
theorem dX9_canTurn_140 : decode cX9_canTurn 140 = .ok (.aload_n 0, 1) := by decide +kernel
theorem dX9_canTurn_141 : decode cX9_canTurn 141 = .ok (.getfield 81, 3) := by decide +kernel
theorem dX9_canTurn_144 : decode cX9_canTurn 144 = .ok (.iload_n 2, 1) := by decide +kernel
theorem dX9_canTurn_145 : decode cX9_canTurn 145 = .ok (.iconst 1, 1) := by decide +kernel
theorem dX9_canTurn_146 : decode cX9_canTurn 146 = .ok (.bastore, 1) := by decide +kernel
theorem dX9_canTurn_147 : decode cX9_canTurn 147 = .ok (.iload_n 3, 1) := by decide +kernel
theorem dX9_canTurn_148 : decode cX9_canTurn 148 = .ok (.ifCond .eq 14, 3) := by decide +kernel
theorem dX9_canTurn_151 : decode cX9_canTurn 151 = .ok (.aload_n 0, 1) := by decide +kernel
theorem dX9_canTurn_152 : decode cX9_canTurn 152 = .ok (.invokevirtual 145, 3) := by decide +kernel
theorem dX9_canTurn_155 : decode cX9_canTurn 155 = .ok (.ifCond .eq 7, 3) := by decide +kernel
theorem dX9_canTurn_158 : decode cX9_canTurn 158 = .ok (.iconst 1, 1) := by decide +kernel
theorem dX9_canTurn_159 : decode cX9_canTurn 159 = .ok (.goto 4, 3) := by decide +kernel
theorem dX9_canTurn_162 : decode cX9_canTurn 162 = .ok (.iconst 0, 1) := by decide +kernel
theorem dX9_canTurn_163 : decode cX9_canTurn 163 = .ok (.ireturn, 1) := by decide +kernel
theorem dX9_turn_0 : decode cX9_turn 0 = .ok (.aload_n 0, 1) := by decide +kernel
theorem dX9_turn_1 : decode cX9_turn 1 = .ok (.iload_n 1, 1) := by decide +kernel
theorem dX9_turn_2 : decode cX9_turn 2 = .ok (.iconst 0, 1) := by decide +kernel
theorem dX9_turn_3 : decode cX9_turn 3 = .ok (.aload_n 0, 1) := by decide +kernel
theorem dX9_turn_4 : decode cX9_turn 4 = .ok (.getfield 45, 3) := by decide +kernel
theorem dX9_turn_7 : decode cX9_turn 7 = .ok (.iconst 1, 1) := by decide +kernel
theorem dX9_turn_8 : decode cX9_turn 8 = .ok (.isub, 1) := by decide +kernel
theorem dX9_turn_9 : decode cX9_turn 9 = .ok (.invokestatic 99, 3) := by decide +kernel
theorem dX9_turn_12 : decode cX9_turn 12 = .ok (.ifCond .eq 17, 3) := by decide +kernel
theorem dX9_turn_15 : decode cX9_turn 15 = .ok (.iload_n 2, 1) := by decide +kernel
theorem dX9_turn_16 : decode cX9_turn 16 = .ok (.iconst 0, 1) := by decide +kernel
theorem dX9_turn_17 : decode cX9_turn 17 = .ok (.aload_n 0, 1) := by decide +kernel
theorem dX9_turn_18 : decode cX9_turn 18 = .ok (.getfield 111, 3) := by decide +kernel
theorem dX9_turn_21 : decode cX9_turn 21 = .ok (.iconst 1, 1) := by decide +kernel
theorem dX9_turn_22 : decode cX9_turn 22 = .ok (.isub, 1) := by decide +kernel
theorem dX9_turn_23 : decode cX9_turn 23 = .ok (.invokestatic 99, 3) := by decide +kernel
theorem dX9_turn_26 : decode cX9_turn 26 = .ok (.ifCond .ne 7, 3) := by decide +kernel
theorem dX9_turn_29 : decode cX9_turn 29 = .ok (.iconst 1, 1) := by decide +kernel
theorem dX9_turn_30 : decode cX9_turn 30 = .ok (.goto 4, 3) := by decide +kernel
theorem dX9_turn_33 : decode cX9_turn 33 = .ok (.iconst 0, 1) := by decide +kernel
theorem dX9_turn_34 : decode cX9_turn 34 = .ok (.iconst 1, 1) := by decide +kernel
theorem dX9_turn_35 : decode cX9_turn 35 = .ok (.invokevirtual 103, 3) := by decide +kernel
theorem dX9_turn_38 : decode cX9_turn 38 = .ok (.ifCond .ne 53, 3) := by decide +kernel
theorem dX9_turn_41 : decode cX9_turn 41 = .ok (.aload_n 0, 1) := by decide +kernel
theorem dX9_turn_42 : decode cX9_turn 42 = .ok (.iload_n 3, 1) := by decide +kernel
theorem dX9_turn_43 : decode cX9_turn 43 = .ok (.ifCond .eq 16, 3) := by decide +kernel
theorem dX9_turn_46 : decode cX9_turn 46 = .ok (.aload_n 0, 1) := by decide +kernel
theorem dX9_turn_47 : decode cX9_turn 47 = .ok (.iload_n 1, 1) := by decide +kernel
theorem dX9_turn_48 : decode cX9_turn 48 = .ok (.iload_n 2, 1) := by decide +kernel
theorem dX9_turn_49 : decode cX9_turn 49 = .ok (.invokevirtual 187, 3) := by decide +kernel
theorem dX9_turn_52 : decode cX9_turn 52 = .ok (.ifCond .ne 7, 3) := by decide +kernel
theorem dX9_turn_55 : decode cX9_turn 55 = .ok (.iconst 1, 1) := by decide +kernel
theorem dX9_turn_56 : decode cX9_turn 56 = .ok (.goto 4, 3) := by decide +kernel
theorem dX9_turn_59 : decode cX9_turn 59 = .ok (.iconst 0, 1) := by decide +kernel
theorem dX9_turn_60 : decode cX9_turn 60 = .ok (.iconst 2, 1) := by decide +kernel
theorem dX9_turn_61 : decode cX9_turn 61 = .ok (.invokevirtual 103, 3) := by decide +kernel
theorem dX9_turn_64 : decode cX9_turn 64 = .ok (.ifCond .ne 27, 3) := by decide +kernel
theorem dX9_turn_67 : decode cX9_turn 67 = .ok (.aload_n 0, 1) := by decide +kernel
theorem dX9_turn_68 : decode cX9_turn 68 = .ok (.aload_n 0, 1) := by decide +kernel
theorem dX9_turn_69 : decode cX9_turn 69 = .ok (.getfield 33, 3) := by decide +kernel
theorem dX9_turn_72 : decode cX9_turn 72 = .ok (.iload_n 1, 1) := by decide +kernel
theorem dX9_turn_73 : decode cX9_turn 73 = .ok (.iaload, 1) := by decide +kernel
theorem dX9_turn_74 : decode cX9_turn 74 = .ok (.bipush 60, 2) := by decide +kernel
theorem dX9_turn_76 : decode cX9_turn 76 = .ok (.if_icmp .ne 7, 3) := by decide +kernel
theorem dX9_turn_79 : decode cX9_turn 79 = .ok (.iconst 1, 1) := by decide +kernel
theorem dX9_turn_80 : decode cX9_turn 80 = .ok (.goto 4, 3) := by decide +kernel
theorem dX9_turn_83 : decode cX9_turn 83 = .ok (.iconst 0, 1) := by decide +kernel
theorem dX9_turn_84 : decode cX9_turn 84 = .ok (.iconst 3, 1) := by decide +kernel
theorem dX9_turn_85 : decode cX9_turn 85 = .ok (.invokevirtual 103, 3) := by decide +kernel
theorem dX9_turn_88 : decode cX9_turn 88 = .ok (.ifCond .eq 5, 3) := by decide +kernel
theorem dX9_turn_91 : decode cX9_turn 91 = .ok (.iconst 0, 1) := by decide +kernel
theorem dX9_turn_92 : decode cX9_turn 92 = .ok (.ireturn, 1) := by decide +kernel
theorem dX9_turn_93 : decode cX9_turn 93 = .ok (.aload_n 0, 1) := by decide +kernel
theorem dX9_turn_94 : decode cX9_turn 94 = .ok (.getfield 61, 3) := by decide +kernel
theorem dX9_turn_97 : decode cX9_turn 97 = .ok (.iload_n 2, 1) := by decide +kernel
theorem dX9_turn_98 : decode cX9_turn 98 = .ok (.dup2, 1) := by decide +kernel
theorem dX9_turn_99 : decode cX9_turn 99 = .ok (.baload, 1) := by decide +kernel
theorem dX9_turn_100 : decode cX9_turn 100 = .ok (.iload_n 3, 1) := by decide +kernel
theorem dX9_turn_101 : decode cX9_turn 101 = .ok (.ior, 1) := by decide +kernel
theorem dX9_turn_102 : decode cX9_turn 102 = .ok (.bastore, 1) := by decide +kernel
theorem dX9_turn_103 : decode cX9_turn 103 = .ok (.aload_n 0, 1) := by decide +kernel
theorem dX9_turn_104 : decode cX9_turn 104 = .ok (.iload_n 1, 1) := by decide +kernel
theorem dX9_turn_105 : decode cX9_turn 105 = .ok (.iload_n 3, 1) := by decide +kernel
theorem dX9_turn_106 : decode cX9_turn 106 = .ok (.ifCond .eq 8, 3) := by decide +kernel
theorem dX9_turn_109 : decode cX9_turn 109 = .ok (.bipush 110, 2) := by decide +kernel
theorem dX9_turn_111 : decode cX9_turn 111 = .ok (.goto 5, 3) := by decide +kernel
theorem dX9_turn_114 : decode cX9_turn 114 = .ok (.bipush 102, 2) := by decide +kernel
theorem dX9_turn_116 : decode cX9_turn 116 = .ok (.iload_n 2, 1) := by decide +kernel
theorem dX9_turn_117 : decode cX9_turn 117 = .ok (.iconst 0, 1) := by decide +kernel
theorem dX9_turn_118 : decode cX9_turn 118 = .ok (.iconst 0, 1) := by decide +kernel
theorem dX9_turn_119 : decode cX9_turn 119 = .ok (.iconst (-1), 1) := by decide +kernel
theorem dX9_turn_120 : decode cX9_turn 120 = .ok (.invokevirtual 169, 3) := by decide +kernel
theorem dX9_turn_123 : decode cX9_turn 123 = .ok (.istore 4, 2) := by decide +kernel
theorem dX9_turn_125 : decode cX9_turn 125 = .ok (.aload_n 0, 1) := by decide +kernel
theorem dX9_turn_126 : decode cX9_turn 126 = .ok (.iload_n 1, 1) := by decide +kernel
theorem dX9_turn_127 : decode cX9_turn 127 = .ok (.invokevirtual 173, 3) := by decide +kernel
theorem dX9_turn_130 : decode cX9_turn 130 = .ok (.iload 4, 2) := by decide +kernel
theorem dX9_turn_132 : decode cX9_turn 132 = .ok (.ireturn, 1) := by decide +kernel
theorem dX9_isNoKnowing_0 : decode cX9_isNoKnowing 0 = .ok (.aload_n 0, 1) := by decide +kernel
theorem dX9_isNoKnowing_1 : decode cX9_isNoKnowing 1 = .ok (.iload_n 1, 1) := by decide +kernel
theorem dX9_isNoKnowing_2 : decode cX9_isNoKnowing 2 = .ok (.iconst 0, 1) := by decide +kernel
theorem dX9_isNoKnowing_3 : decode cX9_isNoKnowing 3 = .ok (.aload_n 0, 1) := by decide +kernel
theorem dX9_isNoKnowing_4 : decode cX9_isNoKnowing 4 = .ok (.getfield 45, 3) := by decide +kernel
theorem dX9_isNoKnowing_7 : decode cX9_isNoKnowing 7 = .ok (.iconst 1, 1) := by decide +kernel
theorem dX9_isNoKnowing_8 : decode cX9_isNoKnowing 8 = .ok (.isub, 1) := by decide +kernel
theorem dX9_isNoKnowing_9 : decode cX9_isNoKnowing 9 = .ok (.invokestatic 99, 3) := by decide +kernel
theorem dX9_isNoKnowing_12 : decode cX9_isNoKnowing 12 = .ok (.ifCond .eq 17, 3) := by decide +kernel
theorem dX9_isNoKnowing_15 : decode cX9_isNoKnowing 15 = .ok (.iload_n 2, 1) := by decide +kernel
theorem dX9_isNoKnowing_16 : decode cX9_isNoKnowing 16 = .ok (.iconst 0, 1) := by decide +kernel
theorem dX9_isNoKnowing_17 : decode cX9_isNoKnowing 17 = .ok (.aload_n 0, 1) := by decide +kernel
theorem dX9_isNoKnowing_18 : decode cX9_isNoKnowing 18 = .ok (.getfield 33, 3) := by decide +kernel
theorem dX9_isNoKnowing_21 : decode cX9_isNoKnowing 21 = .ok (.iload_n 1, 1) := by decide +kernel
theorem dX9_isNoKnowing_22 : decode cX9_isNoKnowing 22 = .ok (.iaload, 1) := by decide +kernel
theorem dX9_isNoKnowing_23 : decode cX9_isNoKnowing 23 = .ok (.invokestatic 99, 3) := by decide +kernel
theorem dX9_isNoKnowing_26 : decode cX9_isNoKnowing 26 = .ok (.ifCond .ne 7, 3) := by decide +kernel
theorem dX9_isNoKnowing_29 : decode cX9_isNoKnowing 29 = .ok (.iconst 1, 1) := by decide +kernel
theorem dX9_isNoKnowing_30 : decode cX9_isNoKnowing 30 = .ok (.goto 4, 3) := by decide +kernel
theorem dX9_isNoKnowing_33 : decode cX9_isNoKnowing 33 = .ok (.iconst 0, 1) := by decide +kernel
theorem dX9_isNoKnowing_34 : decode cX9_isNoKnowing 34 = .ok (.iconst 1, 1) := by decide +kernel
theorem dX9_isNoKnowing_35 : decode cX9_isNoKnowing 35 = .ok (.invokevirtual 103, 3) := by decide +kernel
theorem dX9_isNoKnowing_38 : decode cX9_isNoKnowing 38 = .ok (.ireturn, 1) := by decide +kernel
theorem dX9_isOn_0 : decode cX9_isOn 0 = .ok (.aload_n 0, 1) := by decide +kernel
theorem dX9_isOn_1 : decode cX9_isOn 1 = .ok (.iload_n 2, 1) := by decide +kernel
theorem dX9_isOn_2 : decode cX9_isOn 2 = .ok (.iconst 0, 1) := by decide +kernel
theorem dX9_isOn_3 : decode cX9_isOn 3 = .ok (.aload_n 0, 1) := by decide +kernel
theorem dX9_isOn_4 : decode cX9_isOn 4 = .ok (.getfield 111, 3) := by decide +kernel
theorem dX9_isOn_7 : decode cX9_isOn 7 = .ok (.iconst 1, 1) := by decide +kernel
theorem dX9_isOn_8 : decode cX9_isOn 8 = .ok (.isub, 1) := by decide +kernel
theorem dX9_isOn_9 : decode cX9_isOn 9 = .ok (.invokestatic 99, 3) := by decide +kernel
theorem dX9_isOn_12 : decode cX9_isOn 12 = .ok (.ifCond .ne 7, 3) := by decide +kernel
theorem dX9_isOn_15 : decode cX9_isOn 15 = .ok (.iconst 1, 1) := by decide +kernel
theorem dX9_isOn_16 : decode cX9_isOn 16 = .ok (.goto 4, 3) := by decide +kernel
theorem dX9_isOn_19 : decode cX9_isOn 19 = .ok (.iconst 0, 1) := by decide +kernel
theorem dX9_isOn_20 : decode cX9_isOn 20 = .ok (.iconst 1, 1) := by decide +kernel
theorem dX9_isOn_21 : decode cX9_isOn 21 = .ok (.invokevirtual 103, 3) := by decide +kernel
theorem dX9_isOn_24 : decode cX9_isOn 24 = .ok (.ifCond .ne 12, 3) := by decide +kernel
theorem dX9_isOn_27 : decode cX9_isOn 27 = .ok (.aload_n 0, 1) := by decide +kernel
theorem dX9_isOn_28 : decode cX9_isOn 28 = .ok (.iload_n 1, 1) := by decide +kernel
theorem dX9_isOn_29 : decode cX9_isOn 29 = .ok (.iload_n 3, 1) := by decide +kernel
theorem dX9_isOn_30 : decode cX9_isOn 30 = .ok (.invokevirtual 190, 3) := by decide +kernel
theorem dX9_isOn_33 : decode cX9_isOn 33 = .ok (.ifCond .eq 5, 3) := by decide +kernel
theorem dX9_isOn_36 : decode cX9_isOn 36 = .ok (.iconst 0, 1) := by decide +kernel
theorem dX9_isOn_37 : decode cX9_isOn 37 = .ok (.ireturn, 1) := by decide +kernel
theorem dX9_isOn_38 : decode cX9_isOn 38 = .ok (.aload_n 0, 1) := by decide +kernel
theorem dX9_isOn_39 : decode cX9_isOn 39 = .ok (.iload_n 1, 1) := by decide +kernel
theorem dX9_isOn_40 : decode cX9_isOn 40 = .ok (.iload_n 3, 1) := by decide +kernel
theorem dX9_isOn_41 : decode cX9_isOn 41 = .ok (.invokevirtual 141, 3) := by decide +kernel
theorem dX9_isOn_44 : decode cX9_isOn 44 = .ok (.aload_n 0, 1) := by decide +kernel
theorem dX9_isOn_45 : decode cX9_isOn 45 = .ok (.getfield 81, 3) := by decide +kernel
theorem dX9_isOn_48 : decode cX9_isOn 48 = .ok (.iload_n 2, 1) := by decide +kernel
theorem dX9_isOn_49 : decode cX9_isOn 49 = .ok (.baload, 1) := by decide +kernel
theorem dX9_isOn_50 : decode cX9_isOn 50 = .ok (.ireturn, 1) := by decide +kernel
theorem dX9_layer_0 : decode cX9_layer 0 = .ok (.aload_n 0, 1) := by decide +kernel
theorem dX9_layer_1 : decode cX9_layer 1 = .ok (.iload_n 1, 1) := by decide +kernel
theorem dX9_layer_2 : decode cX9_layer 2 = .ok (.invokevirtual 160, 3) := by decide +kernel
theorem dX9_layer_5 : decode cX9_layer 5 = .ok (.ifCond .ne 25, 3) := by decide +kernel
theorem dX9_layer_8 : decode cX9_layer 8 = .ok (.aload_n 0, 1) := by decide +kernel
theorem dX9_layer_9 : decode cX9_layer 9 = .ok (.iload_n 2, 1) := by decide +kernel
theorem dX9_layer_10 : decode cX9_layer 10 = .ok (.iconst 0, 1) := by decide +kernel
theorem dX9_layer_11 : decode cX9_layer 11 = .ok (.iconst 5, 1) := by decide +kernel
theorem dX9_layer_12 : decode cX9_layer 12 = .ok (.invokestatic 99, 3) := by decide +kernel
theorem dX9_layer_15 : decode cX9_layer 15 = .ok (.ifCond .ne 7, 3) := by decide +kernel
theorem dX9_layer_18 : decode cX9_layer 18 = .ok (.iconst 1, 1) := by decide +kernel
theorem dX9_layer_19 : decode cX9_layer 19 = .ok (.goto 4, 3) := by decide +kernel
theorem dX9_layer_22 : decode cX9_layer 22 = .ok (.iconst 0, 1) := by decide +kernel
theorem dX9_layer_23 : decode cX9_layer 23 = .ok (.iconst 2, 1) := by decide +kernel
theorem dX9_layer_24 : decode cX9_layer 24 = .ok (.invokevirtual 103, 3) := by decide +kernel
theorem dX9_layer_27 : decode cX9_layer 27 = .ok (.ifCond .eq 5, 3) := by decide +kernel
theorem dX9_layer_30 : decode cX9_layer 30 = .ok (.iconst 0, 1) := by decide +kernel
theorem dX9_layer_31 : decode cX9_layer 31 = .ok (.ireturn, 1) := by decide +kernel
theorem dX9_layer_32 : decode cX9_layer 32 = .ok (.aload_n 0, 1) := by decide +kernel
theorem dX9_layer_33 : decode cX9_layer 33 = .ok (.iload_n 1, 1) := by decide +kernel
theorem dX9_layer_34 : decode cX9_layer 34 = .ok (.aload_n 0, 1) := by decide +kernel
theorem dX9_layer_35 : decode cX9_layer 35 = .ok (.getfield 33, 3) := by decide +kernel
theorem dX9_layer_38 : decode cX9_layer 38 = .ok (.iload_n 1, 1) := by decide +kernel
theorem dX9_layer_39 : decode cX9_layer 39 = .ok (.iaload, 1) := by decide +kernel
theorem dX9_layer_40 : decode cX9_layer 40 = .ok (.invokevirtual 141, 3) := by decide +kernel
theorem dX9_layer_43 : decode cX9_layer 43 = .ok (.aload_n 0, 1) := by decide +kernel
theorem dX9_layer_44 : decode cX9_layer 44 = .ok (.invokevirtual 145, 3) := by decide +kernel
theorem dX9_layer_47 : decode cX9_layer 47 = .ok (.istore_n 3, 1) := by decide +kernel
theorem dX9_layer_48 : decode cX9_layer 48 = .ok (.aload_n 0, 1) := by decide +kernel
theorem dX9_layer_49 : decode cX9_layer 49 = .ok (.getfield 84, 3) := by decide +kernel
theorem dX9_layer_52 : decode cX9_layer 52 = .ok (.iload_n 2, 1) := by decide +kernel
theorem dX9_layer_53 : decode cX9_layer 53 = .ok (.iaload, 1) := by decide +kernel
theorem dX9_layer_54 : decode cX9_layer 54 = .ok (.ireturn, 1) := by decide +kernel
theorem dX9_knowing_0 : decode cX9_knowing 0 = .ok (.aload_n 0, 1) := by decide +kernel
theorem dX9_knowing_1 : decode cX9_knowing 1 = .ok (.iload_n 1, 1) := by decide +kernel
theorem dX9_knowing_2 : decode cX9_knowing 2 = .ok (.invokevirtual 160, 3) := by decide +kernel
theorem dX9_knowing_5 : decode cX9_knowing 5 = .ok (.ifCond .eq 7, 3) := by decide +kernel
theorem dX9_knowing_8 : decode cX9_knowing 8 = .ok (.iconst 0, 1) := by decide +kernel
theorem dX9_knowing_9 : decode cX9_knowing 9 = .ok (.goto 9, 3) := by decide +kernel
theorem dX9_knowing_12 : decode cX9_knowing 12 = .ok (.aload_n 0, 1) := by decide +kernel
theorem dX9_knowing_13 : decode cX9_knowing 13 = .ok (.getfield 33, 3) := by decide +kernel
theorem dX9_knowing_16 : decode cX9_knowing 16 = .ok (.iload_n 1, 1) := by decide +kernel
theorem dX9_knowing_17 : decode cX9_knowing 17 = .ok (.iaload, 1) := by decide +kernel
theorem dX9_knowing_18 : decode cX9_knowing 18 = .ok (.ireturn, 1) := by decide +kernel
theorem dX9_isNoAnswer_0 : decode cX9_isNoAnswer 0 = .ok (.aload_n 0, 1) := by decide +kernel
theorem dX9_isNoAnswer_1 : decode cX9_isNoAnswer 1 = .ok (.iload_n 1, 1) := by decide +kernel
theorem dX9_isNoAnswer_2 : decode cX9_isNoAnswer 2 = .ok (.iload_n 2, 1) := by decide +kernel
theorem dX9_isNoAnswer_3 : decode cX9_isNoAnswer 3 = .ok (.invokevirtual 190, 3) := by decide +kernel
theorem dX9_isNoAnswer_6 : decode cX9_isNoAnswer 6 = .ok (.ifCond .ne 38, 3) := by decide +kernel
theorem dX9_isNoAnswer_9 : decode cX9_isNoAnswer 9 = .ok (.aload_n 0, 1) := by decide +kernel
theorem dX9_isNoAnswer_10 : decode cX9_isNoAnswer 10 = .ok (.iload_n 3, 1) := by decide +kernel
theorem dX9_isNoAnswer_11 : decode cX9_isNoAnswer 11 = .ok (.iconst 0, 1) := by decide +kernel
theorem dX9_isNoAnswer_12 : decode cX9_isNoAnswer 12 = .ok (.bipush 23, 2) := by decide +kernel
theorem dX9_isNoAnswer_14 : decode cX9_isNoAnswer 14 = .ok (.invokestatic 99, 3) := by decide +kernel
theorem dX9_isNoAnswer_17 : decode cX9_isNoAnswer 17 = .ok (.ifCond .eq 15, 3) := by decide +kernel
theorem dX9_isNoAnswer_20 : decode cX9_isNoAnswer 20 = .ok (.iload 4, 2) := by decide +kernel
theorem dX9_isNoAnswer_22 : decode cX9_isNoAnswer 22 = .ok (.iconst 0, 1) := by decide +kernel
theorem dX9_isNoAnswer_23 : decode cX9_isNoAnswer 23 = .ok (.sipush 383, 3) := by decide +kernel
theorem dX9_isNoAnswer_26 : decode cX9_isNoAnswer 26 = .ok (.invokestatic 99, 3) := by decide +kernel
theorem dX9_isNoAnswer_29 : decode cX9_isNoAnswer 29 = .ok (.ifCond .ne 7, 3) := by decide +kernel
theorem dX9_isNoAnswer_32 : decode cX9_isNoAnswer 32 = .ok (.iconst 1, 1) := by decide +kernel
theorem dX9_isNoAnswer_33 : decode cX9_isNoAnswer 33 = .ok (.goto 4, 3) := by decide +kernel
theorem dX9_isNoAnswer_36 : decode cX9_isNoAnswer 36 = .ok (.iconst 0, 1) := by decide +kernel
theorem dX9_isNoAnswer_37 : decode cX9_isNoAnswer 37 = .ok (.iconst 2, 1) := by decide +kernel
theorem dX9_isNoAnswer_38 : decode cX9_isNoAnswer 38 = .ok (.invokevirtual 103, 3) := by decide +kernel
theorem dX9_isNoAnswer_41 : decode cX9_isNoAnswer 41 = .ok (.ifCond .eq 7, 3) := by decide +kernel
theorem dX9_isNoAnswer_44 : decode cX9_isNoAnswer 44 = .ok (.iconst 1, 1) := by decide +kernel
theorem dX9_isNoAnswer_45 : decode cX9_isNoAnswer 45 = .ok (.goto 4, 3) := by decide +kernel
theorem dX9_isNoAnswer_48 : decode cX9_isNoAnswer 48 = .ok (.iconst 0, 1) := by decide +kernel
theorem dX9_isNoAnswer_49 : decode cX9_isNoAnswer 49 = .ok (.ireturn, 1) := by decide +kernel
theorem dX9_holds0_0 : decode cX9_holds0 0 = .ok (.aload_n 0, 1) := by decide +kernel
theorem dX9_holds0_1 : decode cX9_holds0 1 = .ok (.iload_n 1, 1) := by decide +kernel
theorem dX9_holds0_2 : decode cX9_holds0 2 = .ok (.iload_n 2, 1) := by decide +kernel
theorem dX9_holds0_3 : decode cX9_holds0 3 = .ok (.iload_n 3, 1) := by decide +kernel
theorem dX9_holds0_4 : decode cX9_holds0 4 = .ok (.invokevirtual 193, 3) := by decide +kernel
theorem dX9_holds0_7 : decode cX9_holds0 7 = .ok (.aload_n 0, 1) := by decide +kernel
theorem dX9_holds0_8 : decode cX9_holds0 8 = .ok (.getfield 87, 3) := by decide +kernel
theorem dX9_holds0_11 : decode cX9_holds0 11 = .ok (.iload 4, 2) := by decide +kernel
theorem dX9_holds0_13 : decode cX9_holds0 13 = .ok (.iaload, 1) := by decide +kernel
theorem dX9_holds0_14 : decode cX9_holds0 14 = .ok (.sipush 9999, 3) := by decide +kernel
theorem dX9_holds0_17 : decode cX9_holds0 17 = .ok (.if_icmp .ge 7, 3) := by decide +kernel
theorem dX9_holds0_20 : decode cX9_holds0 20 = .ok (.iconst 1, 1) := by decide +kernel
theorem dX9_holds0_21 : decode cX9_holds0 21 = .ok (.goto 4, 3) := by decide +kernel
theorem dX9_holds0_24 : decode cX9_holds0 24 = .ok (.iconst 0, 1) := by decide +kernel
theorem dX9_holds0_25 : decode cX9_holds0 25 = .ok (.ireturn, 1) := by decide +kernel
theorem dX9_holds_0 : decode cX9_holds 0 = .ok (.aload_n 0, 1) := by decide +kernel
theorem dX9_holds_1 : decode cX9_holds 1 = .ok (.iload_n 1, 1) := by decide +kernel
theorem dX9_holds_2 : decode cX9_holds 2 = .ok (.iload_n 2, 1) := by decide +kernel
theorem dX9_holds_3 : decode cX9_holds 3 = .ok (.iload_n 3, 1) := by decide +kernel
theorem dX9_holds_4 : decode cX9_holds 4 = .ok (.iload 4, 2) := by decide +kernel
theorem dX9_holds_6 : decode cX9_holds 6 = .ok (.invokevirtual 197, 3) := by decide +kernel
theorem dX9_holds_9 : decode cX9_holds 9 = .ok (.ifCond .ne 19, 3) := by decide +kernel
theorem dX9_holds_12 : decode cX9_holds 12 = .ok (.aload_n 0, 1) := by decide +kernel
theorem dX9_holds_13 : decode cX9_holds 13 = .ok (.iload_n 1, 1) := by decide +kernel
theorem dX9_holds_14 : decode cX9_holds 14 = .ok (.iload_n 2, 1) := by decide +kernel
theorem dX9_holds_15 : decode cX9_holds 15 = .ok (.iload_n 3, 1) := by decide +kernel
theorem dX9_holds_16 : decode cX9_holds 16 = .ok (.iload 4, 2) := by decide +kernel
theorem dX9_holds_18 : decode cX9_holds 18 = .ok (.invokevirtual 200, 3) := by decide +kernel
theorem dX9_holds_21 : decode cX9_holds 21 = .ok (.ifCond .eq 7, 3) := by decide +kernel
theorem dX9_holds_24 : decode cX9_holds 24 = .ok (.iconst 1, 1) := by decide +kernel
theorem dX9_holds_25 : decode cX9_holds 25 = .ok (.goto 4, 3) := by decide +kernel
theorem dX9_holds_28 : decode cX9_holds 28 = .ok (.iconst 0, 1) := by decide +kernel
theorem dX9_holds_29 : decode cX9_holds 29 = .ok (.ireturn, 1) := by decide +kernel
theorem dX9_holdsAnew_0 : decode cX9_holdsAnew 0 = .ok (.aload_n 0, 1) := by decide +kernel
theorem dX9_holdsAnew_1 : decode cX9_holdsAnew 1 = .ok (.iload_n 1, 1) := by decide +kernel
theorem dX9_holdsAnew_2 : decode cX9_holdsAnew 2 = .ok (.iload_n 2, 1) := by decide +kernel
theorem dX9_holdsAnew_3 : decode cX9_holdsAnew 3 = .ok (.iload_n 3, 1) := by decide +kernel
theorem dX9_holdsAnew_4 : decode cX9_holdsAnew 4 = .ok (.iload 4, 2) := by decide +kernel
theorem dX9_holdsAnew_6 : decode cX9_holdsAnew 6 = .ok (.invokevirtual 203, 3) := by decide +kernel
theorem dX9_holdsAnew_9 : decode cX9_holdsAnew 9 = .ok (.ireturn, 1) := by decide +kernel
theorem dX9_count_0 : decode cX9_count 0 = .ok (.aload_n 0, 1) := by decide +kernel
theorem dX9_count_1 : decode cX9_count 1 = .ok (.iload_n 1, 1) := by decide +kernel
theorem dX9_count_2 : decode cX9_count 2 = .ok (.iload_n 2, 1) := by decide +kernel
theorem dX9_count_3 : decode cX9_count 3 = .ok (.invokevirtual 190, 3) := by decide +kernel
theorem dX9_count_6 : decode cX9_count 6 = .ok (.ifCond .ne 36, 3) := by decide +kernel
theorem dX9_count_9 : decode cX9_count 9 = .ok (.aload_n 0, 1) := by decide +kernel
theorem dX9_count_10 : decode cX9_count 10 = .ok (.iload_n 3, 1) := by decide +kernel
theorem dX9_count_11 : decode cX9_count 11 = .ok (.iconst 0, 1) := by decide +kernel
theorem dX9_count_12 : decode cX9_count 12 = .ok (.bipush 23, 2) := by decide +kernel
theorem dX9_count_14 : decode cX9_count 14 = .ok (.invokestatic 99, 3) := by decide +kernel
theorem dX9_count_17 : decode cX9_count 17 = .ok (.ifCond .eq 13, 3) := by decide +kernel
theorem dX9_count_20 : decode cX9_count 20 = .ok (.iload 4, 2) := by decide +kernel
theorem dX9_count_22 : decode cX9_count 22 = .ok (.iconst 0, 1) := by decide +kernel
theorem dX9_count_23 : decode cX9_count 23 = .ok (.iconst 5, 1) := by decide +kernel
theorem dX9_count_24 : decode cX9_count 24 = .ok (.invokestatic 99, 3) := by decide +kernel
theorem dX9_count_27 : decode cX9_count 27 = .ok (.ifCond .ne 7, 3) := by decide +kernel
theorem dX9_count_30 : decode cX9_count 30 = .ok (.iconst 1, 1) := by decide +kernel
theorem dX9_count_31 : decode cX9_count 31 = .ok (.goto 4, 3) := by decide +kernel
theorem dX9_count_34 : decode cX9_count 34 = .ok (.iconst 0, 1) := by decide +kernel
theorem dX9_count_35 : decode cX9_count 35 = .ok (.iconst 2, 1) := by decide +kernel
theorem dX9_count_36 : decode cX9_count 36 = .ok (.invokevirtual 103, 3) := by decide +kernel
theorem dX9_count_39 : decode cX9_count 39 = .ok (.ifCond .eq 5, 3) := by decide +kernel
theorem dX9_count_42 : decode cX9_count 42 = .ok (.iconst 0, 1) := by decide +kernel
theorem dX9_count_43 : decode cX9_count 43 = .ok (.ireturn, 1) := by decide +kernel
theorem dX9_count_44 : decode cX9_count 44 = .ok (.aload_n 0, 1) := by decide +kernel
theorem dX9_count_45 : decode cX9_count 45 = .ok (.iload_n 1, 1) := by decide +kernel
theorem dX9_count_46 : decode cX9_count 46 = .ok (.iload_n 2, 1) := by decide +kernel
theorem dX9_count_47 : decode cX9_count 47 = .ok (.iload_n 3, 1) := by decide +kernel
theorem dX9_count_48 : decode cX9_count 48 = .ok (.invokevirtual 193, 3) := by decide +kernel
theorem dX9_count_51 : decode cX9_count 51 = .ok (.iconst 0, 1) := by decide +kernel
theorem dX9_count_52 : decode cX9_count 52 = .ok (.istore 5, 2) := by decide +kernel
theorem dX9_count_54 : decode cX9_count 54 = .ok (.bipush 64, 2) := by decide +kernel
theorem dX9_count_56 : decode cX9_count 56 = .ok (.iload 4, 2) := by decide +kernel
theorem dX9_count_58 : decode cX9_count 58 = .ok (.imul, 1) := by decide +kernel
theorem dX9_count_59 : decode cX9_count 59 = .ok (.istore 6, 2) := by decide +kernel
theorem dX9_count_61 : decode cX9_count 61 = .ok (.iload 6, 2) := by decide +kernel
theorem dX9_count_63 : decode cX9_count 63 = .ok (.bipush 64, 2) := by decide +kernel
theorem dX9_count_65 : decode cX9_count 65 = .ok (.iload 4, 2) := by decide +kernel
theorem dX9_count_67 : decode cX9_count 67 = .ok (.imul, 1) := by decide +kernel
theorem dX9_count_68 : decode cX9_count 68 = .ok (.bipush 64, 2) := by decide +kernel
theorem dX9_count_70 : decode cX9_count 70 = .ok (.iadd, 1) := by decide +kernel
theorem dX9_count_71 : decode cX9_count 71 = .ok (.if_icmp .ge 32, 3) := by decide +kernel
theorem dX9_count_74 : decode cX9_count 74 = .ok (.iload 5, 2) := by decide +kernel
theorem dX9_count_76 : decode cX9_count 76 = .ok (.aload_n 0, 1) := by decide +kernel
theorem dX9_count_77 : decode cX9_count 77 = .ok (.getfield 87, 3) := by decide +kernel
theorem dX9_count_80 : decode cX9_count 80 = .ok (.iload 6, 2) := by decide +kernel
theorem dX9_count_82 : decode cX9_count 82 = .ok (.iaload, 1) := by decide +kernel
theorem dX9_count_83 : decode cX9_count 83 = .ok (.sipush 9999, 3) := by decide +kernel
theorem dX9_count_86 : decode cX9_count 86 = .ok (.if_icmp .ge 7, 3) := by decide +kernel
theorem dX9_count_89 : decode cX9_count 89 = .ok (.iconst 1, 1) := by decide +kernel
theorem dX9_count_90 : decode cX9_count 90 = .ok (.goto 4, 3) := by decide +kernel
theorem dX9_count_93 : decode cX9_count 93 = .ok (.iconst 0, 1) := by decide +kernel
theorem dX9_count_94 : decode cX9_count 94 = .ok (.iadd, 1) := by decide +kernel
theorem dX9_count_95 : decode cX9_count 95 = .ok (.istore 5, 2) := by decide +kernel
theorem dX9_count_97 : decode cX9_count 97 = .ok (.iinc 6 1, 3) := by decide +kernel
theorem dX9_count_100 : decode cX9_count 100 = .ok (.goto (-39), 3) := by decide +kernel
theorem dX9_count_103 : decode cX9_count 103 = .ok (.iload 5, 2) := by decide +kernel
theorem dX9_count_105 : decode cX9_count 105 = .ok (.ireturn, 1) := by decide +kernel
theorem dX9_isNot_0 : decode cX9_isNot 0 = .ok (.aload_n 0, 1) := by decide +kernel
theorem dX9_isNot_1 : decode cX9_isNot 1 = .ok (.iload_n 1, 1) := by decide +kernel
theorem dX9_isNot_2 : decode cX9_isNot 2 = .ok (.iload_n 2, 1) := by decide +kernel
theorem dX9_isNot_3 : decode cX9_isNot 3 = .ok (.iload_n 3, 1) := by decide +kernel
theorem dX9_isNot_4 : decode cX9_isNot 4 = .ok (.iload 4, 2) := by decide +kernel
theorem dX9_isNot_6 : decode cX9_isNot 6 = .ok (.invokevirtual 197, 3) := by decide +kernel
theorem dX9_isNot_9 : decode cX9_isNot 9 = .ok (.ifCond .ne 28, 3) := by decide +kernel
theorem dX9_isNot_12 : decode cX9_isNot 12 = .ok (.aload_n 0, 1) := by decide +kernel
theorem dX9_isNot_13 : decode cX9_isNot 13 = .ok (.aload_n 0, 1) := by decide +kernel
theorem dX9_isNot_14 : decode cX9_isNot 14 = .ok (.iload_n 1, 1) := by decide +kernel
theorem dX9_isNot_15 : decode cX9_isNot 15 = .ok (.iload_n 2, 1) := by decide +kernel
theorem dX9_isNot_16 : decode cX9_isNot 16 = .ok (.iload_n 3, 1) := by decide +kernel
theorem dX9_isNot_17 : decode cX9_isNot 17 = .ok (.iload 4, 2) := by decide +kernel
theorem dX9_isNot_19 : decode cX9_isNot 19 = .ok (.invokevirtual 200, 3) := by decide +kernel
theorem dX9_isNot_22 : decode cX9_isNot 22 = .ok (.ifCond .ne 7, 3) := by decide +kernel
theorem dX9_isNot_25 : decode cX9_isNot 25 = .ok (.iconst 1, 1) := by decide +kernel
theorem dX9_isNot_26 : decode cX9_isNot 26 = .ok (.goto 4, 3) := by decide +kernel
theorem dX9_isNot_29 : decode cX9_isNot 29 = .ok (.iconst 0, 1) := by decide +kernel
theorem dX9_isNot_30 : decode cX9_isNot 30 = .ok (.iconst 3, 1) := by decide +kernel
theorem dX9_isNot_31 : decode cX9_isNot 31 = .ok (.invokevirtual 103, 3) := by decide +kernel
theorem dX9_isNot_34 : decode cX9_isNot 34 = .ok (.ifCond .eq 7, 3) := by decide +kernel
theorem dX9_isNot_37 : decode cX9_isNot 37 = .ok (.iconst 1, 1) := by decide +kernel
theorem dX9_isNot_38 : decode cX9_isNot 38 = .ok (.goto 4, 3) := by decide +kernel
theorem dX9_isNot_41 : decode cX9_isNot 41 = .ok (.iconst 0, 1) := by decide +kernel
theorem dX9_isNot_42 : decode cX9_isNot 42 = .ok (.ireturn, 1) := by decide +kernel
theorem dX9_spanFrom_0 : decode cX9_spanFrom 0 = .ok (.aload_n 0, 1) := by decide +kernel
theorem dX9_spanFrom_1 : decode cX9_spanFrom 1 = .ok (.iload_n 1, 1) := by decide +kernel
theorem dX9_spanFrom_2 : decode cX9_spanFrom 2 = .ok (.iload_n 2, 1) := by decide +kernel
theorem dX9_spanFrom_3 : decode cX9_spanFrom 3 = .ok (.iload_n 3, 1) := by decide +kernel
theorem dX9_spanFrom_4 : decode cX9_spanFrom 4 = .ok (.iload 4, 2) := by decide +kernel
theorem dX9_spanFrom_6 : decode cX9_spanFrom 6 = .ok (.invokevirtual 206, 3) := by decide +kernel
theorem dX9_spanFrom_9 : decode cX9_spanFrom 9 = .ok (.ifCond .eq 5, 3) := by decide +kernel
theorem dX9_spanFrom_12 : decode cX9_spanFrom 12 = .ok (.iconst 0, 1) := by decide +kernel
theorem dX9_spanFrom_13 : decode cX9_spanFrom 13 = .ok (.ireturn, 1) := by decide +kernel
theorem dX9_spanFrom_14 : decode cX9_spanFrom 14 = .ok (.iload_n 3, 1) := by decide +kernel
theorem dX9_spanFrom_15 : decode cX9_spanFrom 15 = .ok (.istore 5, 2) := by decide +kernel
theorem dX9_spanFrom_17 : decode cX9_spanFrom 17 = .ok (.iload 5, 2) := by decide +kernel
theorem dX9_spanFrom_19 : decode cX9_spanFrom 19 = .ok (.ifCond .le 24, 3) := by decide +kernel
theorem dX9_spanFrom_22 : decode cX9_spanFrom 22 = .ok (.aload_n 0, 1) := by decide +kernel
theorem dX9_spanFrom_23 : decode cX9_spanFrom 23 = .ok (.iload_n 1, 1) := by decide +kernel
theorem dX9_spanFrom_24 : decode cX9_spanFrom 24 = .ok (.iload_n 2, 1) := by decide +kernel
theorem dX9_spanFrom_25 : decode cX9_spanFrom 25 = .ok (.iload 5, 2) := by decide +kernel
theorem dX9_spanFrom_27 : decode cX9_spanFrom 27 = .ok (.iconst 1, 1) := by decide +kernel
theorem dX9_spanFrom_28 : decode cX9_spanFrom 28 = .ok (.isub, 1) := by decide +kernel
theorem dX9_spanFrom_29 : decode cX9_spanFrom 29 = .ok (.iload 4, 2) := by decide +kernel
theorem dX9_spanFrom_31 : decode cX9_spanFrom 31 = .ok (.invokevirtual 200, 3) := by decide +kernel
theorem dX9_spanFrom_34 : decode cX9_spanFrom 34 = .ok (.ifCond .eq 9, 3) := by decide +kernel
theorem dX9_spanFrom_37 : decode cX9_spanFrom 37 = .ok (.iinc 5 (-1), 3) := by decide +kernel
theorem dX9_spanFrom_40 : decode cX9_spanFrom 40 = .ok (.goto (-23), 3) := by decide +kernel
theorem dX9_spanFrom_43 : decode cX9_spanFrom 43 = .ok (.iload 5, 2) := by decide +kernel
theorem dX9_spanFrom_45 : decode cX9_spanFrom 45 = .ok (.ireturn, 1) := by decide +kernel
theorem dX9_spanTo_0 : decode cX9_spanTo 0 = .ok (.aload_n 0, 1) := by decide +kernel
theorem dX9_spanTo_1 : decode cX9_spanTo 1 = .ok (.iload_n 1, 1) := by decide +kernel
theorem dX9_spanTo_2 : decode cX9_spanTo 2 = .ok (.iload_n 2, 1) := by decide +kernel
theorem dX9_spanTo_3 : decode cX9_spanTo 3 = .ok (.iload_n 3, 1) := by decide +kernel
theorem dX9_spanTo_4 : decode cX9_spanTo 4 = .ok (.iload 4, 2) := by decide +kernel
theorem dX9_spanTo_6 : decode cX9_spanTo 6 = .ok (.invokevirtual 206, 3) := by decide +kernel
theorem dX9_spanTo_9 : decode cX9_spanTo 9 = .ok (.ifCond .eq 5, 3) := by decide +kernel
theorem dX9_spanTo_12 : decode cX9_spanTo 12 = .ok (.iconst 0, 1) := by decide +kernel
theorem dX9_spanTo_13 : decode cX9_spanTo 13 = .ok (.ireturn, 1) := by decide +kernel
theorem dX9_spanTo_14 : decode cX9_spanTo 14 = .ok (.iload_n 3, 1) := by decide +kernel
theorem dX9_spanTo_15 : decode cX9_spanTo 15 = .ok (.istore 5, 2) := by decide +kernel
theorem dX9_spanTo_17 : decode cX9_spanTo 17 = .ok (.iload 5, 2) := by decide +kernel
theorem dX9_spanTo_19 : decode cX9_spanTo 19 = .ok (.bipush 23, 2) := by decide +kernel
theorem dX9_spanTo_21 : decode cX9_spanTo 21 = .ok (.if_icmp .ge 24, 3) := by decide +kernel
theorem dX9_spanTo_24 : decode cX9_spanTo 24 = .ok (.aload_n 0, 1) := by decide +kernel
theorem dX9_spanTo_25 : decode cX9_spanTo 25 = .ok (.iload_n 1, 1) := by decide +kernel
theorem dX9_spanTo_26 : decode cX9_spanTo 26 = .ok (.iload_n 2, 1) := by decide +kernel
theorem dX9_spanTo_27 : decode cX9_spanTo 27 = .ok (.iload 5, 2) := by decide +kernel
theorem dX9_spanTo_29 : decode cX9_spanTo 29 = .ok (.iconst 1, 1) := by decide +kernel
theorem dX9_spanTo_30 : decode cX9_spanTo 30 = .ok (.iadd, 1) := by decide +kernel
theorem dX9_spanTo_31 : decode cX9_spanTo 31 = .ok (.iload 4, 2) := by decide +kernel
theorem dX9_spanTo_33 : decode cX9_spanTo 33 = .ok (.invokevirtual 200, 3) := by decide +kernel
theorem dX9_spanTo_36 : decode cX9_spanTo 36 = .ok (.ifCond .eq 9, 3) := by decide +kernel
theorem dX9_spanTo_39 : decode cX9_spanTo 39 = .ok (.iinc 5 1, 3) := by decide +kernel
theorem dX9_spanTo_42 : decode cX9_spanTo 42 = .ok (.goto (-25), 3) := by decide +kernel
theorem dX9_spanTo_45 : decode cX9_spanTo 45 = .ok (.iload 5, 2) := by decide +kernel
theorem dX9_spanTo_47 : decode cX9_spanTo 47 = .ok (.ireturn, 1) := by decide +kernel
theorem dX9_since_0 : decode cX9_since 0 = .ok (.aload_n 0, 1) := by decide +kernel
theorem dX9_since_1 : decode cX9_since 1 = .ok (.iload_n 1, 1) := by decide +kernel
theorem dX9_since_2 : decode cX9_since 2 = .ok (.invokevirtual 160, 3) := by decide +kernel
theorem dX9_since_5 : decode cX9_since 5 = .ok (.ifCond .ne 37, 3) := by decide +kernel
theorem dX9_since_8 : decode cX9_since 8 = .ok (.aload_n 0, 1) := by decide +kernel
theorem dX9_since_9 : decode cX9_since 9 = .ok (.iload_n 2, 1) := by decide +kernel
theorem dX9_since_10 : decode cX9_since 10 = .ok (.iconst 0, 1) := by decide +kernel
theorem dX9_since_11 : decode cX9_since 11 = .ok (.bipush 23, 2) := by decide +kernel
theorem dX9_since_13 : decode cX9_since 13 = .ok (.invokestatic 99, 3) := by decide +kernel
theorem dX9_since_16 : decode cX9_since 16 = .ok (.ifCond .eq 14, 3) := by decide +kernel
theorem dX9_since_19 : decode cX9_since 19 = .ok (.iload_n 3, 1) := by decide +kernel
theorem dX9_since_20 : decode cX9_since 20 = .ok (.iconst 0, 1) := by decide +kernel
theorem dX9_since_21 : decode cX9_since 21 = .ok (.sipush 383, 3) := by decide +kernel
theorem dX9_since_24 : decode cX9_since 24 = .ok (.invokestatic 99, 3) := by decide +kernel
theorem dX9_since_27 : decode cX9_since 27 = .ok (.ifCond .ne 7, 3) := by decide +kernel
theorem dX9_since_30 : decode cX9_since 30 = .ok (.iconst 1, 1) := by decide +kernel
theorem dX9_since_31 : decode cX9_since 31 = .ok (.goto 4, 3) := by decide +kernel
theorem dX9_since_34 : decode cX9_since 34 = .ok (.iconst 0, 1) := by decide +kernel
theorem dX9_since_35 : decode cX9_since 35 = .ok (.iconst 2, 1) := by decide +kernel
theorem dX9_since_36 : decode cX9_since 36 = .ok (.invokevirtual 103, 3) := by decide +kernel
theorem dX9_since_39 : decode cX9_since 39 = .ok (.ifCond .eq 5, 3) := by decide +kernel
theorem dX9_since_42 : decode cX9_since 42 = .ok (.iconst 0, 1) := by decide +kernel
theorem dX9_since_43 : decode cX9_since 43 = .ok (.ireturn, 1) := by decide +kernel
theorem dX9_since_44 : decode cX9_since 44 = .ok (.aload_n 0, 1) := by decide +kernel
theorem dX9_since_45 : decode cX9_since 45 = .ok (.getfield 33, 3) := by decide +kernel
theorem dX9_since_48 : decode cX9_since 48 = .ok (.iload_n 1, 1) := by decide +kernel
theorem dX9_since_49 : decode cX9_since 49 = .ok (.iaload, 1) := by decide +kernel
theorem dX9_since_50 : decode cX9_since 50 = .ok (.istore 4, 2) := by decide +kernel
theorem dX9_since_52 : decode cX9_since 52 = .ok (.aload_n 0, 1) := by decide +kernel
theorem dX9_since_53 : decode cX9_since 53 = .ok (.iload_n 1, 1) := by decide +kernel
theorem dX9_since_54 : decode cX9_since 54 = .ok (.iload 4, 2) := by decide +kernel
theorem dX9_since_56 : decode cX9_since 56 = .ok (.iload_n 2, 1) := by decide +kernel
theorem dX9_since_57 : decode cX9_since 57 = .ok (.iload_n 3, 1) := by decide +kernel
theorem dX9_since_58 : decode cX9_since 58 = .ok (.invokevirtual 200, 3) := by decide +kernel
theorem dX9_since_61 : decode cX9_since 61 = .ok (.istore 5, 2) := by decide +kernel
theorem dX9_since_63 : decode cX9_since 63 = .ok (.iload 4, 2) := by decide +kernel
theorem dX9_since_65 : decode cX9_since 65 = .ok (.ifCond .le 25, 3) := by decide +kernel
theorem dX9_since_68 : decode cX9_since 68 = .ok (.aload_n 0, 1) := by decide +kernel
theorem dX9_since_69 : decode cX9_since 69 = .ok (.iload_n 1, 1) := by decide +kernel
theorem dX9_since_70 : decode cX9_since 70 = .ok (.iload 4, 2) := by decide +kernel
theorem dX9_since_72 : decode cX9_since 72 = .ok (.iconst 1, 1) := by decide +kernel
theorem dX9_since_73 : decode cX9_since 73 = .ok (.isub, 1) := by decide +kernel
theorem dX9_since_74 : decode cX9_since 74 = .ok (.iload_n 2, 1) := by decide +kernel
theorem dX9_since_75 : decode cX9_since 75 = .ok (.iload_n 3, 1) := by decide +kernel
theorem dX9_since_76 : decode cX9_since 76 = .ok (.invokevirtual 200, 3) := by decide +kernel
theorem dX9_since_79 : decode cX9_since 79 = .ok (.iload 5, 2) := by decide +kernel
theorem dX9_since_81 : decode cX9_since 81 = .ok (.if_icmp .ne 9, 3) := by decide +kernel
theorem dX9_since_84 : decode cX9_since 84 = .ok (.iinc 4 (-1), 3) := by decide +kernel
theorem dX9_since_87 : decode cX9_since 87 = .ok (.goto (-24), 3) := by decide +kernel
theorem dX9_since_90 : decode cX9_since 90 = .ok (.iload 4, 2) := by decide +kernel
theorem dX9_since_92 : decode cX9_since 92 = .ok (.ireturn, 1) := by decide +kernel
theorem dX9_rank_0 : decode cX9_rank 0 = .ok (.aload_n 0, 1) := by decide +kernel
theorem dX9_rank_1 : decode cX9_rank 1 = .ok (.iload_n 1, 1) := by decide +kernel
theorem dX9_rank_2 : decode cX9_rank 2 = .ok (.iload_n 2, 1) := by decide +kernel
theorem dX9_rank_3 : decode cX9_rank 3 = .ok (.iload_n 3, 1) := by decide +kernel
theorem dX9_rank_4 : decode cX9_rank 4 = .ok (.iload 4, 2) := by decide +kernel
theorem dX9_rank_6 : decode cX9_rank 6 = .ok (.invokevirtual 206, 3) := by decide +kernel
theorem dX9_rank_9 : decode cX9_rank 9 = .ok (.ifCond .eq 7, 3) := by decide +kernel
theorem dX9_rank_12 : decode cX9_rank 12 = .ok (.iconst 0, 1) := by decide +kernel
theorem dX9_rank_13 : decode cX9_rank 13 = .ok (.goto 10, 3) := by decide +kernel
theorem dX9_rank_16 : decode cX9_rank 16 = .ok (.aload_n 0, 1) := by decide +kernel
theorem dX9_rank_17 : decode cX9_rank 17 = .ok (.getfield 87, 3) := by decide +kernel
theorem dX9_rank_20 : decode cX9_rank 20 = .ok (.iload 4, 2) := by decide +kernel
theorem dX9_rank_22 : decode cX9_rank 22 = .ok (.iaload, 1) := by decide +kernel
theorem dX9_rank_23 : decode cX9_rank 23 = .ok (.ireturn, 1) := by decide +kernel
theorem dX9_because_0 : decode cX9_because 0 = .ok (.aload_n 0, 1) := by decide +kernel
theorem dX9_because_1 : decode cX9_because 1 = .ok (.getfield 87, 3) := by decide +kernel
theorem dX9_because_4 : decode cX9_because 4 = .ok (.iload_n 1, 1) := by decide +kernel
theorem dX9_because_5 : decode cX9_because 5 = .ok (.iaload, 1) := by decide +kernel
theorem dX9_because_6 : decode cX9_because 6 = .ok (.ifCond .ne 5, 3) := by decide +kernel
theorem dX9_because_9 : decode cX9_because 9 = .ok (.iconst (-1), 1) := by decide +kernel
theorem dX9_because_10 : decode cX9_because 10 = .ok (.ireturn, 1) := by decide +kernel
theorem dX9_because_11 : decode cX9_because 11 = .ok (.iconst 0, 1) := by decide +kernel
theorem dX9_because_12 : decode cX9_because 12 = .ok (.istore_n 2, 1) := by decide +kernel
theorem dX9_because_13 : decode cX9_because 13 = .ok (.iload_n 2, 1) := by decide +kernel
theorem dX9_because_14 : decode cX9_because 14 = .ok (.aload_n 0, 1) := by decide +kernel
theorem dX9_because_15 : decode cX9_because 15 = .ok (.getfield 111, 3) := by decide +kernel
theorem dX9_because_18 : decode cX9_because 18 = .ok (.if_icmp .ge 162, 3) := by decide +kernel
theorem dX9_because_21 : decode cX9_because 21 = .ok (.aload_n 0, 1) := by decide +kernel
theorem dX9_because_22 : decode cX9_because 22 = .ok (.iload_n 2, 1) := by decide +kernel
theorem dX9_because_23 : decode cX9_because 23 = .ok (.iconst 0, 1) := by decide +kernel
theorem dX9_because_24 : decode cX9_because 24 = .ok (.invokevirtual 131, 3) := by decide +kernel
theorem dX9_because_27 : decode cX9_because 27 = .ok (.istore_n 3, 1) := by decide +kernel
theorem dX9_because_28 : decode cX9_because 28 = .ok (.aload_n 0, 1) := by decide +kernel
theorem dX9_because_29 : decode cX9_because 29 = .ok (.iload_n 2, 1) := by decide +kernel
theorem dX9_because_30 : decode cX9_because 30 = .ok (.iconst 1, 1) := by decide +kernel
theorem dX9_because_31 : decode cX9_because 31 = .ok (.invokevirtual 131, 3) := by decide +kernel
theorem dX9_because_34 : decode cX9_because 34 = .ok (.istore 4, 2) := by decide +kernel
theorem dX9_because_36 : decode cX9_because 36 = .ok (.aload_n 0, 1) := by decide +kernel
theorem dX9_because_37 : decode cX9_because 37 = .ok (.iload_n 2, 1) := by decide +kernel
theorem dX9_because_38 : decode cX9_because 38 = .ok (.iconst 2, 1) := by decide +kernel
theorem dX9_because_39 : decode cX9_because 39 = .ok (.invokevirtual 131, 3) := by decide +kernel
theorem dX9_because_42 : decode cX9_because 42 = .ok (.istore 5, 2) := by decide +kernel
theorem dX9_because_44 : decode cX9_because 44 = .ok (.iconst 0, 1) := by decide +kernel
theorem dX9_because_45 : decode cX9_because 45 = .ok (.istore 6, 2) := by decide +kernel
theorem dX9_because_47 : decode cX9_because 47 = .ok (.iload 6, 2) := by decide +kernel
theorem dX9_because_49 : decode cX9_because 49 = .ok (.iload_n 3, 1) := by decide +kernel
theorem dX9_because_50 : decode cX9_because 50 = .ok (.iload 4, 2) := by decide +kernel
theorem dX9_because_52 : decode cX9_because 52 = .ok (.imul, 1) := by decide +kernel
theorem dX9_because_53 : decode cX9_because 53 = .ok (.iload 5, 2) := by decide +kernel
theorem dX9_because_55 : decode cX9_because 55 = .ok (.imul, 1) := by decide +kernel
theorem dX9_because_56 : decode cX9_because 56 = .ok (.if_icmp .ge 118, 3) := by decide +kernel
theorem dX9_because_59 : decode cX9_because 59 = .ok (.aload_n 0, 1) := by decide +kernel
theorem dX9_because_60 : decode cX9_because 60 = .ok (.getfield 81, 3) := by decide +kernel
theorem dX9_because_63 : decode cX9_because 63 = .ok (.iload_n 2, 1) := by decide +kernel
theorem dX9_because_64 : decode cX9_because 64 = .ok (.baload, 1) := by decide +kernel
theorem dX9_because_65 : decode cX9_because 65 = .ok (.ifCond .eq 109, 3) := by decide +kernel
theorem dX9_because_68 : decode cX9_because 68 = .ok (.aload_n 0, 1) := by decide +kernel
theorem dX9_because_69 : decode cX9_because 69 = .ok (.getfield 90, 3) := by decide +kernel
theorem dX9_because_72 : decode cX9_because 72 = .ok (.iconst 0, 1) := by decide +kernel
theorem dX9_because_73 : decode cX9_because 73 = .ok (.iload 6, 2) := by decide +kernel
theorem dX9_because_75 : decode cX9_because 75 = .ok (.iload 4, 2) := by decide +kernel
theorem dX9_because_77 : decode cX9_because 77 = .ok (.iload 5, 2) := by decide +kernel
theorem dX9_because_79 : decode cX9_because 79 = .ok (.imul, 1) := by decide +kernel
theorem dX9_because_80 : decode cX9_because 80 = .ok (.idiv, 1) := by decide +kernel
theorem dX9_because_81 : decode cX9_because 81 = .ok (.iastore, 1) := by decide +kernel
theorem dX9_because_82 : decode cX9_because 82 = .ok (.aload_n 0, 1) := by decide +kernel
theorem dX9_because_83 : decode cX9_because 83 = .ok (.getfield 90, 3) := by decide +kernel
theorem dX9_because_86 : decode cX9_because 86 = .ok (.iconst 1, 1) := by decide +kernel
theorem dX9_because_87 : decode cX9_because 87 = .ok (.iload 6, 2) := by decide +kernel
theorem dX9_because_89 : decode cX9_because 89 = .ok (.iload 5, 2) := by decide +kernel
theorem dX9_because_91 : decode cX9_because 91 = .ok (.idiv, 1) := by decide +kernel
theorem dX9_because_92 : decode cX9_because 92 = .ok (.iload 4, 2) := by decide +kernel
theorem dX9_because_94 : decode cX9_because 94 = .ok (.irem, 1) := by decide +kernel
theorem dX9_because_95 : decode cX9_because 95 = .ok (.iastore, 1) := by decide +kernel
theorem dX9_because_96 : decode cX9_because 96 = .ok (.aload_n 0, 1) := by decide +kernel
theorem dX9_because_97 : decode cX9_because 97 = .ok (.getfield 90, 3) := by decide +kernel
theorem dX9_because_100 : decode cX9_because 100 = .ok (.iconst 2, 1) := by decide +kernel
theorem dX9_because_101 : decode cX9_because 101 = .ok (.iload 6, 2) := by decide +kernel
theorem dX9_because_103 : decode cX9_because 103 = .ok (.iload 5, 2) := by decide +kernel
theorem dX9_because_105 : decode cX9_because 105 = .ok (.irem, 1) := by decide +kernel
theorem dX9_because_106 : decode cX9_because 106 = .ok (.iastore, 1) := by decide +kernel
theorem dX9_because_107 : decode cX9_because 107 = .ok (.aload_n 0, 1) := by decide +kernel
theorem dX9_because_108 : decode cX9_because 108 = .ok (.getfield 49, 3) := by decide +kernel
theorem dX9_because_111 : decode cX9_because 111 = .ok (.iconst 3, 1) := by decide +kernel
theorem dX9_because_112 : decode cX9_because 112 = .ok (.iload_n 2, 1) := by decide +kernel
theorem dX9_because_113 : decode cX9_because 113 = .ok (.imul, 1) := by decide +kernel
theorem dX9_because_114 : decode cX9_because 114 = .ok (.iaload, 1) := by decide +kernel
theorem dX9_because_115 : decode cX9_because 115 = .ok (.aload_n 0, 1) := by decide +kernel
theorem dX9_because_116 : decode cX9_because 116 = .ok (.getfield 90, 3) := by decide +kernel
theorem dX9_because_119 : decode cX9_because 119 = .ok (.aload_n 0, 1) := by decide +kernel
theorem dX9_because_120 : decode cX9_because 120 = .ok (.getfield 49, 3) := by decide +kernel
theorem dX9_because_123 : decode cX9_because 123 = .ok (.iconst 3, 1) := by decide +kernel
theorem dX9_because_124 : decode cX9_because 124 = .ok (.iload_n 2, 1) := by decide +kernel
theorem dX9_because_125 : decode cX9_because 125 = .ok (.imul, 1) := by decide +kernel
theorem dX9_because_126 : decode cX9_because 126 = .ok (.iconst 1, 1) := by decide +kernel
theorem dX9_because_127 : decode cX9_because 127 = .ok (.iadd, 1) := by decide +kernel
theorem dX9_because_128 : decode cX9_because 128 = .ok (.iaload, 1) := by decide +kernel
theorem dX9_because_129 : decode cX9_because 129 = .ok (.iaload, 1) := by decide +kernel
theorem dX9_because_130 : decode cX9_because 130 = .ok (.aload_n 0, 1) := by decide +kernel
theorem dX9_because_131 : decode cX9_because 131 = .ok (.getfield 90, 3) := by decide +kernel
theorem dX9_because_134 : decode cX9_because 134 = .ok (.aload_n 0, 1) := by decide +kernel
theorem dX9_because_135 : decode cX9_because 135 = .ok (.getfield 49, 3) := by decide +kernel
theorem dX9_because_138 : decode cX9_because 138 = .ok (.iconst 3, 1) := by decide +kernel
theorem dX9_because_139 : decode cX9_because 139 = .ok (.iload_n 2, 1) := by decide +kernel
theorem dX9_because_140 : decode cX9_because 140 = .ok (.imul, 1) := by decide +kernel
theorem dX9_because_141 : decode cX9_because 141 = .ok (.iconst 2, 1) := by decide +kernel
theorem dX9_because_142 : decode cX9_because 142 = .ok (.iadd, 1) := by decide +kernel
theorem dX9_because_143 : decode cX9_because 143 = .ok (.iaload, 1) := by decide +kernel
theorem dX9_because_144 : decode cX9_because 144 = .ok (.iaload, 1) := by decide +kernel
theorem dX9_because_145 : decode cX9_because 145 = .ok (.invokestatic 120, 3) := by decide +kernel
theorem dX9_because_148 : decode cX9_because 148 = .ok (.iload_n 1, 1) := by decide +kernel
theorem dX9_because_149 : decode cX9_because 149 = .ok (.if_icmp .ne 19, 3) := by decide +kernel
theorem dX9_because_152 : decode cX9_because 152 = .ok (.aload_n 0, 1) := by decide +kernel
theorem dX9_because_153 : decode cX9_because 153 = .ok (.iload_n 2, 1) := by decide +kernel
theorem dX9_because_154 : decode cX9_because 154 = .ok (.invokevirtual 134, 3) := by decide +kernel
theorem dX9_because_157 : decode cX9_because 157 = .ok (.aload_n 0, 1) := by decide +kernel
theorem dX9_because_158 : decode cX9_because 158 = .ok (.getfield 87, 3) := by decide +kernel
theorem dX9_because_161 : decode cX9_because 161 = .ok (.iload_n 1, 1) := by decide +kernel
theorem dX9_because_162 : decode cX9_because 162 = .ok (.iaload, 1) := by decide +kernel
theorem dX9_because_163 : decode cX9_because 163 = .ok (.if_icmp .ne 5, 3) := by decide +kernel
theorem dX9_because_166 : decode cX9_because 166 = .ok (.iload_n 2, 1) := by decide +kernel
theorem dX9_because_167 : decode cX9_because 167 = .ok (.ireturn, 1) := by decide +kernel
theorem dX9_because_168 : decode cX9_because 168 = .ok (.iinc 6 1, 3) := by decide +kernel
theorem dX9_because_171 : decode cX9_because 171 = .ok (.goto (-124), 3) := by decide +kernel
theorem dX9_because_174 : decode cX9_because 174 = .ok (.iinc 2 1, 3) := by decide +kernel
theorem dX9_because_177 : decode cX9_because 177 = .ok (.goto (-164), 3) := by decide +kernel
theorem dX9_because_180 : decode cX9_because 180 = .ok (.iconst (-1), 1) := by decide +kernel
theorem dX9_because_181 : decode cX9_because 181 = .ok (.ireturn, 1) := by decide +kernel
theorem dX9_reason_0 : decode cX9_reason 0 = .ok (.aload_n 0, 1) := by decide +kernel
theorem dX9_reason_1 : decode cX9_reason 1 = .ok (.iload_n 1, 1) := by decide +kernel
theorem dX9_reason_2 : decode cX9_reason 2 = .ok (.iload_n 2, 1) := by decide +kernel
theorem dX9_reason_3 : decode cX9_reason 3 = .ok (.iload_n 3, 1) := by decide +kernel
theorem dX9_reason_4 : decode cX9_reason 4 = .ok (.iload 4, 2) := by decide +kernel
theorem dX9_reason_6 : decode cX9_reason 6 = .ok (.invokevirtual 206, 3) := by decide +kernel
theorem dX9_reason_9 : decode cX9_reason 9 = .ok (.ifCond .eq 7, 3) := by decide +kernel
theorem dX9_reason_12 : decode cX9_reason 12 = .ok (.iconst 0, 1) := by decide +kernel
theorem dX9_reason_13 : decode cX9_reason 13 = .ok (.goto 9, 3) := by decide +kernel
theorem dX9_reason_16 : decode cX9_reason 16 = .ok (.aload_n 0, 1) := by decide +kernel
theorem dX9_reason_17 : decode cX9_reason 17 = .ok (.iload 4, 2) := by decide +kernel
theorem dX9_reason_19 : decode cX9_reason 19 = .ok (.invokevirtual 209, 3) := by decide +kernel
theorem dX9_reason_22 : decode cX9_reason 22 = .ok (.ireturn, 1) := by decide +kernel
theorem dX9_reasonFact_0 : decode cX9_reasonFact 0 = .ok (.aload_n 0, 1) := by decide +kernel
theorem dX9_reasonFact_1 : decode cX9_reasonFact 1 = .ok (.iload_n 1, 1) := by decide +kernel
theorem dX9_reasonFact_2 : decode cX9_reasonFact 2 = .ok (.iload_n 2, 1) := by decide +kernel
theorem dX9_reasonFact_3 : decode cX9_reasonFact 3 = .ok (.iload_n 3, 1) := by decide +kernel
theorem dX9_reasonFact_4 : decode cX9_reasonFact 4 = .ok (.iload 4, 2) := by decide +kernel
theorem dX9_reasonFact_6 : decode cX9_reasonFact 6 = .ok (.invokevirtual 206, 3) := by decide +kernel
theorem dX9_reasonFact_9 : decode cX9_reasonFact 9 = .ok (.ifCond .eq 5, 3) := by decide +kernel
theorem dX9_reasonFact_12 : decode cX9_reasonFact 12 = .ok (.iconst 0, 1) := by decide +kernel
theorem dX9_reasonFact_13 : decode cX9_reasonFact 13 = .ok (.ireturn, 1) := by decide +kernel
theorem dX9_reasonFact_14 : decode cX9_reasonFact 14 = .ok (.aload_n 0, 1) := by decide +kernel
theorem dX9_reasonFact_15 : decode cX9_reasonFact 15 = .ok (.iload 4, 2) := by decide +kernel
theorem dX9_reasonFact_17 : decode cX9_reasonFact 17 = .ok (.invokevirtual 209, 3) := by decide +kernel
theorem dX9_reasonFact_20 : decode cX9_reasonFact 20 = .ok (.istore 6, 2) := by decide +kernel
theorem dX9_reasonFact_22 : decode cX9_reasonFact 22 = .ok (.iload 5, 2) := by decide +kernel
theorem dX9_reasonFact_24 : decode cX9_reasonFact 24 = .ok (.istore 7, 2) := by decide +kernel
theorem dX9_reasonFact_26 : decode cX9_reasonFact 26 = .ok (.iconst 0, 1) := by decide +kernel
theorem dX9_reasonFact_27 : decode cX9_reasonFact 27 = .ok (.istore 8, 2) := by decide +kernel
theorem dX9_reasonFact_29 : decode cX9_reasonFact 29 = .ok (.iload 6, 2) := by decide +kernel
theorem dX9_reasonFact_31 : decode cX9_reasonFact 31 = .ok (.ifCond .lt 75, 3) := by decide +kernel
theorem dX9_reasonFact_34 : decode cX9_reasonFact 34 = .ok (.iload 8, 2) := by decide +kernel
theorem dX9_reasonFact_36 : decode cX9_reasonFact 36 = .ok (.aload_n 0, 1) := by decide +kernel
theorem dX9_reasonFact_37 : decode cX9_reasonFact 37 = .ok (.getfield 55, 3) := by decide +kernel
theorem dX9_reasonFact_40 : decode cX9_reasonFact 40 = .ok (.iload 6, 2) := by decide +kernel
theorem dX9_reasonFact_42 : decode cX9_reasonFact 42 = .ok (.iaload, 1) := by decide +kernel
theorem dX9_reasonFact_43 : decode cX9_reasonFact 43 = .ok (.if_icmp .ge 63, 3) := by decide +kernel
theorem dX9_reasonFact_46 : decode cX9_reasonFact 46 = .ok (.aload_n 0, 1) := by decide +kernel
theorem dX9_reasonFact_47 : decode cX9_reasonFact 47 = .ok (.getfield 58, 3) := by decide +kernel
theorem dX9_reasonFact_50 : decode cX9_reasonFact 50 = .ok (.iconst 3, 1) := by decide +kernel
theorem dX9_reasonFact_51 : decode cX9_reasonFact 51 = .ok (.iload 6, 2) := by decide +kernel
theorem dX9_reasonFact_53 : decode cX9_reasonFact 53 = .ok (.imul, 1) := by decide +kernel
theorem dX9_reasonFact_54 : decode cX9_reasonFact 54 = .ok (.iload 8, 2) := by decide +kernel
theorem dX9_reasonFact_56 : decode cX9_reasonFact 56 = .ok (.iadd, 1) := by decide +kernel
theorem dX9_reasonFact_57 : decode cX9_reasonFact 57 = .ok (.baload, 1) := by decide +kernel
theorem dX9_reasonFact_58 : decode cX9_reasonFact 58 = .ok (.ifCond .ne 17, 3) := by decide +kernel
theorem dX9_reasonFact_61 : decode cX9_reasonFact 61 = .ok (.iload 7, 2) := by decide +kernel
theorem dX9_reasonFact_63 : decode cX9_reasonFact 63 = .ok (.ifCond .ne 12, 3) := by decide +kernel
theorem dX9_reasonFact_66 : decode cX9_reasonFact 66 = .ok (.aload_n 0, 1) := by decide +kernel
theorem dX9_reasonFact_67 : decode cX9_reasonFact 67 = .ok (.iload 6, 2) := by decide +kernel
theorem dX9_reasonFact_69 : decode cX9_reasonFact 69 = .ok (.iload 8, 2) := by decide +kernel
theorem dX9_reasonFact_71 : decode cX9_reasonFact 71 = .ok (.invokevirtual 124, 3) := by decide +kernel
theorem dX9_reasonFact_74 : decode cX9_reasonFact 74 = .ok (.ireturn, 1) := by decide +kernel
theorem dX9_reasonFact_75 : decode cX9_reasonFact 75 = .ok (.iload 7, 2) := by decide +kernel
theorem dX9_reasonFact_77 : decode cX9_reasonFact 77 = .ok (.aload_n 0, 1) := by decide +kernel
theorem dX9_reasonFact_78 : decode cX9_reasonFact 78 = .ok (.getfield 58, 3) := by decide +kernel
theorem dX9_reasonFact_81 : decode cX9_reasonFact 81 = .ok (.iconst 3, 1) := by decide +kernel
theorem dX9_reasonFact_82 : decode cX9_reasonFact 82 = .ok (.iload 6, 2) := by decide +kernel
theorem dX9_reasonFact_84 : decode cX9_reasonFact 84 = .ok (.imul, 1) := by decide +kernel
theorem dX9_reasonFact_85 : decode cX9_reasonFact 85 = .ok (.iload 8, 2) := by decide +kernel
theorem dX9_reasonFact_87 : decode cX9_reasonFact 87 = .ok (.iadd, 1) := by decide +kernel
theorem dX9_reasonFact_88 : decode cX9_reasonFact 88 = .ok (.baload, 1) := by decide +kernel
theorem dX9_reasonFact_89 : decode cX9_reasonFact 89 = .ok (.ifCond .eq 7, 3) := by decide +kernel
theorem dX9_reasonFact_92 : decode cX9_reasonFact 92 = .ok (.iconst 0, 1) := by decide +kernel
theorem dX9_reasonFact_93 : decode cX9_reasonFact 93 = .ok (.goto 4, 3) := by decide +kernel
theorem dX9_reasonFact_96 : decode cX9_reasonFact 96 = .ok (.iconst 1, 1) := by decide +kernel
theorem dX9_reasonFact_97 : decode cX9_reasonFact 97 = .ok (.isub, 1) := by decide +kernel
theorem dX9_reasonFact_98 : decode cX9_reasonFact 98 = .ok (.istore 7, 2) := by decide +kernel
theorem dX9_reasonFact_100 : decode cX9_reasonFact 100 = .ok (.iinc 8 1, 3) := by decide +kernel
theorem dX9_reasonFact_103 : decode cX9_reasonFact 103 = .ok (.goto (-74), 3) := by decide +kernel
theorem dX9_reasonFact_106 : decode cX9_reasonFact 106 = .ok (.aload_n 0, 1) := by decide +kernel
theorem dX9_reasonFact_107 : decode cX9_reasonFact 107 = .ok (.iconst 1, 1) := by decide +kernel
theorem dX9_reasonFact_108 : decode cX9_reasonFact 108 = .ok (.iconst 3, 1) := by decide +kernel
theorem dX9_reasonFact_109 : decode cX9_reasonFact 109 = .ok (.invokevirtual 103, 3) := by decide +kernel
theorem dX9_reasonFact_112 : decode cX9_reasonFact 112 = .ok (.pop, 1) := by decide +kernel
theorem dX9_reasonFact_113 : decode cX9_reasonFact 113 = .ok (.iconst 0, 1) := by decide +kernel
theorem dX9_reasonFact_114 : decode cX9_reasonFact 114 = .ok (.ireturn, 1) := by decide +kernel
theorem dX9_proof_0 : decode cX9_proof 0 = .ok (.aload_n 0, 1) := by decide +kernel
theorem dX9_proof_1 : decode cX9_proof 1 = .ok (.iload_n 1, 1) := by decide +kernel
theorem dX9_proof_2 : decode cX9_proof 2 = .ok (.iload_n 2, 1) := by decide +kernel
theorem dX9_proof_3 : decode cX9_proof 3 = .ok (.iload_n 3, 1) := by decide +kernel
theorem dX9_proof_4 : decode cX9_proof 4 = .ok (.iload 4, 2) := by decide +kernel
theorem dX9_proof_6 : decode cX9_proof 6 = .ok (.invokevirtual 206, 3) := by decide +kernel
theorem dX9_proof_9 : decode cX9_proof 9 = .ok (.ifCond .eq 5, 3) := by decide +kernel
theorem dX9_proof_12 : decode cX9_proof 12 = .ok (.iconst 0, 1) := by decide +kernel
theorem dX9_proof_13 : decode cX9_proof 13 = .ok (.ireturn, 1) := by decide +kernel
theorem dX9_proof_14 : decode cX9_proof 14 = .ok (.sipush 384, 3) := by decide +kernel
theorem dX9_proof_17 : decode cX9_proof 17 = .ok (.newarray .boolean, 2) := by decide +kernel
theorem dX9_proof_19 : decode cX9_proof 19 = .ok (.astore 5, 2) := by decide +kernel
theorem dX9_proof_21 : decode cX9_proof 21 = .ok (.aload 5, 2) := by decide +kernel
theorem dX9_proof_23 : decode cX9_proof 23 = .ok (.iload 4, 2) := by decide +kernel
theorem dX9_proof_25 : decode cX9_proof 25 = .ok (.iconst 1, 1) := by decide +kernel
theorem dX9_proof_26 : decode cX9_proof 26 = .ok (.bastore, 1) := by decide +kernel
theorem dX9_proof_27 : decode cX9_proof 27 = .ok (.iconst 0, 1) := by decide +kernel
theorem dX9_proof_28 : decode cX9_proof 28 = .ok (.istore 6, 2) := by decide +kernel
theorem dX9_proof_30 : decode cX9_proof 30 = .ok (.aload_n 0, 1) := by decide +kernel
theorem dX9_proof_31 : decode cX9_proof 31 = .ok (.getfield 87, 3) := by decide +kernel
theorem dX9_proof_34 : decode cX9_proof 34 = .ok (.iload 4, 2) := by decide +kernel
theorem dX9_proof_36 : decode cX9_proof 36 = .ok (.iaload, 1) := by decide +kernel
theorem dX9_proof_37 : decode cX9_proof 37 = .ok (.istore 7, 2) := by decide +kernel
theorem dX9_proof_39 : decode cX9_proof 39 = .ok (.iload 7, 2) := by decide +kernel
theorem dX9_proof_41 : decode cX9_proof 41 = .ok (.ifCond .lt 117, 3) := by decide +kernel
theorem dX9_proof_44 : decode cX9_proof 44 = .ok (.iconst 0, 1) := by decide +kernel
theorem dX9_proof_45 : decode cX9_proof 45 = .ok (.istore 8, 2) := by decide +kernel
theorem dX9_proof_47 : decode cX9_proof 47 = .ok (.iload 8, 2) := by decide +kernel
theorem dX9_proof_49 : decode cX9_proof 49 = .ok (.sipush 384, 3) := by decide +kernel
theorem dX9_proof_52 : decode cX9_proof 52 = .ok (.if_icmp .ge 100, 3) := by decide +kernel
theorem dX9_proof_55 : decode cX9_proof 55 = .ok (.aload 5, 2) := by decide +kernel
theorem dX9_proof_57 : decode cX9_proof 57 = .ok (.iload 8, 2) := by decide +kernel
theorem dX9_proof_59 : decode cX9_proof 59 = .ok (.baload, 1) := by decide +kernel
theorem dX9_proof_60 : decode cX9_proof 60 = .ok (.ifCond .eq 86, 3) := by decide +kernel
theorem dX9_proof_63 : decode cX9_proof 63 = .ok (.aload_n 0, 1) := by decide +kernel
theorem dX9_proof_64 : decode cX9_proof 64 = .ok (.getfield 87, 3) := by decide +kernel
theorem dX9_proof_67 : decode cX9_proof 67 = .ok (.iload 8, 2) := by decide +kernel
theorem dX9_proof_69 : decode cX9_proof 69 = .ok (.iaload, 1) := by decide +kernel
theorem dX9_proof_70 : decode cX9_proof 70 = .ok (.iload 7, 2) := by decide +kernel
theorem dX9_proof_72 : decode cX9_proof 72 = .ok (.if_icmp .ne 74, 3) := by decide +kernel
theorem dX9_proof_75 : decode cX9_proof 75 = .ok (.iinc 6 1, 3) := by decide +kernel
theorem dX9_proof_78 : decode cX9_proof 78 = .ok (.aload_n 0, 1) := by decide +kernel
theorem dX9_proof_79 : decode cX9_proof 79 = .ok (.iload 8, 2) := by decide +kernel
theorem dX9_proof_81 : decode cX9_proof 81 = .ok (.invokevirtual 209, 3) := by decide +kernel
theorem dX9_proof_84 : decode cX9_proof 84 = .ok (.istore 9, 2) := by decide +kernel
theorem dX9_proof_86 : decode cX9_proof 86 = .ok (.iconst 0, 1) := by decide +kernel
theorem dX9_proof_87 : decode cX9_proof 87 = .ok (.istore 10, 2) := by decide +kernel
theorem dX9_proof_89 : decode cX9_proof 89 = .ok (.iload 9, 2) := by decide +kernel
theorem dX9_proof_91 : decode cX9_proof 91 = .ok (.ifCond .lt 55, 3) := by decide +kernel
theorem dX9_proof_94 : decode cX9_proof 94 = .ok (.iload 10, 2) := by decide +kernel
theorem dX9_proof_96 : decode cX9_proof 96 = .ok (.aload_n 0, 1) := by decide +kernel
theorem dX9_proof_97 : decode cX9_proof 97 = .ok (.getfield 55, 3) := by decide +kernel
theorem dX9_proof_100 : decode cX9_proof 100 = .ok (.iload 9, 2) := by decide +kernel
theorem dX9_proof_102 : decode cX9_proof 102 = .ok (.iaload, 1) := by decide +kernel
theorem dX9_proof_103 : decode cX9_proof 103 = .ok (.if_icmp .ge 43, 3) := by decide +kernel
theorem dX9_proof_106 : decode cX9_proof 106 = .ok (.aload 5, 2) := by decide +kernel
theorem dX9_proof_108 : decode cX9_proof 108 = .ok (.aload_n 0, 1) := by decide +kernel
theorem dX9_proof_109 : decode cX9_proof 109 = .ok (.iload 9, 2) := by decide +kernel
theorem dX9_proof_111 : decode cX9_proof 111 = .ok (.iload 10, 2) := by decide +kernel
theorem dX9_proof_113 : decode cX9_proof 113 = .ok (.invokevirtual 124, 3) := by decide +kernel
theorem dX9_proof_116 : decode cX9_proof 116 = .ok (.dup2, 1) := by decide +kernel
theorem dX9_proof_117 : decode cX9_proof 117 = .ok (.baload, 1) := by decide +kernel
theorem dX9_proof_118 : decode cX9_proof 118 = .ok (.aload_n 0, 1) := by decide +kernel
theorem dX9_proof_119 : decode cX9_proof 119 = .ok (.getfield 58, 3) := by decide +kernel
theorem dX9_proof_122 : decode cX9_proof 122 = .ok (.iconst 3, 1) := by decide +kernel
theorem dX9_proof_123 : decode cX9_proof 123 = .ok (.iload 9, 2) := by decide +kernel
theorem dX9_proof_125 : decode cX9_proof 125 = .ok (.imul, 1) := by decide +kernel
theorem dX9_proof_126 : decode cX9_proof 126 = .ok (.iload 10, 2) := by decide +kernel
theorem dX9_proof_128 : decode cX9_proof 128 = .ok (.iadd, 1) := by decide +kernel
theorem dX9_proof_129 : decode cX9_proof 129 = .ok (.baload, 1) := by decide +kernel
theorem dX9_proof_130 : decode cX9_proof 130 = .ok (.ifCond .ne 7, 3) := by decide +kernel
theorem dX9_proof_133 : decode cX9_proof 133 = .ok (.iconst 1, 1) := by decide +kernel
theorem dX9_proof_134 : decode cX9_proof 134 = .ok (.goto 4, 3) := by decide +kernel
theorem dX9_proof_137 : decode cX9_proof 137 = .ok (.iconst 0, 1) := by decide +kernel
theorem dX9_proof_138 : decode cX9_proof 138 = .ok (.ior, 1) := by decide +kernel
theorem dX9_proof_139 : decode cX9_proof 139 = .ok (.bastore, 1) := by decide +kernel
theorem dX9_proof_140 : decode cX9_proof 140 = .ok (.iinc 10 1, 3) := by decide +kernel
theorem dX9_proof_143 : decode cX9_proof 143 = .ok (.goto (-54), 3) := by decide +kernel
theorem dX9_proof_146 : decode cX9_proof 146 = .ok (.iinc 8 1, 3) := by decide +kernel
theorem dX9_proof_149 : decode cX9_proof 149 = .ok (.goto (-102), 3) := by decide +kernel
theorem dX9_proof_152 : decode cX9_proof 152 = .ok (.iinc 7 (-1), 3) := by decide +kernel
theorem dX9_proof_155 : decode cX9_proof 155 = .ok (.goto (-116), 3) := by decide +kernel
theorem dX9_proof_158 : decode cX9_proof 158 = .ok (.iload 6, 2) := by decide +kernel
theorem dX9_proof_160 : decode cX9_proof 160 = .ok (.ireturn, 1) := by decide +kernel
theorem dX9_forget_0 : decode cX9_forget 0 = .ok (.aload_n 0, 1) := by decide +kernel
theorem dX9_forget_1 : decode cX9_forget 1 = .ok (.iload_n 1, 1) := by decide +kernel
theorem dX9_forget_2 : decode cX9_forget 2 = .ok (.bipush 8, 2) := by decide +kernel
theorem dX9_forget_4 : decode cX9_forget 4 = .ok (.invokevirtual 157, 3) := by decide +kernel
theorem dX9_forget_7 : decode cX9_forget 7 = .ok (.ifCond .eq 5, 3) := by decide +kernel
theorem dX9_forget_10 : decode cX9_forget 10 = .ok (.iconst 0, 1) := by decide +kernel
theorem dX9_forget_11 : decode cX9_forget 11 = .ok (.ireturn, 1) := by decide +kernel
theorem dX9_forget_12 : decode cX9_forget 12 = .ok (.iconst 0, 1) := by decide +kernel
theorem dX9_forget_13 : decode cX9_forget 13 = .ok (.istore_n 2, 1) := by decide +kernel
theorem dX9_forget_14 : decode cX9_forget 14 = .ok (.iconst 0, 1) := by decide +kernel
theorem dX9_forget_15 : decode cX9_forget 15 = .ok (.istore_n 3, 1) := by decide +kernel
theorem dX9_forget_16 : decode cX9_forget 16 = .ok (.iload_n 3, 1) := by decide +kernel
theorem dX9_forget_17 : decode cX9_forget 17 = .ok (.aload_n 0, 1) := by decide +kernel
theorem dX9_forget_18 : decode cX9_forget 18 = .ok (.getfield 45, 3) := by decide +kernel
theorem dX9_forget_21 : decode cX9_forget 21 = .ok (.if_icmp .ge 123, 3) := by decide +kernel
theorem dX9_forget_24 : decode cX9_forget 24 = .ok (.iload_n 3, 1) := by decide +kernel
theorem dX9_forget_25 : decode cX9_forget 25 = .ok (.bipush 60, 2) := by decide +kernel
theorem dX9_forget_27 : decode cX9_forget 27 = .ok (.imul, 1) := by decide +kernel
theorem dX9_forget_28 : decode cX9_forget 28 = .ok (.istore 4, 2) := by decide +kernel
theorem dX9_forget_30 : decode cX9_forget 30 = .ok (.iload 4, 2) := by decide +kernel
theorem dX9_forget_32 : decode cX9_forget 32 = .ok (.iload_n 3, 1) := by decide +kernel
theorem dX9_forget_33 : decode cX9_forget 33 = .ok (.bipush 60, 2) := by decide +kernel
theorem dX9_forget_35 : decode cX9_forget 35 = .ok (.imul, 1) := by decide +kernel
theorem dX9_forget_36 : decode cX9_forget 36 = .ok (.aload_n 0, 1) := by decide +kernel
theorem dX9_forget_37 : decode cX9_forget 37 = .ok (.getfield 33, 3) := by decide +kernel
theorem dX9_forget_40 : decode cX9_forget 40 = .ok (.iload_n 3, 1) := by decide +kernel
theorem dX9_forget_41 : decode cX9_forget 41 = .ok (.iaload, 1) := by decide +kernel
theorem dX9_forget_42 : decode cX9_forget 42 = .ok (.iadd, 1) := by decide +kernel
theorem dX9_forget_43 : decode cX9_forget 43 = .ok (.if_icmp .ge 95, 3) := by decide +kernel
theorem dX9_forget_46 : decode cX9_forget 46 = .ok (.aload_n 0, 1) := by decide +kernel
theorem dX9_forget_47 : decode cX9_forget 47 = .ok (.getfield 9, 3) := by decide +kernel
theorem dX9_forget_50 : decode cX9_forget 50 = .ok (.iload 4, 2) := by decide +kernel
theorem dX9_forget_52 : decode cX9_forget 52 = .ok (.caload, 1) := by decide +kernel
