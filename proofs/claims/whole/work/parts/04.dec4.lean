theorem dX9_forget_53 : decode cX9_forget 53 = .ok (.invokestatic 107, 3) := by decide +kernel
theorem dX9_forget_56 : decode cX9_forget 56 = .ok (.ifCond .eq 48, 3) := by decide +kernel
theorem dX9_forget_59 : decode cX9_forget 59 = .ok (.aload_n 0, 1) := by decide +kernel
theorem dX9_forget_60 : decode cX9_forget 60 = .ok (.getfield 13, 3) := by decide +kernel
theorem dX9_forget_63 : decode cX9_forget 63 = .ok (.iload 4, 2) := by decide +kernel
theorem dX9_forget_65 : decode cX9_forget 65 = .ok (.iaload, 1) := by decide +kernel
theorem dX9_forget_66 : decode cX9_forget 66 = .ok (.bipush 8, 2) := by decide +kernel
theorem dX9_forget_68 : decode cX9_forget 68 = .ok (.idiv, 1) := by decide +kernel
theorem dX9_forget_69 : decode cX9_forget 69 = .ok (.bipush 8, 2) := by decide +kernel
theorem dX9_forget_71 : decode cX9_forget 71 = .ok (.irem, 1) := by decide +kernel
theorem dX9_forget_72 : decode cX9_forget 72 = .ok (.iload_n 1, 1) := by decide +kernel
theorem dX9_forget_73 : decode cX9_forget 73 = .ok (.if_icmp .eq 17, 3) := by decide +kernel
theorem dX9_forget_76 : decode cX9_forget 76 = .ok (.aload_n 0, 1) := by decide +kernel
theorem dX9_forget_77 : decode cX9_forget 77 = .ok (.getfield 13, 3) := by decide +kernel
theorem dX9_forget_80 : decode cX9_forget 80 = .ok (.iload 4, 2) := by decide +kernel
theorem dX9_forget_82 : decode cX9_forget 82 = .ok (.iaload, 1) := by decide +kernel
theorem dX9_forget_83 : decode cX9_forget 83 = .ok (.bipush 8, 2) := by decide +kernel
theorem dX9_forget_85 : decode cX9_forget 85 = .ok (.irem, 1) := by decide +kernel
theorem dX9_forget_86 : decode cX9_forget 86 = .ok (.iload_n 1, 1) := by decide +kernel
theorem dX9_forget_87 : decode cX9_forget 87 = .ok (.if_icmp .ne 17, 3) := by decide +kernel
theorem dX9_forget_90 : decode cX9_forget 90 = .ok (.aload_n 0, 1) := by decide +kernel
theorem dX9_forget_91 : decode cX9_forget 91 = .ok (.getfield 26, 3) := by decide +kernel
theorem dX9_forget_94 : decode cX9_forget 94 = .ok (.iload 4, 2) := by decide +kernel
theorem dX9_forget_96 : decode cX9_forget 96 = .ok (.baload, 1) := by decide +kernel
theorem dX9_forget_97 : decode cX9_forget 97 = .ok (.ifCond .ne 7, 3) := by decide +kernel
theorem dX9_forget_100 : decode cX9_forget 100 = .ok (.iconst 1, 1) := by decide +kernel
theorem dX9_forget_101 : decode cX9_forget 101 = .ok (.goto 4, 3) := by decide +kernel
theorem dX9_forget_104 : decode cX9_forget 104 = .ok (.iconst 0, 1) := by decide +kernel
theorem dX9_forget_105 : decode cX9_forget 105 = .ok (.istore 5, 2) := by decide +kernel
theorem dX9_forget_107 : decode cX9_forget 107 = .ok (.iload_n 2, 1) := by decide +kernel
theorem dX9_forget_108 : decode cX9_forget 108 = .ok (.iload 5, 2) := by decide +kernel
theorem dX9_forget_110 : decode cX9_forget 110 = .ok (.ifCond .eq 7, 3) := by decide +kernel
theorem dX9_forget_113 : decode cX9_forget 113 = .ok (.iconst 1, 1) := by decide +kernel
theorem dX9_forget_114 : decode cX9_forget 114 = .ok (.goto 4, 3) := by decide +kernel
theorem dX9_forget_117 : decode cX9_forget 117 = .ok (.iconst 0, 1) := by decide +kernel
theorem dX9_forget_118 : decode cX9_forget 118 = .ok (.iadd, 1) := by decide +kernel
theorem dX9_forget_119 : decode cX9_forget 119 = .ok (.istore_n 2, 1) := by decide +kernel
theorem dX9_forget_120 : decode cX9_forget 120 = .ok (.aload_n 0, 1) := by decide +kernel
theorem dX9_forget_121 : decode cX9_forget 121 = .ok (.getfield 26, 3) := by decide +kernel
theorem dX9_forget_124 : decode cX9_forget 124 = .ok (.iload 4, 2) := by decide +kernel
theorem dX9_forget_126 : decode cX9_forget 126 = .ok (.dup2, 1) := by decide +kernel
theorem dX9_forget_127 : decode cX9_forget 127 = .ok (.baload, 1) := by decide +kernel
theorem dX9_forget_128 : decode cX9_forget 128 = .ok (.iload 5, 2) := by decide +kernel
theorem dX9_forget_130 : decode cX9_forget 130 = .ok (.ior, 1) := by decide +kernel
theorem dX9_forget_131 : decode cX9_forget 131 = .ok (.bastore, 1) := by decide +kernel
theorem dX9_forget_132 : decode cX9_forget 132 = .ok (.iinc 4 1, 3) := by decide +kernel
theorem dX9_forget_135 : decode cX9_forget 135 = .ok (.goto (-105), 3) := by decide +kernel
theorem dX9_forget_138 : decode cX9_forget 138 = .ok (.iinc 3 1, 3) := by decide +kernel
theorem dX9_forget_141 : decode cX9_forget 141 = .ok (.goto (-125), 3) := by decide +kernel
theorem dX9_forget_144 : decode cX9_forget 144 = .ok (.iconst 0, 1) := by decide +kernel
theorem dX9_forget_145 : decode cX9_forget 145 = .ok (.istore_n 3, 1) := by decide +kernel
theorem dX9_forget_146 : decode cX9_forget 146 = .ok (.iload_n 3, 1) := by decide +kernel
theorem dX9_forget_147 : decode cX9_forget 147 = .ok (.aload_n 0, 1) := by decide +kernel
theorem dX9_forget_148 : decode cX9_forget 148 = .ok (.getfield 45, 3) := by decide +kernel
theorem dX9_forget_151 : decode cX9_forget 151 = .ok (.if_icmp .ge 14, 3) := by decide +kernel
theorem dX9_forget_154 : decode cX9_forget 154 = .ok (.aload_n 0, 1) := by decide +kernel
theorem dX9_forget_155 : decode cX9_forget 155 = .ok (.iload_n 3, 1) := by decide +kernel
theorem dX9_forget_156 : decode cX9_forget 156 = .ok (.invokevirtual 173, 3) := by decide +kernel
theorem dX9_forget_159 : decode cX9_forget 159 = .ok (.iinc 3 1, 3) := by decide +kernel
theorem dX9_forget_162 : decode cX9_forget 162 = .ok (.goto (-16), 3) := by decide +kernel
theorem dX9_forget_165 : decode cX9_forget 165 = .ok (.iload_n 2, 1) := by decide +kernel
theorem dX9_forget_166 : decode cX9_forget 166 = .ok (.ireturn, 1) := by decide +kernel
theorem dX9_isForgotten_0 : decode cX9_isForgotten 0 = .ok (.aload_n 0, 1) := by decide +kernel
theorem dX9_isForgotten_1 : decode cX9_isForgotten 1 = .ok (.iload_n 1, 1) := by decide +kernel
theorem dX9_isForgotten_2 : decode cX9_isForgotten 2 = .ok (.iconst 0, 1) := by decide +kernel
theorem dX9_isForgotten_3 : decode cX9_isForgotten 3 = .ok (.aload_n 0, 1) := by decide +kernel
theorem dX9_isForgotten_4 : decode cX9_isForgotten 4 = .ok (.getfield 45, 3) := by decide +kernel
theorem dX9_isForgotten_7 : decode cX9_isForgotten 7 = .ok (.iconst 1, 1) := by decide +kernel
theorem dX9_isForgotten_8 : decode cX9_isForgotten 8 = .ok (.isub, 1) := by decide +kernel
theorem dX9_isForgotten_9 : decode cX9_isForgotten 9 = .ok (.invokestatic 99, 3) := by decide +kernel
theorem dX9_isForgotten_12 : decode cX9_isForgotten 12 = .ok (.ifCond .eq 19, 3) := by decide +kernel
theorem dX9_isForgotten_15 : decode cX9_isForgotten 15 = .ok (.iload_n 2, 1) := by decide +kernel
theorem dX9_isForgotten_16 : decode cX9_isForgotten 16 = .ok (.iconst 0, 1) := by decide +kernel
theorem dX9_isForgotten_17 : decode cX9_isForgotten 17 = .ok (.aload_n 0, 1) := by decide +kernel
theorem dX9_isForgotten_18 : decode cX9_isForgotten 18 = .ok (.getfield 33, 3) := by decide +kernel
theorem dX9_isForgotten_21 : decode cX9_isForgotten 21 = .ok (.iload_n 1, 1) := by decide +kernel
theorem dX9_isForgotten_22 : decode cX9_isForgotten 22 = .ok (.iaload, 1) := by decide +kernel
theorem dX9_isForgotten_23 : decode cX9_isForgotten 23 = .ok (.iconst 1, 1) := by decide +kernel
theorem dX9_isForgotten_24 : decode cX9_isForgotten 24 = .ok (.isub, 1) := by decide +kernel
theorem dX9_isForgotten_25 : decode cX9_isForgotten 25 = .ok (.invokestatic 99, 3) := by decide +kernel
theorem dX9_isForgotten_28 : decode cX9_isForgotten 28 = .ok (.ifCond .ne 7, 3) := by decide +kernel
theorem dX9_isForgotten_31 : decode cX9_isForgotten 31 = .ok (.iconst 1, 1) := by decide +kernel
theorem dX9_isForgotten_32 : decode cX9_isForgotten 32 = .ok (.goto 4, 3) := by decide +kernel
theorem dX9_isForgotten_35 : decode cX9_isForgotten 35 = .ok (.iconst 0, 1) := by decide +kernel
theorem dX9_isForgotten_36 : decode cX9_isForgotten 36 = .ok (.iconst 1, 1) := by decide +kernel
theorem dX9_isForgotten_37 : decode cX9_isForgotten 37 = .ok (.invokevirtual 103, 3) := by decide +kernel
theorem dX9_isForgotten_40 : decode cX9_isForgotten 40 = .ok (.ifCond .ne 21, 3) := by decide +kernel
theorem dX9_isForgotten_43 : decode cX9_isForgotten 43 = .ok (.aload_n 0, 1) := by decide +kernel
theorem dX9_isForgotten_44 : decode cX9_isForgotten 44 = .ok (.getfield 26, 3) := by decide +kernel
theorem dX9_isForgotten_47 : decode cX9_isForgotten 47 = .ok (.iload_n 1, 1) := by decide +kernel
theorem dX9_isForgotten_48 : decode cX9_isForgotten 48 = .ok (.bipush 60, 2) := by decide +kernel
theorem dX9_isForgotten_50 : decode cX9_isForgotten 50 = .ok (.imul, 1) := by decide +kernel
theorem dX9_isForgotten_51 : decode cX9_isForgotten 51 = .ok (.iload_n 2, 1) := by decide +kernel
theorem dX9_isForgotten_52 : decode cX9_isForgotten 52 = .ok (.iadd, 1) := by decide +kernel
theorem dX9_isForgotten_53 : decode cX9_isForgotten 53 = .ok (.baload, 1) := by decide +kernel
theorem dX9_isForgotten_54 : decode cX9_isForgotten 54 = .ok (.ifCond .eq 7, 3) := by decide +kernel
theorem dX9_isForgotten_57 : decode cX9_isForgotten 57 = .ok (.iconst 1, 1) := by decide +kernel
theorem dX9_isForgotten_58 : decode cX9_isForgotten 58 = .ok (.goto 4, 3) := by decide +kernel
theorem dX9_isForgotten_61 : decode cX9_isForgotten 61 = .ok (.iconst 0, 1) := by decide +kernel
theorem dX9_isForgotten_62 : decode cX9_isForgotten 62 = .ok (.ireturn, 1) := by decide +kernel
theorem dX9_digest_0 : decode cX9_digest 0 = .ok (.aload_n 0, 1) := by decide +kernel
theorem dX9_digest_1 : decode cX9_digest 1 = .ok (.getfield 9, 3) := by decide +kernel
theorem dX9_digest_4 : decode cX9_digest 4 = .ok (.iload_n 1, 1) := by decide +kernel
theorem dX9_digest_5 : decode cX9_digest 5 = .ok (.caload, 1) := by decide +kernel
theorem dX9_digest_6 : decode cX9_digest 6 = .ok (.bipush 104, 2) := by decide +kernel
theorem dX9_digest_8 : decode cX9_digest 8 = .ok (.if_icmp .ne 9, 3) := by decide +kernel
theorem dX9_digest_11 : decode cX9_digest 11 = .ok (.ldc2_w 212, 3) := by decide +kernel
theorem dX9_digest_14 : decode cX9_digest 14 = .ok (.goto 40, 3) := by decide +kernel
theorem dX9_digest_17 : decode cX9_digest 17 = .ok (.aload_n 0, 1) := by decide +kernel
theorem dX9_digest_18 : decode cX9_digest 18 = .ok (.getfield 9, 3) := by decide +kernel
theorem dX9_digest_21 : decode cX9_digest 21 = .ok (.iload_n 1, 1) := by decide +kernel
theorem dX9_digest_22 : decode cX9_digest 22 = .ok (.caload, 1) := by decide +kernel
theorem dX9_digest_23 : decode cX9_digest 23 = .ok (.bipush 117, 2) := by decide +kernel
theorem dX9_digest_25 : decode cX9_digest 25 = .ok (.if_icmp .ne 9, 3) := by decide +kernel
theorem dX9_digest_28 : decode cX9_digest 28 = .ok (.ldc2_w 214, 3) := by decide +kernel
theorem dX9_digest_31 : decode cX9_digest 31 = .ok (.goto 23, 3) := by decide +kernel
theorem dX9_digest_34 : decode cX9_digest 34 = .ok (.aload_n 0, 1) := by decide +kernel
theorem dX9_digest_35 : decode cX9_digest 35 = .ok (.getfield 9, 3) := by decide +kernel
theorem dX9_digest_38 : decode cX9_digest 38 = .ok (.iload_n 1, 1) := by decide +kernel
theorem dX9_digest_39 : decode cX9_digest 39 = .ok (.caload, 1) := by decide +kernel
theorem dX9_digest_40 : decode cX9_digest 40 = .ok (.bipush 110, 2) := by decide +kernel
theorem dX9_digest_42 : decode cX9_digest 42 = .ok (.if_icmp .ne 9, 3) := by decide +kernel
theorem dX9_digest_45 : decode cX9_digest 45 = .ok (.ldc2_w 216, 3) := by decide +kernel
theorem dX9_digest_48 : decode cX9_digest 48 = .ok (.goto 6, 3) := by decide +kernel
theorem dX9_digest_51 : decode cX9_digest 51 = .ok (.ldc2_w 218, 3) := by decide +kernel
theorem dX9_digest_54 : decode cX9_digest 54 = .ok (.lstore_n 2, 1) := by decide +kernel
theorem dX9_digest_55 : decode cX9_digest 55 = .ok (.ldc2_w 220, 3) := by decide +kernel
theorem dX9_digest_58 : decode cX9_digest 58 = .ok (.lload_n 2, 1) := by decide +kernel
theorem dX9_digest_59 : decode cX9_digest 59 = .ok (.lmul, 1) := by decide +kernel
theorem dX9_digest_60 : decode cX9_digest 60 = .ok (.aload_n 0, 1) := by decide +kernel
theorem dX9_digest_61 : decode cX9_digest 61 = .ok (.getfield 13, 3) := by decide +kernel
theorem dX9_digest_64 : decode cX9_digest 64 = .ok (.iload_n 1, 1) := by decide +kernel
theorem dX9_digest_65 : decode cX9_digest 65 = .ok (.iaload, 1) := by decide +kernel
theorem dX9_digest_66 : decode cX9_digest 66 = .ok (.i2l, 1) := by decide +kernel
theorem dX9_digest_67 : decode cX9_digest 67 = .ok (.ladd, 1) := by decide +kernel
theorem dX9_digest_68 : decode cX9_digest 68 = .ok (.ldc2_w 222, 3) := by decide +kernel
theorem dX9_digest_71 : decode cX9_digest 71 = .ok (.lrem, 1) := by decide +kernel
theorem dX9_digest_72 : decode cX9_digest 72 = .ok (.lstore_n 2, 1) := by decide +kernel
theorem dX9_digest_73 : decode cX9_digest 73 = .ok (.aload_n 0, 1) := by decide +kernel
theorem dX9_digest_74 : decode cX9_digest 74 = .ok (.getfield 9, 3) := by decide +kernel
theorem dX9_digest_77 : decode cX9_digest 77 = .ok (.iload_n 1, 1) := by decide +kernel
theorem dX9_digest_78 : decode cX9_digest 78 = .ok (.caload, 1) := by decide +kernel
theorem dX9_digest_79 : decode cX9_digest 79 = .ok (.invokestatic 107, 3) := by decide +kernel
theorem dX9_digest_82 : decode cX9_digest 82 = .ok (.ifCond .eq 39, 3) := by decide +kernel
theorem dX9_digest_85 : decode cX9_digest 85 = .ok (.ldc2_w 220, 3) := by decide +kernel
theorem dX9_digest_88 : decode cX9_digest 88 = .ok (.lload_n 2, 1) := by decide +kernel
theorem dX9_digest_89 : decode cX9_digest 89 = .ok (.lmul, 1) := by decide +kernel
theorem dX9_digest_90 : decode cX9_digest 90 = .ok (.aload_n 0, 1) := by decide +kernel
theorem dX9_digest_91 : decode cX9_digest 91 = .ok (.getfield 17, 3) := by decide +kernel
theorem dX9_digest_94 : decode cX9_digest 94 = .ok (.iload_n 1, 1) := by decide +kernel
theorem dX9_digest_95 : decode cX9_digest 95 = .ok (.iaload, 1) := by decide +kernel
theorem dX9_digest_96 : decode cX9_digest 96 = .ok (.i2l, 1) := by decide +kernel
theorem dX9_digest_97 : decode cX9_digest 97 = .ok (.ladd, 1) := by decide +kernel
theorem dX9_digest_98 : decode cX9_digest 98 = .ok (.ldc2_w 222, 3) := by decide +kernel
theorem dX9_digest_101 : decode cX9_digest 101 = .ok (.lrem, 1) := by decide +kernel
theorem dX9_digest_102 : decode cX9_digest 102 = .ok (.lstore_n 2, 1) := by decide +kernel
theorem dX9_digest_103 : decode cX9_digest 103 = .ok (.ldc2_w 220, 3) := by decide +kernel
theorem dX9_digest_106 : decode cX9_digest 106 = .ok (.lload_n 2, 1) := by decide +kernel
theorem dX9_digest_107 : decode cX9_digest 107 = .ok (.lmul, 1) := by decide +kernel
theorem dX9_digest_108 : decode cX9_digest 108 = .ok (.aload_n 0, 1) := by decide +kernel
theorem dX9_digest_109 : decode cX9_digest 109 = .ok (.getfield 20, 3) := by decide +kernel
theorem dX9_digest_112 : decode cX9_digest 112 = .ok (.iload_n 1, 1) := by decide +kernel
theorem dX9_digest_113 : decode cX9_digest 113 = .ok (.iaload, 1) := by decide +kernel
theorem dX9_digest_114 : decode cX9_digest 114 = .ok (.i2l, 1) := by decide +kernel
theorem dX9_digest_115 : decode cX9_digest 115 = .ok (.ladd, 1) := by decide +kernel
theorem dX9_digest_116 : decode cX9_digest 116 = .ok (.ldc2_w 222, 3) := by decide +kernel
theorem dX9_digest_119 : decode cX9_digest 119 = .ok (.lrem, 1) := by decide +kernel
theorem dX9_digest_120 : decode cX9_digest 120 = .ok (.lstore_n 2, 1) := by decide +kernel
theorem dX9_digest_121 : decode cX9_digest 121 = .ok (.lload_n 2, 1) := by decide +kernel
theorem dX9_digest_122 : decode cX9_digest 122 = .ok (.l2i, 1) := by decide +kernel
theorem dX9_digest_123 : decode cX9_digest 123 = .ok (.ireturn, 1) := by decide +kernel
theorem dX9_seal_0 : decode cX9_seal 0 = .ok (.aload_n 0, 1) := by decide +kernel
theorem dX9_seal_1 : decode cX9_seal 1 = .ok (.iload_n 1, 1) := by decide +kernel
theorem dX9_seal_2 : decode cX9_seal 2 = .ok (.iload_n 2, 1) := by decide +kernel
theorem dX9_seal_3 : decode cX9_seal 3 = .ok (.invokevirtual 190, 3) := by decide +kernel
theorem dX9_seal_6 : decode cX9_seal 6 = .ok (.ifCond .eq 5, 3) := by decide +kernel
theorem dX9_seal_9 : decode cX9_seal 9 = .ok (.iconst 0, 1) := by decide +kernel
theorem dX9_seal_10 : decode cX9_seal 10 = .ok (.ireturn, 1) := by decide +kernel
theorem dX9_seal_11 : decode cX9_seal 11 = .ok (.lconst 1, 1) := by decide +kernel
theorem dX9_seal_12 : decode cX9_seal 12 = .ok (.lstore_n 3, 1) := by decide +kernel
theorem dX9_seal_13 : decode cX9_seal 13 = .ok (.iload_n 1, 1) := by decide +kernel
theorem dX9_seal_14 : decode cX9_seal 14 = .ok (.bipush 60, 2) := by decide +kernel
theorem dX9_seal_16 : decode cX9_seal 16 = .ok (.imul, 1) := by decide +kernel
theorem dX9_seal_17 : decode cX9_seal 17 = .ok (.istore 5, 2) := by decide +kernel
theorem dX9_seal_19 : decode cX9_seal 19 = .ok (.iload 5, 2) := by decide +kernel
theorem dX9_seal_21 : decode cX9_seal 21 = .ok (.iload_n 1, 1) := by decide +kernel
theorem dX9_seal_22 : decode cX9_seal 22 = .ok (.bipush 60, 2) := by decide +kernel
theorem dX9_seal_24 : decode cX9_seal 24 = .ok (.imul, 1) := by decide +kernel
theorem dX9_seal_25 : decode cX9_seal 25 = .ok (.iload_n 2, 1) := by decide +kernel
theorem dX9_seal_26 : decode cX9_seal 26 = .ok (.iadd, 1) := by decide +kernel
theorem dX9_seal_27 : decode cX9_seal 27 = .ok (.if_icmp .ge 27, 3) := by decide +kernel
theorem dX9_seal_30 : decode cX9_seal 30 = .ok (.ldc2_w 220, 3) := by decide +kernel
theorem dX9_seal_33 : decode cX9_seal 33 = .ok (.lload_n 3, 1) := by decide +kernel
theorem dX9_seal_34 : decode cX9_seal 34 = .ok (.lmul, 1) := by decide +kernel
theorem dX9_seal_35 : decode cX9_seal 35 = .ok (.aload_n 0, 1) := by decide +kernel
theorem dX9_seal_36 : decode cX9_seal 36 = .ok (.iload 5, 2) := by decide +kernel
theorem dX9_seal_38 : decode cX9_seal 38 = .ok (.invokevirtual 224, 3) := by decide +kernel
theorem dX9_seal_41 : decode cX9_seal 41 = .ok (.i2l, 1) := by decide +kernel
theorem dX9_seal_42 : decode cX9_seal 42 = .ok (.ladd, 1) := by decide +kernel
theorem dX9_seal_43 : decode cX9_seal 43 = .ok (.ldc2_w 222, 3) := by decide +kernel
theorem dX9_seal_46 : decode cX9_seal 46 = .ok (.lrem, 1) := by decide +kernel
theorem dX9_seal_47 : decode cX9_seal 47 = .ok (.lstore_n 3, 1) := by decide +kernel
theorem dX9_seal_48 : decode cX9_seal 48 = .ok (.iinc 5 1, 3) := by decide +kernel
theorem dX9_seal_51 : decode cX9_seal 51 = .ok (.goto (-32), 3) := by decide +kernel
theorem dX9_seal_54 : decode cX9_seal 54 = .ok (.lload_n 3, 1) := by decide +kernel
theorem dX9_seal_55 : decode cX9_seal 55 = .ok (.l2i, 1) := by decide +kernel
theorem dX9_seal_56 : decode cX9_seal 56 = .ok (.ireturn, 1) := by decide +kernel
theorem dX9_fork_0 : decode cX9_fork 0 = .ok (.aload_n 0, 1) := by decide +kernel
theorem dX9_fork_1 : decode cX9_fork 1 = .ok (.iload_n 1, 1) := by decide +kernel
theorem dX9_fork_2 : decode cX9_fork 2 = .ok (.iload_n 2, 1) := by decide +kernel
theorem dX9_fork_3 : decode cX9_fork 3 = .ok (.invokevirtual 190, 3) := by decide +kernel
theorem dX9_fork_6 : decode cX9_fork 6 = .ok (.ifCond .ne 24, 3) := by decide +kernel
theorem dX9_fork_9 : decode cX9_fork 9 = .ok (.aload_n 0, 1) := by decide +kernel
theorem dX9_fork_10 : decode cX9_fork 10 = .ok (.aload_n 0, 1) := by decide +kernel
theorem dX9_fork_11 : decode cX9_fork 11 = .ok (.getfield 45, 3) := by decide +kernel
theorem dX9_fork_14 : decode cX9_fork 14 = .ok (.iconst 4, 1) := by decide +kernel
theorem dX9_fork_15 : decode cX9_fork 15 = .ok (.if_icmp .ne 7, 3) := by decide +kernel
theorem dX9_fork_18 : decode cX9_fork 18 = .ok (.iconst 1, 1) := by decide +kernel
theorem dX9_fork_19 : decode cX9_fork 19 = .ok (.goto 4, 3) := by decide +kernel
theorem dX9_fork_22 : decode cX9_fork 22 = .ok (.iconst 0, 1) := by decide +kernel
theorem dX9_fork_23 : decode cX9_fork 23 = .ok (.iconst 2, 1) := by decide +kernel
theorem dX9_fork_24 : decode cX9_fork 24 = .ok (.invokevirtual 103, 3) := by decide +kernel
theorem dX9_fork_27 : decode cX9_fork 27 = .ok (.ifCond .eq 5, 3) := by decide +kernel
theorem dX9_fork_30 : decode cX9_fork 30 = .ok (.iconst 0, 1) := by decide +kernel
theorem dX9_fork_31 : decode cX9_fork 31 = .ok (.ireturn, 1) := by decide +kernel
theorem dX9_fork_32 : decode cX9_fork 32 = .ok (.iconst 0, 1) := by decide +kernel
theorem dX9_fork_33 : decode cX9_fork 33 = .ok (.istore_n 3, 1) := by decide +kernel
theorem dX9_fork_34 : decode cX9_fork 34 = .ok (.iload_n 3, 1) := by decide +kernel
theorem dX9_fork_35 : decode cX9_fork 35 = .ok (.iload_n 2, 1) := by decide +kernel
theorem dX9_fork_36 : decode cX9_fork 36 = .ok (.if_icmp .ge 77, 3) := by decide +kernel
theorem dX9_fork_39 : decode cX9_fork 39 = .ok (.iload_n 1, 1) := by decide +kernel
theorem dX9_fork_40 : decode cX9_fork 40 = .ok (.bipush 60, 2) := by decide +kernel
theorem dX9_fork_42 : decode cX9_fork 42 = .ok (.imul, 1) := by decide +kernel
theorem dX9_fork_43 : decode cX9_fork 43 = .ok (.iload_n 3, 1) := by decide +kernel
theorem dX9_fork_44 : decode cX9_fork 44 = .ok (.iadd, 1) := by decide +kernel
theorem dX9_fork_45 : decode cX9_fork 45 = .ok (.istore 4, 2) := by decide +kernel
theorem dX9_fork_47 : decode cX9_fork 47 = .ok (.aload_n 0, 1) := by decide +kernel
theorem dX9_fork_48 : decode cX9_fork 48 = .ok (.aload_n 0, 1) := by decide +kernel
theorem dX9_fork_49 : decode cX9_fork 49 = .ok (.getfield 45, 3) := by decide +kernel
theorem dX9_fork_52 : decode cX9_fork 52 = .ok (.aload_n 0, 1) := by decide +kernel
theorem dX9_fork_53 : decode cX9_fork 53 = .ok (.getfield 9, 3) := by decide +kernel
theorem dX9_fork_56 : decode cX9_fork 56 = .ok (.iload 4, 2) := by decide +kernel
theorem dX9_fork_58 : decode cX9_fork 58 = .ok (.caload, 1) := by decide +kernel
theorem dX9_fork_59 : decode cX9_fork 59 = .ok (.aload_n 0, 1) := by decide +kernel
theorem dX9_fork_60 : decode cX9_fork 60 = .ok (.getfield 13, 3) := by decide +kernel
theorem dX9_fork_63 : decode cX9_fork 63 = .ok (.iload 4, 2) := by decide +kernel
theorem dX9_fork_65 : decode cX9_fork 65 = .ok (.iaload, 1) := by decide +kernel
theorem dX9_fork_66 : decode cX9_fork 66 = .ok (.aload_n 0, 1) := by decide +kernel
theorem dX9_fork_67 : decode cX9_fork 67 = .ok (.getfield 17, 3) := by decide +kernel
theorem dX9_fork_70 : decode cX9_fork 70 = .ok (.iload 4, 2) := by decide +kernel
theorem dX9_fork_72 : decode cX9_fork 72 = .ok (.iaload, 1) := by decide +kernel
theorem dX9_fork_73 : decode cX9_fork 73 = .ok (.aload_n 0, 1) := by decide +kernel
theorem dX9_fork_74 : decode cX9_fork 74 = .ok (.getfield 20, 3) := by decide +kernel
theorem dX9_fork_77 : decode cX9_fork 77 = .ok (.iload 4, 2) := by decide +kernel
theorem dX9_fork_79 : decode cX9_fork 79 = .ok (.iaload, 1) := by decide +kernel
theorem dX9_fork_80 : decode cX9_fork 80 = .ok (.iconst (-1), 1) := by decide +kernel
theorem dX9_fork_81 : decode cX9_fork 81 = .ok (.invokevirtual 169, 3) := by decide +kernel
theorem dX9_fork_84 : decode cX9_fork 84 = .ok (.istore 5, 2) := by decide +kernel
theorem dX9_fork_86 : decode cX9_fork 86 = .ok (.aload_n 0, 1) := by decide +kernel
theorem dX9_fork_87 : decode cX9_fork 87 = .ok (.getfield 26, 3) := by decide +kernel
theorem dX9_fork_90 : decode cX9_fork 90 = .ok (.aload_n 0, 1) := by decide +kernel
theorem dX9_fork_91 : decode cX9_fork 91 = .ok (.getfield 45, 3) := by decide +kernel
theorem dX9_fork_94 : decode cX9_fork 94 = .ok (.bipush 60, 2) := by decide +kernel
theorem dX9_fork_96 : decode cX9_fork 96 = .ok (.imul, 1) := by decide +kernel
theorem dX9_fork_97 : decode cX9_fork 97 = .ok (.iload_n 3, 1) := by decide +kernel
theorem dX9_fork_98 : decode cX9_fork 98 = .ok (.iadd, 1) := by decide +kernel
theorem dX9_fork_99 : decode cX9_fork 99 = .ok (.aload_n 0, 1) := by decide +kernel
theorem dX9_fork_100 : decode cX9_fork 100 = .ok (.getfield 26, 3) := by decide +kernel
theorem dX9_fork_103 : decode cX9_fork 103 = .ok (.iload 4, 2) := by decide +kernel
theorem dX9_fork_105 : decode cX9_fork 105 = .ok (.baload, 1) := by decide +kernel
theorem dX9_fork_106 : decode cX9_fork 106 = .ok (.bastore, 1) := by decide +kernel
theorem dX9_fork_107 : decode cX9_fork 107 = .ok (.iinc 3 1, 3) := by decide +kernel
theorem dX9_fork_110 : decode cX9_fork 110 = .ok (.goto (-76), 3) := by decide +kernel
theorem dX9_fork_113 : decode cX9_fork 113 = .ok (.aload_n 0, 1) := by decide +kernel
theorem dX9_fork_114 : decode cX9_fork 114 = .ok (.getfield 36, 3) := by decide +kernel
theorem dX9_fork_117 : decode cX9_fork 117 = .ok (.aload_n 0, 1) := by decide +kernel
theorem dX9_fork_118 : decode cX9_fork 118 = .ok (.getfield 45, 3) := by decide +kernel
theorem dX9_fork_121 : decode cX9_fork 121 = .ok (.iload_n 1, 1) := by decide +kernel
theorem dX9_fork_122 : decode cX9_fork 122 = .ok (.iastore, 1) := by decide +kernel
theorem dX9_fork_123 : decode cX9_fork 123 = .ok (.aload_n 0, 1) := by decide +kernel
theorem dX9_fork_124 : decode cX9_fork 124 = .ok (.getfield 39, 3) := by decide +kernel
theorem dX9_fork_127 : decode cX9_fork 127 = .ok (.aload_n 0, 1) := by decide +kernel
theorem dX9_fork_128 : decode cX9_fork 128 = .ok (.getfield 45, 3) := by decide +kernel
theorem dX9_fork_131 : decode cX9_fork 131 = .ok (.iload_n 2, 1) := by decide +kernel
theorem dX9_fork_132 : decode cX9_fork 132 = .ok (.iastore, 1) := by decide +kernel
theorem dX9_fork_133 : decode cX9_fork 133 = .ok (.aload_n 0, 1) := by decide +kernel
theorem dX9_fork_134 : decode cX9_fork 134 = .ok (.getfield 42, 3) := by decide +kernel
theorem dX9_fork_137 : decode cX9_fork 137 = .ok (.aload_n 0, 1) := by decide +kernel
theorem dX9_fork_138 : decode cX9_fork 138 = .ok (.getfield 45, 3) := by decide +kernel
theorem dX9_fork_141 : decode cX9_fork 141 = .ok (.iload_n 2, 1) := by decide +kernel
theorem dX9_fork_142 : decode cX9_fork 142 = .ok (.iastore, 1) := by decide +kernel
theorem dX9_fork_143 : decode cX9_fork 143 = .ok (.aload_n 0, 1) := by decide +kernel
theorem dX9_fork_144 : decode cX9_fork 144 = .ok (.dup, 1) := by decide +kernel
theorem dX9_fork_145 : decode cX9_fork 145 = .ok (.getfield 45, 3) := by decide +kernel
theorem dX9_fork_148 : decode cX9_fork 148 = .ok (.iconst 1, 1) := by decide +kernel
theorem dX9_fork_149 : decode cX9_fork 149 = .ok (.iadd, 1) := by decide +kernel
theorem dX9_fork_150 : decode cX9_fork 150 = .ok (.putfield 45, 3) := by decide +kernel
theorem dX9_fork_153 : decode cX9_fork 153 = .ok (.aload_n 0, 1) := by decide +kernel
theorem dX9_fork_154 : decode cX9_fork 154 = .ok (.getfield 45, 3) := by decide +kernel
theorem dX9_fork_157 : decode cX9_fork 157 = .ok (.iconst 1, 1) := by decide +kernel
theorem dX9_fork_158 : decode cX9_fork 158 = .ok (.isub, 1) := by decide +kernel
theorem dX9_fork_159 : decode cX9_fork 159 = .ok (.ireturn, 1) := by decide +kernel
theorem dX9_isContrary_0 : decode cX9_isContrary 0 = .ok (.aload_n 0, 1) := by decide +kernel
theorem dX9_isContrary_1 : decode cX9_isContrary 1 = .ok (.getfield 26, 3) := by decide +kernel
theorem dX9_isContrary_4 : decode cX9_isContrary 4 = .ok (.iload_n 2, 1) := by decide +kernel
theorem dX9_isContrary_5 : decode cX9_isContrary 5 = .ok (.baload, 1) := by decide +kernel
theorem dX9_isContrary_6 : decode cX9_isContrary 6 = .ok (.ifCond .ne 54, 3) := by decide +kernel
theorem dX9_isContrary_9 : decode cX9_isContrary 9 = .ok (.aload_n 0, 1) := by decide +kernel
theorem dX9_isContrary_10 : decode cX9_isContrary 10 = .ok (.getfield 13, 3) := by decide +kernel
theorem dX9_isContrary_13 : decode cX9_isContrary 13 = .ok (.iload_n 1, 1) := by decide +kernel
theorem dX9_isContrary_14 : decode cX9_isContrary 14 = .ok (.iaload, 1) := by decide +kernel
theorem dX9_isContrary_15 : decode cX9_isContrary 15 = .ok (.aload_n 0, 1) := by decide +kernel
theorem dX9_isContrary_16 : decode cX9_isContrary 16 = .ok (.getfield 13, 3) := by decide +kernel
theorem dX9_isContrary_19 : decode cX9_isContrary 19 = .ok (.iload_n 2, 1) := by decide +kernel
theorem dX9_isContrary_20 : decode cX9_isContrary 20 = .ok (.iaload, 1) := by decide +kernel
theorem dX9_isContrary_21 : decode cX9_isContrary 21 = .ok (.if_icmp .ne 39, 3) := by decide +kernel
theorem dX9_isContrary_24 : decode cX9_isContrary 24 = .ok (.aload_n 0, 1) := by decide +kernel
theorem dX9_isContrary_25 : decode cX9_isContrary 25 = .ok (.getfield 9, 3) := by decide +kernel
theorem dX9_isContrary_28 : decode cX9_isContrary 28 = .ok (.iload_n 1, 1) := by decide +kernel
theorem dX9_isContrary_29 : decode cX9_isContrary 29 = .ok (.caload, 1) := by decide +kernel
theorem dX9_isContrary_30 : decode cX9_isContrary 30 = .ok (.invokestatic 107, 3) := by decide +kernel
theorem dX9_isContrary_33 : decode cX9_isContrary 33 = .ok (.aload_n 0, 1) := by decide +kernel
theorem dX9_isContrary_34 : decode cX9_isContrary 34 = .ok (.getfield 9, 3) := by decide +kernel
theorem dX9_isContrary_37 : decode cX9_isContrary 37 = .ok (.iload_n 2, 1) := by decide +kernel
theorem dX9_isContrary_38 : decode cX9_isContrary 38 = .ok (.caload, 1) := by decide +kernel
theorem dX9_isContrary_39 : decode cX9_isContrary 39 = .ok (.invokestatic 107, 3) := by decide +kernel
theorem dX9_isContrary_42 : decode cX9_isContrary 42 = .ok (.if_icmp .ne 18, 3) := by decide +kernel
theorem dX9_isContrary_45 : decode cX9_isContrary 45 = .ok (.aload_n 0, 1) := by decide +kernel
theorem dX9_isContrary_46 : decode cX9_isContrary 46 = .ok (.getfield 9, 3) := by decide +kernel
theorem dX9_isContrary_49 : decode cX9_isContrary 49 = .ok (.iload_n 1, 1) := by decide +kernel
theorem dX9_isContrary_50 : decode cX9_isContrary 50 = .ok (.caload, 1) := by decide +kernel
theorem dX9_isContrary_51 : decode cX9_isContrary 51 = .ok (.aload_n 0, 1) := by decide +kernel
theorem dX9_isContrary_52 : decode cX9_isContrary 52 = .ok (.getfield 9, 3) := by decide +kernel
theorem dX9_isContrary_55 : decode cX9_isContrary 55 = .ok (.iload_n 2, 1) := by decide +kernel
theorem dX9_isContrary_56 : decode cX9_isContrary 56 = .ok (.caload, 1) := by decide +kernel
theorem dX9_isContrary_57 : decode cX9_isContrary 57 = .ok (.if_icmp .ne 5, 3) := by decide +kernel
theorem dX9_isContrary_60 : decode cX9_isContrary 60 = .ok (.iconst 0, 1) := by decide +kernel
theorem dX9_isContrary_61 : decode cX9_isContrary 61 = .ok (.ireturn, 1) := by decide +kernel
theorem dX9_isContrary_62 : decode cX9_isContrary 62 = .ok (.aload_n 0, 1) := by decide +kernel
theorem dX9_isContrary_63 : decode cX9_isContrary 63 = .ok (.getfield 9, 3) := by decide +kernel
theorem dX9_isContrary_66 : decode cX9_isContrary 66 = .ok (.iload_n 1, 1) := by decide +kernel
theorem dX9_isContrary_67 : decode cX9_isContrary 67 = .ok (.caload, 1) := by decide +kernel
theorem dX9_isContrary_68 : decode cX9_isContrary 68 = .ok (.invokestatic 107, 3) := by decide +kernel
theorem dX9_isContrary_71 : decode cX9_isContrary 71 = .ok (.ifCond .eq 33, 3) := by decide +kernel
theorem dX9_isContrary_74 : decode cX9_isContrary 74 = .ok (.aload_n 0, 1) := by decide +kernel
theorem dX9_isContrary_75 : decode cX9_isContrary 75 = .ok (.getfield 17, 3) := by decide +kernel
theorem dX9_isContrary_78 : decode cX9_isContrary 78 = .ok (.iload_n 1, 1) := by decide +kernel
theorem dX9_isContrary_79 : decode cX9_isContrary 79 = .ok (.iaload, 1) := by decide +kernel
theorem dX9_isContrary_80 : decode cX9_isContrary 80 = .ok (.aload_n 0, 1) := by decide +kernel
theorem dX9_isContrary_81 : decode cX9_isContrary 81 = .ok (.getfield 20, 3) := by decide +kernel
theorem dX9_isContrary_84 : decode cX9_isContrary 84 = .ok (.iload_n 2, 1) := by decide +kernel
theorem dX9_isContrary_85 : decode cX9_isContrary 85 = .ok (.iaload, 1) := by decide +kernel
theorem dX9_isContrary_86 : decode cX9_isContrary 86 = .ok (.if_icmp .gt 22, 3) := by decide +kernel
theorem dX9_isContrary_89 : decode cX9_isContrary 89 = .ok (.aload_n 0, 1) := by decide +kernel
theorem dX9_isContrary_90 : decode cX9_isContrary 90 = .ok (.getfield 17, 3) := by decide +kernel
theorem dX9_isContrary_93 : decode cX9_isContrary 93 = .ok (.iload_n 2, 1) := by decide +kernel
theorem dX9_isContrary_94 : decode cX9_isContrary 94 = .ok (.iaload, 1) := by decide +kernel
theorem dX9_isContrary_95 : decode cX9_isContrary 95 = .ok (.aload_n 0, 1) := by decide +kernel
theorem dX9_isContrary_96 : decode cX9_isContrary 96 = .ok (.getfield 20, 3) := by decide +kernel
theorem dX9_isContrary_99 : decode cX9_isContrary 99 = .ok (.iload_n 1, 1) := by decide +kernel
theorem dX9_isContrary_100 : decode cX9_isContrary 100 = .ok (.iaload, 1) := by decide +kernel
theorem dX9_isContrary_101 : decode cX9_isContrary 101 = .ok (.if_icmp .gt 7, 3) := by decide +kernel
theorem dX9_isContrary_104 : decode cX9_isContrary 104 = .ok (.iconst 1, 1) := by decide +kernel
theorem dX9_isContrary_105 : decode cX9_isContrary 105 = .ok (.goto 4, 3) := by decide +kernel
theorem dX9_isContrary_108 : decode cX9_isContrary 108 = .ok (.iconst 0, 1) := by decide +kernel
theorem dX9_isContrary_109 : decode cX9_isContrary 109 = .ok (.ireturn, 1) := by decide +kernel
theorem dX9_canTake_0 : decode cX9_canTake 0 = .ok (.aload_n 0, 1) := by decide +kernel
theorem dX9_canTake_1 : decode cX9_canTake 1 = .ok (.getfield 36, 3) := by decide +kernel
theorem dX9_canTake_4 : decode cX9_canTake 4 = .ok (.iload_n 1, 1) := by decide +kernel
theorem dX9_canTake_5 : decode cX9_canTake 5 = .ok (.iaload, 1) := by decide +kernel
theorem dX9_canTake_6 : decode cX9_canTake 6 = .ok (.istore_n 3, 1) := by decide +kernel
theorem dX9_canTake_7 : decode cX9_canTake 7 = .ok (.aload_n 0, 1) := by decide +kernel
theorem dX9_canTake_8 : decode cX9_canTake 8 = .ok (.getfield 26, 3) := by decide +kernel
theorem dX9_canTake_11 : decode cX9_canTake 11 = .ok (.iload_n 2, 1) := by decide +kernel
theorem dX9_canTake_12 : decode cX9_canTake 12 = .ok (.baload, 1) := by decide +kernel
theorem dX9_canTake_13 : decode cX9_canTake 13 = .ok (.ifCond .ne 7, 3) := by decide +kernel
theorem dX9_canTake_16 : decode cX9_canTake 16 = .ok (.iconst 1, 1) := by decide +kernel
theorem dX9_canTake_17 : decode cX9_canTake 17 = .ok (.goto 4, 3) := by decide +kernel
theorem dX9_canTake_20 : decode cX9_canTake 20 = .ok (.iconst 0, 1) := by decide +kernel
theorem dX9_canTake_21 : decode cX9_canTake 21 = .ok (.istore 4, 2) := by decide +kernel
theorem dX9_canTake_23 : decode cX9_canTake 23 = .ok (.iload_n 3, 1) := by decide +kernel
theorem dX9_canTake_24 : decode cX9_canTake 24 = .ok (.bipush 60, 2) := by decide +kernel
theorem dX9_canTake_26 : decode cX9_canTake 26 = .ok (.imul, 1) := by decide +kernel
theorem dX9_canTake_27 : decode cX9_canTake 27 = .ok (.aload_n 0, 1) := by decide +kernel
theorem dX9_canTake_28 : decode cX9_canTake 28 = .ok (.getfield 39, 3) := by decide +kernel
theorem dX9_canTake_31 : decode cX9_canTake 31 = .ok (.iload_n 1, 1) := by decide +kernel
theorem dX9_canTake_32 : decode cX9_canTake 32 = .ok (.iaload, 1) := by decide +kernel
theorem dX9_canTake_33 : decode cX9_canTake 33 = .ok (.iadd, 1) := by decide +kernel
theorem dX9_canTake_34 : decode cX9_canTake 34 = .ok (.istore 5, 2) := by decide +kernel
theorem dX9_canTake_36 : decode cX9_canTake 36 = .ok (.iload 5, 2) := by decide +kernel
theorem dX9_canTake_38 : decode cX9_canTake 38 = .ok (.iload_n 3, 1) := by decide +kernel
theorem dX9_canTake_39 : decode cX9_canTake 39 = .ok (.bipush 60, 2) := by decide +kernel
theorem dX9_canTake_41 : decode cX9_canTake 41 = .ok (.imul, 1) := by decide +kernel
theorem dX9_canTake_42 : decode cX9_canTake 42 = .ok (.aload_n 0, 1) := by decide +kernel
theorem dX9_canTake_43 : decode cX9_canTake 43 = .ok (.getfield 33, 3) := by decide +kernel
theorem dX9_canTake_46 : decode cX9_canTake 46 = .ok (.iload_n 3, 1) := by decide +kernel
theorem dX9_canTake_47 : decode cX9_canTake 47 = .ok (.iaload, 1) := by decide +kernel
theorem dX9_canTake_48 : decode cX9_canTake 48 = .ok (.iadd, 1) := by decide +kernel
theorem dX9_canTake_49 : decode cX9_canTake 49 = .ok (.if_icmp .ge 40, 3) := by decide +kernel
theorem dX9_canTake_52 : decode cX9_canTake 52 = .ok (.iload 4, 2) := by decide +kernel
theorem dX9_canTake_54 : decode cX9_canTake 54 = .ok (.aload_n 0, 1) := by decide +kernel
theorem dX9_canTake_55 : decode cX9_canTake 55 = .ok (.getfield 23, 3) := by decide +kernel
theorem dX9_canTake_58 : decode cX9_canTake 58 = .ok (.iload 5, 2) := by decide +kernel
theorem dX9_canTake_60 : decode cX9_canTake 60 = .ok (.iaload, 1) := by decide +kernel
theorem dX9_canTake_61 : decode cX9_canTake 61 = .ok (.iload_n 1, 1) := by decide +kernel
theorem dX9_canTake_62 : decode cX9_canTake 62 = .ok (.if_icmp .eq 13, 3) := by decide +kernel
theorem dX9_canTake_65 : decode cX9_canTake 65 = .ok (.aload_n 0, 1) := by decide +kernel
theorem dX9_canTake_66 : decode cX9_canTake 66 = .ok (.iload_n 2, 1) := by decide +kernel
theorem dX9_canTake_67 : decode cX9_canTake 67 = .ok (.iload 5, 2) := by decide +kernel
theorem dX9_canTake_69 : decode cX9_canTake 69 = .ok (.invokevirtual 227, 3) := by decide +kernel
theorem dX9_canTake_72 : decode cX9_canTake 72 = .ok (.ifCond .ne 7, 3) := by decide +kernel
theorem dX9_canTake_75 : decode cX9_canTake 75 = .ok (.iconst 1, 1) := by decide +kernel
theorem dX9_canTake_76 : decode cX9_canTake 76 = .ok (.goto 4, 3) := by decide +kernel
theorem dX9_canTake_79 : decode cX9_canTake 79 = .ok (.iconst 0, 1) := by decide +kernel
theorem dX9_canTake_80 : decode cX9_canTake 80 = .ok (.iand, 1) := by decide +kernel
theorem dX9_canTake_81 : decode cX9_canTake 81 = .ok (.istore 4, 2) := by decide +kernel
theorem dX9_canTake_83 : decode cX9_canTake 83 = .ok (.iinc 5 1, 3) := by decide +kernel
theorem dX9_canTake_86 : decode cX9_canTake 86 = .ok (.goto (-50), 3) := by decide +kernel
theorem dX9_canTake_89 : decode cX9_canTake 89 = .ok (.iload 4, 2) := by decide +kernel
theorem dX9_canTake_91 : decode cX9_canTake 91 = .ok (.aload_n 0, 1) := by decide +kernel
theorem dX9_canTake_92 : decode cX9_canTake 92 = .ok (.getfield 33, 3) := by decide +kernel
theorem dX9_canTake_95 : decode cX9_canTake 95 = .ok (.iload_n 3, 1) := by decide +kernel
theorem dX9_canTake_96 : decode cX9_canTake 96 = .ok (.iaload, 1) := by decide +kernel
theorem dX9_canTake_97 : decode cX9_canTake 97 = .ok (.bipush 60, 2) := by decide +kernel
theorem dX9_canTake_99 : decode cX9_canTake 99 = .ok (.if_icmp .ge 44, 3) := by decide +kernel
theorem dX9_canTake_102 : decode cX9_canTake 102 = .ok (.aload_n 0, 1) := by decide +kernel
theorem dX9_canTake_103 : decode cX9_canTake 103 = .ok (.getfield 9, 3) := by decide +kernel
theorem dX9_canTake_106 : decode cX9_canTake 106 = .ok (.iload_n 2, 1) := by decide +kernel
theorem dX9_canTake_107 : decode cX9_canTake 107 = .ok (.caload, 1) := by decide +kernel
theorem dX9_canTake_108 : decode cX9_canTake 108 = .ok (.bipush 104, 2) := by decide +kernel
theorem dX9_canTake_110 : decode cX9_canTake 110 = .ok (.if_icmp .ne 29, 3) := by decide +kernel
theorem dX9_canTake_113 : decode cX9_canTake 113 = .ok (.aload_n 0, 1) := by decide +kernel
theorem dX9_canTake_114 : decode cX9_canTake 114 = .ok (.iload_n 3, 1) := by decide +kernel
theorem dX9_canTake_115 : decode cX9_canTake 115 = .ok (.aload_n 0, 1) := by decide +kernel
theorem dX9_canTake_116 : decode cX9_canTake 116 = .ok (.getfield 13, 3) := by decide +kernel
theorem dX9_canTake_119 : decode cX9_canTake 119 = .ok (.iload_n 2, 1) := by decide +kernel
theorem dX9_canTake_120 : decode cX9_canTake 120 = .ok (.iaload, 1) := by decide +kernel
theorem dX9_canTake_121 : decode cX9_canTake 121 = .ok (.aload_n 0, 1) := by decide +kernel
theorem dX9_canTake_122 : decode cX9_canTake 122 = .ok (.getfield 17, 3) := by decide +kernel
theorem dX9_canTake_125 : decode cX9_canTake 125 = .ok (.iload_n 2, 1) := by decide +kernel
theorem dX9_canTake_126 : decode cX9_canTake 126 = .ok (.iaload, 1) := by decide +kernel
theorem dX9_canTake_127 : decode cX9_canTake 127 = .ok (.aload_n 0, 1) := by decide +kernel
theorem dX9_canTake_128 : decode cX9_canTake 128 = .ok (.getfield 20, 3) := by decide +kernel
theorem dX9_canTake_131 : decode cX9_canTake 131 = .ok (.iload_n 2, 1) := by decide +kernel
theorem dX9_canTake_132 : decode cX9_canTake 132 = .ok (.iaload, 1) := by decide +kernel
theorem dX9_canTake_133 : decode cX9_canTake 133 = .ok (.invokevirtual 166, 3) := by decide +kernel
theorem dX9_canTake_136 : decode cX9_canTake 136 = .ok (.ifCond .ne 7, 3) := by decide +kernel
theorem dX9_canTake_139 : decode cX9_canTake 139 = .ok (.iconst 1, 1) := by decide +kernel
theorem dX9_canTake_140 : decode cX9_canTake 140 = .ok (.goto 4, 3) := by decide +kernel
theorem dX9_canTake_143 : decode cX9_canTake 143 = .ok (.iconst 0, 1) := by decide +kernel
theorem dX9_canTake_144 : decode cX9_canTake 144 = .ok (.iand, 1) := by decide +kernel
theorem dX9_canTake_145 : decode cX9_canTake 145 = .ok (.istore 4, 2) := by decide +kernel
theorem dX9_canTake_147 : decode cX9_canTake 147 = .ok (.iload 4, 2) := by decide +kernel
theorem dX9_canTake_149 : decode cX9_canTake 149 = .ok (.ifCond .eq 32, 3) := by decide +kernel
theorem dX9_canTake_152 : decode cX9_canTake 152 = .ok (.aload_n 0, 1) := by decide +kernel
theorem dX9_canTake_153 : decode cX9_canTake 153 = .ok (.getfield 9, 3) := by decide +kernel
theorem dX9_canTake_156 : decode cX9_canTake 156 = .ok (.iload_n 2, 1) := by decide +kernel
theorem dX9_canTake_157 : decode cX9_canTake 157 = .ok (.caload, 1) := by decide +kernel
theorem dX9_canTake_158 : decode cX9_canTake 158 = .ok (.bipush 110, 2) := by decide +kernel
theorem dX9_canTake_160 : decode cX9_canTake 160 = .ok (.if_icmp .ne 17, 3) := by decide +kernel
theorem dX9_canTake_163 : decode cX9_canTake 163 = .ok (.aload_n 0, 1) := by decide +kernel
theorem dX9_canTake_164 : decode cX9_canTake 164 = .ok (.iload_n 3, 1) := by decide +kernel
theorem dX9_canTake_165 : decode cX9_canTake 165 = .ok (.aload_n 0, 1) := by decide +kernel
theorem dX9_canTake_166 : decode cX9_canTake 166 = .ok (.getfield 13, 3) := by decide +kernel
theorem dX9_canTake_169 : decode cX9_canTake 169 = .ok (.iload_n 2, 1) := by decide +kernel
theorem dX9_canTake_170 : decode cX9_canTake 170 = .ok (.iaload, 1) := by decide +kernel
theorem dX9_canTake_171 : decode cX9_canTake 171 = .ok (.invokevirtual 187, 3) := by decide +kernel
theorem dX9_canTake_174 : decode cX9_canTake 174 = .ok (.ifCond .eq 7, 3) := by decide +kernel
theorem dX9_canTake_177 : decode cX9_canTake 177 = .ok (.iconst 1, 1) := by decide +kernel
theorem dX9_canTake_178 : decode cX9_canTake 178 = .ok (.goto 4, 3) := by decide +kernel
theorem dX9_canTake_181 : decode cX9_canTake 181 = .ok (.iconst 0, 1) := by decide +kernel
theorem dX9_canTake_182 : decode cX9_canTake 182 = .ok (.ireturn, 1) := by decide +kernel
theorem dX9_merge_0 : decode cX9_merge 0 = .ok (.aload_n 0, 1) := by decide +kernel
theorem dX9_merge_1 : decode cX9_merge 1 = .ok (.iload_n 1, 1) := by decide +kernel
theorem dX9_merge_2 : decode cX9_merge 2 = .ok (.invokevirtual 160, 3) := by decide +kernel
theorem dX9_merge_5 : decode cX9_merge 5 = .ok (.ifCond .ne 20, 3) := by decide +kernel
theorem dX9_merge_8 : decode cX9_merge 8 = .ok (.aload_n 0, 1) := by decide +kernel
theorem dX9_merge_9 : decode cX9_merge 9 = .ok (.iload_n 1, 1) := by decide +kernel
theorem dX9_merge_10 : decode cX9_merge 10 = .ok (.ifCond .ne 7, 3) := by decide +kernel
theorem dX9_merge_13 : decode cX9_merge 13 = .ok (.iconst 1, 1) := by decide +kernel
theorem dX9_merge_14 : decode cX9_merge 14 = .ok (.goto 4, 3) := by decide +kernel
theorem dX9_merge_17 : decode cX9_merge 17 = .ok (.iconst 0, 1) := by decide +kernel
theorem dX9_merge_18 : decode cX9_merge 18 = .ok (.iconst 2, 1) := by decide +kernel
theorem dX9_merge_19 : decode cX9_merge 19 = .ok (.invokevirtual 103, 3) := by decide +kernel
theorem dX9_merge_22 : decode cX9_merge 22 = .ok (.ifCond .eq 5, 3) := by decide +kernel
theorem dX9_merge_25 : decode cX9_merge 25 = .ok (.iconst 0, 1) := by decide +kernel
theorem dX9_merge_26 : decode cX9_merge 26 = .ok (.ireturn, 1) := by decide +kernel
theorem dX9_merge_27 : decode cX9_merge 27 = .ok (.iconst 0, 1) := by decide +kernel
theorem dX9_merge_28 : decode cX9_merge 28 = .ok (.istore_n 2, 1) := by decide +kernel
theorem dX9_merge_29 : decode cX9_merge 29 = .ok (.aload_n 0, 1) := by decide +kernel
theorem dX9_merge_30 : decode cX9_merge 30 = .ok (.iconst 0, 1) := by decide +kernel
theorem dX9_merge_31 : decode cX9_merge 31 = .ok (.putfield 229, 3) := by decide +kernel
theorem dX9_merge_34 : decode cX9_merge 34 = .ok (.aload_n 0, 1) := by decide +kernel
theorem dX9_merge_35 : decode cX9_merge 35 = .ok (.getfield 42, 3) := by decide +kernel
theorem dX9_merge_38 : decode cX9_merge 38 = .ok (.iload_n 1, 1) := by decide +kernel
theorem dX9_merge_39 : decode cX9_merge 39 = .ok (.iaload, 1) := by decide +kernel
theorem dX9_merge_40 : decode cX9_merge 40 = .ok (.aload_n 0, 1) := by decide +kernel
theorem dX9_merge_41 : decode cX9_merge 41 = .ok (.getfield 33, 3) := by decide +kernel
theorem dX9_merge_44 : decode cX9_merge 44 = .ok (.iload_n 1, 1) := by decide +kernel
theorem dX9_merge_45 : decode cX9_merge 45 = .ok (.iaload, 1) := by decide +kernel
theorem dX9_merge_46 : decode cX9_merge 46 = .ok (.if_icmp .ge 110, 3) := by decide +kernel
theorem dX9_merge_49 : decode cX9_merge 49 = .ok (.iload_n 1, 1) := by decide +kernel
theorem dX9_merge_50 : decode cX9_merge 50 = .ok (.bipush 60, 2) := by decide +kernel
theorem dX9_merge_52 : decode cX9_merge 52 = .ok (.imul, 1) := by decide +kernel
theorem dX9_merge_53 : decode cX9_merge 53 = .ok (.aload_n 0, 1) := by decide +kernel
theorem dX9_merge_54 : decode cX9_merge 54 = .ok (.getfield 42, 3) := by decide +kernel
theorem dX9_merge_57 : decode cX9_merge 57 = .ok (.iload_n 1, 1) := by decide +kernel
theorem dX9_merge_58 : decode cX9_merge 58 = .ok (.iaload, 1) := by decide +kernel
theorem dX9_merge_59 : decode cX9_merge 59 = .ok (.iadd, 1) := by decide +kernel
theorem dX9_merge_60 : decode cX9_merge 60 = .ok (.istore_n 3, 1) := by decide +kernel
theorem dX9_merge_61 : decode cX9_merge 61 = .ok (.aload_n 0, 1) := by decide +kernel
theorem dX9_merge_62 : decode cX9_merge 62 = .ok (.iload_n 1, 1) := by decide +kernel
theorem dX9_merge_63 : decode cX9_merge 63 = .ok (.iload_n 3, 1) := by decide +kernel
theorem dX9_merge_64 : decode cX9_merge 64 = .ok (.invokevirtual 232, 3) := by decide +kernel
theorem dX9_merge_67 : decode cX9_merge 67 = .ok (.istore 4, 2) := by decide +kernel
theorem dX9_merge_69 : decode cX9_merge 69 = .ok (.iload 4, 2) := by decide +kernel
theorem dX9_merge_71 : decode cX9_merge 71 = .ok (.ifCond .eq 40, 3) := by decide +kernel
theorem dX9_merge_74 : decode cX9_merge 74 = .ok (.aload_n 0, 1) := by decide +kernel
theorem dX9_merge_75 : decode cX9_merge 75 = .ok (.aload_n 0, 1) := by decide +kernel
theorem dX9_merge_76 : decode cX9_merge 76 = .ok (.getfield 36, 3) := by decide +kernel
theorem dX9_merge_79 : decode cX9_merge 79 = .ok (.iload_n 1, 1) := by decide +kernel
theorem dX9_merge_80 : decode cX9_merge 80 = .ok (.iaload, 1) := by decide +kernel
theorem dX9_merge_81 : decode cX9_merge 81 = .ok (.aload_n 0, 1) := by decide +kernel
theorem dX9_merge_82 : decode cX9_merge 82 = .ok (.getfield 9, 3) := by decide +kernel
theorem dX9_merge_85 : decode cX9_merge 85 = .ok (.iload_n 3, 1) := by decide +kernel
theorem dX9_merge_86 : decode cX9_merge 86 = .ok (.caload, 1) := by decide +kernel
theorem dX9_merge_87 : decode cX9_merge 87 = .ok (.aload_n 0, 1) := by decide +kernel
theorem dX9_merge_88 : decode cX9_merge 88 = .ok (.getfield 13, 3) := by decide +kernel
theorem dX9_merge_91 : decode cX9_merge 91 = .ok (.iload_n 3, 1) := by decide +kernel
theorem dX9_merge_92 : decode cX9_merge 92 = .ok (.iaload, 1) := by decide +kernel
theorem dX9_merge_93 : decode cX9_merge 93 = .ok (.aload_n 0, 1) := by decide +kernel
theorem dX9_merge_94 : decode cX9_merge 94 = .ok (.getfield 17, 3) := by decide +kernel
theorem dX9_merge_97 : decode cX9_merge 97 = .ok (.iload_n 3, 1) := by decide +kernel
theorem dX9_merge_98 : decode cX9_merge 98 = .ok (.iaload, 1) := by decide +kernel
theorem dX9_merge_99 : decode cX9_merge 99 = .ok (.aload_n 0, 1) := by decide +kernel
theorem dX9_merge_100 : decode cX9_merge 100 = .ok (.getfield 20, 3) := by decide +kernel
theorem dX9_merge_103 : decode cX9_merge 103 = .ok (.iload_n 3, 1) := by decide +kernel
theorem dX9_merge_104 : decode cX9_merge 104 = .ok (.iaload, 1) := by decide +kernel
theorem dX9_merge_105 : decode cX9_merge 105 = .ok (.iload_n 1, 1) := by decide +kernel
theorem dX9_merge_106 : decode cX9_merge 106 = .ok (.invokevirtual 169, 3) := by decide +kernel
theorem dX9_merge_109 : decode cX9_merge 109 = .ok (.istore 5, 2) := by decide +kernel
theorem dX9_merge_111 : decode cX9_merge 111 = .ok (.iload_n 2, 1) := by decide +kernel
theorem dX9_merge_112 : decode cX9_merge 112 = .ok (.iload 4, 2) := by decide +kernel
theorem dX9_merge_114 : decode cX9_merge 114 = .ok (.ifCond .eq 7, 3) := by decide +kernel
theorem dX9_merge_117 : decode cX9_merge 117 = .ok (.iconst 1, 1) := by decide +kernel
theorem dX9_merge_118 : decode cX9_merge 118 = .ok (.goto 4, 3) := by decide +kernel
theorem dX9_merge_121 : decode cX9_merge 121 = .ok (.iconst 0, 1) := by decide +kernel
theorem dX9_merge_122 : decode cX9_merge 122 = .ok (.iadd, 1) := by decide +kernel
theorem dX9_merge_123 : decode cX9_merge 123 = .ok (.istore_n 2, 1) := by decide +kernel
theorem dX9_merge_124 : decode cX9_merge 124 = .ok (.aload_n 0, 1) := by decide +kernel
theorem dX9_merge_125 : decode cX9_merge 125 = .ok (.dup, 1) := by decide +kernel
theorem dX9_merge_126 : decode cX9_merge 126 = .ok (.getfield 229, 3) := by decide +kernel
theorem dX9_merge_129 : decode cX9_merge 129 = .ok (.iload 4, 2) := by decide +kernel
theorem dX9_merge_131 : decode cX9_merge 131 = .ok (.ifCond .eq 7, 3) := by decide +kernel
theorem dX9_merge_134 : decode cX9_merge 134 = .ok (.iconst 0, 1) := by decide +kernel
theorem dX9_merge_135 : decode cX9_merge 135 = .ok (.goto 4, 3) := by decide +kernel
theorem dX9_merge_138 : decode cX9_merge 138 = .ok (.iconst 1, 1) := by decide +kernel
theorem dX9_merge_139 : decode cX9_merge 139 = .ok (.iadd, 1) := by decide +kernel
theorem dX9_merge_140 : decode cX9_merge 140 = .ok (.putfield 229, 3) := by decide +kernel
theorem dX9_merge_143 : decode cX9_merge 143 = .ok (.aload_n 0, 1) := by decide +kernel
theorem dX9_merge_144 : decode cX9_merge 144 = .ok (.getfield 42, 3) := by decide +kernel
theorem dX9_merge_147 : decode cX9_merge 147 = .ok (.iload_n 1, 1) := by decide +kernel
theorem dX9_merge_148 : decode cX9_merge 148 = .ok (.dup2, 1) := by decide +kernel
theorem dX9_merge_149 : decode cX9_merge 149 = .ok (.iaload, 1) := by decide +kernel
theorem dX9_merge_150 : decode cX9_merge 150 = .ok (.iconst 1, 1) := by decide +kernel
theorem dX9_merge_151 : decode cX9_merge 151 = .ok (.iadd, 1) := by decide +kernel
theorem dX9_merge_152 : decode cX9_merge 152 = .ok (.iastore, 1) := by decide +kernel
theorem dX9_merge_153 : decode cX9_merge 153 = .ok (.goto (-119), 3) := by decide +kernel
theorem dX9_merge_156 : decode cX9_merge 156 = .ok (.aload_n 0, 1) := by decide +kernel
theorem dX9_merge_157 : decode cX9_merge 157 = .ok (.aload_n 0, 1) := by decide +kernel
theorem dX9_merge_158 : decode cX9_merge 158 = .ok (.getfield 36, 3) := by decide +kernel
theorem dX9_merge_161 : decode cX9_merge 161 = .ok (.iload_n 1, 1) := by decide +kernel
theorem dX9_merge_162 : decode cX9_merge 162 = .ok (.iaload, 1) := by decide +kernel
theorem dX9_merge_163 : decode cX9_merge 163 = .ok (.invokevirtual 173, 3) := by decide +kernel
theorem dX9_merge_166 : decode cX9_merge 166 = .ok (.iload_n 2, 1) := by decide +kernel
theorem dX9_merge_167 : decode cX9_merge 167 = .ok (.ireturn, 1) := by decide +kernel
theorem dX9_conflicts_0 : decode cX9_conflicts 0 = .ok (.aload_n 0, 1) := by decide +kernel
theorem dX9_conflicts_1 : decode cX9_conflicts 1 = .ok (.iconst 0, 1) := by decide +kernel
theorem dX9_conflicts_2 : decode cX9_conflicts 2 = .ok (.putfield 96, 3) := by decide +kernel
theorem dX9_conflicts_5 : decode cX9_conflicts 5 = .ok (.aload_n 0, 1) := by decide +kernel
theorem dX9_conflicts_6 : decode cX9_conflicts 6 = .ok (.getfield 229, 3) := by decide +kernel
theorem dX9_conflicts_9 : decode cX9_conflicts 9 = .ok (.ireturn, 1) := by decide +kernel
theorem dX9_isMeant_0 : decode cX9_isMeant 0 = .ok (.aload_n 0, 1) := by decide +kernel
theorem dX9_isMeant_1 : decode cX9_isMeant 1 = .ok (.getfield 64, 3) := by decide +kernel
theorem dX9_isMeant_4 : decode cX9_isMeant 4 = .ok (.iconst 5, 1) := by decide +kernel
theorem dX9_isMeant_5 : decode cX9_isMeant 5 = .ok (.iload_n 1, 1) := by decide +kernel
theorem dX9_isMeant_6 : decode cX9_isMeant 6 = .ok (.imul, 1) := by decide +kernel
theorem dX9_isMeant_7 : decode cX9_isMeant 7 = .ok (.iconst 2, 1) := by decide +kernel
theorem dX9_isMeant_8 : decode cX9_isMeant 8 = .ok (.iadd, 1) := by decide +kernel
theorem dX9_isMeant_9 : decode cX9_isMeant 9 = .ok (.iaload, 1) := by decide +kernel
theorem dX9_isMeant_10 : decode cX9_isMeant 10 = .ok (.ifCond .lt 23, 3) := by decide +kernel
theorem dX9_isMeant_13 : decode cX9_isMeant 13 = .ok (.iload_n 2, 1) := by decide +kernel
theorem dX9_isMeant_14 : decode cX9_isMeant 14 = .ok (.bipush 8, 2) := by decide +kernel
theorem dX9_isMeant_16 : decode cX9_isMeant 16 = .ok (.idiv, 1) := by decide +kernel
theorem dX9_isMeant_17 : decode cX9_isMeant 17 = .ok (.bipush 8, 2) := by decide +kernel
theorem dX9_isMeant_19 : decode cX9_isMeant 19 = .ok (.irem, 1) := by decide +kernel
theorem dX9_isMeant_20 : decode cX9_isMeant 20 = .ok (.aload_n 0, 1) := by decide +kernel
theorem dX9_isMeant_21 : decode cX9_isMeant 21 = .ok (.getfield 64, 3) := by decide +kernel
theorem dX9_isMeant_24 : decode cX9_isMeant 24 = .ok (.iconst 5, 1) := by decide +kernel
theorem dX9_isMeant_25 : decode cX9_isMeant 25 = .ok (.iload_n 1, 1) := by decide +kernel
theorem dX9_isMeant_26 : decode cX9_isMeant 26 = .ok (.imul, 1) := by decide +kernel
theorem dX9_isMeant_27 : decode cX9_isMeant 27 = .ok (.iconst 2, 1) := by decide +kernel
theorem dX9_isMeant_28 : decode cX9_isMeant 28 = .ok (.iadd, 1) := by decide +kernel
theorem dX9_isMeant_29 : decode cX9_isMeant 29 = .ok (.iaload, 1) := by decide +kernel
theorem dX9_isMeant_30 : decode cX9_isMeant 30 = .ok (.if_icmp .ne 7, 3) := by decide +kernel
theorem dX9_isMeant_33 : decode cX9_isMeant 33 = .ok (.iconst 1, 1) := by decide +kernel
theorem dX9_isMeant_34 : decode cX9_isMeant 34 = .ok (.goto 4, 3) := by decide +kernel
theorem dX9_isMeant_37 : decode cX9_isMeant 37 = .ok (.iconst 0, 1) := by decide +kernel
theorem dX9_isMeant_38 : decode cX9_isMeant 38 = .ok (.istore_n 3, 1) := by decide +kernel
theorem dX9_isMeant_39 : decode cX9_isMeant 39 = .ok (.iload_n 3, 1) := by decide +kernel
theorem dX9_isMeant_40 : decode cX9_isMeant 40 = .ok (.ifCond .eq 37, 3) := by decide +kernel
theorem dX9_isMeant_43 : decode cX9_isMeant 43 = .ok (.aload_n 0, 1) := by decide +kernel
theorem dX9_isMeant_44 : decode cX9_isMeant 44 = .ok (.getfield 64, 3) := by decide +kernel
theorem dX9_isMeant_47 : decode cX9_isMeant 47 = .ok (.iconst 5, 1) := by decide +kernel
theorem dX9_isMeant_48 : decode cX9_isMeant 48 = .ok (.iload_n 1, 1) := by decide +kernel
theorem dX9_isMeant_49 : decode cX9_isMeant 49 = .ok (.imul, 1) := by decide +kernel
theorem dX9_isMeant_50 : decode cX9_isMeant 50 = .ok (.iconst 3, 1) := by decide +kernel
theorem dX9_isMeant_51 : decode cX9_isMeant 51 = .ok (.iadd, 1) := by decide +kernel
theorem dX9_isMeant_52 : decode cX9_isMeant 52 = .ok (.iaload, 1) := by decide +kernel
theorem dX9_isMeant_53 : decode cX9_isMeant 53 = .ok (.ifCond .lt 20, 3) := by decide +kernel
theorem dX9_isMeant_56 : decode cX9_isMeant 56 = .ok (.iload_n 2, 1) := by decide +kernel
theorem dX9_isMeant_57 : decode cX9_isMeant 57 = .ok (.bipush 8, 2) := by decide +kernel
theorem dX9_isMeant_59 : decode cX9_isMeant 59 = .ok (.irem, 1) := by decide +kernel
theorem dX9_isMeant_60 : decode cX9_isMeant 60 = .ok (.aload_n 0, 1) := by decide +kernel
theorem dX9_isMeant_61 : decode cX9_isMeant 61 = .ok (.getfield 64, 3) := by decide +kernel
theorem dX9_isMeant_64 : decode cX9_isMeant 64 = .ok (.iconst 5, 1) := by decide +kernel
theorem dX9_isMeant_65 : decode cX9_isMeant 65 = .ok (.iload_n 1, 1) := by decide +kernel
theorem dX9_isMeant_66 : decode cX9_isMeant 66 = .ok (.imul, 1) := by decide +kernel
theorem dX9_isMeant_67 : decode cX9_isMeant 67 = .ok (.iconst 3, 1) := by decide +kernel
theorem dX9_isMeant_68 : decode cX9_isMeant 68 = .ok (.iadd, 1) := by decide +kernel
theorem dX9_isMeant_69 : decode cX9_isMeant 69 = .ok (.iaload, 1) := by decide +kernel
theorem dX9_isMeant_70 : decode cX9_isMeant 70 = .ok (.if_icmp .ne 7, 3) := by decide +kernel
theorem dX9_isMeant_73 : decode cX9_isMeant 73 = .ok (.iconst 1, 1) := by decide +kernel
theorem dX9_isMeant_74 : decode cX9_isMeant 74 = .ok (.goto 4, 3) := by decide +kernel
theorem dX9_isMeant_77 : decode cX9_isMeant 77 = .ok (.iconst 0, 1) := by decide +kernel
theorem dX9_isMeant_78 : decode cX9_isMeant 78 = .ok (.ireturn, 1) := by decide +kernel
theorem dX9_keeps_0 : decode cX9_keeps 0 = .ok (.aload_n 0, 1) := by decide +kernel
theorem dX9_keeps_1 : decode cX9_keeps 1 = .ok (.getfield 67, 3) := by decide +kernel
theorem dX9_keeps_4 : decode cX9_keeps 4 = .ok (.iload_n 1, 1) := by decide +kernel
theorem dX9_keeps_5 : decode cX9_keeps 5 = .ok (.iaload, 1) := by decide +kernel
theorem dX9_keeps_6 : decode cX9_keeps 6 = .ok (.aload_n 0, 1) := by decide +kernel
theorem dX9_keeps_7 : decode cX9_keeps 7 = .ok (.getfield 75, 3) := by decide +kernel
theorem dX9_keeps_10 : decode cX9_keeps 10 = .ok (.iload_n 1, 1) := by decide +kernel
theorem dX9_keeps_11 : decode cX9_keeps 11 = .ok (.aaload, 1) := by decide +kernel
theorem dX9_keeps_12 : decode cX9_keeps 12 = .ok (.arraylength, 1) := by decide +kernel
theorem dX9_keeps_13 : decode cX9_keeps 13 = .ok (.if_icmp .ne 54, 3) := by decide +kernel
theorem dX9_keeps_16 : decode cX9_keeps 16 = .ok (.iconst 2, 1) := by decide +kernel
theorem dX9_keeps_17 : decode cX9_keeps 17 = .ok (.aload_n 0, 1) := by decide +kernel
theorem dX9_keeps_18 : decode cX9_keeps 18 = .ok (.getfield 67, 3) := by decide +kernel
theorem dX9_keeps_21 : decode cX9_keeps 21 = .ok (.iload_n 1, 1) := by decide +kernel
theorem dX9_keeps_22 : decode cX9_keeps 22 = .ok (.iaload, 1) := by decide +kernel
theorem dX9_keeps_23 : decode cX9_keeps 23 = .ok (.imul, 1) := by decide +kernel
theorem dX9_keeps_24 : decode cX9_keeps 24 = .ok (.newarray .int, 2) := by decide +kernel
theorem dX9_keeps_26 : decode cX9_keeps 26 = .ok (.astore_n 3, 1) := by decide +kernel
theorem dX9_keeps_27 : decode cX9_keeps 27 = .ok (.iconst 0, 1) := by decide +kernel
theorem dX9_keeps_28 : decode cX9_keeps 28 = .ok (.istore 4, 2) := by decide +kernel
theorem dX9_keeps_30 : decode cX9_keeps 30 = .ok (.iload 4, 2) := by decide +kernel
theorem dX9_keeps_32 : decode cX9_keeps 32 = .ok (.aload_n 0, 1) := by decide +kernel
theorem dX9_keeps_33 : decode cX9_keeps 33 = .ok (.getfield 67, 3) := by decide +kernel
theorem dX9_keeps_36 : decode cX9_keeps 36 = .ok (.iload_n 1, 1) := by decide +kernel
theorem dX9_keeps_37 : decode cX9_keeps 37 = .ok (.iaload, 1) := by decide +kernel
theorem dX9_keeps_38 : decode cX9_keeps 38 = .ok (.if_icmp .ge 22, 3) := by decide +kernel
theorem dX9_keeps_41 : decode cX9_keeps 41 = .ok (.aload_n 3, 1) := by decide +kernel
theorem dX9_keeps_42 : decode cX9_keeps 42 = .ok (.iload 4, 2) := by decide +kernel
theorem dX9_keeps_44 : decode cX9_keeps 44 = .ok (.aload_n 0, 1) := by decide +kernel
theorem dX9_keeps_45 : decode cX9_keeps 45 = .ok (.getfield 75, 3) := by decide +kernel
theorem dX9_keeps_48 : decode cX9_keeps 48 = .ok (.iload_n 1, 1) := by decide +kernel
theorem dX9_keeps_49 : decode cX9_keeps 49 = .ok (.aaload, 1) := by decide +kernel
theorem dX9_keeps_50 : decode cX9_keeps 50 = .ok (.iload 4, 2) := by decide +kernel
theorem dX9_keeps_52 : decode cX9_keeps 52 = .ok (.iaload, 1) := by decide +kernel
theorem dX9_keeps_53 : decode cX9_keeps 53 = .ok (.iastore, 1) := by decide +kernel
theorem dX9_keeps_54 : decode cX9_keeps 54 = .ok (.iinc 4 1, 3) := by decide +kernel
theorem dX9_keeps_57 : decode cX9_keeps 57 = .ok (.goto (-27), 3) := by decide +kernel
theorem dX9_keeps_60 : decode cX9_keeps 60 = .ok (.aload_n 0, 1) := by decide +kernel
theorem dX9_keeps_61 : decode cX9_keeps 61 = .ok (.getfield 75, 3) := by decide +kernel
theorem dX9_keeps_64 : decode cX9_keeps 64 = .ok (.iload_n 1, 1) := by decide +kernel
theorem dX9_keeps_65 : decode cX9_keeps 65 = .ok (.aload_n 3, 1) := by decide +kernel
theorem dX9_keeps_66 : decode cX9_keeps 66 = .ok (.aastore, 1) := by decide +kernel
theorem dX9_keeps_67 : decode cX9_keeps 67 = .ok (.aload_n 0, 1) := by decide +kernel
theorem dX9_keeps_68 : decode cX9_keeps 68 = .ok (.getfield 75, 3) := by decide +kernel
theorem dX9_keeps_71 : decode cX9_keeps 71 = .ok (.iload_n 1, 1) := by decide +kernel
theorem dX9_keeps_72 : decode cX9_keeps 72 = .ok (.aaload, 1) := by decide +kernel
theorem dX9_keeps_73 : decode cX9_keeps 73 = .ok (.aload_n 0, 1) := by decide +kernel
theorem dX9_keeps_74 : decode cX9_keeps 74 = .ok (.getfield 67, 3) := by decide +kernel
theorem dX9_keeps_77 : decode cX9_keeps 77 = .ok (.iload_n 1, 1) := by decide +kernel
theorem dX9_keeps_78 : decode cX9_keeps 78 = .ok (.iaload, 1) := by decide +kernel
theorem dX9_keeps_79 : decode cX9_keeps 79 = .ok (.iload_n 2, 1) := by decide +kernel
theorem dX9_keeps_80 : decode cX9_keeps 80 = .ok (.iastore, 1) := by decide +kernel
theorem dX9_keeps_81 : decode cX9_keeps 81 = .ok (.aload_n 0, 1) := by decide +kernel
theorem dX9_keeps_82 : decode cX9_keeps 82 = .ok (.getfield 67, 3) := by decide +kernel
theorem dX9_keeps_85 : decode cX9_keeps 85 = .ok (.iload_n 1, 1) := by decide +kernel
theorem dX9_keeps_86 : decode cX9_keeps 86 = .ok (.dup2, 1) := by decide +kernel
theorem dX9_keeps_87 : decode cX9_keeps 87 = .ok (.iaload, 1) := by decide +kernel
theorem dX9_keeps_88 : decode cX9_keeps 88 = .ok (.iconst 1, 1) := by decide +kernel
theorem dX9_keeps_89 : decode cX9_keeps 89 = .ok (.iadd, 1) := by decide +kernel
theorem dX9_keeps_90 : decode cX9_keeps 90 = .ok (.iastore, 1) := by decide +kernel
theorem dX9_keeps_91 : decode cX9_keeps 91 = .ok (.return_, 1) := by decide +kernel
theorem dX9_hears_0 : decode cX9_hears 0 = .ok (.aload_n 0, 1) := by decide +kernel
theorem dX9_hears_1 : decode cX9_hears 1 = .ok (.aload_n 0, 1) := by decide +kernel
theorem dX9_hears_2 : decode cX9_hears 2 = .ok (.getfield 64, 3) := by decide +kernel
theorem dX9_hears_5 : decode cX9_hears 5 = .ok (.iconst 5, 1) := by decide +kernel
theorem dX9_hears_6 : decode cX9_hears 6 = .ok (.iload_n 1, 1) := by decide +kernel
theorem dX9_hears_7 : decode cX9_hears 7 = .ok (.imul, 1) := by decide +kernel
theorem dX9_hears_8 : decode cX9_hears 8 = .ok (.iaload, 1) := by decide +kernel
theorem dX9_hears_9 : decode cX9_hears 9 = .ok (.aload_n 0, 1) := by decide +kernel
theorem dX9_hears_10 : decode cX9_hears 10 = .ok (.getfield 33, 3) := by decide +kernel
theorem dX9_hears_13 : decode cX9_hears 13 = .ok (.aload_n 0, 1) := by decide +kernel
theorem dX9_hears_14 : decode cX9_hears 14 = .ok (.getfield 64, 3) := by decide +kernel
theorem dX9_hears_17 : decode cX9_hears 17 = .ok (.iconst 5, 1) := by decide +kernel
theorem dX9_hears_18 : decode cX9_hears 18 = .ok (.iload_n 1, 1) := by decide +kernel
theorem dX9_hears_19 : decode cX9_hears 19 = .ok (.imul, 1) := by decide +kernel
theorem dX9_hears_20 : decode cX9_hears 20 = .ok (.iaload, 1) := by decide +kernel
theorem dX9_hears_21 : decode cX9_hears 21 = .ok (.iaload, 1) := by decide +kernel
theorem dX9_hears_22 : decode cX9_hears 22 = .ok (.aload_n 0, 1) := by decide +kernel
theorem dX9_hears_23 : decode cX9_hears 23 = .ok (.getfield 64, 3) := by decide +kernel
theorem dX9_hears_26 : decode cX9_hears 26 = .ok (.iconst 5, 1) := by decide +kernel
theorem dX9_hears_27 : decode cX9_hears 27 = .ok (.iload_n 1, 1) := by decide +kernel
theorem dX9_hears_28 : decode cX9_hears 28 = .ok (.imul, 1) := by decide +kernel
theorem dX9_hears_29 : decode cX9_hears 29 = .ok (.iconst 4, 1) := by decide +kernel
theorem dX9_hears_30 : decode cX9_hears 30 = .ok (.iadd, 1) := by decide +kernel
theorem dX9_hears_31 : decode cX9_hears 31 = .ok (.iaload, 1) := by decide +kernel
theorem dX9_hears_32 : decode cX9_hears 32 = .ok (.invokevirtual 193, 3) := by decide +kernel
theorem dX9_hears_35 : decode cX9_hears 35 = .ok (.iconst 0, 1) := by decide +kernel
theorem dX9_hears_36 : decode cX9_hears 36 = .ok (.istore_n 3, 1) := by decide +kernel
theorem dX9_hears_37 : decode cX9_hears 37 = .ok (.iload_n 3, 1) := by decide +kernel
theorem dX9_hears_38 : decode cX9_hears 38 = .ok (.bipush 64, 2) := by decide +kernel
theorem dX9_hears_40 : decode cX9_hears 40 = .ok (.if_icmp .ge 110, 3) := by decide +kernel
theorem dX9_hears_43 : decode cX9_hears 43 = .ok (.bipush 64, 2) := by decide +kernel
theorem dX9_hears_45 : decode cX9_hears 45 = .ok (.aload_n 0, 1) := by decide +kernel
theorem dX9_hears_46 : decode cX9_hears 46 = .ok (.getfield 64, 3) := by decide +kernel
theorem dX9_hears_49 : decode cX9_hears 49 = .ok (.iconst 5, 1) := by decide +kernel
theorem dX9_hears_50 : decode cX9_hears 50 = .ok (.iload_n 1, 1) := by decide +kernel
theorem dX9_hears_51 : decode cX9_hears 51 = .ok (.imul, 1) := by decide +kernel
theorem dX9_hears_52 : decode cX9_hears 52 = .ok (.iconst 1, 1) := by decide +kernel
theorem dX9_hears_53 : decode cX9_hears 53 = .ok (.iadd, 1) := by decide +kernel
theorem dX9_hears_54 : decode cX9_hears 54 = .ok (.iaload, 1) := by decide +kernel
theorem dX9_hears_55 : decode cX9_hears 55 = .ok (.imul, 1) := by decide +kernel
theorem dX9_hears_56 : decode cX9_hears 56 = .ok (.iload_n 3, 1) := by decide +kernel
theorem dX9_hears_57 : decode cX9_hears 57 = .ok (.iadd, 1) := by decide +kernel
theorem dX9_hears_58 : decode cX9_hears 58 = .ok (.istore 4, 2) := by decide +kernel
theorem dX9_hears_60 : decode cX9_hears 60 = .ok (.aload_n 0, 1) := by decide +kernel
theorem dX9_hears_61 : decode cX9_hears 61 = .ok (.getfield 87, 3) := by decide +kernel
theorem dX9_hears_64 : decode cX9_hears 64 = .ok (.iload 4, 2) := by decide +kernel
theorem dX9_hears_66 : decode cX9_hears 66 = .ok (.iaload, 1) := by decide +kernel
theorem dX9_hears_67 : decode cX9_hears 67 = .ok (.sipush 9999, 3) := by decide +kernel
theorem dX9_hears_70 : decode cX9_hears 70 = .ok (.if_icmp .ge 17, 3) := by decide +kernel
theorem dX9_hears_73 : decode cX9_hears 73 = .ok (.aload_n 0, 1) := by decide +kernel
theorem dX9_hears_74 : decode cX9_hears 74 = .ok (.iload_n 1, 1) := by decide +kernel
theorem dX9_hears_75 : decode cX9_hears 75 = .ok (.iload 4, 2) := by decide +kernel
theorem dX9_hears_77 : decode cX9_hears 77 = .ok (.invokevirtual 235, 3) := by decide +kernel
theorem dX9_hears_80 : decode cX9_hears 80 = .ok (.ifCond .eq 7, 3) := by decide +kernel
theorem dX9_hears_83 : decode cX9_hears 83 = .ok (.iconst 1, 1) := by decide +kernel
theorem dX9_hears_84 : decode cX9_hears 84 = .ok (.goto 4, 3) := by decide +kernel
theorem dX9_hears_87 : decode cX9_hears 87 = .ok (.iconst 0, 1) := by decide +kernel
theorem dX9_hears_88 : decode cX9_hears 88 = .ok (.istore 5, 2) := by decide +kernel
theorem dX9_hears_90 : decode cX9_hears 90 = .ok (.iload 5, 2) := by decide +kernel
theorem dX9_hears_92 : decode cX9_hears 92 = .ok (.aload_n 0, 1) := by decide +kernel
theorem dX9_hears_93 : decode cX9_hears 93 = .ok (.getfield 78, 3) := by decide +kernel
theorem dX9_hears_96 : decode cX9_hears 96 = .ok (.bipush 64, 2) := by decide +kernel
theorem dX9_hears_98 : decode cX9_hears 98 = .ok (.iload_n 1, 1) := by decide +kernel
theorem dX9_hears_99 : decode cX9_hears 99 = .ok (.imul, 1) := by decide +kernel
theorem dX9_hears_100 : decode cX9_hears 100 = .ok (.iload_n 3, 1) := by decide +kernel
theorem dX9_hears_101 : decode cX9_hears 101 = .ok (.iadd, 1) := by decide +kernel
theorem dX9_hears_102 : decode cX9_hears 102 = .ok (.baload, 1) := by decide +kernel
theorem dX9_hears_103 : decode cX9_hears 103 = .ok (.if_icmp .eq 28, 3) := by decide +kernel
theorem dX9_hears_106 : decode cX9_hears 106 = .ok (.iload_n 2, 1) := by decide +kernel
theorem dX9_hears_107 : decode cX9_hears 107 = .ok (.ifCond .ne 24, 3) := by decide +kernel
theorem dX9_hears_110 : decode cX9_hears 110 = .ok (.aload_n 0, 1) := by decide +kernel
theorem dX9_hears_111 : decode cX9_hears 111 = .ok (.iload_n 1, 1) := by decide +kernel
theorem dX9_hears_112 : decode cX9_hears 112 = .ok (.iload 5, 2) := by decide +kernel
theorem dX9_hears_114 : decode cX9_hears 114 = .ok (.ifCond .eq 10, 3) := by decide +kernel
theorem dX9_hears_117 : decode cX9_hears 117 = .ok (.iconst 1, 1) := by decide +kernel
theorem dX9_hears_118 : decode cX9_hears 118 = .ok (.iload 4, 2) := by decide +kernel
theorem dX9_hears_120 : decode cX9_hears 120 = .ok (.iadd, 1) := by decide +kernel
theorem dX9_hears_121 : decode cX9_hears 121 = .ok (.goto 7, 3) := by decide +kernel
theorem dX9_hears_124 : decode cX9_hears 124 = .ok (.iconst (-1), 1) := by decide +kernel
theorem dX9_hears_125 : decode cX9_hears 125 = .ok (.iload 4, 2) := by decide +kernel
theorem dX9_hears_127 : decode cX9_hears 127 = .ok (.isub, 1) := by decide +kernel
theorem dX9_hears_128 : decode cX9_hears 128 = .ok (.invokevirtual 238, 3) := by decide +kernel
theorem dX9_hears_131 : decode cX9_hears 131 = .ok (.aload_n 0, 1) := by decide +kernel
theorem dX9_hears_132 : decode cX9_hears 132 = .ok (.getfield 78, 3) := by decide +kernel
theorem dX9_hears_135 : decode cX9_hears 135 = .ok (.bipush 64, 2) := by decide +kernel
theorem dX9_hears_137 : decode cX9_hears 137 = .ok (.iload_n 1, 1) := by decide +kernel
theorem dX9_hears_138 : decode cX9_hears 138 = .ok (.imul, 1) := by decide +kernel
theorem dX9_hears_139 : decode cX9_hears 139 = .ok (.iload_n 3, 1) := by decide +kernel
theorem dX9_hears_140 : decode cX9_hears 140 = .ok (.iadd, 1) := by decide +kernel
theorem dX9_hears_141 : decode cX9_hears 141 = .ok (.iload 5, 2) := by decide +kernel
theorem dX9_hears_143 : decode cX9_hears 143 = .ok (.bastore, 1) := by decide +kernel
theorem dX9_hears_144 : decode cX9_hears 144 = .ok (.iinc 3 1, 3) := by decide +kernel
theorem dX9_hears_147 : decode cX9_hears 147 = .ok (.goto (-110), 3) := by decide +kernel
theorem dX9_hears_150 : decode cX9_hears 150 = .ok (.return_, 1) := by decide +kernel
theorem dX9_hears__0 : decode cX9_hears_ 0 = .ok (.iconst 0, 1) := by decide +kernel
theorem dX9_hears__1 : decode cX9_hears_ 1 = .ok (.istore_n 2, 1) := by decide +kernel
theorem dX9_hears__2 : decode cX9_hears_ 2 = .ok (.iload_n 2, 1) := by decide +kernel
theorem dX9_hears__3 : decode cX9_hears_ 3 = .ok (.aload_n 0, 1) := by decide +kernel
theorem dX9_hears__4 : decode cX9_hears_ 4 = .ok (.getfield 241, 3) := by decide +kernel
theorem dX9_hears__7 : decode cX9_hears_ 7 = .ok (.if_icmp .ge 27, 3) := by decide +kernel
theorem dX9_hears__10 : decode cX9_hears_ 10 = .ok (.aload_n 0, 1) := by decide +kernel
theorem dX9_hears__11 : decode cX9_hears_ 11 = .ok (.getfield 64, 3) := by decide +kernel
theorem dX9_hears__14 : decode cX9_hears_ 14 = .ok (.iconst 5, 1) := by decide +kernel
theorem dX9_hears__15 : decode cX9_hears_ 15 = .ok (.iload_n 2, 1) := by decide +kernel
theorem dX9_hears__16 : decode cX9_hears_ 16 = .ok (.imul, 1) := by decide +kernel
theorem dX9_hears__17 : decode cX9_hears_ 17 = .ok (.iaload, 1) := by decide +kernel
theorem dX9_hears__18 : decode cX9_hears_ 18 = .ok (.iload_n 1, 1) := by decide +kernel
theorem dX9_hears__19 : decode cX9_hears_ 19 = .ok (.if_icmp .ne 9, 3) := by decide +kernel
theorem dX9_hears__22 : decode cX9_hears_ 22 = .ok (.aload_n 0, 1) := by decide +kernel
theorem dX9_hears__23 : decode cX9_hears_ 23 = .ok (.iload_n 2, 1) := by decide +kernel
theorem dX9_hears__24 : decode cX9_hears_ 24 = .ok (.iconst 0, 1) := by decide +kernel
theorem dX9_hears__25 : decode cX9_hears_ 25 = .ok (.invokevirtual 244, 3) := by decide +kernel
theorem dX9_hears__28 : decode cX9_hears_ 28 = .ok (.iinc 2 1, 3) := by decide +kernel
theorem dX9_hears__31 : decode cX9_hears_ 31 = .ok (.goto (-29), 3) := by decide +kernel
theorem dX9_hears__34 : decode cX9_hears_ 34 = .ok (.return_, 1) := by decide +kernel
theorem dX9_listen_0 : decode cX9_listen 0 = .ok (.aload_n 0, 1) := by decide +kernel
theorem dX9_listen_1 : decode cX9_listen 1 = .ok (.iload_n 1, 1) := by decide +kernel
theorem dX9_listen_2 : decode cX9_listen 2 = .ok (.invokevirtual 160, 3) := by decide +kernel
theorem dX9_listen_5 : decode cX9_listen 5 = .ok (.ifCond .ne 78, 3) := by decide +kernel
theorem dX9_listen_8 : decode cX9_listen 8 = .ok (.aload_n 0, 1) := by decide +kernel
theorem dX9_listen_9 : decode cX9_listen 9 = .ok (.iload_n 2, 1) := by decide +kernel
theorem dX9_listen_10 : decode cX9_listen 10 = .ok (.iconst 0, 1) := by decide +kernel
theorem dX9_listen_11 : decode cX9_listen 11 = .ok (.iconst 5, 1) := by decide +kernel
theorem dX9_listen_12 : decode cX9_listen 12 = .ok (.invokestatic 99, 3) := by decide +kernel
theorem dX9_listen_15 : decode cX9_listen 15 = .ok (.ifCond .eq 35, 3) := by decide +kernel
theorem dX9_listen_18 : decode cX9_listen 18 = .ok (.iload_n 3, 1) := by decide +kernel
theorem dX9_listen_19 : decode cX9_listen 19 = .ok (.iconst (-1), 1) := by decide +kernel
theorem dX9_listen_20 : decode cX9_listen 20 = .ok (.bipush 7, 2) := by decide +kernel
theorem dX9_listen_22 : decode cX9_listen 22 = .ok (.invokestatic 99, 3) := by decide +kernel
theorem dX9_listen_25 : decode cX9_listen 25 = .ok (.ifCond .eq 25, 3) := by decide +kernel
theorem dX9_listen_28 : decode cX9_listen 28 = .ok (.iload 4, 2) := by decide +kernel
theorem dX9_listen_30 : decode cX9_listen 30 = .ok (.iconst (-1), 1) := by decide +kernel
theorem dX9_listen_31 : decode cX9_listen 31 = .ok (.bipush 7, 2) := by decide +kernel
theorem dX9_listen_33 : decode cX9_listen 33 = .ok (.invokestatic 99, 3) := by decide +kernel
theorem dX9_listen_36 : decode cX9_listen 36 = .ok (.ifCond .eq 14, 3) := by decide +kernel
theorem dX9_listen_39 : decode cX9_listen 39 = .ok (.iload 5, 2) := by decide +kernel
theorem dX9_listen_41 : decode cX9_listen 41 = .ok (.iconst 0, 1) := by decide +kernel
theorem dX9_listen_42 : decode cX9_listen 42 = .ok (.bipush 23, 2) := by decide +kernel
theorem dX9_listen_44 : decode cX9_listen 44 = .ok (.invokestatic 99, 3) := by decide +kernel
theorem dX9_listen_47 : decode cX9_listen 47 = .ok (.ifCond .ne 7, 3) := by decide +kernel
theorem dX9_listen_50 : decode cX9_listen 50 = .ok (.iconst 1, 1) := by decide +kernel
theorem dX9_listen_51 : decode cX9_listen 51 = .ok (.goto 4, 3) := by decide +kernel
theorem dX9_listen_54 : decode cX9_listen 54 = .ok (.iconst 0, 1) := by decide +kernel
theorem dX9_listen_55 : decode cX9_listen 55 = .ok (.iconst 2, 1) := by decide +kernel
theorem dX9_listen_56 : decode cX9_listen 56 = .ok (.invokevirtual 103, 3) := by decide +kernel
theorem dX9_listen_59 : decode cX9_listen 59 = .ok (.ifCond .ne 24, 3) := by decide +kernel
theorem dX9_listen_62 : decode cX9_listen 62 = .ok (.aload_n 0, 1) := by decide +kernel
theorem dX9_listen_63 : decode cX9_listen 63 = .ok (.aload_n 0, 1) := by decide +kernel
theorem dX9_listen_64 : decode cX9_listen 64 = .ok (.getfield 241, 3) := by decide +kernel
theorem dX9_listen_67 : decode cX9_listen 67 = .ok (.iconst 5, 1) := by decide +kernel
theorem dX9_listen_68 : decode cX9_listen 68 = .ok (.if_icmp .ne 7, 3) := by decide +kernel
theorem dX9_listen_71 : decode cX9_listen 71 = .ok (.iconst 1, 1) := by decide +kernel
theorem dX9_listen_72 : decode cX9_listen 72 = .ok (.goto 4, 3) := by decide +kernel
theorem dX9_listen_75 : decode cX9_listen 75 = .ok (.iconst 0, 1) := by decide +kernel
theorem dX9_listen_76 : decode cX9_listen 76 = .ok (.iconst 3, 1) := by decide +kernel
theorem dX9_listen_77 : decode cX9_listen 77 = .ok (.invokevirtual 103, 3) := by decide +kernel
theorem dX9_listen_80 : decode cX9_listen 80 = .ok (.ifCond .eq 5, 3) := by decide +kernel
theorem dX9_listen_83 : decode cX9_listen 83 = .ok (.iconst 0, 1) := by decide +kernel
theorem dX9_listen_84 : decode cX9_listen 84 = .ok (.ireturn, 1) := by decide +kernel
theorem dX9_listen_85 : decode cX9_listen 85 = .ok (.aload_n 0, 1) := by decide +kernel
theorem dX9_listen_86 : decode cX9_listen 86 = .ok (.getfield 64, 3) := by decide +kernel
theorem dX9_listen_89 : decode cX9_listen 89 = .ok (.iconst 5, 1) := by decide +kernel
theorem dX9_listen_90 : decode cX9_listen 90 = .ok (.aload_n 0, 1) := by decide +kernel
theorem dX9_listen_91 : decode cX9_listen 91 = .ok (.getfield 241, 3) := by decide +kernel
theorem dX9_listen_94 : decode cX9_listen 94 = .ok (.imul, 1) := by decide +kernel
theorem dX9_listen_95 : decode cX9_listen 95 = .ok (.iload_n 1, 1) := by decide +kernel
theorem dX9_listen_96 : decode cX9_listen 96 = .ok (.iastore, 1) := by decide +kernel
theorem dX9_listen_97 : decode cX9_listen 97 = .ok (.aload_n 0, 1) := by decide +kernel
theorem dX9_listen_98 : decode cX9_listen 98 = .ok (.getfield 64, 3) := by decide +kernel
theorem dX9_listen_101 : decode cX9_listen 101 = .ok (.iconst 5, 1) := by decide +kernel
theorem dX9_listen_102 : decode cX9_listen 102 = .ok (.aload_n 0, 1) := by decide +kernel
theorem dX9_listen_103 : decode cX9_listen 103 = .ok (.getfield 241, 3) := by decide +kernel
theorem dX9_listen_106 : decode cX9_listen 106 = .ok (.imul, 1) := by decide +kernel
theorem dX9_listen_107 : decode cX9_listen 107 = .ok (.iconst 1, 1) := by decide +kernel
theorem dX9_listen_108 : decode cX9_listen 108 = .ok (.iadd, 1) := by decide +kernel
theorem dX9_listen_109 : decode cX9_listen 109 = .ok (.iload_n 2, 1) := by decide +kernel
theorem dX9_listen_110 : decode cX9_listen 110 = .ok (.iastore, 1) := by decide +kernel
theorem dX9_listen_111 : decode cX9_listen 111 = .ok (.aload_n 0, 1) := by decide +kernel
theorem dX9_listen_112 : decode cX9_listen 112 = .ok (.getfield 64, 3) := by decide +kernel
theorem dX9_listen_115 : decode cX9_listen 115 = .ok (.iconst 5, 1) := by decide +kernel
theorem dX9_listen_116 : decode cX9_listen 116 = .ok (.aload_n 0, 1) := by decide +kernel
theorem dX9_listen_117 : decode cX9_listen 117 = .ok (.getfield 241, 3) := by decide +kernel
theorem dX9_listen_120 : decode cX9_listen 120 = .ok (.imul, 1) := by decide +kernel
theorem dX9_listen_121 : decode cX9_listen 121 = .ok (.iconst 2, 1) := by decide +kernel
theorem dX9_listen_122 : decode cX9_listen 122 = .ok (.iadd, 1) := by decide +kernel
theorem dX9_listen_123 : decode cX9_listen 123 = .ok (.iload_n 3, 1) := by decide +kernel
theorem dX9_listen_124 : decode cX9_listen 124 = .ok (.iastore, 1) := by decide +kernel
theorem dX9_listen_125 : decode cX9_listen 125 = .ok (.aload_n 0, 1) := by decide +kernel
theorem dX9_listen_126 : decode cX9_listen 126 = .ok (.getfield 64, 3) := by decide +kernel
theorem dX9_listen_129 : decode cX9_listen 129 = .ok (.iconst 5, 1) := by decide +kernel
theorem dX9_listen_130 : decode cX9_listen 130 = .ok (.aload_n 0, 1) := by decide +kernel
theorem dX9_listen_131 : decode cX9_listen 131 = .ok (.getfield 241, 3) := by decide +kernel
theorem dX9_listen_134 : decode cX9_listen 134 = .ok (.imul, 1) := by decide +kernel
theorem dX9_listen_135 : decode cX9_listen 135 = .ok (.iconst 3, 1) := by decide +kernel
theorem dX9_listen_136 : decode cX9_listen 136 = .ok (.iadd, 1) := by decide +kernel
theorem dX9_listen_137 : decode cX9_listen 137 = .ok (.iload 4, 2) := by decide +kernel
theorem dX9_listen_139 : decode cX9_listen 139 = .ok (.iastore, 1) := by decide +kernel
theorem dX9_listen_140 : decode cX9_listen 140 = .ok (.aload_n 0, 1) := by decide +kernel
theorem dX9_listen_141 : decode cX9_listen 141 = .ok (.getfield 64, 3) := by decide +kernel
theorem dX9_listen_144 : decode cX9_listen 144 = .ok (.iconst 5, 1) := by decide +kernel
theorem dX9_listen_145 : decode cX9_listen 145 = .ok (.aload_n 0, 1) := by decide +kernel
theorem dX9_listen_146 : decode cX9_listen 146 = .ok (.getfield 241, 3) := by decide +kernel
theorem dX9_listen_149 : decode cX9_listen 149 = .ok (.imul, 1) := by decide +kernel
theorem dX9_listen_150 : decode cX9_listen 150 = .ok (.iconst 4, 1) := by decide +kernel
theorem dX9_listen_151 : decode cX9_listen 151 = .ok (.iadd, 1) := by decide +kernel
theorem dX9_listen_152 : decode cX9_listen 152 = .ok (.iload 5, 2) := by decide +kernel
theorem dX9_listen_154 : decode cX9_listen 154 = .ok (.iastore, 1) := by decide +kernel
theorem dX9_listen_155 : decode cX9_listen 155 = .ok (.aload_n 0, 1) := by decide +kernel
theorem dX9_listen_156 : decode cX9_listen 156 = .ok (.aload_n 0, 1) := by decide +kernel
theorem dX9_listen_157 : decode cX9_listen 157 = .ok (.getfield 241, 3) := by decide +kernel
theorem dX9_listen_160 : decode cX9_listen 160 = .ok (.iconst 1, 1) := by decide +kernel
theorem dX9_listen_161 : decode cX9_listen 161 = .ok (.invokevirtual 244, 3) := by decide +kernel
theorem dX9_listen_164 : decode cX9_listen 164 = .ok (.aload_n 0, 1) := by decide +kernel
theorem dX9_listen_165 : decode cX9_listen 165 = .ok (.dup, 1) := by decide +kernel
theorem dX9_listen_166 : decode cX9_listen 166 = .ok (.getfield 241, 3) := by decide +kernel
theorem dX9_listen_169 : decode cX9_listen 169 = .ok (.iconst 1, 1) := by decide +kernel
theorem dX9_listen_170 : decode cX9_listen 170 = .ok (.iadd, 1) := by decide +kernel
theorem dX9_listen_171 : decode cX9_listen 171 = .ok (.putfield 241, 3) := by decide +kernel
theorem dX9_listen_174 : decode cX9_listen 174 = .ok (.aload_n 0, 1) := by decide +kernel
theorem dX9_listen_175 : decode cX9_listen 175 = .ok (.getfield 241, 3) := by decide +kernel
theorem dX9_listen_178 : decode cX9_listen 178 = .ok (.iconst 1, 1) := by decide +kernel
theorem dX9_listen_179 : decode cX9_listen 179 = .ok (.isub, 1) := by decide +kernel
theorem dX9_listen_180 : decode cX9_listen 180 = .ok (.ireturn, 1) := by decide +kernel
theorem dX9_waiting_0 : decode cX9_waiting 0 = .ok (.aload_n 0, 1) := by decide +kernel
theorem dX9_waiting_1 : decode cX9_waiting 1 = .ok (.iload_n 1, 1) := by decide +kernel
theorem dX9_waiting_2 : decode cX9_waiting 2 = .ok (.aload_n 0, 1) := by decide +kernel
theorem dX9_waiting_3 : decode cX9_waiting 3 = .ok (.getfield 241, 3) := by decide +kernel
theorem dX9_waiting_6 : decode cX9_waiting 6 = .ok (.invokevirtual 157, 3) := by decide +kernel
theorem dX9_waiting_9 : decode cX9_waiting 9 = .ok (.ifCond .eq 7, 3) := by decide +kernel
theorem dX9_waiting_12 : decode cX9_waiting 12 = .ok (.iconst 0, 1) := by decide +kernel
theorem dX9_waiting_13 : decode cX9_waiting 13 = .ok (.goto 16, 3) := by decide +kernel
theorem dX9_waiting_16 : decode cX9_waiting 16 = .ok (.aload_n 0, 1) := by decide +kernel
theorem dX9_waiting_17 : decode cX9_waiting 17 = .ok (.getfield 67, 3) := by decide +kernel
theorem dX9_waiting_20 : decode cX9_waiting 20 = .ok (.iload_n 1, 1) := by decide +kernel
theorem dX9_waiting_21 : decode cX9_waiting 21 = .ok (.iaload, 1) := by decide +kernel
theorem dX9_waiting_22 : decode cX9_waiting 22 = .ok (.aload_n 0, 1) := by decide +kernel
theorem dX9_waiting_23 : decode cX9_waiting 23 = .ok (.getfield 70, 3) := by decide +kernel
theorem dX9_waiting_26 : decode cX9_waiting 26 = .ok (.iload_n 1, 1) := by decide +kernel
theorem dX9_waiting_27 : decode cX9_waiting 27 = .ok (.iaload, 1) := by decide +kernel
theorem dX9_waiting_28 : decode cX9_waiting 28 = .ok (.isub, 1) := by decide +kernel
theorem dX9_waiting_29 : decode cX9_waiting 29 = .ok (.ireturn, 1) := by decide +kernel
theorem dX9_next_0 : decode cX9_next 0 = .ok (.aload_n 0, 1) := by decide +kernel
theorem dX9_next_1 : decode cX9_next 1 = .ok (.iload_n 1, 1) := by decide +kernel
theorem dX9_next_2 : decode cX9_next 2 = .ok (.aload_n 0, 1) := by decide +kernel
theorem dX9_next_3 : decode cX9_next 3 = .ok (.getfield 241, 3) := by decide +kernel
theorem dX9_next_6 : decode cX9_next 6 = .ok (.invokevirtual 157, 3) := by decide +kernel
theorem dX9_next_9 : decode cX9_next 9 = .ok (.ifCond .ne 31, 3) := by decide +kernel
theorem dX9_next_12 : decode cX9_next 12 = .ok (.aload_n 0, 1) := by decide +kernel
theorem dX9_next_13 : decode cX9_next 13 = .ok (.aload_n 0, 1) := by decide +kernel
theorem dX9_next_14 : decode cX9_next 14 = .ok (.getfield 67, 3) := by decide +kernel
theorem dX9_next_17 : decode cX9_next 17 = .ok (.iload_n 1, 1) := by decide +kernel
theorem dX9_next_18 : decode cX9_next 18 = .ok (.iaload, 1) := by decide +kernel
theorem dX9_next_19 : decode cX9_next 19 = .ok (.aload_n 0, 1) := by decide +kernel
theorem dX9_next_20 : decode cX9_next 20 = .ok (.getfield 70, 3) := by decide +kernel
theorem dX9_next_23 : decode cX9_next 23 = .ok (.iload_n 1, 1) := by decide +kernel
theorem dX9_next_24 : decode cX9_next 24 = .ok (.iaload, 1) := by decide +kernel
theorem dX9_next_25 : decode cX9_next 25 = .ok (.if_icmp .ne 7, 3) := by decide +kernel
theorem dX9_next_28 : decode cX9_next 28 = .ok (.iconst 1, 1) := by decide +kernel
theorem dX9_next_29 : decode cX9_next 29 = .ok (.goto 4, 3) := by decide +kernel
theorem dX9_next_32 : decode cX9_next 32 = .ok (.iconst 0, 1) := by decide +kernel
theorem dX9_next_33 : decode cX9_next 33 = .ok (.iconst 2, 1) := by decide +kernel
theorem dX9_next_34 : decode cX9_next 34 = .ok (.invokevirtual 103, 3) := by decide +kernel
theorem dX9_next_37 : decode cX9_next 37 = .ok (.ifCond .eq 5, 3) := by decide +kernel
theorem dX9_next_40 : decode cX9_next 40 = .ok (.iconst 0, 1) := by decide +kernel
theorem dX9_next_41 : decode cX9_next 41 = .ok (.ireturn, 1) := by decide +kernel
theorem dX9_next_42 : decode cX9_next 42 = .ok (.aload_n 0, 1) := by decide +kernel
theorem dX9_next_43 : decode cX9_next 43 = .ok (.getfield 70, 3) := by decide +kernel
theorem dX9_next_46 : decode cX9_next 46 = .ok (.iload_n 1, 1) := by decide +kernel
theorem dX9_next_47 : decode cX9_next 47 = .ok (.dup2, 1) := by decide +kernel
theorem dX9_next_48 : decode cX9_next 48 = .ok (.iaload, 1) := by decide +kernel
theorem dX9_next_49 : decode cX9_next 49 = .ok (.iconst 1, 1) := by decide +kernel
theorem dX9_next_50 : decode cX9_next 50 = .ok (.iadd, 1) := by decide +kernel
theorem dX9_next_51 : decode cX9_next 51 = .ok (.iastore, 1) := by decide +kernel
theorem dX9_next_52 : decode cX9_next 52 = .ok (.aload_n 0, 1) := by decide +kernel
theorem dX9_next_53 : decode cX9_next 53 = .ok (.getfield 75, 3) := by decide +kernel
theorem dX9_next_56 : decode cX9_next 56 = .ok (.iload_n 1, 1) := by decide +kernel
theorem dX9_next_57 : decode cX9_next 57 = .ok (.aaload, 1) := by decide +kernel
theorem dX9_next_58 : decode cX9_next 58 = .ok (.aload_n 0, 1) := by decide +kernel
theorem dX9_next_59 : decode cX9_next 59 = .ok (.getfield 70, 3) := by decide +kernel
theorem dX9_next_62 : decode cX9_next 62 = .ok (.iload_n 1, 1) := by decide +kernel
theorem dX9_next_63 : decode cX9_next 63 = .ok (.iaload, 1) := by decide +kernel
theorem dX9_next_64 : decode cX9_next 64 = .ok (.iconst 1, 1) := by decide +kernel
theorem dX9_next_65 : decode cX9_next 65 = .ok (.isub, 1) := by decide +kernel
theorem dX9_next_66 : decode cX9_next 66 = .ok (.iaload, 1) := by decide +kernel
theorem dX9_next_67 : decode cX9_next 67 = .ok (.ireturn, 1) := by decide +kernel
theorem dX9_hours_0 : decode cX9_hours 0 = .ok (.aload_n 0, 1) := by decide +kernel
theorem dX9_hours_1 : decode cX9_hours 1 = .ok (.iconst 0, 1) := by decide +kernel
theorem dX9_hours_2 : decode cX9_hours 2 = .ok (.putfield 96, 3) := by decide +kernel
theorem dX9_hours_5 : decode cX9_hours 5 = .ok (.lconst 0, 1) := by decide +kernel
theorem dX9_hours_6 : decode cX9_hours 6 = .ok (.lstore_n 1, 1) := by decide +kernel
theorem dX9_hours_7 : decode cX9_hours 7 = .ok (.iconst 0, 1) := by decide +kernel
theorem dX9_hours_8 : decode cX9_hours 8 = .ok (.istore_n 3, 1) := by decide +kernel
theorem dX9_hours_9 : decode cX9_hours 9 = .ok (.iload_n 3, 1) := by decide +kernel
theorem dX9_hours_10 : decode cX9_hours 10 = .ok (.aload_n 0, 1) := by decide +kernel
theorem dX9_hours_11 : decode cX9_hours 11 = .ok (.getfield 45, 3) := by decide +kernel
theorem dX9_hours_14 : decode cX9_hours 14 = .ok (.if_icmp .ge 85, 3) := by decide +kernel
theorem dX9_hours_17 : decode cX9_hours 17 = .ok (.iload_n 3, 1) := by decide +kernel
theorem dX9_hours_18 : decode cX9_hours 18 = .ok (.bipush 60, 2) := by decide +kernel
theorem dX9_hours_20 : decode cX9_hours 20 = .ok (.imul, 1) := by decide +kernel
theorem dX9_hours_21 : decode cX9_hours 21 = .ok (.istore 4, 2) := by decide +kernel
theorem dX9_hours_23 : decode cX9_hours 23 = .ok (.iload 4, 2) := by decide +kernel
theorem dX9_hours_25 : decode cX9_hours 25 = .ok (.iload_n 3, 1) := by decide +kernel
theorem dX9_hours_26 : decode cX9_hours 26 = .ok (.bipush 60, 2) := by decide +kernel
theorem dX9_hours_28 : decode cX9_hours 28 = .ok (.imul, 1) := by decide +kernel
theorem dX9_hours_29 : decode cX9_hours 29 = .ok (.aload_n 0, 1) := by decide +kernel
theorem dX9_hours_30 : decode cX9_hours 30 = .ok (.getfield 33, 3) := by decide +kernel
theorem dX9_hours_33 : decode cX9_hours 33 = .ok (.iload_n 3, 1) := by decide +kernel
theorem dX9_hours_34 : decode cX9_hours 34 = .ok (.iaload, 1) := by decide +kernel
theorem dX9_hours_35 : decode cX9_hours 35 = .ok (.iadd, 1) := by decide +kernel
theorem dX9_hours_36 : decode cX9_hours 36 = .ok (.if_icmp .ge 57, 3) := by decide +kernel
theorem dX9_hours_39 : decode cX9_hours 39 = .ok (.lload_n 1, 1) := by decide +kernel
theorem dX9_hours_40 : decode cX9_hours 40 = .ok (.aload_n 0, 1) := by decide +kernel
theorem dX9_hours_41 : decode cX9_hours 41 = .ok (.getfield 9, 3) := by decide +kernel
theorem dX9_hours_44 : decode cX9_hours 44 = .ok (.iload 4, 2) := by decide +kernel
theorem dX9_hours_46 : decode cX9_hours 46 = .ok (.caload, 1) := by decide +kernel
theorem dX9_hours_47 : decode cX9_hours 47 = .ok (.invokestatic 107, 3) := by decide +kernel
theorem dX9_hours_50 : decode cX9_hours 50 = .ok (.ifCond .eq 34, 3) := by decide +kernel
theorem dX9_hours_53 : decode cX9_hours 53 = .ok (.aload_n 0, 1) := by decide +kernel
theorem dX9_hours_54 : decode cX9_hours 54 = .ok (.getfield 26, 3) := by decide +kernel
theorem dX9_hours_57 : decode cX9_hours 57 = .ok (.iload 4, 2) := by decide +kernel
theorem dX9_hours_59 : decode cX9_hours 59 = .ok (.baload, 1) := by decide +kernel
theorem dX9_hours_60 : decode cX9_hours 60 = .ok (.ifCond .ne 24, 3) := by decide +kernel
theorem dX9_hours_63 : decode cX9_hours 63 = .ok (.aload_n 0, 1) := by decide +kernel
theorem dX9_hours_64 : decode cX9_hours 64 = .ok (.getfield 20, 3) := by decide +kernel
theorem dX9_hours_67 : decode cX9_hours 67 = .ok (.iload 4, 2) := by decide +kernel
theorem dX9_hours_69 : decode cX9_hours 69 = .ok (.iaload, 1) := by decide +kernel
theorem dX9_hours_70 : decode cX9_hours 70 = .ok (.aload_n 0, 1) := by decide +kernel
theorem dX9_hours_71 : decode cX9_hours 71 = .ok (.getfield 17, 3) := by decide +kernel
theorem dX9_hours_74 : decode cX9_hours 74 = .ok (.iload 4, 2) := by decide +kernel
theorem dX9_hours_76 : decode cX9_hours 76 = .ok (.iaload, 1) := by decide +kernel
theorem dX9_hours_77 : decode cX9_hours 77 = .ok (.isub, 1) := by decide +kernel
theorem dX9_hours_78 : decode cX9_hours 78 = .ok (.iconst 1, 1) := by decide +kernel
theorem dX9_hours_79 : decode cX9_hours 79 = .ok (.iadd, 1) := by decide +kernel
theorem dX9_hours_80 : decode cX9_hours 80 = .ok (.i2l, 1) := by decide +kernel
theorem dX9_hours_81 : decode cX9_hours 81 = .ok (.goto 4, 3) := by decide +kernel
theorem dX9_hours_84 : decode cX9_hours 84 = .ok (.lconst 0, 1) := by decide +kernel
theorem dX9_hours_85 : decode cX9_hours 85 = .ok (.ladd, 1) := by decide +kernel
theorem dX9_hours_86 : decode cX9_hours 86 = .ok (.lstore_n 1, 1) := by decide +kernel
theorem dX9_hours_87 : decode cX9_hours 87 = .ok (.iinc 4 1, 3) := by decide +kernel
theorem dX9_hours_90 : decode cX9_hours 90 = .ok (.goto (-67), 3) := by decide +kernel
theorem dX9_hours_93 : decode cX9_hours 93 = .ok (.iinc 3 1, 3) := by decide +kernel
theorem dX9_hours_96 : decode cX9_hours 96 = .ok (.goto (-87), 3) := by decide +kernel
theorem dX9_hours_99 : decode cX9_hours 99 = .ok (.lload_n 1, 1) := by decide +kernel
theorem dX9_hours_100 : decode cX9_hours 100 = .ok (.lreturn, 1) := by decide +kernel
theorem dX9_holding_0 : decode cX9_holding 0 = .ok (.aload_n 0, 1) := by decide +kernel
theorem dX9_holding_1 : decode cX9_holding 1 = .ok (.iload_n 1, 1) := by decide +kernel
theorem dX9_holding_2 : decode cX9_holding 2 = .ok (.invokevirtual 160, 3) := by decide +kernel
theorem dX9_holding_5 : decode cX9_holding 5 = .ok (.ifCond .ne 26, 3) := by decide +kernel
theorem dX9_holding_8 : decode cX9_holding 8 = .ok (.aload_n 0, 1) := by decide +kernel
theorem dX9_holding_9 : decode cX9_holding 9 = .ok (.iload_n 2, 1) := by decide +kernel
theorem dX9_holding_10 : decode cX9_holding 10 = .ok (.iconst 0, 1) := by decide +kernel
theorem dX9_holding_11 : decode cX9_holding 11 = .ok (.bipush 23, 2) := by decide +kernel
theorem dX9_holding_13 : decode cX9_holding 13 = .ok (.invokestatic 99, 3) := by decide +kernel
theorem dX9_holding_16 : decode cX9_holding 16 = .ok (.ifCond .ne 7, 3) := by decide +kernel
theorem dX9_holding_19 : decode cX9_holding 19 = .ok (.iconst 1, 1) := by decide +kernel
theorem dX9_holding_20 : decode cX9_holding 20 = .ok (.goto 4, 3) := by decide +kernel
theorem dX9_holding_23 : decode cX9_holding 23 = .ok (.iconst 0, 1) := by decide +kernel
theorem dX9_holding_24 : decode cX9_holding 24 = .ok (.iconst 2, 1) := by decide +kernel
theorem dX9_holding_25 : decode cX9_holding 25 = .ok (.invokevirtual 103, 3) := by decide +kernel
theorem dX9_holding_28 : decode cX9_holding 28 = .ok (.ifCond .eq 5, 3) := by decide +kernel
theorem dX9_holding_31 : decode cX9_holding 31 = .ok (.iconst (-1), 1) := by decide +kernel
theorem dX9_holding_32 : decode cX9_holding 32 = .ok (.ireturn, 1) := by decide +kernel
theorem dX9_holding_33 : decode cX9_holding 33 = .ok (.aload_n 0, 1) := by decide +kernel
theorem dX9_holding_34 : decode cX9_holding 34 = .ok (.iload_n 1, 1) := by decide +kernel
theorem dX9_holding_35 : decode cX9_holding 35 = .ok (.aload_n 0, 1) := by decide +kernel
theorem dX9_holding_36 : decode cX9_holding 36 = .ok (.getfield 33, 3) := by decide +kernel
theorem dX9_holding_39 : decode cX9_holding 39 = .ok (.iload_n 1, 1) := by decide +kernel
theorem dX9_holding_40 : decode cX9_holding 40 = .ok (.iaload, 1) := by decide +kernel
theorem dX9_holding_41 : decode cX9_holding 41 = .ok (.iload_n 2, 1) := by decide +kernel
theorem dX9_holding_42 : decode cX9_holding 42 = .ok (.invokevirtual 193, 3) := by decide +kernel
theorem dX9_holding_45 : decode cX9_holding 45 = .ok (.iconst 0, 1) := by decide +kernel
theorem dX9_holding_46 : decode cX9_holding 46 = .ok (.istore_n 3, 1) := by decide +kernel
theorem dX9_holding_47 : decode cX9_holding 47 = .ok (.iconst 0, 1) := by decide +kernel
theorem dX9_holding_48 : decode cX9_holding 48 = .ok (.istore 4, 2) := by decide +kernel
theorem dX9_holding_50 : decode cX9_holding 50 = .ok (.iload 4, 2) := by decide +kernel
theorem dX9_holding_52 : decode cX9_holding 52 = .ok (.sipush 384, 3) := by decide +kernel
theorem dX9_holding_55 : decode cX9_holding 55 = .ok (.if_icmp .ge 30, 3) := by decide +kernel
theorem dX9_holding_58 : decode cX9_holding 58 = .ok (.iload_n 3, 1) := by decide +kernel
theorem dX9_holding_59 : decode cX9_holding 59 = .ok (.aload_n 0, 1) := by decide +kernel
theorem dX9_holding_60 : decode cX9_holding 60 = .ok (.getfield 87, 3) := by decide +kernel
theorem dX9_holding_63 : decode cX9_holding 63 = .ok (.iload 4, 2) := by decide +kernel
theorem dX9_holding_65 : decode cX9_holding 65 = .ok (.iaload, 1) := by decide +kernel
theorem dX9_holding_66 : decode cX9_holding 66 = .ok (.sipush 9999, 3) := by decide +kernel
theorem dX9_holding_69 : decode cX9_holding 69 = .ok (.if_icmp .ge 7, 3) := by decide +kernel
theorem dX9_holding_72 : decode cX9_holding 72 = .ok (.iconst 1, 1) := by decide +kernel
theorem dX9_holding_73 : decode cX9_holding 73 = .ok (.goto 4, 3) := by decide +kernel
theorem dX9_holding_76 : decode cX9_holding 76 = .ok (.iconst 0, 1) := by decide +kernel
theorem dX9_holding_77 : decode cX9_holding 77 = .ok (.iadd, 1) := by decide +kernel
theorem dX9_holding_78 : decode cX9_holding 78 = .ok (.istore_n 3, 1) := by decide +kernel
theorem dX9_holding_79 : decode cX9_holding 79 = .ok (.iinc 4 1, 3) := by decide +kernel
theorem dX9_holding_82 : decode cX9_holding 82 = .ok (.goto (-32), 3) := by decide +kernel
theorem dX9_holding_85 : decode cX9_holding 85 = .ok (.aload_n 0, 1) := by decide +kernel
theorem dX9_holding_86 : decode cX9_holding 86 = .ok (.iload_n 3, 1) := by decide +kernel
theorem dX9_holding_87 : decode cX9_holding 87 = .ok (.ifCond .ne 7, 3) := by decide +kernel
theorem dX9_holding_90 : decode cX9_holding 90 = .ok (.iconst 1, 1) := by decide +kernel
theorem dX9_holding_91 : decode cX9_holding 91 = .ok (.goto 4, 3) := by decide +kernel
theorem dX9_holding_94 : decode cX9_holding 94 = .ok (.iconst 0, 1) := by decide +kernel
theorem dX9_holding_95 : decode cX9_holding 95 = .ok (.iconst 3, 1) := by decide +kernel
theorem dX9_holding_96 : decode cX9_holding 96 = .ok (.invokevirtual 103, 3) := by decide +kernel
theorem dX9_holding_99 : decode cX9_holding 99 = .ok (.ifCond .eq 7, 3) := by decide +kernel
theorem dX9_holding_102 : decode cX9_holding 102 = .ok (.iconst (-1), 1) := by decide +kernel
theorem dX9_holding_103 : decode cX9_holding 103 = .ok (.goto 4, 3) := by decide +kernel
theorem dX9_holding_106 : decode cX9_holding 106 = .ok (.iload_n 3, 1) := by decide +kernel
theorem dX9_holding_107 : decode cX9_holding 107 = .ok (.ireturn, 1) := by decide +kernel
theorem dX9_derivedShare_0 : decode cX9_derivedShare 0 = .ok (.aload_n 0, 1) := by decide +kernel
theorem dX9_derivedShare_1 : decode cX9_derivedShare 1 = .ok (.iload_n 1, 1) := by decide +kernel
theorem dX9_derivedShare_2 : decode cX9_derivedShare 2 = .ok (.iload_n 2, 1) := by decide +kernel
theorem dX9_derivedShare_3 : decode cX9_derivedShare 3 = .ok (.invokevirtual 247, 3) := by decide +kernel
theorem dX9_derivedShare_6 : decode cX9_derivedShare 6 = .ok (.istore_n 3, 1) := by decide +kernel
theorem dX9_derivedShare_7 : decode cX9_derivedShare 7 = .ok (.iconst 0, 1) := by decide +kernel
theorem dX9_derivedShare_8 : decode cX9_derivedShare 8 = .ok (.istore 4, 2) := by decide +kernel
theorem dX9_derivedShare_10 : decode cX9_derivedShare 10 = .ok (.iconst 0, 1) := by decide +kernel
theorem dX9_derivedShare_11 : decode cX9_derivedShare 11 = .ok (.istore 5, 2) := by decide +kernel
theorem dX9_derivedShare_13 : decode cX9_derivedShare 13 = .ok (.iload 5, 2) := by decide +kernel
theorem dX9_derivedShare_15 : decode cX9_derivedShare 15 = .ok (.sipush 384, 3) := by decide +kernel
theorem dX9_derivedShare_18 : decode cX9_derivedShare 18 = .ok (.if_icmp .ge 46, 3) := by decide +kernel
theorem dX9_derivedShare_21 : decode cX9_derivedShare 21 = .ok (.iload_n 3, 1) := by decide +kernel
theorem dX9_derivedShare_22 : decode cX9_derivedShare 22 = .ok (.ifCond .le 42, 3) := by decide +kernel
theorem dX9_derivedShare_25 : decode cX9_derivedShare 25 = .ok (.iload 4, 2) := by decide +kernel
theorem dX9_derivedShare_27 : decode cX9_derivedShare 27 = .ok (.aload_n 0, 1) := by decide +kernel
theorem dX9_derivedShare_28 : decode cX9_derivedShare 28 = .ok (.getfield 87, 3) := by decide +kernel
theorem dX9_derivedShare_31 : decode cX9_derivedShare 31 = .ok (.iload 5, 2) := by decide +kernel
theorem dX9_derivedShare_33 : decode cX9_derivedShare 33 = .ok (.iaload, 1) := by decide +kernel
theorem dX9_derivedShare_34 : decode cX9_derivedShare 34 = .ok (.ifCond .le 20, 3) := by decide +kernel
theorem dX9_derivedShare_37 : decode cX9_derivedShare 37 = .ok (.aload_n 0, 1) := by decide +kernel
theorem dX9_derivedShare_38 : decode cX9_derivedShare 38 = .ok (.getfield 87, 3) := by decide +kernel
theorem dX9_derivedShare_41 : decode cX9_derivedShare 41 = .ok (.iload 5, 2) := by decide +kernel
theorem dX9_derivedShare_43 : decode cX9_derivedShare 43 = .ok (.iaload, 1) := by decide +kernel
theorem dX9_derivedShare_44 : decode cX9_derivedShare 44 = .ok (.sipush 9999, 3) := by decide +kernel
theorem dX9_derivedShare_47 : decode cX9_derivedShare 47 = .ok (.if_icmp .ge 7, 3) := by decide +kernel
theorem dX9_derivedShare_50 : decode cX9_derivedShare 50 = .ok (.iconst 1, 1) := by decide +kernel
theorem dX9_derivedShare_51 : decode cX9_derivedShare 51 = .ok (.goto 4, 3) := by decide +kernel
theorem dX9_derivedShare_54 : decode cX9_derivedShare 54 = .ok (.iconst 0, 1) := by decide +kernel
theorem dX9_derivedShare_55 : decode cX9_derivedShare 55 = .ok (.iadd, 1) := by decide +kernel
theorem dX9_derivedShare_56 : decode cX9_derivedShare 56 = .ok (.istore 4, 2) := by decide +kernel
theorem dX9_derivedShare_58 : decode cX9_derivedShare 58 = .ok (.iinc 5 1, 3) := by decide +kernel
theorem dX9_derivedShare_61 : decode cX9_derivedShare 61 = .ok (.goto (-48), 3) := by decide +kernel
theorem dX9_derivedShare_64 : decode cX9_derivedShare 64 = .ok (.iload_n 3, 1) := by decide +kernel
theorem dX9_derivedShare_65 : decode cX9_derivedShare 65 = .ok (.ifCond .ge 7, 3) := by decide +kernel
theorem dX9_derivedShare_68 : decode cX9_derivedShare 68 = .ok (.fconst 0, 1) := by decide +kernel
theorem dX9_derivedShare_69 : decode cX9_derivedShare 69 = .ok (.goto 9, 3) := by decide +kernel
theorem dX9_derivedShare_72 : decode cX9_derivedShare 72 = .ok (.iload 4, 2) := by decide +kernel
theorem dX9_derivedShare_74 : decode cX9_derivedShare 74 = .ok (.i2f, 1) := by decide +kernel
theorem dX9_derivedShare_75 : decode cX9_derivedShare 75 = .ok (.iload_n 3, 1) := by decide +kernel
theorem dX9_derivedShare_76 : decode cX9_derivedShare 76 = .ok (.i2f, 1) := by decide +kernel
theorem dX9_derivedShare_77 : decode cX9_derivedShare 77 = .ok (.fdiv, 1) := by decide +kernel
theorem dX9_derivedShare_78 : decode cX9_derivedShare 78 = .ok (.freturn, 1) := by decide +kernel
theorem dX9_meanRank_0 : decode cX9_meanRank 0 = .ok (.aload_n 0, 1) := by decide +kernel
theorem dX9_meanRank_1 : decode cX9_meanRank 1 = .ok (.iload_n 1, 1) := by decide +kernel
theorem dX9_meanRank_2 : decode cX9_meanRank 2 = .ok (.iload_n 2, 1) := by decide +kernel
theorem dX9_meanRank_3 : decode cX9_meanRank 3 = .ok (.invokevirtual 247, 3) := by decide +kernel
theorem dX9_meanRank_6 : decode cX9_meanRank 6 = .ok (.istore_n 3, 1) := by decide +kernel
theorem dX9_meanRank_7 : decode cX9_meanRank 7 = .ok (.iconst 0, 1) := by decide +kernel
theorem dX9_meanRank_8 : decode cX9_meanRank 8 = .ok (.istore 4, 2) := by decide +kernel
theorem dX9_meanRank_10 : decode cX9_meanRank 10 = .ok (.iconst 0, 1) := by decide +kernel
theorem dX9_meanRank_11 : decode cX9_meanRank 11 = .ok (.istore 5, 2) := by decide +kernel
theorem dX9_meanRank_13 : decode cX9_meanRank 13 = .ok (.iload 5, 2) := by decide +kernel
theorem dX9_meanRank_15 : decode cX9_meanRank 15 = .ok (.sipush 384, 3) := by decide +kernel
theorem dX9_meanRank_18 : decode cX9_meanRank 18 = .ok (.if_icmp .ge 42, 3) := by decide +kernel
theorem dX9_meanRank_21 : decode cX9_meanRank 21 = .ok (.iload_n 3, 1) := by decide +kernel
theorem dX9_meanRank_22 : decode cX9_meanRank 22 = .ok (.ifCond .le 38, 3) := by decide +kernel
theorem dX9_meanRank_25 : decode cX9_meanRank 25 = .ok (.iload 4, 2) := by decide +kernel
theorem dX9_meanRank_27 : decode cX9_meanRank 27 = .ok (.aload_n 0, 1) := by decide +kernel
theorem dX9_meanRank_28 : decode cX9_meanRank 28 = .ok (.getfield 87, 3) := by decide +kernel
theorem dX9_meanRank_31 : decode cX9_meanRank 31 = .ok (.iload 5, 2) := by decide +kernel
theorem dX9_meanRank_33 : decode cX9_meanRank 33 = .ok (.iaload, 1) := by decide +kernel
theorem dX9_meanRank_34 : decode cX9_meanRank 34 = .ok (.sipush 9999, 3) := by decide +kernel
theorem dX9_meanRank_37 : decode cX9_meanRank 37 = .ok (.if_icmp .ge 13, 3) := by decide +kernel
theorem dX9_meanRank_40 : decode cX9_meanRank 40 = .ok (.aload_n 0, 1) := by decide +kernel
theorem dX9_meanRank_41 : decode cX9_meanRank 41 = .ok (.getfield 87, 3) := by decide +kernel
theorem dX9_meanRank_44 : decode cX9_meanRank 44 = .ok (.iload 5, 2) := by decide +kernel
theorem dX9_meanRank_46 : decode cX9_meanRank 46 = .ok (.iaload, 1) := by decide +kernel
theorem dX9_meanRank_47 : decode cX9_meanRank 47 = .ok (.goto 4, 3) := by decide +kernel
theorem dX9_meanRank_50 : decode cX9_meanRank 50 = .ok (.iconst 0, 1) := by decide +kernel
theorem dX9_meanRank_51 : decode cX9_meanRank 51 = .ok (.iadd, 1) := by decide +kernel
theorem dX9_meanRank_52 : decode cX9_meanRank 52 = .ok (.istore 4, 2) := by decide +kernel
theorem dX9_meanRank_54 : decode cX9_meanRank 54 = .ok (.iinc 5 1, 3) := by decide +kernel
theorem dX9_meanRank_57 : decode cX9_meanRank 57 = .ok (.goto (-44), 3) := by decide +kernel
theorem dX9_meanRank_60 : decode cX9_meanRank 60 = .ok (.iload_n 3, 1) := by decide +kernel
theorem dX9_meanRank_61 : decode cX9_meanRank 61 = .ok (.ifCond .ge 7, 3) := by decide +kernel
theorem dX9_meanRank_64 : decode cX9_meanRank 64 = .ok (.dconst 0, 1) := by decide +kernel
theorem dX9_meanRank_65 : decode cX9_meanRank 65 = .ok (.goto 9, 3) := by decide +kernel
theorem dX9_meanRank_68 : decode cX9_meanRank 68 = .ok (.iload 4, 2) := by decide +kernel
theorem dX9_meanRank_70 : decode cX9_meanRank 70 = .ok (.i2d, 1) := by decide +kernel
theorem dX9_meanRank_71 : decode cX9_meanRank 71 = .ok (.iload_n 3, 1) := by decide +kernel
theorem dX9_meanRank_72 : decode cX9_meanRank 72 = .ok (.i2d, 1) := by decide +kernel
theorem dX9_meanRank_73 : decode cX9_meanRank 73 = .ok (.ddiv, 1) := by decide +kernel
theorem dX9_meanRank_74 : decode cX9_meanRank 74 = .ok (.dreturn, 1) := by decide +kernel
theorem dX9_isSound_0 : decode cX9_isSound 0 = .ok (.aload_n 0, 1) := by decide +kernel
theorem dX9_isSound_1 : decode cX9_isSound 1 = .ok (.iconst 0, 1) := by decide +kernel
theorem dX9_isSound_2 : decode cX9_isSound 2 = .ok (.putfield 96, 3) := by decide +kernel
theorem dX9_isSound_5 : decode cX9_isSound 5 = .ok (.iconst 1, 1) := by decide +kernel
theorem dX9_isSound_6 : decode cX9_isSound 6 = .ok (.ireturn, 1) := by decide +kernel
theorem dJx00060_init_a7421_0 : decode cJx00060_init_a7421 0 = .ok (.aload_n 0, 1) := by decide +kernel
theorem dJx00060_init_a7421_1 : decode cJx00060_init_a7421 1 = .ok (.aload_n 1, 1) := by decide +kernel
theorem dJx00060_init_a7421_2 : decode cJx00060_init_a7421 2 = .ok (.invokespecial 7, 3) := by decide +kernel
theorem dJx00060_init_a7421_5 : decode cJx00060_init_a7421 5 = .ok (.return_, 1) := by decide +kernel
theorem dJ13_bitCount_95d88_0 : decode cJ13_bitCount_95d88 0 = .ok (.lload_n 0, 1) := by decide +kernel
theorem dJ13_bitCount_95d88_1 : decode cJ13_bitCount_95d88 1 = .ok (.lload_n 0, 1) := by decide +kernel
theorem dJ13_bitCount_95d88_2 : decode cJ13_bitCount_95d88 2 = .ok (.iconst 1, 1) := by decide +kernel
theorem dJ13_bitCount_95d88_3 : decode cJ13_bitCount_95d88 3 = .ok (.lushr, 1) := by decide +kernel
theorem dJ13_bitCount_95d88_4 : decode cJ13_bitCount_95d88 4 = .ok (.ldc2_w 314, 3) := by decide +kernel
theorem dJ13_bitCount_95d88_7 : decode cJ13_bitCount_95d88 7 = .ok (.land, 1) := by decide +kernel
theorem dJ13_bitCount_95d88_8 : decode cJ13_bitCount_95d88 8 = .ok (.lsub, 1) := by decide +kernel
theorem dJ13_bitCount_95d88_9 : decode cJ13_bitCount_95d88 9 = .ok (.lstore_n 0, 1) := by decide +kernel
theorem dJ13_bitCount_95d88_10 : decode cJ13_bitCount_95d88 10 = .ok (.lload_n 0, 1) := by decide +kernel
theorem dJ13_bitCount_95d88_11 : decode cJ13_bitCount_95d88 11 = .ok (.ldc2_w 316, 3) := by decide +kernel
theorem dJ13_bitCount_95d88_14 : decode cJ13_bitCount_95d88 14 = .ok (.land, 1) := by decide +kernel
theorem dJ13_bitCount_95d88_15 : decode cJ13_bitCount_95d88 15 = .ok (.lload_n 0, 1) := by decide +kernel
theorem dJ13_bitCount_95d88_16 : decode cJ13_bitCount_95d88 16 = .ok (.iconst 2, 1) := by decide +kernel
theorem dJ13_bitCount_95d88_17 : decode cJ13_bitCount_95d88 17 = .ok (.lushr, 1) := by decide +kernel
theorem dJ13_bitCount_95d88_18 : decode cJ13_bitCount_95d88 18 = .ok (.ldc2_w 316, 3) := by decide +kernel
theorem dJ13_bitCount_95d88_21 : decode cJ13_bitCount_95d88 21 = .ok (.land, 1) := by decide +kernel
theorem dJ13_bitCount_95d88_22 : decode cJ13_bitCount_95d88 22 = .ok (.ladd, 1) := by decide +kernel
theorem dJ13_bitCount_95d88_23 : decode cJ13_bitCount_95d88 23 = .ok (.lstore_n 0, 1) := by decide +kernel
theorem dJ13_bitCount_95d88_24 : decode cJ13_bitCount_95d88 24 = .ok (.lload_n 0, 1) := by decide +kernel
theorem dJ13_bitCount_95d88_25 : decode cJ13_bitCount_95d88 25 = .ok (.lload_n 0, 1) := by decide +kernel
theorem dJ13_bitCount_95d88_26 : decode cJ13_bitCount_95d88 26 = .ok (.iconst 4, 1) := by decide +kernel
theorem dJ13_bitCount_95d88_27 : decode cJ13_bitCount_95d88 27 = .ok (.lushr, 1) := by decide +kernel
theorem dJ13_bitCount_95d88_28 : decode cJ13_bitCount_95d88 28 = .ok (.ladd, 1) := by decide +kernel
theorem dJ13_bitCount_95d88_29 : decode cJ13_bitCount_95d88 29 = .ok (.ldc2_w 318, 3) := by decide +kernel
theorem dJ13_bitCount_95d88_32 : decode cJ13_bitCount_95d88 32 = .ok (.land, 1) := by decide +kernel
theorem dJ13_bitCount_95d88_33 : decode cJ13_bitCount_95d88 33 = .ok (.lstore_n 0, 1) := by decide +kernel
theorem dJ13_bitCount_95d88_34 : decode cJ13_bitCount_95d88 34 = .ok (.lload_n 0, 1) := by decide +kernel
theorem dJ13_bitCount_95d88_35 : decode cJ13_bitCount_95d88 35 = .ok (.lload_n 0, 1) := by decide +kernel
theorem dJ13_bitCount_95d88_36 : decode cJ13_bitCount_95d88 36 = .ok (.bipush 8, 2) := by decide +kernel
theorem dJ13_bitCount_95d88_38 : decode cJ13_bitCount_95d88 38 = .ok (.lushr, 1) := by decide +kernel
theorem dJ13_bitCount_95d88_39 : decode cJ13_bitCount_95d88 39 = .ok (.ladd, 1) := by decide +kernel
theorem dJ13_bitCount_95d88_40 : decode cJ13_bitCount_95d88 40 = .ok (.lstore_n 0, 1) := by decide +kernel
theorem dJ13_bitCount_95d88_41 : decode cJ13_bitCount_95d88 41 = .ok (.lload_n 0, 1) := by decide +kernel
theorem dJ13_bitCount_95d88_42 : decode cJ13_bitCount_95d88 42 = .ok (.lload_n 0, 1) := by decide +kernel
theorem dJ13_bitCount_95d88_43 : decode cJ13_bitCount_95d88 43 = .ok (.bipush 16, 2) := by decide +kernel
theorem dJ13_bitCount_95d88_45 : decode cJ13_bitCount_95d88 45 = .ok (.lushr, 1) := by decide +kernel
theorem dJ13_bitCount_95d88_46 : decode cJ13_bitCount_95d88 46 = .ok (.ladd, 1) := by decide +kernel
theorem dJ13_bitCount_95d88_47 : decode cJ13_bitCount_95d88 47 = .ok (.lstore_n 0, 1) := by decide +kernel
theorem dJ13_bitCount_95d88_48 : decode cJ13_bitCount_95d88 48 = .ok (.lload_n 0, 1) := by decide +kernel
theorem dJ13_bitCount_95d88_49 : decode cJ13_bitCount_95d88 49 = .ok (.lload_n 0, 1) := by decide +kernel
theorem dJ13_bitCount_95d88_50 : decode cJ13_bitCount_95d88 50 = .ok (.bipush 32, 2) := by decide +kernel
theorem dJ13_bitCount_95d88_52 : decode cJ13_bitCount_95d88 52 = .ok (.lushr, 1) := by decide +kernel
theorem dJ13_bitCount_95d88_53 : decode cJ13_bitCount_95d88 53 = .ok (.ladd, 1) := by decide +kernel
theorem dJ13_bitCount_95d88_54 : decode cJ13_bitCount_95d88 54 = .ok (.lstore_n 0, 1) := by decide +kernel
theorem dJ13_bitCount_95d88_55 : decode cJ13_bitCount_95d88 55 = .ok (.lload_n 0, 1) := by decide +kernel
theorem dJ13_bitCount_95d88_56 : decode cJ13_bitCount_95d88 56 = .ok (.l2i, 1) := by decide +kernel
theorem dJ13_bitCount_95d88_57 : decode cJ13_bitCount_95d88 57 = .ok (.bipush 127, 2) := by decide +kernel
theorem dJ13_bitCount_95d88_59 : decode cJ13_bitCount_95d88 59 = .ok (.iand, 1) := by decide +kernel
theorem dJ13_bitCount_95d88_60 : decode cJ13_bitCount_95d88 60 = .ok (.ireturn, 1) := by decide +kernel
theorem dJ9_max_7cf53_0 : decode cJ9_max_7cf53 0 = .ok (.iload_n 0, 1) := by decide +kernel
theorem dJ9_max_7cf53_1 : decode cJ9_max_7cf53 1 = .ok (.iload_n 1, 1) := by decide +kernel
theorem dJ9_max_7cf53_2 : decode cJ9_max_7cf53 2 = .ok (.if_icmp .lt 7, 3) := by decide +kernel
theorem dJ9_max_7cf53_5 : decode cJ9_max_7cf53 5 = .ok (.iload_n 0, 1) := by decide +kernel
theorem dJ9_max_7cf53_6 : decode cJ9_max_7cf53 6 = .ok (.goto 4, 3) := by decide +kernel
theorem dJ9_max_7cf53_9 : decode cJ9_max_7cf53 9 = .ok (.iload_n 1, 1) := by decide +kernel
theorem dJ9_max_7cf53_10 : decode cJ9_max_7cf53 10 = .ok (.ireturn, 1) := by decide +kernel
theorem dJ9_min_7cf53_0 : decode cJ9_min_7cf53 0 = .ok (.iload_n 0, 1) := by decide +kernel
theorem dJ9_min_7cf53_1 : decode cJ9_min_7cf53 1 = .ok (.iload_n 1, 1) := by decide +kernel
theorem dJ9_min_7cf53_2 : decode cJ9_min_7cf53 2 = .ok (.if_icmp .gt 7, 3) := by decide +kernel
theorem dJ9_min_7cf53_5 : decode cJ9_min_7cf53 5 = .ok (.iload_n 0, 1) := by decide +kernel
theorem dJ9_min_7cf53_6 : decode cJ9_min_7cf53 6 = .ok (.goto 4, 3) := by decide +kernel
theorem dJ9_min_7cf53_9 : decode cJ9_min_7cf53 9 = .ok (.iload_n 1, 1) := by decide +kernel
theorem dJ9_min_7cf53_10 : decode cJ9_min_7cf53 10 = .ok (.ireturn, 1) := by decide +kernel
theorem dJ7_fill_d0a16_0 : decode cJ7_fill_d0a16 0 = .ok (.iconst 0, 1) := by decide +kernel
theorem dJ7_fill_d0a16_1 : decode cJ7_fill_d0a16 1 = .ok (.istore_n 3, 1) := by decide +kernel
theorem dJ7_fill_d0a16_2 : decode cJ7_fill_d0a16 2 = .ok (.aload_n 0, 1) := by decide +kernel
theorem dJ7_fill_d0a16_3 : decode cJ7_fill_d0a16 3 = .ok (.arraylength, 1) := by decide +kernel
theorem dJ7_fill_d0a16_4 : decode cJ7_fill_d0a16 4 = .ok (.istore 4, 2) := by decide +kernel
theorem dJ7_fill_d0a16_6 : decode cJ7_fill_d0a16 6 = .ok (.iload_n 3, 1) := by decide +kernel
theorem dJ7_fill_d0a16_7 : decode cJ7_fill_d0a16 7 = .ok (.iload 4, 2) := by decide +kernel
theorem dJ7_fill_d0a16_9 : decode cJ7_fill_d0a16 9 = .ok (.if_icmp .ge 13, 3) := by decide +kernel
theorem dJ7_fill_d0a16_12 : decode cJ7_fill_d0a16 12 = .ok (.aload_n 0, 1) := by decide +kernel
theorem dJ7_fill_d0a16_13 : decode cJ7_fill_d0a16 13 = .ok (.iload_n 3, 1) := by decide +kernel
theorem dJ7_fill_d0a16_14 : decode cJ7_fill_d0a16 14 = .ok (.lload_n 1, 1) := by decide +kernel
theorem dJ7_fill_d0a16_15 : decode cJ7_fill_d0a16 15 = .ok (.lastore, 1) := by decide +kernel
theorem dJ7_fill_d0a16_16 : decode cJ7_fill_d0a16 16 = .ok (.iinc 3 1, 3) := by decide +kernel
theorem dJ7_fill_d0a16_19 : decode cJ7_fill_d0a16 19 = .ok (.goto (-13), 3) := by decide +kernel
theorem dJ7_fill_d0a16_22 : decode cJ7_fill_d0a16 22 = .ok (.return_, 1) := by decide +kernel
theorem dJ7_fill_53178_0 : decode cJ7_fill_53178 0 = .ok (.iconst 0, 1) := by decide +kernel
theorem dJ7_fill_53178_1 : decode cJ7_fill_53178 1 = .ok (.istore_n 2, 1) := by decide +kernel
theorem dJ7_fill_53178_2 : decode cJ7_fill_53178 2 = .ok (.aload_n 0, 1) := by decide +kernel
theorem dJ7_fill_53178_3 : decode cJ7_fill_53178 3 = .ok (.arraylength, 1) := by decide +kernel
theorem dJ7_fill_53178_4 : decode cJ7_fill_53178 4 = .ok (.istore_n 3, 1) := by decide +kernel
theorem dJ7_fill_53178_5 : decode cJ7_fill_53178 5 = .ok (.iload_n 2, 1) := by decide +kernel
theorem dJ7_fill_53178_6 : decode cJ7_fill_53178 6 = .ok (.iload_n 3, 1) := by decide +kernel
theorem dJ7_fill_53178_7 : decode cJ7_fill_53178 7 = .ok (.if_icmp .ge 13, 3) := by decide +kernel
theorem dJ7_fill_53178_10 : decode cJ7_fill_53178 10 = .ok (.aload_n 0, 1) := by decide +kernel
theorem dJ7_fill_53178_11 : decode cJ7_fill_53178 11 = .ok (.iload_n 2, 1) := by decide +kernel
theorem dJ7_fill_53178_12 : decode cJ7_fill_53178 12 = .ok (.iload_n 1, 1) := by decide +kernel
theorem dJ7_fill_53178_13 : decode cJ7_fill_53178 13 = .ok (.iastore, 1) := by decide +kernel
theorem dJ7_fill_53178_14 : decode cJ7_fill_53178 14 = .ok (.iinc 2 1, 3) := by decide +kernel
theorem dJ7_fill_53178_17 : decode cJ7_fill_53178 17 = .ok (.goto (-12), 3) := by decide +kernel
theorem dJ7_fill_53178_20 : decode cJ7_fill_53178 20 = .ok (.return_, 1) := by decide +kernel
theorem dL_tell_0 : decode cL_tell 0 = .ok (.aload 5, 2) := by decide +kernel
theorem dL_tell_2 : decode cL_tell 2 = .ok (.iconst 0, 1) := by decide +kernel
theorem dL_tell_3 : decode cL_tell 3 = .ok (.aload_n 0, 1) := by decide +kernel
theorem dL_tell_4 : decode cL_tell 4 = .ok (.iload_n 1, 1) := by decide +kernel
theorem dL_tell_5 : decode cL_tell 5 = .ok (.iload_n 2, 1) := by decide +kernel
theorem dL_tell_6 : decode cL_tell 6 = .ok (.iload_n 3, 1) := by decide +kernel
theorem dL_tell_7 : decode cL_tell 7 = .ok (.iload 4, 2) := by decide +kernel
theorem dL_tell_9 : decode cL_tell 9 = .ok (.invokevirtual 7, 3) := by decide +kernel
theorem dL_tell_12 : decode cL_tell 12 = .ok (.i2l, 1) := by decide +kernel
theorem dL_tell_13 : decode cL_tell 13 = .ok (.lastore, 1) := by decide +kernel
theorem dL_tell_14 : decode cL_tell 14 = .ok (.goto 19, 3) := by decide +kernel
theorem dL_tell_17 : decode cL_tell 17 = .ok (.astore 6, 2) := by decide +kernel
theorem dL_tell_19 : decode cL_tell 19 = .ok (.iconst 1, 1) := by decide +kernel
theorem dL_tell_20 : decode cL_tell 20 = .ok (.ireturn, 1) := by decide +kernel
theorem dL_tell_21 : decode cL_tell 21 = .ok (.astore 6, 2) := by decide +kernel
theorem dL_tell_23 : decode cL_tell 23 = .ok (.iconst 2, 1) := by decide +kernel
theorem dL_tell_24 : decode cL_tell 24 = .ok (.ireturn, 1) := by decide +kernel
theorem dL_tell_25 : decode cL_tell 25 = .ok (.astore 6, 2) := by decide +kernel
theorem dL_tell_27 : decode cL_tell 27 = .ok (.iconst 3, 1) := by decide +kernel
theorem dL_tell_28 : decode cL_tell 28 = .ok (.ireturn, 1) := by decide +kernel
theorem dL_tell_29 : decode cL_tell 29 = .ok (.astore 6, 2) := by decide +kernel
theorem dL_tell_31 : decode cL_tell 31 = .ok (.iconst 4, 1) := by decide +kernel
theorem dL_tell_32 : decode cL_tell 32 = .ok (.ireturn, 1) := by decide +kernel
theorem dL_tell_33 : decode cL_tell 33 = .ok (.iconst 0, 1) := by decide +kernel
theorem dL_tell_34 : decode cL_tell 34 = .ok (.ireturn, 1) := by decide +kernel
theorem dL_untell_0 : decode cL_untell 0 = .ok (.aload 5, 2) := by decide +kernel
theorem dL_untell_2 : decode cL_untell 2 = .ok (.iconst 0, 1) := by decide +kernel
theorem dL_untell_3 : decode cL_untell 3 = .ok (.aload_n 0, 1) := by decide +kernel
theorem dL_untell_4 : decode cL_untell 4 = .ok (.iload_n 1, 1) := by decide +kernel
theorem dL_untell_5 : decode cL_untell 5 = .ok (.iload_n 2, 1) := by decide +kernel
theorem dL_untell_6 : decode cL_untell 6 = .ok (.iload_n 3, 1) := by decide +kernel
theorem dL_untell_7 : decode cL_untell 7 = .ok (.iload 4, 2) := by decide +kernel
theorem dL_untell_9 : decode cL_untell 9 = .ok (.invokevirtual 21, 3) := by decide +kernel
theorem dL_untell_12 : decode cL_untell 12 = .ok (.i2l, 1) := by decide +kernel
theorem dL_untell_13 : decode cL_untell 13 = .ok (.lastore, 1) := by decide +kernel
theorem dL_untell_14 : decode cL_untell 14 = .ok (.goto 15, 3) := by decide +kernel
theorem dL_untell_17 : decode cL_untell 17 = .ok (.astore 6, 2) := by decide +kernel
theorem dL_untell_19 : decode cL_untell 19 = .ok (.iconst 1, 1) := by decide +kernel
theorem dL_untell_20 : decode cL_untell 20 = .ok (.ireturn, 1) := by decide +kernel
theorem dL_untell_21 : decode cL_untell 21 = .ok (.astore 6, 2) := by decide +kernel
theorem dL_untell_23 : decode cL_untell 23 = .ok (.iconst 2, 1) := by decide +kernel
theorem dL_untell_24 : decode cL_untell 24 = .ok (.ireturn, 1) := by decide +kernel
theorem dL_untell_25 : decode cL_untell 25 = .ok (.astore 6, 2) := by decide +kernel
theorem dL_untell_27 : decode cL_untell 27 = .ok (.iconst 3, 1) := by decide +kernel
theorem dL_untell_28 : decode cL_untell 28 = .ok (.ireturn, 1) := by decide +kernel
theorem dL_untell_29 : decode cL_untell 29 = .ok (.iconst 0, 1) := by decide +kernel
theorem dL_untell_30 : decode cL_untell 30 = .ok (.ireturn, 1) := by decide +kernel
theorem dL_setUnique_0 : decode cL_setUnique 0 = .ok (.aload_n 3, 1) := by decide +kernel
theorem dL_setUnique_1 : decode cL_setUnique 1 = .ok (.iconst 0, 1) := by decide +kernel
theorem dL_setUnique_2 : decode cL_setUnique 2 = .ok (.aload_n 0, 1) := by decide +kernel
theorem dL_setUnique_3 : decode cL_setUnique 3 = .ok (.iload_n 1, 1) := by decide +kernel
theorem dL_setUnique_4 : decode cL_setUnique 4 = .ok (.iload_n 2, 1) := by decide +kernel
theorem dL_setUnique_5 : decode cL_setUnique 5 = .ok (.invokevirtual 24, 3) := by decide +kernel
theorem dL_setUnique_8 : decode cL_setUnique 8 = .ok (.ifCond .eq 7, 3) := by decide +kernel
theorem dL_setUnique_11 : decode cL_setUnique 11 = .ok (.lconst 1, 1) := by decide +kernel
theorem dL_setUnique_12 : decode cL_setUnique 12 = .ok (.goto 4, 3) := by decide +kernel
theorem dL_setUnique_15 : decode cL_setUnique 15 = .ok (.lconst 0, 1) := by decide +kernel
theorem dL_setUnique_16 : decode cL_setUnique 16 = .ok (.lastore, 1) := by decide +kernel
theorem dL_setUnique_17 : decode cL_setUnique 17 = .ok (.goto 7, 3) := by decide +kernel
theorem dL_setUnique_20 : decode cL_setUnique 20 = .ok (.astore 4, 2) := by decide +kernel
theorem dL_setUnique_22 : decode cL_setUnique 22 = .ok (.iconst 1, 1) := by decide +kernel
theorem dL_setUnique_23 : decode cL_setUnique 23 = .ok (.ireturn, 1) := by decide +kernel
theorem dL_setUnique_24 : decode cL_setUnique 24 = .ok (.iconst 0, 1) := by decide +kernel
theorem dL_setUnique_25 : decode cL_setUnique 25 = .ok (.ireturn, 1) := by decide +kernel
theorem dL_addRule_0 : decode cL_addRule 0 = .ok (.aload 7, 2) := by decide +kernel
theorem dL_addRule_2 : decode cL_addRule 2 = .ok (.iconst 0, 1) := by decide +kernel
theorem dL_addRule_3 : decode cL_addRule 3 = .ok (.aload_n 0, 1) := by decide +kernel
theorem dL_addRule_4 : decode cL_addRule 4 = .ok (.iload_n 1, 1) := by decide +kernel
theorem dL_addRule_5 : decode cL_addRule 5 = .ok (.iload_n 2, 1) := by decide +kernel
theorem dL_addRule_6 : decode cL_addRule 6 = .ok (.iload_n 3, 1) := by decide +kernel
theorem dL_addRule_7 : decode cL_addRule 7 = .ok (.iload 4, 2) := by decide +kernel
theorem dL_addRule_9 : decode cL_addRule 9 = .ok (.iload 5, 2) := by decide +kernel
theorem dL_addRule_11 : decode cL_addRule 11 = .ok (.iload 6, 2) := by decide +kernel
theorem dL_addRule_13 : decode cL_addRule 13 = .ok (.invokevirtual 28, 3) := by decide +kernel
theorem dL_addRule_16 : decode cL_addRule 16 = .ok (.i2l, 1) := by decide +kernel
theorem dL_addRule_17 : decode cL_addRule 17 = .ok (.lastore, 1) := by decide +kernel
theorem dL_addRule_18 : decode cL_addRule 18 = .ok (.goto 11, 3) := by decide +kernel
theorem dL_addRule_21 : decode cL_addRule 21 = .ok (.astore 8, 2) := by decide +kernel
theorem dL_addRule_23 : decode cL_addRule 23 = .ok (.iconst 1, 1) := by decide +kernel
theorem dL_addRule_24 : decode cL_addRule 24 = .ok (.ireturn, 1) := by decide +kernel
theorem dL_addRule_25 : decode cL_addRule 25 = .ok (.astore 8, 2) := by decide +kernel
theorem dL_addRule_27 : decode cL_addRule 27 = .ok (.iconst 2, 1) := by decide +kernel
theorem dL_addRule_28 : decode cL_addRule 28 = .ok (.ireturn, 1) := by decide +kernel
theorem dL_addRule_29 : decode cL_addRule 29 = .ok (.iconst 0, 1) := by decide +kernel
theorem dL_addRule_30 : decode cL_addRule 30 = .ok (.ireturn, 1) := by decide +kernel
theorem dL_addCondition_0 : decode cL_addCondition 0 = .ok (.aload 6, 2) := by decide +kernel
theorem dL_addCondition_2 : decode cL_addCondition 2 = .ok (.iconst 0, 1) := by decide +kernel
theorem dL_addCondition_3 : decode cL_addCondition 3 = .ok (.aload_n 0, 1) := by decide +kernel
theorem dL_addCondition_4 : decode cL_addCondition 4 = .ok (.iload_n 1, 1) := by decide +kernel
theorem dL_addCondition_5 : decode cL_addCondition 5 = .ok (.iload_n 2, 1) := by decide +kernel
theorem dL_addCondition_6 : decode cL_addCondition 6 = .ok (.iload_n 3, 1) := by decide +kernel
theorem dL_addCondition_7 : decode cL_addCondition 7 = .ok (.iload 4, 2) := by decide +kernel
theorem dL_addCondition_9 : decode cL_addCondition 9 = .ok (.iload 5, 2) := by decide +kernel
theorem dL_addCondition_11 : decode cL_addCondition 11 = .ok (.invokevirtual 32, 3) := by decide +kernel
theorem dL_addCondition_14 : decode cL_addCondition 14 = .ok (.i2l, 1) := by decide +kernel
theorem dL_addCondition_15 : decode cL_addCondition 15 = .ok (.lastore, 1) := by decide +kernel
theorem dL_addCondition_16 : decode cL_addCondition 16 = .ok (.goto 15, 3) := by decide +kernel
theorem dL_addCondition_19 : decode cL_addCondition 19 = .ok (.astore 7, 2) := by decide +kernel
theorem dL_addCondition_21 : decode cL_addCondition 21 = .ok (.iconst 1, 1) := by decide +kernel
theorem dL_addCondition_22 : decode cL_addCondition 22 = .ok (.ireturn, 1) := by decide +kernel
theorem dL_addCondition_23 : decode cL_addCondition 23 = .ok (.astore 7, 2) := by decide +kernel
theorem dL_addCondition_25 : decode cL_addCondition 25 = .ok (.iconst 2, 1) := by decide +kernel
theorem dL_addCondition_26 : decode cL_addCondition 26 = .ok (.ireturn, 1) := by decide +kernel
theorem dL_addCondition_27 : decode cL_addCondition 27 = .ok (.astore 7, 2) := by decide +kernel
theorem dL_addCondition_29 : decode cL_addCondition 29 = .ok (.iconst 3, 1) := by decide +kernel
theorem dL_addCondition_30 : decode cL_addCondition 30 = .ok (.ireturn, 1) := by decide +kernel
theorem dL_addCondition_31 : decode cL_addCondition 31 = .ok (.iconst 0, 1) := by decide +kernel
theorem dL_addCondition_32 : decode cL_addCondition 32 = .ok (.ireturn, 1) := by decide +kernel
theorem dL_turn_0 : decode cL_turn 0 = .ok (.aload 4, 2) := by decide +kernel
theorem dL_turn_2 : decode cL_turn 2 = .ok (.iconst 0, 1) := by decide +kernel
theorem dL_turn_3 : decode cL_turn 3 = .ok (.aload_n 0, 1) := by decide +kernel
theorem dL_turn_4 : decode cL_turn 4 = .ok (.iload_n 1, 1) := by decide +kernel
theorem dL_turn_5 : decode cL_turn 5 = .ok (.iload_n 2, 1) := by decide +kernel
theorem dL_turn_6 : decode cL_turn 6 = .ok (.iload_n 3, 1) := by decide +kernel
theorem dL_turn_7 : decode cL_turn 7 = .ok (.invokevirtual 36, 3) := by decide +kernel
theorem dL_turn_10 : decode cL_turn 10 = .ok (.i2l, 1) := by decide +kernel
theorem dL_turn_11 : decode cL_turn 11 = .ok (.lastore, 1) := by decide +kernel
theorem dL_turn_12 : decode cL_turn 12 = .ok (.goto 15, 3) := by decide +kernel
theorem dL_turn_15 : decode cL_turn 15 = .ok (.astore 5, 2) := by decide +kernel
theorem dL_turn_17 : decode cL_turn 17 = .ok (.iconst 1, 1) := by decide +kernel
theorem dL_turn_18 : decode cL_turn 18 = .ok (.ireturn, 1) := by decide +kernel
theorem dL_turn_19 : decode cL_turn 19 = .ok (.astore 5, 2) := by decide +kernel
theorem dL_turn_21 : decode cL_turn 21 = .ok (.iconst 2, 1) := by decide +kernel
theorem dL_turn_22 : decode cL_turn 22 = .ok (.ireturn, 1) := by decide +kernel
theorem dL_turn_23 : decode cL_turn 23 = .ok (.astore 5, 2) := by decide +kernel
theorem dL_turn_25 : decode cL_turn 25 = .ok (.iconst 3, 1) := by decide +kernel
theorem dL_turn_26 : decode cL_turn 26 = .ok (.ireturn, 1) := by decide +kernel
theorem dL_turn_27 : decode cL_turn 27 = .ok (.iconst 0, 1) := by decide +kernel
theorem dL_turn_28 : decode cL_turn 28 = .ok (.ireturn, 1) := by decide +kernel
theorem dL_isOn_0 : decode cL_isOn 0 = .ok (.aload 4, 2) := by decide +kernel
theorem dL_isOn_2 : decode cL_isOn 2 = .ok (.iconst 0, 1) := by decide +kernel
theorem dL_isOn_3 : decode cL_isOn 3 = .ok (.aload_n 0, 1) := by decide +kernel
theorem dL_isOn_4 : decode cL_isOn 4 = .ok (.iload_n 1, 1) := by decide +kernel
theorem dL_isOn_5 : decode cL_isOn 5 = .ok (.iload_n 2, 1) := by decide +kernel
theorem dL_isOn_6 : decode cL_isOn 6 = .ok (.iload_n 3, 1) := by decide +kernel
theorem dL_isOn_7 : decode cL_isOn 7 = .ok (.invokevirtual 40, 3) := by decide +kernel
theorem dL_isOn_10 : decode cL_isOn 10 = .ok (.ifCond .eq 7, 3) := by decide +kernel
theorem dL_isOn_13 : decode cL_isOn 13 = .ok (.lconst 1, 1) := by decide +kernel
theorem dL_isOn_14 : decode cL_isOn 14 = .ok (.goto 4, 3) := by decide +kernel
theorem dL_isOn_17 : decode cL_isOn 17 = .ok (.lconst 0, 1) := by decide +kernel
theorem dL_isOn_18 : decode cL_isOn 18 = .ok (.lastore, 1) := by decide +kernel
theorem dL_isOn_19 : decode cL_isOn 19 = .ok (.goto 7, 3) := by decide +kernel
theorem dL_isOn_22 : decode cL_isOn 22 = .ok (.astore 5, 2) := by decide +kernel
theorem dL_isOn_24 : decode cL_isOn 24 = .ok (.iconst 1, 1) := by decide +kernel
theorem dL_isOn_25 : decode cL_isOn 25 = .ok (.ireturn, 1) := by decide +kernel
theorem dL_isOn_26 : decode cL_isOn 26 = .ok (.iconst 0, 1) := by decide +kernel
theorem dL_isOn_27 : decode cL_isOn 27 = .ok (.ireturn, 1) := by decide +kernel
theorem dL_layer_0 : decode cL_layer 0 = .ok (.aload_n 3, 1) := by decide +kernel
theorem dL_layer_1 : decode cL_layer 1 = .ok (.iconst 0, 1) := by decide +kernel
theorem dL_layer_2 : decode cL_layer 2 = .ok (.aload_n 0, 1) := by decide +kernel
theorem dL_layer_3 : decode cL_layer 3 = .ok (.iload_n 1, 1) := by decide +kernel
theorem dL_layer_4 : decode cL_layer 4 = .ok (.iload_n 2, 1) := by decide +kernel
theorem dL_layer_5 : decode cL_layer 5 = .ok (.invokevirtual 44, 3) := by decide +kernel
theorem dL_layer_8 : decode cL_layer 8 = .ok (.i2l, 1) := by decide +kernel
theorem dL_layer_9 : decode cL_layer 9 = .ok (.lastore, 1) := by decide +kernel
theorem dL_layer_10 : decode cL_layer 10 = .ok (.goto 11, 3) := by decide +kernel
theorem dL_layer_13 : decode cL_layer 13 = .ok (.astore 4, 2) := by decide +kernel
theorem dL_layer_15 : decode cL_layer 15 = .ok (.iconst 1, 1) := by decide +kernel
theorem dL_layer_16 : decode cL_layer 16 = .ok (.ireturn, 1) := by decide +kernel
theorem dL_layer_17 : decode cL_layer 17 = .ok (.astore 4, 2) := by decide +kernel
theorem dL_layer_19 : decode cL_layer 19 = .ok (.iconst 2, 1) := by decide +kernel
theorem dL_layer_20 : decode cL_layer 20 = .ok (.ireturn, 1) := by decide +kernel
theorem dL_layer_21 : decode cL_layer 21 = .ok (.iconst 0, 1) := by decide +kernel
theorem dL_layer_22 : decode cL_layer 22 = .ok (.ireturn, 1) := by decide +kernel
theorem dL_knowing_0 : decode cL_knowing 0 = .ok (.aload_n 2, 1) := by decide +kernel
theorem dL_knowing_1 : decode cL_knowing 1 = .ok (.iconst 0, 1) := by decide +kernel
theorem dL_knowing_2 : decode cL_knowing 2 = .ok (.aload_n 0, 1) := by decide +kernel
theorem dL_knowing_3 : decode cL_knowing 3 = .ok (.iload_n 1, 1) := by decide +kernel
theorem dL_knowing_4 : decode cL_knowing 4 = .ok (.invokevirtual 48, 3) := by decide +kernel
theorem dL_knowing_7 : decode cL_knowing 7 = .ok (.i2l, 1) := by decide +kernel
theorem dL_knowing_8 : decode cL_knowing 8 = .ok (.lastore, 1) := by decide +kernel
theorem dL_knowing_9 : decode cL_knowing 9 = .ok (.goto 6, 3) := by decide +kernel
theorem dL_knowing_12 : decode cL_knowing 12 = .ok (.astore_n 3, 1) := by decide +kernel
theorem dL_knowing_13 : decode cL_knowing 13 = .ok (.iconst 1, 1) := by decide +kernel
theorem dL_knowing_14 : decode cL_knowing 14 = .ok (.ireturn, 1) := by decide +kernel
theorem dL_knowing_15 : decode cL_knowing 15 = .ok (.iconst 0, 1) := by decide +kernel
theorem dL_knowing_16 : decode cL_knowing 16 = .ok (.ireturn, 1) := by decide +kernel
theorem dL_holds_0 : decode cL_holds 0 = .ok (.aload 5, 2) := by decide +kernel
theorem dL_holds_2 : decode cL_holds 2 = .ok (.iconst 0, 1) := by decide +kernel
theorem dL_holds_3 : decode cL_holds 3 = .ok (.aload_n 0, 1) := by decide +kernel
theorem dL_holds_4 : decode cL_holds 4 = .ok (.iload_n 1, 1) := by decide +kernel
theorem dL_holds_5 : decode cL_holds 5 = .ok (.iload_n 2, 1) := by decide +kernel
theorem dL_holds_6 : decode cL_holds 6 = .ok (.iload_n 3, 1) := by decide +kernel
theorem dL_holds_7 : decode cL_holds 7 = .ok (.iload 4, 2) := by decide +kernel
theorem dL_holds_9 : decode cL_holds 9 = .ok (.invokevirtual 52, 3) := by decide +kernel
theorem dL_holds_12 : decode cL_holds 12 = .ok (.ifCond .eq 7, 3) := by decide +kernel
theorem dL_holds_15 : decode cL_holds 15 = .ok (.lconst 1, 1) := by decide +kernel
theorem dL_holds_16 : decode cL_holds 16 = .ok (.goto 4, 3) := by decide +kernel
theorem dL_holds_19 : decode cL_holds 19 = .ok (.lconst 0, 1) := by decide +kernel
theorem dL_holds_20 : decode cL_holds 20 = .ok (.lastore, 1) := by decide +kernel
theorem dL_holds_21 : decode cL_holds 21 = .ok (.goto 11, 3) := by decide +kernel
theorem dL_holds_24 : decode cL_holds 24 = .ok (.astore 6, 2) := by decide +kernel
theorem dL_holds_26 : decode cL_holds 26 = .ok (.iconst 1, 1) := by decide +kernel
theorem dL_holds_27 : decode cL_holds 27 = .ok (.ireturn, 1) := by decide +kernel
theorem dL_holds_28 : decode cL_holds 28 = .ok (.astore 6, 2) := by decide +kernel
theorem dL_holds_30 : decode cL_holds 30 = .ok (.iconst 2, 1) := by decide +kernel
theorem dL_holds_31 : decode cL_holds 31 = .ok (.ireturn, 1) := by decide +kernel
theorem dL_holds_32 : decode cL_holds 32 = .ok (.iconst 0, 1) := by decide +kernel
theorem dL_holds_33 : decode cL_holds 33 = .ok (.ireturn, 1) := by decide +kernel
theorem dL_holdsAnew_0 : decode cL_holdsAnew 0 = .ok (.aload 5, 2) := by decide +kernel
theorem dL_holdsAnew_2 : decode cL_holdsAnew 2 = .ok (.iconst 0, 1) := by decide +kernel
theorem dL_holdsAnew_3 : decode cL_holdsAnew 3 = .ok (.aload_n 0, 1) := by decide +kernel
theorem dL_holdsAnew_4 : decode cL_holdsAnew 4 = .ok (.iload_n 1, 1) := by decide +kernel
theorem dL_holdsAnew_5 : decode cL_holdsAnew 5 = .ok (.iload_n 2, 1) := by decide +kernel
theorem dL_holdsAnew_6 : decode cL_holdsAnew 6 = .ok (.iload_n 3, 1) := by decide +kernel
theorem dL_holdsAnew_7 : decode cL_holdsAnew 7 = .ok (.iload 4, 2) := by decide +kernel
theorem dL_holdsAnew_9 : decode cL_holdsAnew 9 = .ok (.invokevirtual 56, 3) := by decide +kernel
theorem dL_holdsAnew_12 : decode cL_holdsAnew 12 = .ok (.ifCond .eq 7, 3) := by decide +kernel
theorem dL_holdsAnew_15 : decode cL_holdsAnew 15 = .ok (.lconst 1, 1) := by decide +kernel
theorem dL_holdsAnew_16 : decode cL_holdsAnew 16 = .ok (.goto 4, 3) := by decide +kernel
theorem dL_holdsAnew_19 : decode cL_holdsAnew 19 = .ok (.lconst 0, 1) := by decide +kernel
theorem dL_holdsAnew_20 : decode cL_holdsAnew 20 = .ok (.lastore, 1) := by decide +kernel
theorem dL_holdsAnew_21 : decode cL_holdsAnew 21 = .ok (.goto 11, 3) := by decide +kernel
theorem dL_holdsAnew_24 : decode cL_holdsAnew 24 = .ok (.astore 6, 2) := by decide +kernel
theorem dL_holdsAnew_26 : decode cL_holdsAnew 26 = .ok (.iconst 1, 1) := by decide +kernel
theorem dL_holdsAnew_27 : decode cL_holdsAnew 27 = .ok (.ireturn, 1) := by decide +kernel
theorem dL_holdsAnew_28 : decode cL_holdsAnew 28 = .ok (.astore 6, 2) := by decide +kernel
theorem dL_holdsAnew_30 : decode cL_holdsAnew 30 = .ok (.iconst 2, 1) := by decide +kernel
theorem dL_holdsAnew_31 : decode cL_holdsAnew 31 = .ok (.ireturn, 1) := by decide +kernel
theorem dL_holdsAnew_32 : decode cL_holdsAnew 32 = .ok (.iconst 0, 1) := by decide +kernel
theorem dL_holdsAnew_33 : decode cL_holdsAnew 33 = .ok (.ireturn, 1) := by decide +kernel
theorem dL_count_0 : decode cL_count 0 = .ok (.aload 5, 2) := by decide +kernel
theorem dL_count_2 : decode cL_count 2 = .ok (.iconst 0, 1) := by decide +kernel
theorem dL_count_3 : decode cL_count 3 = .ok (.aload_n 0, 1) := by decide +kernel
theorem dL_count_4 : decode cL_count 4 = .ok (.iload_n 1, 1) := by decide +kernel
theorem dL_count_5 : decode cL_count 5 = .ok (.iload_n 2, 1) := by decide +kernel
theorem dL_count_6 : decode cL_count 6 = .ok (.iload_n 3, 1) := by decide +kernel
theorem dL_count_7 : decode cL_count 7 = .ok (.iload 4, 2) := by decide +kernel
theorem dL_count_9 : decode cL_count 9 = .ok (.invokevirtual 59, 3) := by decide +kernel
theorem dL_count_12 : decode cL_count 12 = .ok (.i2l, 1) := by decide +kernel
theorem dL_count_13 : decode cL_count 13 = .ok (.lastore, 1) := by decide +kernel
theorem dL_count_14 : decode cL_count 14 = .ok (.goto 11, 3) := by decide +kernel
theorem dL_count_17 : decode cL_count 17 = .ok (.astore 6, 2) := by decide +kernel
theorem dL_count_19 : decode cL_count 19 = .ok (.iconst 1, 1) := by decide +kernel
theorem dL_count_20 : decode cL_count 20 = .ok (.ireturn, 1) := by decide +kernel
theorem dL_count_21 : decode cL_count 21 = .ok (.astore 6, 2) := by decide +kernel
theorem dL_count_23 : decode cL_count 23 = .ok (.iconst 2, 1) := by decide +kernel
theorem dL_count_24 : decode cL_count 24 = .ok (.ireturn, 1) := by decide +kernel
theorem dL_count_25 : decode cL_count 25 = .ok (.iconst 0, 1) := by decide +kernel
theorem dL_count_26 : decode cL_count 26 = .ok (.ireturn, 1) := by decide +kernel
theorem dL_spanFrom_0 : decode cL_spanFrom 0 = .ok (.aload 5, 2) := by decide +kernel
theorem dL_spanFrom_2 : decode cL_spanFrom 2 = .ok (.iconst 0, 1) := by decide +kernel
theorem dL_spanFrom_3 : decode cL_spanFrom 3 = .ok (.aload_n 0, 1) := by decide +kernel
theorem dL_spanFrom_4 : decode cL_spanFrom 4 = .ok (.iload_n 1, 1) := by decide +kernel
theorem dL_spanFrom_5 : decode cL_spanFrom 5 = .ok (.iload_n 2, 1) := by decide +kernel
theorem dL_spanFrom_6 : decode cL_spanFrom 6 = .ok (.iload_n 3, 1) := by decide +kernel
theorem dL_spanFrom_7 : decode cL_spanFrom 7 = .ok (.iload 4, 2) := by decide +kernel
theorem dL_spanFrom_9 : decode cL_spanFrom 9 = .ok (.invokevirtual 62, 3) := by decide +kernel
theorem dL_spanFrom_12 : decode cL_spanFrom 12 = .ok (.i2l, 1) := by decide +kernel
theorem dL_spanFrom_13 : decode cL_spanFrom 13 = .ok (.lastore, 1) := by decide +kernel
theorem dL_spanFrom_14 : decode cL_spanFrom 14 = .ok (.goto 15, 3) := by decide +kernel
theorem dL_spanFrom_17 : decode cL_spanFrom 17 = .ok (.astore 6, 2) := by decide +kernel
theorem dL_spanFrom_19 : decode cL_spanFrom 19 = .ok (.iconst 1, 1) := by decide +kernel
theorem dL_spanFrom_20 : decode cL_spanFrom 20 = .ok (.ireturn, 1) := by decide +kernel
theorem dL_spanFrom_21 : decode cL_spanFrom 21 = .ok (.astore 6, 2) := by decide +kernel
theorem dL_spanFrom_23 : decode cL_spanFrom 23 = .ok (.iconst 2, 1) := by decide +kernel
theorem dL_spanFrom_24 : decode cL_spanFrom 24 = .ok (.ireturn, 1) := by decide +kernel
theorem dL_spanFrom_25 : decode cL_spanFrom 25 = .ok (.astore 6, 2) := by decide +kernel
theorem dL_spanFrom_27 : decode cL_spanFrom 27 = .ok (.iconst 3, 1) := by decide +kernel
theorem dL_spanFrom_28 : decode cL_spanFrom 28 = .ok (.ireturn, 1) := by decide +kernel
theorem dL_spanFrom_29 : decode cL_spanFrom 29 = .ok (.iconst 0, 1) := by decide +kernel
theorem dL_spanFrom_30 : decode cL_spanFrom 30 = .ok (.ireturn, 1) := by decide +kernel
theorem dL_spanTo_0 : decode cL_spanTo 0 = .ok (.aload 5, 2) := by decide +kernel
theorem dL_spanTo_2 : decode cL_spanTo 2 = .ok (.iconst 0, 1) := by decide +kernel
theorem dL_spanTo_3 : decode cL_spanTo 3 = .ok (.aload_n 0, 1) := by decide +kernel
theorem dL_spanTo_4 : decode cL_spanTo 4 = .ok (.iload_n 1, 1) := by decide +kernel
theorem dL_spanTo_5 : decode cL_spanTo 5 = .ok (.iload_n 2, 1) := by decide +kernel
theorem dL_spanTo_6 : decode cL_spanTo 6 = .ok (.iload_n 3, 1) := by decide +kernel
theorem dL_spanTo_7 : decode cL_spanTo 7 = .ok (.iload 4, 2) := by decide +kernel
theorem dL_spanTo_9 : decode cL_spanTo 9 = .ok (.invokevirtual 67, 3) := by decide +kernel
theorem dL_spanTo_12 : decode cL_spanTo 12 = .ok (.i2l, 1) := by decide +kernel
theorem dL_spanTo_13 : decode cL_spanTo 13 = .ok (.lastore, 1) := by decide +kernel
theorem dL_spanTo_14 : decode cL_spanTo 14 = .ok (.goto 15, 3) := by decide +kernel
theorem dL_spanTo_17 : decode cL_spanTo 17 = .ok (.astore 6, 2) := by decide +kernel
theorem dL_spanTo_19 : decode cL_spanTo 19 = .ok (.iconst 1, 1) := by decide +kernel
theorem dL_spanTo_20 : decode cL_spanTo 20 = .ok (.ireturn, 1) := by decide +kernel
theorem dL_spanTo_21 : decode cL_spanTo 21 = .ok (.astore 6, 2) := by decide +kernel
theorem dL_spanTo_23 : decode cL_spanTo 23 = .ok (.iconst 2, 1) := by decide +kernel
theorem dL_spanTo_24 : decode cL_spanTo 24 = .ok (.ireturn, 1) := by decide +kernel
theorem dL_spanTo_25 : decode cL_spanTo 25 = .ok (.astore 6, 2) := by decide +kernel
theorem dL_spanTo_27 : decode cL_spanTo 27 = .ok (.iconst 3, 1) := by decide +kernel
theorem dL_spanTo_28 : decode cL_spanTo 28 = .ok (.ireturn, 1) := by decide +kernel
theorem dL_spanTo_29 : decode cL_spanTo 29 = .ok (.iconst 0, 1) := by decide +kernel
theorem dL_spanTo_30 : decode cL_spanTo 30 = .ok (.ireturn, 1) := by decide +kernel
theorem dL_since_0 : decode cL_since 0 = .ok (.aload 4, 2) := by decide +kernel
theorem dL_since_2 : decode cL_since 2 = .ok (.iconst 0, 1) := by decide +kernel
theorem dL_since_3 : decode cL_since 3 = .ok (.aload_n 0, 1) := by decide +kernel
theorem dL_since_4 : decode cL_since 4 = .ok (.iload_n 1, 1) := by decide +kernel
theorem dL_since_5 : decode cL_since 5 = .ok (.iload_n 2, 1) := by decide +kernel
theorem dL_since_6 : decode cL_since 6 = .ok (.iload_n 3, 1) := by decide +kernel
theorem dL_since_7 : decode cL_since 7 = .ok (.invokevirtual 70, 3) := by decide +kernel
theorem dL_since_10 : decode cL_since 10 = .ok (.i2l, 1) := by decide +kernel
theorem dL_since_11 : decode cL_since 11 = .ok (.lastore, 1) := by decide +kernel
theorem dL_since_12 : decode cL_since 12 = .ok (.goto 11, 3) := by decide +kernel
theorem dL_since_15 : decode cL_since 15 = .ok (.astore 5, 2) := by decide +kernel
theorem dL_since_17 : decode cL_since 17 = .ok (.iconst 1, 1) := by decide +kernel
theorem dL_since_18 : decode cL_since 18 = .ok (.ireturn, 1) := by decide +kernel
theorem dL_since_19 : decode cL_since 19 = .ok (.astore 5, 2) := by decide +kernel
theorem dL_since_21 : decode cL_since 21 = .ok (.iconst 2, 1) := by decide +kernel
theorem dL_since_22 : decode cL_since 22 = .ok (.ireturn, 1) := by decide +kernel
theorem dL_since_23 : decode cL_since 23 = .ok (.iconst 0, 1) := by decide +kernel
theorem dL_since_24 : decode cL_since 24 = .ok (.ireturn, 1) := by decide +kernel
theorem dL_rank_0 : decode cL_rank 0 = .ok (.aload 5, 2) := by decide +kernel
theorem dL_rank_2 : decode cL_rank 2 = .ok (.iconst 0, 1) := by decide +kernel
theorem dL_rank_3 : decode cL_rank 3 = .ok (.aload_n 0, 1) := by decide +kernel
theorem dL_rank_4 : decode cL_rank 4 = .ok (.iload_n 1, 1) := by decide +kernel
theorem dL_rank_5 : decode cL_rank 5 = .ok (.iload_n 2, 1) := by decide +kernel
theorem dL_rank_6 : decode cL_rank 6 = .ok (.iload_n 3, 1) := by decide +kernel
theorem dL_rank_7 : decode cL_rank 7 = .ok (.iload 4, 2) := by decide +kernel
theorem dL_rank_9 : decode cL_rank 9 = .ok (.invokevirtual 74, 3) := by decide +kernel
theorem dL_rank_12 : decode cL_rank 12 = .ok (.i2l, 1) := by decide +kernel
theorem dL_rank_13 : decode cL_rank 13 = .ok (.lastore, 1) := by decide +kernel
theorem dL_rank_14 : decode cL_rank 14 = .ok (.goto 15, 3) := by decide +kernel
theorem dL_rank_17 : decode cL_rank 17 = .ok (.astore 6, 2) := by decide +kernel
theorem dL_rank_19 : decode cL_rank 19 = .ok (.iconst 1, 1) := by decide +kernel
theorem dL_rank_20 : decode cL_rank 20 = .ok (.ireturn, 1) := by decide +kernel
theorem dL_rank_21 : decode cL_rank 21 = .ok (.astore 6, 2) := by decide +kernel
theorem dL_rank_23 : decode cL_rank 23 = .ok (.iconst 2, 1) := by decide +kernel
theorem dL_rank_24 : decode cL_rank 24 = .ok (.ireturn, 1) := by decide +kernel
theorem dL_rank_25 : decode cL_rank 25 = .ok (.astore 6, 2) := by decide +kernel
theorem dL_rank_27 : decode cL_rank 27 = .ok (.iconst 3, 1) := by decide +kernel
theorem dL_rank_28 : decode cL_rank 28 = .ok (.ireturn, 1) := by decide +kernel
theorem dL_rank_29 : decode cL_rank 29 = .ok (.iconst 0, 1) := by decide +kernel
theorem dL_rank_30 : decode cL_rank 30 = .ok (.ireturn, 1) := by decide +kernel
theorem dL_reason_0 : decode cL_reason 0 = .ok (.aload 5, 2) := by decide +kernel
theorem dL_reason_2 : decode cL_reason 2 = .ok (.iconst 0, 1) := by decide +kernel
theorem dL_reason_3 : decode cL_reason 3 = .ok (.aload_n 0, 1) := by decide +kernel
theorem dL_reason_4 : decode cL_reason 4 = .ok (.iload_n 1, 1) := by decide +kernel
theorem dL_reason_5 : decode cL_reason 5 = .ok (.iload_n 2, 1) := by decide +kernel
theorem dL_reason_6 : decode cL_reason 6 = .ok (.iload_n 3, 1) := by decide +kernel
theorem dL_reason_7 : decode cL_reason 7 = .ok (.iload 4, 2) := by decide +kernel
theorem dL_reason_9 : decode cL_reason 9 = .ok (.invokevirtual 77, 3) := by decide +kernel
theorem dL_reason_12 : decode cL_reason 12 = .ok (.i2l, 1) := by decide +kernel
theorem dL_reason_13 : decode cL_reason 13 = .ok (.lastore, 1) := by decide +kernel
theorem dL_reason_14 : decode cL_reason 14 = .ok (.goto 15, 3) := by decide +kernel
theorem dL_reason_17 : decode cL_reason 17 = .ok (.astore 6, 2) := by decide +kernel
theorem dL_reason_19 : decode cL_reason 19 = .ok (.iconst 1, 1) := by decide +kernel
theorem dL_reason_20 : decode cL_reason 20 = .ok (.ireturn, 1) := by decide +kernel
theorem dL_reason_21 : decode cL_reason 21 = .ok (.astore 6, 2) := by decide +kernel
theorem dL_reason_23 : decode cL_reason 23 = .ok (.iconst 2, 1) := by decide +kernel
theorem dL_reason_24 : decode cL_reason 24 = .ok (.ireturn, 1) := by decide +kernel
theorem dL_reason_25 : decode cL_reason 25 = .ok (.astore 6, 2) := by decide +kernel
theorem dL_reason_27 : decode cL_reason 27 = .ok (.iconst 3, 1) := by decide +kernel
theorem dL_reason_28 : decode cL_reason 28 = .ok (.ireturn, 1) := by decide +kernel
theorem dL_reason_29 : decode cL_reason 29 = .ok (.iconst 0, 1) := by decide +kernel
theorem dL_reason_30 : decode cL_reason 30 = .ok (.ireturn, 1) := by decide +kernel
theorem dL_reasonFact_0 : decode cL_reasonFact 0 = .ok (.aload 6, 2) := by decide +kernel
theorem dL_reasonFact_2 : decode cL_reasonFact 2 = .ok (.iconst 0, 1) := by decide +kernel
theorem dL_reasonFact_3 : decode cL_reasonFact 3 = .ok (.aload_n 0, 1) := by decide +kernel
theorem dL_reasonFact_4 : decode cL_reasonFact 4 = .ok (.iload_n 1, 1) := by decide +kernel
theorem dL_reasonFact_5 : decode cL_reasonFact 5 = .ok (.iload_n 2, 1) := by decide +kernel
theorem dL_reasonFact_6 : decode cL_reasonFact 6 = .ok (.iload_n 3, 1) := by decide +kernel
theorem dL_reasonFact_7 : decode cL_reasonFact 7 = .ok (.iload 4, 2) := by decide +kernel
theorem dL_reasonFact_9 : decode cL_reasonFact 9 = .ok (.iload 5, 2) := by decide +kernel
theorem dL_reasonFact_11 : decode cL_reasonFact 11 = .ok (.invokevirtual 80, 3) := by decide +kernel
theorem dL_reasonFact_14 : decode cL_reasonFact 14 = .ok (.i2l, 1) := by decide +kernel
theorem dL_reasonFact_15 : decode cL_reasonFact 15 = .ok (.lastore, 1) := by decide +kernel
theorem dL_reasonFact_16 : decode cL_reasonFact 16 = .ok (.goto 15, 3) := by decide +kernel
theorem dL_reasonFact_19 : decode cL_reasonFact 19 = .ok (.astore 7, 2) := by decide +kernel
theorem dL_reasonFact_21 : decode cL_reasonFact 21 = .ok (.iconst 1, 1) := by decide +kernel
theorem dL_reasonFact_22 : decode cL_reasonFact 22 = .ok (.ireturn, 1) := by decide +kernel
theorem dL_reasonFact_23 : decode cL_reasonFact 23 = .ok (.astore 7, 2) := by decide +kernel
theorem dL_reasonFact_25 : decode cL_reasonFact 25 = .ok (.iconst 2, 1) := by decide +kernel
theorem dL_reasonFact_26 : decode cL_reasonFact 26 = .ok (.ireturn, 1) := by decide +kernel
theorem dL_reasonFact_27 : decode cL_reasonFact 27 = .ok (.astore 7, 2) := by decide +kernel
theorem dL_reasonFact_29 : decode cL_reasonFact 29 = .ok (.iconst 3, 1) := by decide +kernel
theorem dL_reasonFact_30 : decode cL_reasonFact 30 = .ok (.ireturn, 1) := by decide +kernel
theorem dL_reasonFact_31 : decode cL_reasonFact 31 = .ok (.iconst 0, 1) := by decide +kernel
theorem dL_reasonFact_32 : decode cL_reasonFact 32 = .ok (.ireturn, 1) := by decide +kernel
theorem dL_proof_0 : decode cL_proof 0 = .ok (.aload 5, 2) := by decide +kernel
theorem dL_proof_2 : decode cL_proof 2 = .ok (.iconst 0, 1) := by decide +kernel
theorem dL_proof_3 : decode cL_proof 3 = .ok (.aload_n 0, 1) := by decide +kernel
theorem dL_proof_4 : decode cL_proof 4 = .ok (.iload_n 1, 1) := by decide +kernel
theorem dL_proof_5 : decode cL_proof 5 = .ok (.iload_n 2, 1) := by decide +kernel
theorem dL_proof_6 : decode cL_proof 6 = .ok (.iload_n 3, 1) := by decide +kernel
theorem dL_proof_7 : decode cL_proof 7 = .ok (.iload 4, 2) := by decide +kernel
theorem dL_proof_9 : decode cL_proof 9 = .ok (.invokevirtual 84, 3) := by decide +kernel
theorem dL_proof_12 : decode cL_proof 12 = .ok (.i2l, 1) := by decide +kernel
theorem dL_proof_13 : decode cL_proof 13 = .ok (.lastore, 1) := by decide +kernel
theorem dL_proof_14 : decode cL_proof 14 = .ok (.goto 15, 3) := by decide +kernel
theorem dL_proof_17 : decode cL_proof 17 = .ok (.astore 6, 2) := by decide +kernel
theorem dL_proof_19 : decode cL_proof 19 = .ok (.iconst 1, 1) := by decide +kernel
theorem dL_proof_20 : decode cL_proof 20 = .ok (.ireturn, 1) := by decide +kernel
theorem dL_proof_21 : decode cL_proof 21 = .ok (.astore 6, 2) := by decide +kernel
theorem dL_proof_23 : decode cL_proof 23 = .ok (.iconst 2, 1) := by decide +kernel
theorem dL_proof_24 : decode cL_proof 24 = .ok (.ireturn, 1) := by decide +kernel
theorem dL_proof_25 : decode cL_proof 25 = .ok (.astore 6, 2) := by decide +kernel
theorem dL_proof_27 : decode cL_proof 27 = .ok (.iconst 3, 1) := by decide +kernel
theorem dL_proof_28 : decode cL_proof 28 = .ok (.ireturn, 1) := by decide +kernel
theorem dL_proof_29 : decode cL_proof 29 = .ok (.iconst 0, 1) := by decide +kernel
theorem dL_proof_30 : decode cL_proof 30 = .ok (.ireturn, 1) := by decide +kernel
theorem dL_forget_0 : decode cL_forget 0 = .ok (.aload_n 2, 1) := by decide +kernel
theorem dL_forget_1 : decode cL_forget 1 = .ok (.iconst 0, 1) := by decide +kernel
theorem dL_forget_2 : decode cL_forget 2 = .ok (.aload_n 0, 1) := by decide +kernel
theorem dL_forget_3 : decode cL_forget 3 = .ok (.iload_n 1, 1) := by decide +kernel
theorem dL_forget_4 : decode cL_forget 4 = .ok (.invokevirtual 87, 3) := by decide +kernel
theorem dL_forget_7 : decode cL_forget 7 = .ok (.i2l, 1) := by decide +kernel
theorem dL_forget_8 : decode cL_forget 8 = .ok (.lastore, 1) := by decide +kernel
theorem dL_forget_9 : decode cL_forget 9 = .ok (.goto 6, 3) := by decide +kernel
theorem dL_forget_12 : decode cL_forget 12 = .ok (.astore_n 3, 1) := by decide +kernel
theorem dL_forget_13 : decode cL_forget 13 = .ok (.iconst 1, 1) := by decide +kernel
theorem dL_forget_14 : decode cL_forget 14 = .ok (.ireturn, 1) := by decide +kernel
theorem dL_forget_15 : decode cL_forget 15 = .ok (.iconst 0, 1) := by decide +kernel
theorem dL_forget_16 : decode cL_forget 16 = .ok (.ireturn, 1) := by decide +kernel
theorem dL_isForgotten_0 : decode cL_isForgotten 0 = .ok (.aload_n 3, 1) := by decide +kernel
theorem dL_isForgotten_1 : decode cL_isForgotten 1 = .ok (.iconst 0, 1) := by decide +kernel
theorem dL_isForgotten_2 : decode cL_isForgotten 2 = .ok (.aload_n 0, 1) := by decide +kernel
theorem dL_isForgotten_3 : decode cL_isForgotten 3 = .ok (.iload_n 1, 1) := by decide +kernel
theorem dL_isForgotten_4 : decode cL_isForgotten 4 = .ok (.iload_n 2, 1) := by decide +kernel
theorem dL_isForgotten_5 : decode cL_isForgotten 5 = .ok (.invokevirtual 90, 3) := by decide +kernel
theorem dL_isForgotten_8 : decode cL_isForgotten 8 = .ok (.ifCond .eq 7, 3) := by decide +kernel
theorem dL_isForgotten_11 : decode cL_isForgotten 11 = .ok (.lconst 1, 1) := by decide +kernel
theorem dL_isForgotten_12 : decode cL_isForgotten 12 = .ok (.goto 4, 3) := by decide +kernel
theorem dL_isForgotten_15 : decode cL_isForgotten 15 = .ok (.lconst 0, 1) := by decide +kernel
theorem dL_isForgotten_16 : decode cL_isForgotten 16 = .ok (.lastore, 1) := by decide +kernel
theorem dL_isForgotten_17 : decode cL_isForgotten 17 = .ok (.goto 7, 3) := by decide +kernel
theorem dL_isForgotten_20 : decode cL_isForgotten 20 = .ok (.astore 4, 2) := by decide +kernel
theorem dL_isForgotten_22 : decode cL_isForgotten 22 = .ok (.iconst 1, 1) := by decide +kernel
theorem dL_isForgotten_23 : decode cL_isForgotten 23 = .ok (.ireturn, 1) := by decide +kernel
theorem dL_isForgotten_24 : decode cL_isForgotten 24 = .ok (.iconst 0, 1) := by decide +kernel
theorem dL_isForgotten_25 : decode cL_isForgotten 25 = .ok (.ireturn, 1) := by decide +kernel
theorem dL_seal_0 : decode cL_seal 0 = .ok (.aload_n 3, 1) := by decide +kernel
theorem dL_seal_1 : decode cL_seal 1 = .ok (.iconst 0, 1) := by decide +kernel
theorem dL_seal_2 : decode cL_seal 2 = .ok (.aload_n 0, 1) := by decide +kernel
theorem dL_seal_3 : decode cL_seal 3 = .ok (.iload_n 1, 1) := by decide +kernel
theorem dL_seal_4 : decode cL_seal 4 = .ok (.iload_n 2, 1) := by decide +kernel
theorem dL_seal_5 : decode cL_seal 5 = .ok (.invokevirtual 94, 3) := by decide +kernel
theorem dL_seal_8 : decode cL_seal 8 = .ok (.i2l, 1) := by decide +kernel
theorem dL_seal_9 : decode cL_seal 9 = .ok (.lastore, 1) := by decide +kernel
theorem dL_seal_10 : decode cL_seal 10 = .ok (.goto 7, 3) := by decide +kernel
theorem dL_seal_13 : decode cL_seal 13 = .ok (.astore 4, 2) := by decide +kernel
theorem dL_seal_15 : decode cL_seal 15 = .ok (.iconst 1, 1) := by decide +kernel
theorem dL_seal_16 : decode cL_seal 16 = .ok (.ireturn, 1) := by decide +kernel
theorem dL_seal_17 : decode cL_seal 17 = .ok (.iconst 0, 1) := by decide +kernel
theorem dL_seal_18 : decode cL_seal 18 = .ok (.ireturn, 1) := by decide +kernel
theorem dL_fork_0 : decode cL_fork 0 = .ok (.aload_n 3, 1) := by decide +kernel
theorem dL_fork_1 : decode cL_fork 1 = .ok (.iconst 0, 1) := by decide +kernel
theorem dL_fork_2 : decode cL_fork 2 = .ok (.aload_n 0, 1) := by decide +kernel
theorem dL_fork_3 : decode cL_fork 3 = .ok (.iload_n 1, 1) := by decide +kernel
theorem dL_fork_4 : decode cL_fork 4 = .ok (.iload_n 2, 1) := by decide +kernel
theorem dL_fork_5 : decode cL_fork 5 = .ok (.invokevirtual 97, 3) := by decide +kernel
theorem dL_fork_8 : decode cL_fork 8 = .ok (.i2l, 1) := by decide +kernel
theorem dL_fork_9 : decode cL_fork 9 = .ok (.lastore, 1) := by decide +kernel
theorem dL_fork_10 : decode cL_fork 10 = .ok (.goto 11, 3) := by decide +kernel
theorem dL_fork_13 : decode cL_fork 13 = .ok (.astore 4, 2) := by decide +kernel
theorem dL_fork_15 : decode cL_fork 15 = .ok (.iconst 1, 1) := by decide +kernel
theorem dL_fork_16 : decode cL_fork 16 = .ok (.ireturn, 1) := by decide +kernel
theorem dL_fork_17 : decode cL_fork 17 = .ok (.astore 4, 2) := by decide +kernel
theorem dL_fork_19 : decode cL_fork 19 = .ok (.iconst 2, 1) := by decide +kernel
theorem dL_fork_20 : decode cL_fork 20 = .ok (.ireturn, 1) := by decide +kernel
theorem dL_fork_21 : decode cL_fork 21 = .ok (.iconst 0, 1) := by decide +kernel
theorem dL_fork_22 : decode cL_fork 22 = .ok (.ireturn, 1) := by decide +kernel
theorem dL_merge_0 : decode cL_merge 0 = .ok (.aload_n 2, 1) := by decide +kernel
theorem dL_merge_1 : decode cL_merge 1 = .ok (.iconst 0, 1) := by decide +kernel
theorem dL_merge_2 : decode cL_merge 2 = .ok (.aload_n 0, 1) := by decide +kernel
theorem dL_merge_3 : decode cL_merge 3 = .ok (.iload_n 1, 1) := by decide +kernel
theorem dL_merge_4 : decode cL_merge 4 = .ok (.invokevirtual 100, 3) := by decide +kernel
theorem dL_merge_7 : decode cL_merge 7 = .ok (.i2l, 1) := by decide +kernel
theorem dL_merge_8 : decode cL_merge 8 = .ok (.lastore, 1) := by decide +kernel
theorem dL_merge_9 : decode cL_merge 9 = .ok (.goto 9, 3) := by decide +kernel
theorem dL_merge_12 : decode cL_merge 12 = .ok (.astore_n 3, 1) := by decide +kernel
theorem dL_merge_13 : decode cL_merge 13 = .ok (.iconst 1, 1) := by decide +kernel
theorem dL_merge_14 : decode cL_merge 14 = .ok (.ireturn, 1) := by decide +kernel
theorem dL_merge_15 : decode cL_merge 15 = .ok (.astore_n 3, 1) := by decide +kernel
theorem dL_merge_16 : decode cL_merge 16 = .ok (.iconst 2, 1) := by decide +kernel
theorem dL_merge_17 : decode cL_merge 17 = .ok (.ireturn, 1) := by decide +kernel
theorem dL_merge_18 : decode cL_merge 18 = .ok (.iconst 0, 1) := by decide +kernel
theorem dL_merge_19 : decode cL_merge 19 = .ok (.ireturn, 1) := by decide +kernel
theorem dL_listen_0 : decode cL_listen 0 = .ok (.aload 6, 2) := by decide +kernel
theorem dL_listen_2 : decode cL_listen 2 = .ok (.iconst 0, 1) := by decide +kernel
theorem dL_listen_3 : decode cL_listen 3 = .ok (.aload_n 0, 1) := by decide +kernel
theorem dL_listen_4 : decode cL_listen 4 = .ok (.iload_n 1, 1) := by decide +kernel
theorem dL_listen_5 : decode cL_listen 5 = .ok (.iload_n 2, 1) := by decide +kernel
theorem dL_listen_6 : decode cL_listen 6 = .ok (.iload_n 3, 1) := by decide +kernel
theorem dL_listen_7 : decode cL_listen 7 = .ok (.iload 4, 2) := by decide +kernel
theorem dL_listen_9 : decode cL_listen 9 = .ok (.iload 5, 2) := by decide +kernel
theorem dL_listen_11 : decode cL_listen 11 = .ok (.invokevirtual 103, 3) := by decide +kernel
theorem dL_listen_14 : decode cL_listen 14 = .ok (.i2l, 1) := by decide +kernel
theorem dL_listen_15 : decode cL_listen 15 = .ok (.lastore, 1) := by decide +kernel
theorem dL_listen_16 : decode cL_listen 16 = .ok (.goto 15, 3) := by decide +kernel
theorem dL_listen_19 : decode cL_listen 19 = .ok (.astore 7, 2) := by decide +kernel
theorem dL_listen_21 : decode cL_listen 21 = .ok (.iconst 1, 1) := by decide +kernel
theorem dL_listen_22 : decode cL_listen 22 = .ok (.ireturn, 1) := by decide +kernel
theorem dL_listen_23 : decode cL_listen 23 = .ok (.astore 7, 2) := by decide +kernel
theorem dL_listen_25 : decode cL_listen 25 = .ok (.iconst 2, 1) := by decide +kernel
theorem dL_listen_26 : decode cL_listen 26 = .ok (.ireturn, 1) := by decide +kernel
theorem dL_listen_27 : decode cL_listen 27 = .ok (.astore 7, 2) := by decide +kernel
theorem dL_listen_29 : decode cL_listen 29 = .ok (.iconst 3, 1) := by decide +kernel
theorem dL_listen_30 : decode cL_listen 30 = .ok (.ireturn, 1) := by decide +kernel
theorem dL_listen_31 : decode cL_listen 31 = .ok (.iconst 0, 1) := by decide +kernel
theorem dL_listen_32 : decode cL_listen 32 = .ok (.ireturn, 1) := by decide +kernel
theorem dL_waiting_0 : decode cL_waiting 0 = .ok (.aload_n 2, 1) := by decide +kernel
theorem dL_waiting_1 : decode cL_waiting 1 = .ok (.iconst 0, 1) := by decide +kernel
theorem dL_waiting_2 : decode cL_waiting 2 = .ok (.aload_n 0, 1) := by decide +kernel
theorem dL_waiting_3 : decode cL_waiting 3 = .ok (.iload_n 1, 1) := by decide +kernel
theorem dL_waiting_4 : decode cL_waiting 4 = .ok (.invokevirtual 106, 3) := by decide +kernel
theorem dL_waiting_7 : decode cL_waiting 7 = .ok (.i2l, 1) := by decide +kernel
theorem dL_waiting_8 : decode cL_waiting 8 = .ok (.lastore, 1) := by decide +kernel
theorem dL_waiting_9 : decode cL_waiting 9 = .ok (.goto 6, 3) := by decide +kernel
theorem dL_waiting_12 : decode cL_waiting 12 = .ok (.astore_n 3, 1) := by decide +kernel
theorem dL_waiting_13 : decode cL_waiting 13 = .ok (.iconst 1, 1) := by decide +kernel
theorem dL_waiting_14 : decode cL_waiting 14 = .ok (.ireturn, 1) := by decide +kernel
theorem dL_waiting_15 : decode cL_waiting 15 = .ok (.iconst 0, 1) := by decide +kernel
theorem dL_waiting_16 : decode cL_waiting 16 = .ok (.ireturn, 1) := by decide +kernel
theorem dL_next_0 : decode cL_next 0 = .ok (.aload_n 2, 1) := by decide +kernel
theorem dL_next_1 : decode cL_next 1 = .ok (.iconst 0, 1) := by decide +kernel
theorem dL_next_2 : decode cL_next 2 = .ok (.aload_n 0, 1) := by decide +kernel
theorem dL_next_3 : decode cL_next 3 = .ok (.iload_n 1, 1) := by decide +kernel
theorem dL_next_4 : decode cL_next 4 = .ok (.invokevirtual 109, 3) := by decide +kernel
theorem dL_next_7 : decode cL_next 7 = .ok (.i2l, 1) := by decide +kernel
theorem dL_next_8 : decode cL_next 8 = .ok (.lastore, 1) := by decide +kernel
theorem dL_next_9 : decode cL_next 9 = .ok (.goto 9, 3) := by decide +kernel
theorem dL_next_12 : decode cL_next 12 = .ok (.astore_n 3, 1) := by decide +kernel
