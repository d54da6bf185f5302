theorem dX7_concerns_26 : decode cX7_concerns 26 = .ok (.irem, 1) := by decide +kernel
theorem dX7_concerns_27 : decode cX7_concerns 27 = .ok (.iload_n 1, 1) := by decide +kernel
theorem dX7_concerns_28 : decode cX7_concerns 28 = .ok (.if_icmp .ne 7, 3) := by decide +kernel
theorem dX7_concerns_31 : decode cX7_concerns 31 = .ok (.iconst 1, 1) := by decide +kernel
theorem dX7_concerns_32 : decode cX7_concerns 32 = .ok (.goto 4, 3) := by decide +kernel
theorem dX7_concerns_35 : decode cX7_concerns 35 = .ok (.iconst 0, 1) := by decide +kernel
theorem dX7_concerns_36 : decode cX7_concerns 36 = .ok (.ireturn, 1) := by decide +kernel
theorem dX8_init_0 : decode cX8_init 0 = .ok (.aload_n 0, 1) := by decide +kernel
theorem dX8_init_1 : decode cX8_init 1 = .ok (.invokespecial 3, 3) := by decide +kernel
theorem dX8_init_4 : decode cX8_init 4 = .ok (.aload_n 0, 1) := by decide +kernel
theorem dX8_init_5 : decode cX8_init 5 = .ok (.iconst 4, 1) := by decide +kernel
theorem dX8_init_6 : decode cX8_init 6 = .ok (.anewarray 9, 3) := by decide +kernel
theorem dX8_init_9 : decode cX8_init 9 = .ok (.putfield 11, 3) := by decide +kernel
theorem dX8_init_12 : decode cX8_init 12 = .ok (.aload_n 0, 1) := by decide +kernel
theorem dX8_init_13 : decode cX8_init 13 = .ok (.iconst 5, 1) := by decide +kernel
theorem dX8_init_14 : decode cX8_init 14 = .ok (.anewarray 15, 3) := by decide +kernel
theorem dX8_init_17 : decode cX8_init 17 = .ok (.putfield 17, 3) := by decide +kernel
theorem dX8_init_20 : decode cX8_init 20 = .ok (.aload_n 0, 1) := by decide +kernel
theorem dX8_init_21 : decode cX8_init 21 = .ok (.bipush 6, 2) := by decide +kernel
theorem dX8_init_23 : decode cX8_init 23 = .ok (.newarray .boolean, 2) := by decide +kernel
theorem dX8_init_25 : decode cX8_init 25 = .ok (.putfield 21, 3) := by decide +kernel
theorem dX8_init_28 : decode cX8_init 28 = .ok (.aload_n 0, 1) := by decide +kernel
theorem dX8_init_29 : decode cX8_init 29 = .ok (.new 25, 3) := by decide +kernel
theorem dX8_init_32 : decode cX8_init 32 = .ok (.dup, 1) := by decide +kernel
theorem dX8_init_33 : decode cX8_init 33 = .ok (.invokespecial 27, 3) := by decide +kernel
theorem dX8_init_36 : decode cX8_init 36 = .ok (.putfield 28, 3) := by decide +kernel
theorem dX8_init_39 : decode cX8_init 39 = .ok (.aload_n 0, 1) := by decide +kernel
theorem dX8_init_40 : decode cX8_init 40 = .ok (.new 32, 3) := by decide +kernel
theorem dX8_init_43 : decode cX8_init 43 = .ok (.dup, 1) := by decide +kernel
theorem dX8_init_44 : decode cX8_init 44 = .ok (.invokespecial 34, 3) := by decide +kernel
theorem dX8_init_47 : decode cX8_init 47 = .ok (.putfield 35, 3) := by decide +kernel
theorem dX8_init_50 : decode cX8_init 50 = .ok (.aload_n 0, 1) := by decide +kernel
theorem dX8_init_51 : decode cX8_init 51 = .ok (.new 39, 3) := by decide +kernel
theorem dX8_init_54 : decode cX8_init 54 = .ok (.dup, 1) := by decide +kernel
theorem dX8_init_55 : decode cX8_init 55 = .ok (.invokespecial 41, 3) := by decide +kernel
theorem dX8_init_58 : decode cX8_init 58 = .ok (.putfield 42, 3) := by decide +kernel
theorem dX8_init_61 : decode cX8_init 61 = .ok (.aload_n 0, 1) := by decide +kernel
theorem dX8_init_62 : decode cX8_init 62 = .ok (.iconst 1, 1) := by decide +kernel
theorem dX8_init_63 : decode cX8_init 63 = .ok (.putfield 46, 3) := by decide +kernel
theorem dX8_init_66 : decode cX8_init 66 = .ok (.aload_n 0, 1) := by decide +kernel
theorem dX8_init_67 : decode cX8_init 67 = .ok (.iconst 0, 1) := by decide +kernel
theorem dX8_init_68 : decode cX8_init 68 = .ok (.putfield 50, 3) := by decide +kernel
theorem dX8_init_71 : decode cX8_init 71 = .ok (.aload_n 0, 1) := by decide +kernel
theorem dX8_init_72 : decode cX8_init 72 = .ok (.iconst 0, 1) := by decide +kernel
theorem dX8_init_73 : decode cX8_init 73 = .ok (.putfield 53, 3) := by decide +kernel
theorem dX8_init_76 : decode cX8_init 76 = .ok (.iconst 0, 1) := by decide +kernel
theorem dX8_init_77 : decode cX8_init 77 = .ok (.istore_n 1, 1) := by decide +kernel
theorem dX8_init_78 : decode cX8_init 78 = .ok (.iload_n 1, 1) := by decide +kernel
theorem dX8_init_79 : decode cX8_init 79 = .ok (.iconst 4, 1) := by decide +kernel
theorem dX8_init_80 : decode cX8_init 80 = .ok (.if_icmp .ge 22, 3) := by decide +kernel
theorem dX8_init_83 : decode cX8_init 83 = .ok (.aload_n 0, 1) := by decide +kernel
theorem dX8_init_84 : decode cX8_init 84 = .ok (.getfield 11, 3) := by decide +kernel
theorem dX8_init_87 : decode cX8_init 87 = .ok (.iload_n 1, 1) := by decide +kernel
theorem dX8_init_88 : decode cX8_init 88 = .ok (.new 9, 3) := by decide +kernel
theorem dX8_init_91 : decode cX8_init 91 = .ok (.dup, 1) := by decide +kernel
theorem dX8_init_92 : decode cX8_init 92 = .ok (.invokespecial 56, 3) := by decide +kernel
theorem dX8_init_95 : decode cX8_init 95 = .ok (.aastore, 1) := by decide +kernel
theorem dX8_init_96 : decode cX8_init 96 = .ok (.iinc 1 1, 3) := by decide +kernel
theorem dX8_init_99 : decode cX8_init 99 = .ok (.goto (-21), 3) := by decide +kernel
theorem dX8_init_102 : decode cX8_init 102 = .ok (.iconst 0, 1) := by decide +kernel
theorem dX8_init_103 : decode cX8_init 103 = .ok (.istore_n 1, 1) := by decide +kernel
theorem dX8_init_104 : decode cX8_init 104 = .ok (.iload_n 1, 1) := by decide +kernel
theorem dX8_init_105 : decode cX8_init 105 = .ok (.iconst 5, 1) := by decide +kernel
theorem dX8_init_106 : decode cX8_init 106 = .ok (.if_icmp .ge 22, 3) := by decide +kernel
theorem dX8_init_109 : decode cX8_init 109 = .ok (.aload_n 0, 1) := by decide +kernel
theorem dX8_init_110 : decode cX8_init 110 = .ok (.getfield 17, 3) := by decide +kernel
theorem dX8_init_113 : decode cX8_init 113 = .ok (.iload_n 1, 1) := by decide +kernel
theorem dX8_init_114 : decode cX8_init 114 = .ok (.new 15, 3) := by decide +kernel
theorem dX8_init_117 : decode cX8_init 117 = .ok (.dup, 1) := by decide +kernel
theorem dX8_init_118 : decode cX8_init 118 = .ok (.invokespecial 57, 3) := by decide +kernel
theorem dX8_init_121 : decode cX8_init 121 = .ok (.aastore, 1) := by decide +kernel
theorem dX8_init_122 : decode cX8_init 122 = .ok (.iinc 1 1, 3) := by decide +kernel
theorem dX8_init_125 : decode cX8_init 125 = .ok (.goto (-21), 3) := by decide +kernel
theorem dX8_init_128 : decode cX8_init 128 = .ok (.return_, 1) := by decide +kernel
theorem dX8_tell_0 : decode cX8_tell 0 = .ok (.aload_n 0, 1) := by decide +kernel
theorem dX8_tell_1 : decode cX8_tell 1 = .ok (.iload_n 1, 1) := by decide +kernel
theorem dX8_tell_2 : decode cX8_tell 2 = .ok (.invokevirtual 58, 3) := by decide +kernel
theorem dX8_tell_5 : decode cX8_tell 5 = .ok (.astore 5, 2) := by decide +kernel
theorem dX8_tell_7 : decode cX8_tell 7 = .ok (.iload_n 2, 1) := by decide +kernel
theorem dX8_tell_8 : decode cX8_tell 8 = .ok (.invokestatic 62, 3) := by decide +kernel
theorem dX8_tell_11 : decode cX8_tell 11 = .ok (.iload_n 3, 1) := by decide +kernel
theorem dX8_tell_12 : decode cX8_tell 12 = .ok (.iload 4, 2) := by decide +kernel
theorem dX8_tell_14 : decode cX8_tell 14 = .ok (.invokestatic 66, 3) := by decide +kernel
theorem dX8_tell_17 : decode cX8_tell 17 = .ok (.aload_n 0, 1) := by decide +kernel
theorem dX8_tell_18 : decode cX8_tell 18 = .ok (.aload 5, 2) := by decide +kernel
theorem dX8_tell_20 : decode cX8_tell 20 = .ok (.iload_n 2, 1) := by decide +kernel
theorem dX8_tell_21 : decode cX8_tell 21 = .ok (.iload_n 3, 1) := by decide +kernel
theorem dX8_tell_22 : decode cX8_tell 22 = .ok (.iload 4, 2) := by decide +kernel
theorem dX8_tell_24 : decode cX8_tell 24 = .ok (.invokevirtual 70, 3) := by decide +kernel
theorem dX8_tell_27 : decode cX8_tell 27 = .ok (.ifCond .eq 13, 3) := by decide +kernel
theorem dX8_tell_30 : decode cX8_tell 30 = .ok (.new 74, 3) := by decide +kernel
theorem dX8_tell_33 : decode cX8_tell 33 = .ok (.dup, 1) := by decide +kernel
theorem dX8_tell_34 : decode cX8_tell 34 = .ok (.ldc 76, 2) := by decide +kernel
theorem dX8_tell_36 : decode cX8_tell 36 = .ok (.invokespecial 78, 3) := by decide +kernel
theorem dX8_tell_39 : decode cX8_tell 39 = .ok (.athrow, 1) := by decide +kernel
theorem dX8_tell_40 : decode cX8_tell 40 = .ok (.aload 5, 2) := by decide +kernel
theorem dX8_tell_42 : decode cX8_tell 42 = .ok (.invokestatic 81, 3) := by decide +kernel
theorem dX8_tell_45 : decode cX8_tell 45 = .ok (.aload 5, 2) := by decide +kernel
theorem dX8_tell_47 : decode cX8_tell 47 = .ok (.iconst 0, 1) := by decide +kernel
theorem dX8_tell_48 : decode cX8_tell 48 = .ok (.iconst 1, 1) := by decide +kernel
theorem dX8_tell_49 : decode cX8_tell 49 = .ok (.iload_n 2, 1) := by decide +kernel
theorem dX8_tell_50 : decode cX8_tell 50 = .ok (.iload_n 3, 1) := by decide +kernel
theorem dX8_tell_51 : decode cX8_tell 51 = .ok (.iload 4, 2) := by decide +kernel
theorem dX8_tell_53 : decode cX8_tell 53 = .ok (.iconst (-1), 1) := by decide +kernel
theorem dX8_tell_54 : decode cX8_tell 54 = .ok (.invokevirtual 85, 3) := by decide +kernel
theorem dX8_tell_57 : decode cX8_tell 57 = .ok (.aload_n 0, 1) := by decide +kernel
theorem dX8_tell_58 : decode cX8_tell 58 = .ok (.iload_n 1, 1) := by decide +kernel
theorem dX8_tell_59 : decode cX8_tell 59 = .ok (.invokevirtual 89, 3) := by decide +kernel
theorem dX8_tell_62 : decode cX8_tell 62 = .ok (.aload 5, 2) := by decide +kernel
theorem dX8_tell_64 : decode cX8_tell 64 = .ok (.getfield 92, 3) := by decide +kernel
theorem dX8_tell_67 : decode cX8_tell 67 = .ok (.ireturn, 1) := by decide +kernel
theorem dX8_untell_0 : decode cX8_untell 0 = .ok (.aload_n 0, 1) := by decide +kernel
theorem dX8_untell_1 : decode cX8_untell 1 = .ok (.iload_n 1, 1) := by decide +kernel
theorem dX8_untell_2 : decode cX8_untell 2 = .ok (.invokevirtual 58, 3) := by decide +kernel
theorem dX8_untell_5 : decode cX8_untell 5 = .ok (.astore 5, 2) := by decide +kernel
theorem dX8_untell_7 : decode cX8_untell 7 = .ok (.iload_n 2, 1) := by decide +kernel
theorem dX8_untell_8 : decode cX8_untell 8 = .ok (.invokestatic 62, 3) := by decide +kernel
theorem dX8_untell_11 : decode cX8_untell 11 = .ok (.iload_n 3, 1) := by decide +kernel
theorem dX8_untell_12 : decode cX8_untell 12 = .ok (.iload 4, 2) := by decide +kernel
theorem dX8_untell_14 : decode cX8_untell 14 = .ok (.invokestatic 66, 3) := by decide +kernel
theorem dX8_untell_17 : decode cX8_untell 17 = .ok (.aload 5, 2) := by decide +kernel
theorem dX8_untell_19 : decode cX8_untell 19 = .ok (.invokestatic 81, 3) := by decide +kernel
theorem dX8_untell_22 : decode cX8_untell 22 = .ok (.aload 5, 2) := by decide +kernel
theorem dX8_untell_24 : decode cX8_untell 24 = .ok (.iconst 0, 1) := by decide +kernel
theorem dX8_untell_25 : decode cX8_untell 25 = .ok (.iconst 0, 1) := by decide +kernel
theorem dX8_untell_26 : decode cX8_untell 26 = .ok (.iload_n 2, 1) := by decide +kernel
theorem dX8_untell_27 : decode cX8_untell 27 = .ok (.iload_n 3, 1) := by decide +kernel
theorem dX8_untell_28 : decode cX8_untell 28 = .ok (.iload 4, 2) := by decide +kernel
theorem dX8_untell_30 : decode cX8_untell 30 = .ok (.iconst (-1), 1) := by decide +kernel
theorem dX8_untell_31 : decode cX8_untell 31 = .ok (.invokevirtual 85, 3) := by decide +kernel
theorem dX8_untell_34 : decode cX8_untell 34 = .ok (.aload_n 0, 1) := by decide +kernel
theorem dX8_untell_35 : decode cX8_untell 35 = .ok (.iload_n 1, 1) := by decide +kernel
theorem dX8_untell_36 : decode cX8_untell 36 = .ok (.invokevirtual 89, 3) := by decide +kernel
theorem dX8_untell_39 : decode cX8_untell 39 = .ok (.aload 5, 2) := by decide +kernel
theorem dX8_untell_41 : decode cX8_untell 41 = .ok (.getfield 92, 3) := by decide +kernel
theorem dX8_untell_44 : decode cX8_untell 44 = .ok (.ireturn, 1) := by decide +kernel
theorem dX8_setUnique_0 : decode cX8_setUnique 0 = .ok (.iload_n 1, 1) := by decide +kernel
theorem dX8_setUnique_1 : decode cX8_setUnique 1 = .ok (.invokestatic 95, 3) := by decide +kernel
theorem dX8_setUnique_4 : decode cX8_setUnique 4 = .ok (.aload_n 0, 1) := by decide +kernel
theorem dX8_setUnique_5 : decode cX8_setUnique 5 = .ok (.getfield 21, 3) := by decide +kernel
theorem dX8_setUnique_8 : decode cX8_setUnique 8 = .ok (.iload_n 1, 1) := by decide +kernel
theorem dX8_setUnique_9 : decode cX8_setUnique 9 = .ok (.baload, 1) := by decide +kernel
theorem dX8_setUnique_10 : decode cX8_setUnique 10 = .ok (.istore_n 3, 1) := by decide +kernel
theorem dX8_setUnique_11 : decode cX8_setUnique 11 = .ok (.aload_n 0, 1) := by decide +kernel
theorem dX8_setUnique_12 : decode cX8_setUnique 12 = .ok (.getfield 21, 3) := by decide +kernel
theorem dX8_setUnique_15 : decode cX8_setUnique 15 = .ok (.iload_n 1, 1) := by decide +kernel
theorem dX8_setUnique_16 : decode cX8_setUnique 16 = .ok (.iload_n 2, 1) := by decide +kernel
theorem dX8_setUnique_17 : decode cX8_setUnique 17 = .ok (.bastore, 1) := by decide +kernel
theorem dX8_setUnique_18 : decode cX8_setUnique 18 = .ok (.iload_n 3, 1) := by decide +kernel
theorem dX8_setUnique_19 : decode cX8_setUnique 19 = .ok (.ireturn, 1) := by decide +kernel
theorem dX8_addRule_0 : decode cX8_addRule 0 = .ok (.iload_n 1, 1) := by decide +kernel
theorem dX8_addRule_1 : decode cX8_addRule 1 = .ok (.iload_n 2, 1) := by decide +kernel
theorem dX8_addRule_2 : decode cX8_addRule 2 = .ok (.iload_n 3, 1) := by decide +kernel
theorem dX8_addRule_3 : decode cX8_addRule 3 = .ok (.invokestatic 98, 3) := by decide +kernel
theorem dX8_addRule_6 : decode cX8_addRule 6 = .ok (.iload 4, 2) := by decide +kernel
theorem dX8_addRule_8 : decode cX8_addRule 8 = .ok (.iload 5, 2) := by decide +kernel
theorem dX8_addRule_10 : decode cX8_addRule 10 = .ok (.iload 6, 2) := by decide +kernel
theorem dX8_addRule_12 : decode cX8_addRule 12 = .ok (.invokestatic 98, 3) := by decide +kernel
theorem dX8_addRule_15 : decode cX8_addRule 15 = .ok (.aload_n 0, 1) := by decide +kernel
theorem dX8_addRule_16 : decode cX8_addRule 16 = .ok (.getfield 28, 3) := by decide +kernel
theorem dX8_addRule_19 : decode cX8_addRule 19 = .ok (.getfield 102, 3) := by decide +kernel
theorem dX8_addRule_22 : decode cX8_addRule 22 = .ok (.bipush 10, 2) := by decide +kernel
theorem dX8_addRule_24 : decode cX8_addRule 24 = .ok (.if_icmp .lt 13, 3) := by decide +kernel
theorem dX8_addRule_27 : decode cX8_addRule 27 = .ok (.new 103, 3) := by decide +kernel
theorem dX8_addRule_30 : decode cX8_addRule 30 = .ok (.dup, 1) := by decide +kernel
theorem dX8_addRule_31 : decode cX8_addRule 31 = .ok (.ldc 105, 2) := by decide +kernel
theorem dX8_addRule_33 : decode cX8_addRule 33 = .ok (.invokespecial 107, 3) := by decide +kernel
theorem dX8_addRule_36 : decode cX8_addRule 36 = .ok (.athrow, 1) := by decide +kernel
theorem dX8_addRule_37 : decode cX8_addRule 37 = .ok (.aload_n 0, 1) := by decide +kernel
theorem dX8_addRule_38 : decode cX8_addRule 38 = .ok (.getfield 28, 3) := by decide +kernel
theorem dX8_addRule_41 : decode cX8_addRule 41 = .ok (.getfield 108, 3) := by decide +kernel
theorem dX8_addRule_44 : decode cX8_addRule 44 = .ok (.aload_n 0, 1) := by decide +kernel
theorem dX8_addRule_45 : decode cX8_addRule 45 = .ok (.getfield 28, 3) := by decide +kernel
theorem dX8_addRule_48 : decode cX8_addRule 48 = .ok (.getfield 102, 3) := by decide +kernel
theorem dX8_addRule_51 : decode cX8_addRule 51 = .ok (.aaload, 1) := by decide +kernel
theorem dX8_addRule_52 : decode cX8_addRule 52 = .ok (.astore 7, 2) := by decide +kernel
theorem dX8_addRule_54 : decode cX8_addRule 54 = .ok (.aload 7, 2) := by decide +kernel
theorem dX8_addRule_56 : decode cX8_addRule 56 = .ok (.iload_n 1, 1) := by decide +kernel
theorem dX8_addRule_57 : decode cX8_addRule 57 = .ok (.iload_n 2, 1) := by decide +kernel
theorem dX8_addRule_58 : decode cX8_addRule 58 = .ok (.iload_n 3, 1) := by decide +kernel
theorem dX8_addRule_59 : decode cX8_addRule 59 = .ok (.invokevirtual 112, 3) := by decide +kernel
theorem dX8_addRule_62 : decode cX8_addRule 62 = .ok (.aload 7, 2) := by decide +kernel
theorem dX8_addRule_64 : decode cX8_addRule 64 = .ok (.iload 4, 2) := by decide +kernel
theorem dX8_addRule_66 : decode cX8_addRule 66 = .ok (.iload 5, 2) := by decide +kernel
theorem dX8_addRule_68 : decode cX8_addRule 68 = .ok (.iload 6, 2) := by decide +kernel
theorem dX8_addRule_70 : decode cX8_addRule 70 = .ok (.iconst 0, 1) := by decide +kernel
theorem dX8_addRule_71 : decode cX8_addRule 71 = .ok (.invokevirtual 117, 3) := by decide +kernel
theorem dX8_addRule_74 : decode cX8_addRule 74 = .ok (.aload_n 0, 1) := by decide +kernel
theorem dX8_addRule_75 : decode cX8_addRule 75 = .ok (.getfield 28, 3) := by decide +kernel
theorem dX8_addRule_78 : decode cX8_addRule 78 = .ok (.dup, 1) := by decide +kernel
theorem dX8_addRule_79 : decode cX8_addRule 79 = .ok (.getfield 102, 3) := by decide +kernel
theorem dX8_addRule_82 : decode cX8_addRule 82 = .ok (.iconst 1, 1) := by decide +kernel
theorem dX8_addRule_83 : decode cX8_addRule 83 = .ok (.iadd, 1) := by decide +kernel
theorem dX8_addRule_84 : decode cX8_addRule 84 = .ok (.putfield 102, 3) := by decide +kernel
theorem dX8_addRule_87 : decode cX8_addRule 87 = .ok (.aload_n 0, 1) := by decide +kernel
theorem dX8_addRule_88 : decode cX8_addRule 88 = .ok (.getfield 28, 3) := by decide +kernel
theorem dX8_addRule_91 : decode cX8_addRule 91 = .ok (.getfield 102, 3) := by decide +kernel
theorem dX8_addRule_94 : decode cX8_addRule 94 = .ok (.iconst 1, 1) := by decide +kernel
theorem dX8_addRule_95 : decode cX8_addRule 95 = .ok (.isub, 1) := by decide +kernel
theorem dX8_addRule_96 : decode cX8_addRule 96 = .ok (.ireturn, 1) := by decide +kernel
theorem dX8_addCondition_0 : decode cX8_addCondition 0 = .ok (.aload_n 0, 1) := by decide +kernel
theorem dX8_addCondition_1 : decode cX8_addCondition 1 = .ok (.iload_n 1, 1) := by decide +kernel
theorem dX8_addCondition_2 : decode cX8_addCondition 2 = .ok (.invokevirtual 120, 3) := by decide +kernel
theorem dX8_addCondition_5 : decode cX8_addCondition 5 = .ok (.astore 6, 2) := by decide +kernel
theorem dX8_addCondition_7 : decode cX8_addCondition 7 = .ok (.iload_n 2, 1) := by decide +kernel
theorem dX8_addCondition_8 : decode cX8_addCondition 8 = .ok (.iload_n 3, 1) := by decide +kernel
theorem dX8_addCondition_9 : decode cX8_addCondition 9 = .ok (.iload 4, 2) := by decide +kernel
theorem dX8_addCondition_11 : decode cX8_addCondition 11 = .ok (.invokestatic 98, 3) := by decide +kernel
theorem dX8_addCondition_14 : decode cX8_addCondition 14 = .ok (.aload 6, 2) := by decide +kernel
theorem dX8_addCondition_16 : decode cX8_addCondition 16 = .ok (.getfield 124, 3) := by decide +kernel
theorem dX8_addCondition_19 : decode cX8_addCondition 19 = .ok (.ifCond .ne 12, 3) := by decide +kernel
theorem dX8_addCondition_22 : decode cX8_addCondition 22 = .ok (.aload 6, 2) := by decide +kernel
theorem dX8_addCondition_24 : decode cX8_addCondition 24 = .ok (.getfield 128, 3) := by decide +kernel
theorem dX8_addCondition_27 : decode cX8_addCondition 27 = .ok (.iconst 3, 1) := by decide +kernel
theorem dX8_addCondition_28 : decode cX8_addCondition 28 = .ok (.if_icmp .lt 13, 3) := by decide +kernel
theorem dX8_addCondition_31 : decode cX8_addCondition 31 = .ok (.new 103, 3) := by decide +kernel
theorem dX8_addCondition_34 : decode cX8_addCondition 34 = .ok (.dup, 1) := by decide +kernel
theorem dX8_addCondition_35 : decode cX8_addCondition 35 = .ok (.ldc 129, 2) := by decide +kernel
theorem dX8_addCondition_37 : decode cX8_addCondition 37 = .ok (.invokespecial 107, 3) := by decide +kernel
theorem dX8_addCondition_40 : decode cX8_addCondition 40 = .ok (.athrow, 1) := by decide +kernel
theorem dX8_addCondition_41 : decode cX8_addCondition 41 = .ok (.aload 6, 2) := by decide +kernel
theorem dX8_addCondition_43 : decode cX8_addCondition 43 = .ok (.iload_n 2, 1) := by decide +kernel
theorem dX8_addCondition_44 : decode cX8_addCondition 44 = .ok (.iload_n 3, 1) := by decide +kernel
theorem dX8_addCondition_45 : decode cX8_addCondition 45 = .ok (.iload 4, 2) := by decide +kernel
theorem dX8_addCondition_47 : decode cX8_addCondition 47 = .ok (.iload 5, 2) := by decide +kernel
theorem dX8_addCondition_49 : decode cX8_addCondition 49 = .ok (.invokevirtual 117, 3) := by decide +kernel
theorem dX8_addCondition_52 : decode cX8_addCondition 52 = .ok (.aload 6, 2) := by decide +kernel
theorem dX8_addCondition_54 : decode cX8_addCondition 54 = .ok (.getfield 128, 3) := by decide +kernel
theorem dX8_addCondition_57 : decode cX8_addCondition 57 = .ok (.ireturn, 1) := by decide +kernel
theorem dX8_turn_0 : decode cX8_turn 0 = .ok (.aload_n 0, 1) := by decide +kernel
theorem dX8_turn_1 : decode cX8_turn 1 = .ok (.iload_n 1, 1) := by decide +kernel
theorem dX8_turn_2 : decode cX8_turn 2 = .ok (.invokevirtual 58, 3) := by decide +kernel
theorem dX8_turn_5 : decode cX8_turn 5 = .ok (.astore 4, 2) := by decide +kernel
theorem dX8_turn_7 : decode cX8_turn 7 = .ok (.aload_n 0, 1) := by decide +kernel
theorem dX8_turn_8 : decode cX8_turn 8 = .ok (.iload_n 2, 1) := by decide +kernel
theorem dX8_turn_9 : decode cX8_turn 9 = .ok (.invokevirtual 120, 3) := by decide +kernel
theorem dX8_turn_12 : decode cX8_turn 12 = .ok (.astore 5, 2) := by decide +kernel
theorem dX8_turn_14 : decode cX8_turn 14 = .ok (.iload_n 3, 1) := by decide +kernel
theorem dX8_turn_15 : decode cX8_turn 15 = .ok (.ifCond .eq 34, 3) := by decide +kernel
theorem dX8_turn_18 : decode cX8_turn 18 = .ok (.aload_n 0, 1) := by decide +kernel
theorem dX8_turn_19 : decode cX8_turn 19 = .ok (.getfield 28, 3) := by decide +kernel
theorem dX8_turn_22 : decode cX8_turn 22 = .ok (.iload_n 2, 1) := by decide +kernel
theorem dX8_turn_23 : decode cX8_turn 23 = .ok (.aload 4, 2) := by decide +kernel
theorem dX8_turn_25 : decode cX8_turn 25 = .ok (.aload 4, 2) := by decide +kernel
theorem dX8_turn_27 : decode cX8_turn 27 = .ok (.getfield 92, 3) := by decide +kernel
theorem dX8_turn_30 : decode cX8_turn 30 = .ok (.invokevirtual 131, 3) := by decide +kernel
theorem dX8_turn_33 : decode cX8_turn 33 = .ok (.invokevirtual 135, 3) := by decide +kernel
theorem dX8_turn_36 : decode cX8_turn 36 = .ok (.ifCond .ne 13, 3) := by decide +kernel
theorem dX8_turn_39 : decode cX8_turn 39 = .ok (.new 74, 3) := by decide +kernel
theorem dX8_turn_42 : decode cX8_turn 42 = .ok (.dup, 1) := by decide +kernel
theorem dX8_turn_43 : decode cX8_turn 43 = .ok (.ldc 139, 2) := by decide +kernel
theorem dX8_turn_45 : decode cX8_turn 45 = .ok (.invokespecial 78, 3) := by decide +kernel
theorem dX8_turn_48 : decode cX8_turn 48 = .ok (.athrow, 1) := by decide +kernel
theorem dX8_turn_49 : decode cX8_turn 49 = .ok (.aload 4, 2) := by decide +kernel
theorem dX8_turn_51 : decode cX8_turn 51 = .ok (.invokestatic 81, 3) := by decide +kernel
theorem dX8_turn_54 : decode cX8_turn 54 = .ok (.aload 5, 2) := by decide +kernel
theorem dX8_turn_56 : decode cX8_turn 56 = .ok (.aload 5, 2) := by decide +kernel
theorem dX8_turn_58 : decode cX8_turn 58 = .ok (.getfield 124, 3) := by decide +kernel
theorem dX8_turn_61 : decode cX8_turn 61 = .ok (.ifCond .ne 7, 3) := by decide +kernel
theorem dX8_turn_64 : decode cX8_turn 64 = .ok (.iload_n 3, 1) := by decide +kernel
theorem dX8_turn_65 : decode cX8_turn 65 = .ok (.ifCond .eq 7, 3) := by decide +kernel
theorem dX8_turn_68 : decode cX8_turn 68 = .ok (.iconst 1, 1) := by decide +kernel
theorem dX8_turn_69 : decode cX8_turn 69 = .ok (.goto 4, 3) := by decide +kernel
theorem dX8_turn_72 : decode cX8_turn 72 = .ok (.iconst 0, 1) := by decide +kernel
theorem dX8_turn_73 : decode cX8_turn 73 = .ok (.putfield 124, 3) := by decide +kernel
theorem dX8_turn_76 : decode cX8_turn 76 = .ok (.aload 4, 2) := by decide +kernel
theorem dX8_turn_78 : decode cX8_turn 78 = .ok (.iconst 1, 1) := by decide +kernel
theorem dX8_turn_79 : decode cX8_turn 79 = .ok (.iload_n 3, 1) := by decide +kernel
theorem dX8_turn_80 : decode cX8_turn 80 = .ok (.iload_n 2, 1) := by decide +kernel
theorem dX8_turn_81 : decode cX8_turn 81 = .ok (.iconst 0, 1) := by decide +kernel
theorem dX8_turn_82 : decode cX8_turn 82 = .ok (.iconst 0, 1) := by decide +kernel
theorem dX8_turn_83 : decode cX8_turn 83 = .ok (.iconst (-1), 1) := by decide +kernel
theorem dX8_turn_84 : decode cX8_turn 84 = .ok (.invokevirtual 85, 3) := by decide +kernel
theorem dX8_turn_87 : decode cX8_turn 87 = .ok (.aload_n 0, 1) := by decide +kernel
theorem dX8_turn_88 : decode cX8_turn 88 = .ok (.iload_n 1, 1) := by decide +kernel
theorem dX8_turn_89 : decode cX8_turn 89 = .ok (.invokevirtual 89, 3) := by decide +kernel
theorem dX8_turn_92 : decode cX8_turn 92 = .ok (.aload 4, 2) := by decide +kernel
theorem dX8_turn_94 : decode cX8_turn 94 = .ok (.getfield 92, 3) := by decide +kernel
theorem dX8_turn_97 : decode cX8_turn 97 = .ok (.ireturn, 1) := by decide +kernel
theorem dX8_isOn_0 : decode cX8_isOn 0 = .ok (.aload_n 0, 1) := by decide +kernel
theorem dX8_isOn_1 : decode cX8_isOn 1 = .ok (.iload_n 1, 1) := by decide +kernel
theorem dX8_isOn_2 : decode cX8_isOn 2 = .ok (.invokevirtual 58, 3) := by decide +kernel
theorem dX8_isOn_5 : decode cX8_isOn 5 = .ok (.astore 4, 2) := by decide +kernel
theorem dX8_isOn_7 : decode cX8_isOn 7 = .ok (.aload_n 0, 1) := by decide +kernel
theorem dX8_isOn_8 : decode cX8_isOn 8 = .ok (.iload_n 2, 1) := by decide +kernel
theorem dX8_isOn_9 : decode cX8_isOn 9 = .ok (.invokevirtual 120, 3) := by decide +kernel
theorem dX8_isOn_12 : decode cX8_isOn 12 = .ok (.pop, 1) := by decide +kernel
theorem dX8_isOn_13 : decode cX8_isOn 13 = .ok (.aload 4, 2) := by decide +kernel
theorem dX8_isOn_15 : decode cX8_isOn 15 = .ok (.iload_n 3, 1) := by decide +kernel
theorem dX8_isOn_16 : decode cX8_isOn 16 = .ok (.invokestatic 141, 3) := by decide +kernel
theorem dX8_isOn_19 : decode cX8_isOn 19 = .ok (.iload_n 2, 1) := by decide +kernel
theorem dX8_isOn_20 : decode cX8_isOn 20 = .ok (.aload 4, 2) := by decide +kernel
theorem dX8_isOn_22 : decode cX8_isOn 22 = .ok (.iload_n 3, 1) := by decide +kernel
theorem dX8_isOn_23 : decode cX8_isOn 23 = .ok (.invokevirtual 131, 3) := by decide +kernel
theorem dX8_isOn_26 : decode cX8_isOn 26 = .ok (.invokestatic 145, 3) := by decide +kernel
theorem dX8_isOn_29 : decode cX8_isOn 29 = .ok (.ireturn, 1) := by decide +kernel
theorem dX8_layer_0 : decode cX8_layer 0 = .ok (.aload_n 0, 1) := by decide +kernel
theorem dX8_layer_1 : decode cX8_layer 1 = .ok (.iload_n 1, 1) := by decide +kernel
theorem dX8_layer_2 : decode cX8_layer 2 = .ok (.invokevirtual 58, 3) := by decide +kernel
theorem dX8_layer_5 : decode cX8_layer 5 = .ok (.astore_n 3, 1) := by decide +kernel
theorem dX8_layer_6 : decode cX8_layer 6 = .ok (.iload_n 2, 1) := by decide +kernel
theorem dX8_layer_7 : decode cX8_layer 7 = .ok (.invokestatic 95, 3) := by decide +kernel
theorem dX8_layer_10 : decode cX8_layer 10 = .ok (.aload_n 0, 1) := by decide +kernel
theorem dX8_layer_11 : decode cX8_layer 11 = .ok (.getfield 28, 3) := by decide +kernel
theorem dX8_layer_14 : decode cX8_layer 14 = .ok (.aload_n 3, 1) := by decide +kernel
theorem dX8_layer_15 : decode cX8_layer 15 = .ok (.aload_n 3, 1) := by decide +kernel
theorem dX8_layer_16 : decode cX8_layer 16 = .ok (.getfield 92, 3) := by decide +kernel
theorem dX8_layer_19 : decode cX8_layer 19 = .ok (.invokevirtual 131, 3) := by decide +kernel
theorem dX8_layer_22 : decode cX8_layer 22 = .ok (.invokevirtual 148, 3) := by decide +kernel
theorem dX8_layer_25 : decode cX8_layer 25 = .ok (.pop, 1) := by decide +kernel
theorem dX8_layer_26 : decode cX8_layer 26 = .ok (.aload_n 0, 1) := by decide +kernel
theorem dX8_layer_27 : decode cX8_layer 27 = .ok (.getfield 28, 3) := by decide +kernel
theorem dX8_layer_30 : decode cX8_layer 30 = .ok (.getfield 152, 3) := by decide +kernel
theorem dX8_layer_33 : decode cX8_layer 33 = .ok (.iload_n 2, 1) := by decide +kernel
theorem dX8_layer_34 : decode cX8_layer 34 = .ok (.iaload, 1) := by decide +kernel
theorem dX8_layer_35 : decode cX8_layer 35 = .ok (.ireturn, 1) := by decide +kernel
theorem dX8_knowing_0 : decode cX8_knowing 0 = .ok (.aload_n 0, 1) := by decide +kernel
theorem dX8_knowing_1 : decode cX8_knowing 1 = .ok (.iload_n 1, 1) := by decide +kernel
theorem dX8_knowing_2 : decode cX8_knowing 2 = .ok (.invokevirtual 58, 3) := by decide +kernel
theorem dX8_knowing_5 : decode cX8_knowing 5 = .ok (.getfield 92, 3) := by decide +kernel
theorem dX8_knowing_8 : decode cX8_knowing 8 = .ok (.ireturn, 1) := by decide +kernel
theorem dX8_holds_0 : decode cX8_holds 0 = .ok (.aload_n 0, 1) := by decide +kernel
theorem dX8_holds_1 : decode cX8_holds 1 = .ok (.iload_n 1, 1) := by decide +kernel
theorem dX8_holds_2 : decode cX8_holds 2 = .ok (.invokevirtual 58, 3) := by decide +kernel
theorem dX8_holds_5 : decode cX8_holds 5 = .ok (.astore 5, 2) := by decide +kernel
theorem dX8_holds_7 : decode cX8_holds 7 = .ok (.aload 5, 2) := by decide +kernel
theorem dX8_holds_9 : decode cX8_holds 9 = .ok (.iload_n 2, 1) := by decide +kernel
theorem dX8_holds_10 : decode cX8_holds 10 = .ok (.iload_n 3, 1) := by decide +kernel
theorem dX8_holds_11 : decode cX8_holds 11 = .ok (.iload 4, 2) := by decide +kernel
theorem dX8_holds_13 : decode cX8_holds 13 = .ok (.invokestatic 156, 3) := by decide +kernel
theorem dX8_holds_16 : decode cX8_holds 16 = .ok (.aload_n 0, 1) := by decide +kernel
theorem dX8_holds_17 : decode cX8_holds 17 = .ok (.aload 5, 2) := by decide +kernel
theorem dX8_holds_19 : decode cX8_holds 19 = .ok (.iload_n 2, 1) := by decide +kernel
theorem dX8_holds_20 : decode cX8_holds 20 = .ok (.iload_n 3, 1) := by decide +kernel
theorem dX8_holds_21 : decode cX8_holds 21 = .ok (.invokevirtual 160, 3) := by decide +kernel
theorem dX8_holds_24 : decode cX8_holds 24 = .ok (.iload 4, 2) := by decide +kernel
theorem dX8_holds_26 : decode cX8_holds 26 = .ok (.invokevirtual 164, 3) := by decide +kernel
theorem dX8_holds_29 : decode cX8_holds 29 = .ok (.ireturn, 1) := by decide +kernel
theorem dX8_holdsAnew_0 : decode cX8_holdsAnew 0 = .ok (.aload_n 0, 1) := by decide +kernel
theorem dX8_holdsAnew_1 : decode cX8_holdsAnew 1 = .ok (.iload_n 1, 1) := by decide +kernel
theorem dX8_holdsAnew_2 : decode cX8_holdsAnew 2 = .ok (.invokevirtual 58, 3) := by decide +kernel
theorem dX8_holdsAnew_5 : decode cX8_holdsAnew 5 = .ok (.astore 5, 2) := by decide +kernel
theorem dX8_holdsAnew_7 : decode cX8_holdsAnew 7 = .ok (.aload 5, 2) := by decide +kernel
theorem dX8_holdsAnew_9 : decode cX8_holdsAnew 9 = .ok (.iload_n 2, 1) := by decide +kernel
theorem dX8_holdsAnew_10 : decode cX8_holdsAnew 10 = .ok (.iload_n 3, 1) := by decide +kernel
theorem dX8_holdsAnew_11 : decode cX8_holdsAnew 11 = .ok (.iload 4, 2) := by decide +kernel
theorem dX8_holdsAnew_13 : decode cX8_holdsAnew 13 = .ok (.invokestatic 156, 3) := by decide +kernel
theorem dX8_holdsAnew_16 : decode cX8_holdsAnew 16 = .ok (.aload_n 0, 1) := by decide +kernel
theorem dX8_holdsAnew_17 : decode cX8_holdsAnew 17 = .ok (.aload 5, 2) := by decide +kernel
theorem dX8_holdsAnew_19 : decode cX8_holdsAnew 19 = .ok (.iload_n 2, 1) := by decide +kernel
theorem dX8_holdsAnew_20 : decode cX8_holdsAnew 20 = .ok (.iload_n 3, 1) := by decide +kernel
theorem dX8_holdsAnew_21 : decode cX8_holdsAnew 21 = .ok (.invokevirtual 167, 3) := by decide +kernel
theorem dX8_holdsAnew_24 : decode cX8_holdsAnew 24 = .ok (.iload 4, 2) := by decide +kernel
theorem dX8_holdsAnew_26 : decode cX8_holdsAnew 26 = .ok (.invokevirtual 164, 3) := by decide +kernel
theorem dX8_holdsAnew_29 : decode cX8_holdsAnew 29 = .ok (.ireturn, 1) := by decide +kernel
theorem dX8_count_0 : decode cX8_count 0 = .ok (.aload_n 0, 1) := by decide +kernel
theorem dX8_count_1 : decode cX8_count 1 = .ok (.iload_n 1, 1) := by decide +kernel
theorem dX8_count_2 : decode cX8_count 2 = .ok (.invokevirtual 58, 3) := by decide +kernel
theorem dX8_count_5 : decode cX8_count 5 = .ok (.astore 5, 2) := by decide +kernel
theorem dX8_count_7 : decode cX8_count 7 = .ok (.aload 5, 2) := by decide +kernel
theorem dX8_count_9 : decode cX8_count 9 = .ok (.iload_n 2, 1) := by decide +kernel
theorem dX8_count_10 : decode cX8_count 10 = .ok (.invokestatic 141, 3) := by decide +kernel
theorem dX8_count_13 : decode cX8_count 13 = .ok (.iload_n 3, 1) := by decide +kernel
theorem dX8_count_14 : decode cX8_count 14 = .ok (.invokestatic 170, 3) := by decide +kernel
theorem dX8_count_17 : decode cX8_count 17 = .ok (.iload 4, 2) := by decide +kernel
theorem dX8_count_19 : decode cX8_count 19 = .ok (.invokestatic 95, 3) := by decide +kernel
theorem dX8_count_22 : decode cX8_count 22 = .ok (.aload_n 0, 1) := by decide +kernel
theorem dX8_count_23 : decode cX8_count 23 = .ok (.aload 5, 2) := by decide +kernel
theorem dX8_count_25 : decode cX8_count 25 = .ok (.iload_n 2, 1) := by decide +kernel
theorem dX8_count_26 : decode cX8_count 26 = .ok (.iload_n 3, 1) := by decide +kernel
theorem dX8_count_27 : decode cX8_count 27 = .ok (.invokevirtual 160, 3) := by decide +kernel
theorem dX8_count_30 : decode cX8_count 30 = .ok (.getfield 173, 3) := by decide +kernel
theorem dX8_count_33 : decode cX8_count 33 = .ok (.iload 4, 2) := by decide +kernel
theorem dX8_count_35 : decode cX8_count 35 = .ok (.laload, 1) := by decide +kernel
theorem dX8_count_36 : decode cX8_count 36 = .ok (.invokestatic 177, 3) := by decide +kernel
theorem dX8_count_39 : decode cX8_count 39 = .ok (.ireturn, 1) := by decide +kernel
theorem dX8_spanFrom_0 : decode cX8_spanFrom 0 = .ok (.aload_n 0, 1) := by decide +kernel
theorem dX8_spanFrom_1 : decode cX8_spanFrom 1 = .ok (.iload_n 1, 1) := by decide +kernel
theorem dX8_spanFrom_2 : decode cX8_spanFrom 2 = .ok (.invokevirtual 58, 3) := by decide +kernel
theorem dX8_spanFrom_5 : decode cX8_spanFrom 5 = .ok (.astore 5, 2) := by decide +kernel
theorem dX8_spanFrom_7 : decode cX8_spanFrom 7 = .ok (.aload 5, 2) := by decide +kernel
theorem dX8_spanFrom_9 : decode cX8_spanFrom 9 = .ok (.iload_n 2, 1) := by decide +kernel
theorem dX8_spanFrom_10 : decode cX8_spanFrom 10 = .ok (.iload_n 3, 1) := by decide +kernel
theorem dX8_spanFrom_11 : decode cX8_spanFrom 11 = .ok (.iload 4, 2) := by decide +kernel
theorem dX8_spanFrom_13 : decode cX8_spanFrom 13 = .ok (.invokestatic 156, 3) := by decide +kernel
theorem dX8_spanFrom_16 : decode cX8_spanFrom 16 = .ok (.aload_n 0, 1) := by decide +kernel
theorem dX8_spanFrom_17 : decode cX8_spanFrom 17 = .ok (.aload 5, 2) := by decide +kernel
theorem dX8_spanFrom_19 : decode cX8_spanFrom 19 = .ok (.iload_n 2, 1) := by decide +kernel
theorem dX8_spanFrom_20 : decode cX8_spanFrom 20 = .ok (.iload_n 3, 1) := by decide +kernel
theorem dX8_spanFrom_21 : decode cX8_spanFrom 21 = .ok (.invokevirtual 160, 3) := by decide +kernel
theorem dX8_spanFrom_24 : decode cX8_spanFrom 24 = .ok (.iload 4, 2) := by decide +kernel
theorem dX8_spanFrom_26 : decode cX8_spanFrom 26 = .ok (.invokestatic 183, 3) := by decide +kernel
theorem dX8_spanFrom_29 : decode cX8_spanFrom 29 = .ok (.iload_n 3, 1) := by decide +kernel
theorem dX8_spanFrom_30 : decode cX8_spanFrom 30 = .ok (.istore 6, 2) := by decide +kernel
theorem dX8_spanFrom_32 : decode cX8_spanFrom 32 = .ok (.iload 6, 2) := by decide +kernel
theorem dX8_spanFrom_34 : decode cX8_spanFrom 34 = .ok (.ifCond .le 28, 3) := by decide +kernel
theorem dX8_spanFrom_37 : decode cX8_spanFrom 37 = .ok (.aload_n 0, 1) := by decide +kernel
theorem dX8_spanFrom_38 : decode cX8_spanFrom 38 = .ok (.aload 5, 2) := by decide +kernel
theorem dX8_spanFrom_40 : decode cX8_spanFrom 40 = .ok (.iload_n 2, 1) := by decide +kernel
theorem dX8_spanFrom_41 : decode cX8_spanFrom 41 = .ok (.iload 6, 2) := by decide +kernel
theorem dX8_spanFrom_43 : decode cX8_spanFrom 43 = .ok (.iconst 1, 1) := by decide +kernel
theorem dX8_spanFrom_44 : decode cX8_spanFrom 44 = .ok (.isub, 1) := by decide +kernel
theorem dX8_spanFrom_45 : decode cX8_spanFrom 45 = .ok (.invokevirtual 160, 3) := by decide +kernel
theorem dX8_spanFrom_48 : decode cX8_spanFrom 48 = .ok (.iload 4, 2) := by decide +kernel
theorem dX8_spanFrom_50 : decode cX8_spanFrom 50 = .ok (.invokevirtual 164, 3) := by decide +kernel
theorem dX8_spanFrom_53 : decode cX8_spanFrom 53 = .ok (.ifCond .eq 9, 3) := by decide +kernel
theorem dX8_spanFrom_56 : decode cX8_spanFrom 56 = .ok (.iinc 6 (-1), 3) := by decide +kernel
theorem dX8_spanFrom_59 : decode cX8_spanFrom 59 = .ok (.goto (-27), 3) := by decide +kernel
theorem dX8_spanFrom_62 : decode cX8_spanFrom 62 = .ok (.iload 6, 2) := by decide +kernel
theorem dX8_spanFrom_64 : decode cX8_spanFrom 64 = .ok (.ireturn, 1) := by decide +kernel
theorem dX8_spanTo_0 : decode cX8_spanTo 0 = .ok (.aload_n 0, 1) := by decide +kernel
theorem dX8_spanTo_1 : decode cX8_spanTo 1 = .ok (.iload_n 1, 1) := by decide +kernel
theorem dX8_spanTo_2 : decode cX8_spanTo 2 = .ok (.invokevirtual 58, 3) := by decide +kernel
theorem dX8_spanTo_5 : decode cX8_spanTo 5 = .ok (.astore 5, 2) := by decide +kernel
theorem dX8_spanTo_7 : decode cX8_spanTo 7 = .ok (.aload 5, 2) := by decide +kernel
theorem dX8_spanTo_9 : decode cX8_spanTo 9 = .ok (.iload_n 2, 1) := by decide +kernel
theorem dX8_spanTo_10 : decode cX8_spanTo 10 = .ok (.iload_n 3, 1) := by decide +kernel
theorem dX8_spanTo_11 : decode cX8_spanTo 11 = .ok (.iload 4, 2) := by decide +kernel
theorem dX8_spanTo_13 : decode cX8_spanTo 13 = .ok (.invokestatic 156, 3) := by decide +kernel
theorem dX8_spanTo_16 : decode cX8_spanTo 16 = .ok (.aload_n 0, 1) := by decide +kernel
theorem dX8_spanTo_17 : decode cX8_spanTo 17 = .ok (.aload 5, 2) := by decide +kernel
theorem dX8_spanTo_19 : decode cX8_spanTo 19 = .ok (.iload_n 2, 1) := by decide +kernel
theorem dX8_spanTo_20 : decode cX8_spanTo 20 = .ok (.iload_n 3, 1) := by decide +kernel
theorem dX8_spanTo_21 : decode cX8_spanTo 21 = .ok (.invokevirtual 160, 3) := by decide +kernel
theorem dX8_spanTo_24 : decode cX8_spanTo 24 = .ok (.iload 4, 2) := by decide +kernel
theorem dX8_spanTo_26 : decode cX8_spanTo 26 = .ok (.invokestatic 183, 3) := by decide +kernel
theorem dX8_spanTo_29 : decode cX8_spanTo 29 = .ok (.iload_n 3, 1) := by decide +kernel
theorem dX8_spanTo_30 : decode cX8_spanTo 30 = .ok (.istore 6, 2) := by decide +kernel
theorem dX8_spanTo_32 : decode cX8_spanTo 32 = .ok (.iload 6, 2) := by decide +kernel
theorem dX8_spanTo_34 : decode cX8_spanTo 34 = .ok (.bipush 23, 2) := by decide +kernel
theorem dX8_spanTo_36 : decode cX8_spanTo 36 = .ok (.if_icmp .ge 28, 3) := by decide +kernel
theorem dX8_spanTo_39 : decode cX8_spanTo 39 = .ok (.aload_n 0, 1) := by decide +kernel
theorem dX8_spanTo_40 : decode cX8_spanTo 40 = .ok (.aload 5, 2) := by decide +kernel
theorem dX8_spanTo_42 : decode cX8_spanTo 42 = .ok (.iload_n 2, 1) := by decide +kernel
theorem dX8_spanTo_43 : decode cX8_spanTo 43 = .ok (.iload 6, 2) := by decide +kernel
theorem dX8_spanTo_45 : decode cX8_spanTo 45 = .ok (.iconst 1, 1) := by decide +kernel
theorem dX8_spanTo_46 : decode cX8_spanTo 46 = .ok (.iadd, 1) := by decide +kernel
theorem dX8_spanTo_47 : decode cX8_spanTo 47 = .ok (.invokevirtual 160, 3) := by decide +kernel
theorem dX8_spanTo_50 : decode cX8_spanTo 50 = .ok (.iload 4, 2) := by decide +kernel
theorem dX8_spanTo_52 : decode cX8_spanTo 52 = .ok (.invokevirtual 164, 3) := by decide +kernel
theorem dX8_spanTo_55 : decode cX8_spanTo 55 = .ok (.ifCond .eq 9, 3) := by decide +kernel
theorem dX8_spanTo_58 : decode cX8_spanTo 58 = .ok (.iinc 6 1, 3) := by decide +kernel
theorem dX8_spanTo_61 : decode cX8_spanTo 61 = .ok (.goto (-29), 3) := by decide +kernel
theorem dX8_spanTo_64 : decode cX8_spanTo 64 = .ok (.iload 6, 2) := by decide +kernel
theorem dX8_spanTo_66 : decode cX8_spanTo 66 = .ok (.ireturn, 1) := by decide +kernel
theorem dX8_since_0 : decode cX8_since 0 = .ok (.aload_n 0, 1) := by decide +kernel
theorem dX8_since_1 : decode cX8_since 1 = .ok (.iload_n 1, 1) := by decide +kernel
theorem dX8_since_2 : decode cX8_since 2 = .ok (.invokevirtual 58, 3) := by decide +kernel
theorem dX8_since_5 : decode cX8_since 5 = .ok (.astore 4, 2) := by decide +kernel
theorem dX8_since_7 : decode cX8_since 7 = .ok (.aload 4, 2) := by decide +kernel
theorem dX8_since_9 : decode cX8_since 9 = .ok (.aload 4, 2) := by decide +kernel
theorem dX8_since_11 : decode cX8_since 11 = .ok (.getfield 92, 3) := by decide +kernel
theorem dX8_since_14 : decode cX8_since 14 = .ok (.iload_n 2, 1) := by decide +kernel
theorem dX8_since_15 : decode cX8_since 15 = .ok (.iload_n 3, 1) := by decide +kernel
theorem dX8_since_16 : decode cX8_since 16 = .ok (.invokestatic 156, 3) := by decide +kernel
theorem dX8_since_19 : decode cX8_since 19 = .ok (.aload_n 0, 1) := by decide +kernel
theorem dX8_since_20 : decode cX8_since 20 = .ok (.aload 4, 2) := by decide +kernel
theorem dX8_since_22 : decode cX8_since 22 = .ok (.aload 4, 2) := by decide +kernel
theorem dX8_since_24 : decode cX8_since 24 = .ok (.getfield 92, 3) := by decide +kernel
theorem dX8_since_27 : decode cX8_since 27 = .ok (.iload_n 2, 1) := by decide +kernel
theorem dX8_since_28 : decode cX8_since 28 = .ok (.invokevirtual 160, 3) := by decide +kernel
theorem dX8_since_31 : decode cX8_since 31 = .ok (.iload_n 3, 1) := by decide +kernel
theorem dX8_since_32 : decode cX8_since 32 = .ok (.invokevirtual 164, 3) := by decide +kernel
theorem dX8_since_35 : decode cX8_since 35 = .ok (.istore 5, 2) := by decide +kernel
theorem dX8_since_37 : decode cX8_since 37 = .ok (.aload 4, 2) := by decide +kernel
theorem dX8_since_39 : decode cX8_since 39 = .ok (.getfield 92, 3) := by decide +kernel
theorem dX8_since_42 : decode cX8_since 42 = .ok (.istore 6, 2) := by decide +kernel
theorem dX8_since_44 : decode cX8_since 44 = .ok (.iload 6, 2) := by decide +kernel
theorem dX8_since_46 : decode cX8_since 46 = .ok (.ifCond .le 29, 3) := by decide +kernel
theorem dX8_since_49 : decode cX8_since 49 = .ok (.aload_n 0, 1) := by decide +kernel
theorem dX8_since_50 : decode cX8_since 50 = .ok (.aload 4, 2) := by decide +kernel
theorem dX8_since_52 : decode cX8_since 52 = .ok (.iload 6, 2) := by decide +kernel
theorem dX8_since_54 : decode cX8_since 54 = .ok (.iconst 1, 1) := by decide +kernel
theorem dX8_since_55 : decode cX8_since 55 = .ok (.isub, 1) := by decide +kernel
theorem dX8_since_56 : decode cX8_since 56 = .ok (.iload_n 2, 1) := by decide +kernel
theorem dX8_since_57 : decode cX8_since 57 = .ok (.invokevirtual 160, 3) := by decide +kernel
theorem dX8_since_60 : decode cX8_since 60 = .ok (.iload_n 3, 1) := by decide +kernel
theorem dX8_since_61 : decode cX8_since 61 = .ok (.invokevirtual 164, 3) := by decide +kernel
theorem dX8_since_64 : decode cX8_since 64 = .ok (.iload 5, 2) := by decide +kernel
theorem dX8_since_66 : decode cX8_since 66 = .ok (.if_icmp .ne 9, 3) := by decide +kernel
theorem dX8_since_69 : decode cX8_since 69 = .ok (.iinc 6 (-1), 3) := by decide +kernel
theorem dX8_since_72 : decode cX8_since 72 = .ok (.goto (-28), 3) := by decide +kernel
theorem dX8_since_75 : decode cX8_since 75 = .ok (.iload 6, 2) := by decide +kernel
theorem dX8_since_77 : decode cX8_since 77 = .ok (.ireturn, 1) := by decide +kernel
theorem dX8_rank_0 : decode cX8_rank 0 = .ok (.aload_n 0, 1) := by decide +kernel
theorem dX8_rank_1 : decode cX8_rank 1 = .ok (.iload_n 1, 1) := by decide +kernel
theorem dX8_rank_2 : decode cX8_rank 2 = .ok (.iload_n 2, 1) := by decide +kernel
theorem dX8_rank_3 : decode cX8_rank 3 = .ok (.iload_n 3, 1) := by decide +kernel
theorem dX8_rank_4 : decode cX8_rank 4 = .ok (.iload 4, 2) := by decide +kernel
theorem dX8_rank_6 : decode cX8_rank 6 = .ok (.invokevirtual 187, 3) := by decide +kernel
theorem dX8_rank_9 : decode cX8_rank 9 = .ok (.aload_n 0, 1) := by decide +kernel
theorem dX8_rank_10 : decode cX8_rank 10 = .ok (.getfield 35, 3) := by decide +kernel
theorem dX8_rank_13 : decode cX8_rank 13 = .ok (.getfield 191, 3) := by decide +kernel
theorem dX8_rank_16 : decode cX8_rank 16 = .ok (.iload 4, 2) := by decide +kernel
theorem dX8_rank_18 : decode cX8_rank 18 = .ok (.iaload, 1) := by decide +kernel
theorem dX8_rank_19 : decode cX8_rank 19 = .ok (.ireturn, 1) := by decide +kernel
theorem dX8_reason_0 : decode cX8_reason 0 = .ok (.aload_n 0, 1) := by decide +kernel
theorem dX8_reason_1 : decode cX8_reason 1 = .ok (.iload_n 1, 1) := by decide +kernel
theorem dX8_reason_2 : decode cX8_reason 2 = .ok (.iload_n 2, 1) := by decide +kernel
theorem dX8_reason_3 : decode cX8_reason 3 = .ok (.iload_n 3, 1) := by decide +kernel
theorem dX8_reason_4 : decode cX8_reason 4 = .ok (.iload 4, 2) := by decide +kernel
theorem dX8_reason_6 : decode cX8_reason 6 = .ok (.invokevirtual 187, 3) := by decide +kernel
theorem dX8_reason_9 : decode cX8_reason 9 = .ok (.aload_n 0, 1) := by decide +kernel
theorem dX8_reason_10 : decode cX8_reason 10 = .ok (.getfield 35, 3) := by decide +kernel
theorem dX8_reason_13 : decode cX8_reason 13 = .ok (.iload 4, 2) := by decide +kernel
theorem dX8_reason_15 : decode cX8_reason 15 = .ok (.invokevirtual 194, 3) := by decide +kernel
theorem dX8_reason_18 : decode cX8_reason 18 = .ok (.ireturn, 1) := by decide +kernel
theorem dX8_reasonFact_0 : decode cX8_reasonFact 0 = .ok (.aload_n 0, 1) := by decide +kernel
theorem dX8_reasonFact_1 : decode cX8_reasonFact 1 = .ok (.iload_n 1, 1) := by decide +kernel
theorem dX8_reasonFact_2 : decode cX8_reasonFact 2 = .ok (.iload_n 2, 1) := by decide +kernel
theorem dX8_reasonFact_3 : decode cX8_reasonFact 3 = .ok (.iload_n 3, 1) := by decide +kernel
theorem dX8_reasonFact_4 : decode cX8_reasonFact 4 = .ok (.iload 4, 2) := by decide +kernel
theorem dX8_reasonFact_6 : decode cX8_reasonFact 6 = .ok (.invokevirtual 187, 3) := by decide +kernel
theorem dX8_reasonFact_9 : decode cX8_reasonFact 9 = .ok (.aload_n 0, 1) := by decide +kernel
theorem dX8_reasonFact_10 : decode cX8_reasonFact 10 = .ok (.getfield 35, 3) := by decide +kernel
theorem dX8_reasonFact_13 : decode cX8_reasonFact 13 = .ok (.aload_n 0, 1) := by decide +kernel
theorem dX8_reasonFact_14 : decode cX8_reasonFact 14 = .ok (.getfield 28, 3) := by decide +kernel
theorem dX8_reasonFact_17 : decode cX8_reasonFact 17 = .ok (.iload 4, 2) := by decide +kernel
theorem dX8_reasonFact_19 : decode cX8_reasonFact 19 = .ok (.iload 5, 2) := by decide +kernel
theorem dX8_reasonFact_21 : decode cX8_reasonFact 21 = .ok (.invokevirtual 197, 3) := by decide +kernel
theorem dX8_reasonFact_24 : decode cX8_reasonFact 24 = .ok (.istore 6, 2) := by decide +kernel
theorem dX8_reasonFact_26 : decode cX8_reasonFact 26 = .ok (.iload 6, 2) := by decide +kernel
theorem dX8_reasonFact_28 : decode cX8_reasonFact 28 = .ok (.iconst (-1), 1) := by decide +kernel
theorem dX8_reasonFact_29 : decode cX8_reasonFact 29 = .ok (.if_icmp .ne 13, 3) := by decide +kernel
theorem dX8_reasonFact_32 : decode cX8_reasonFact 32 = .ok (.new 201, 3) := by decide +kernel
theorem dX8_reasonFact_35 : decode cX8_reasonFact 35 = .ok (.dup, 1) := by decide +kernel
theorem dX8_reasonFact_36 : decode cX8_reasonFact 36 = .ok (.ldc 203, 2) := by decide +kernel
theorem dX8_reasonFact_38 : decode cX8_reasonFact 38 = .ok (.invokespecial 205, 3) := by decide +kernel
theorem dX8_reasonFact_41 : decode cX8_reasonFact 41 = .ok (.athrow, 1) := by decide +kernel
theorem dX8_reasonFact_42 : decode cX8_reasonFact 42 = .ok (.iload 6, 2) := by decide +kernel
theorem dX8_reasonFact_44 : decode cX8_reasonFact 44 = .ok (.ireturn, 1) := by decide +kernel
theorem dX8_proof_0 : decode cX8_proof 0 = .ok (.aload_n 0, 1) := by decide +kernel
theorem dX8_proof_1 : decode cX8_proof 1 = .ok (.iload_n 1, 1) := by decide +kernel
theorem dX8_proof_2 : decode cX8_proof 2 = .ok (.iload_n 2, 1) := by decide +kernel
theorem dX8_proof_3 : decode cX8_proof 3 = .ok (.iload_n 3, 1) := by decide +kernel
theorem dX8_proof_4 : decode cX8_proof 4 = .ok (.iload 4, 2) := by decide +kernel
theorem dX8_proof_6 : decode cX8_proof 6 = .ok (.invokevirtual 187, 3) := by decide +kernel
theorem dX8_proof_9 : decode cX8_proof 9 = .ok (.aload_n 0, 1) := by decide +kernel
theorem dX8_proof_10 : decode cX8_proof 10 = .ok (.getfield 35, 3) := by decide +kernel
theorem dX8_proof_13 : decode cX8_proof 13 = .ok (.aload_n 0, 1) := by decide +kernel
theorem dX8_proof_14 : decode cX8_proof 14 = .ok (.getfield 28, 3) := by decide +kernel
theorem dX8_proof_17 : decode cX8_proof 17 = .ok (.iload 4, 2) := by decide +kernel
theorem dX8_proof_19 : decode cX8_proof 19 = .ok (.invokevirtual 206, 3) := by decide +kernel
theorem dX8_proof_22 : decode cX8_proof 22 = .ok (.ireturn, 1) := by decide +kernel
theorem dX8_forget_0 : decode cX8_forget 0 = .ok (.iload_n 1, 1) := by decide +kernel
theorem dX8_forget_1 : decode cX8_forget 1 = .ok (.bipush 8, 2) := by decide +kernel
theorem dX8_forget_3 : decode cX8_forget 3 = .ok (.invokestatic 210, 3) := by decide +kernel
theorem dX8_forget_6 : decode cX8_forget 6 = .ok (.ifCond .ne 13, 3) := by decide +kernel
theorem dX8_forget_9 : decode cX8_forget 9 = .ok (.new 213, 3) := by decide +kernel
theorem dX8_forget_12 : decode cX8_forget 12 = .ok (.dup, 1) := by decide +kernel
theorem dX8_forget_13 : decode cX8_forget 13 = .ok (.ldc 215, 2) := by decide +kernel
theorem dX8_forget_15 : decode cX8_forget 15 = .ok (.invokespecial 217, 3) := by decide +kernel
theorem dX8_forget_18 : decode cX8_forget 18 = .ok (.athrow, 1) := by decide +kernel
theorem dX8_forget_19 : decode cX8_forget 19 = .ok (.iconst 0, 1) := by decide +kernel
theorem dX8_forget_20 : decode cX8_forget 20 = .ok (.istore_n 2, 1) := by decide +kernel
theorem dX8_forget_21 : decode cX8_forget 21 = .ok (.iconst 0, 1) := by decide +kernel
theorem dX8_forget_22 : decode cX8_forget 22 = .ok (.istore_n 3, 1) := by decide +kernel
theorem dX8_forget_23 : decode cX8_forget 23 = .ok (.iload_n 3, 1) := by decide +kernel
theorem dX8_forget_24 : decode cX8_forget 24 = .ok (.aload_n 0, 1) := by decide +kernel
theorem dX8_forget_25 : decode cX8_forget 25 = .ok (.getfield 46, 3) := by decide +kernel
theorem dX8_forget_28 : decode cX8_forget 28 = .ok (.if_icmp .ge 27, 3) := by decide +kernel
theorem dX8_forget_31 : decode cX8_forget 31 = .ok (.iload_n 2, 1) := by decide +kernel
theorem dX8_forget_32 : decode cX8_forget 32 = .ok (.aload_n 0, 1) := by decide +kernel
theorem dX8_forget_33 : decode cX8_forget 33 = .ok (.getfield 11, 3) := by decide +kernel
theorem dX8_forget_36 : decode cX8_forget 36 = .ok (.iload_n 3, 1) := by decide +kernel
theorem dX8_forget_37 : decode cX8_forget 37 = .ok (.aaload, 1) := by decide +kernel
theorem dX8_forget_38 : decode cX8_forget 38 = .ok (.iload_n 1, 1) := by decide +kernel
theorem dX8_forget_39 : decode cX8_forget 39 = .ok (.invokevirtual 218, 3) := by decide +kernel
theorem dX8_forget_42 : decode cX8_forget 42 = .ok (.iadd, 1) := by decide +kernel
theorem dX8_forget_43 : decode cX8_forget 43 = .ok (.istore_n 2, 1) := by decide +kernel
theorem dX8_forget_44 : decode cX8_forget 44 = .ok (.aload_n 0, 1) := by decide +kernel
theorem dX8_forget_45 : decode cX8_forget 45 = .ok (.iload_n 3, 1) := by decide +kernel
theorem dX8_forget_46 : decode cX8_forget 46 = .ok (.invokevirtual 89, 3) := by decide +kernel
theorem dX8_forget_49 : decode cX8_forget 49 = .ok (.iinc 3 1, 3) := by decide +kernel
theorem dX8_forget_52 : decode cX8_forget 52 = .ok (.goto (-29), 3) := by decide +kernel
theorem dX8_forget_55 : decode cX8_forget 55 = .ok (.iload_n 2, 1) := by decide +kernel
theorem dX8_forget_56 : decode cX8_forget 56 = .ok (.ireturn, 1) := by decide +kernel
theorem dX8_isForgotten_0 : decode cX8_isForgotten 0 = .ok (.aload_n 0, 1) := by decide +kernel
theorem dX8_isForgotten_1 : decode cX8_isForgotten 1 = .ok (.iload_n 1, 1) := by decide +kernel
theorem dX8_isForgotten_2 : decode cX8_isForgotten 2 = .ok (.invokevirtual 58, 3) := by decide +kernel
theorem dX8_isForgotten_5 : decode cX8_isForgotten 5 = .ok (.astore_n 3, 1) := by decide +kernel
theorem dX8_isForgotten_6 : decode cX8_isForgotten 6 = .ok (.iload_n 2, 1) := by decide +kernel
theorem dX8_isForgotten_7 : decode cX8_isForgotten 7 = .ok (.aload_n 3, 1) := by decide +kernel
theorem dX8_isForgotten_8 : decode cX8_isForgotten 8 = .ok (.getfield 92, 3) := by decide +kernel
theorem dX8_isForgotten_11 : decode cX8_isForgotten 11 = .ok (.invokestatic 210, 3) := by decide +kernel
theorem dX8_isForgotten_14 : decode cX8_isForgotten 14 = .ok (.ifCond .ne 13, 3) := by decide +kernel
theorem dX8_isForgotten_17 : decode cX8_isForgotten 17 = .ok (.new 221, 3) := by decide +kernel
theorem dX8_isForgotten_20 : decode cX8_isForgotten 20 = .ok (.dup, 1) := by decide +kernel
theorem dX8_isForgotten_21 : decode cX8_isForgotten 21 = .ok (.ldc 223, 2) := by decide +kernel
theorem dX8_isForgotten_23 : decode cX8_isForgotten 23 = .ok (.invokespecial 225, 3) := by decide +kernel
theorem dX8_isForgotten_26 : decode cX8_isForgotten 26 = .ok (.athrow, 1) := by decide +kernel
theorem dX8_isForgotten_27 : decode cX8_isForgotten 27 = .ok (.aload_n 3, 1) := by decide +kernel
theorem dX8_isForgotten_28 : decode cX8_isForgotten 28 = .ok (.getfield 226, 3) := by decide +kernel
theorem dX8_isForgotten_31 : decode cX8_isForgotten 31 = .ok (.iload_n 2, 1) := by decide +kernel
theorem dX8_isForgotten_32 : decode cX8_isForgotten 32 = .ok (.aaload, 1) := by decide +kernel
theorem dX8_isForgotten_33 : decode cX8_isForgotten 33 = .ok (.getfield 230, 3) := by decide +kernel
theorem dX8_isForgotten_36 : decode cX8_isForgotten 36 = .ok (.ireturn, 1) := by decide +kernel
theorem dX8_seal_0 : decode cX8_seal 0 = .ok (.aload_n 0, 1) := by decide +kernel
theorem dX8_seal_1 : decode cX8_seal 1 = .ok (.iload_n 1, 1) := by decide +kernel
theorem dX8_seal_2 : decode cX8_seal 2 = .ok (.invokevirtual 58, 3) := by decide +kernel
theorem dX8_seal_5 : decode cX8_seal 5 = .ok (.astore_n 3, 1) := by decide +kernel
theorem dX8_seal_6 : decode cX8_seal 6 = .ok (.aload_n 3, 1) := by decide +kernel
theorem dX8_seal_7 : decode cX8_seal 7 = .ok (.iload_n 2, 1) := by decide +kernel
theorem dX8_seal_8 : decode cX8_seal 8 = .ok (.invokestatic 141, 3) := by decide +kernel
theorem dX8_seal_11 : decode cX8_seal 11 = .ok (.aload_n 3, 1) := by decide +kernel
theorem dX8_seal_12 : decode cX8_seal 12 = .ok (.getfield 235, 3) := by decide +kernel
theorem dX8_seal_15 : decode cX8_seal 15 = .ok (.iload_n 2, 1) := by decide +kernel
theorem dX8_seal_16 : decode cX8_seal 16 = .ok (.iaload, 1) := by decide +kernel
theorem dX8_seal_17 : decode cX8_seal 17 = .ok (.ireturn, 1) := by decide +kernel
theorem dX8_fork_0 : decode cX8_fork 0 = .ok (.aload_n 0, 1) := by decide +kernel
theorem dX8_fork_1 : decode cX8_fork 1 = .ok (.iload_n 1, 1) := by decide +kernel
theorem dX8_fork_2 : decode cX8_fork 2 = .ok (.invokevirtual 58, 3) := by decide +kernel
theorem dX8_fork_5 : decode cX8_fork 5 = .ok (.astore_n 3, 1) := by decide +kernel
theorem dX8_fork_6 : decode cX8_fork 6 = .ok (.aload_n 3, 1) := by decide +kernel
theorem dX8_fork_7 : decode cX8_fork 7 = .ok (.iload_n 2, 1) := by decide +kernel
theorem dX8_fork_8 : decode cX8_fork 8 = .ok (.invokestatic 141, 3) := by decide +kernel
theorem dX8_fork_11 : decode cX8_fork 11 = .ok (.aload_n 0, 1) := by decide +kernel
theorem dX8_fork_12 : decode cX8_fork 12 = .ok (.getfield 46, 3) := by decide +kernel
theorem dX8_fork_15 : decode cX8_fork 15 = .ok (.iconst 4, 1) := by decide +kernel
theorem dX8_fork_16 : decode cX8_fork 16 = .ok (.if_icmp .lt 13, 3) := by decide +kernel
theorem dX8_fork_19 : decode cX8_fork 19 = .ok (.new 103, 3) := by decide +kernel
theorem dX8_fork_22 : decode cX8_fork 22 = .ok (.dup, 1) := by decide +kernel
theorem dX8_fork_23 : decode cX8_fork 23 = .ok (.ldc 238, 2) := by decide +kernel
theorem dX8_fork_25 : decode cX8_fork 25 = .ok (.invokespecial 107, 3) := by decide +kernel
theorem dX8_fork_28 : decode cX8_fork 28 = .ok (.athrow, 1) := by decide +kernel
theorem dX8_fork_29 : decode cX8_fork 29 = .ok (.aload_n 0, 1) := by decide +kernel
theorem dX8_fork_30 : decode cX8_fork 30 = .ok (.getfield 11, 3) := by decide +kernel
theorem dX8_fork_33 : decode cX8_fork 33 = .ok (.aload_n 0, 1) := by decide +kernel
theorem dX8_fork_34 : decode cX8_fork 34 = .ok (.getfield 46, 3) := by decide +kernel
theorem dX8_fork_37 : decode cX8_fork 37 = .ok (.aaload, 1) := by decide +kernel
theorem dX8_fork_38 : decode cX8_fork 38 = .ok (.aload_n 3, 1) := by decide +kernel
theorem dX8_fork_39 : decode cX8_fork 39 = .ok (.iload_n 1, 1) := by decide +kernel
theorem dX8_fork_40 : decode cX8_fork 40 = .ok (.iload_n 2, 1) := by decide +kernel
theorem dX8_fork_41 : decode cX8_fork 41 = .ok (.invokevirtual 240, 3) := by decide +kernel
theorem dX8_fork_44 : decode cX8_fork 44 = .ok (.aload_n 0, 1) := by decide +kernel
theorem dX8_fork_45 : decode cX8_fork 45 = .ok (.dup, 1) := by decide +kernel
theorem dX8_fork_46 : decode cX8_fork 46 = .ok (.getfield 46, 3) := by decide +kernel
theorem dX8_fork_49 : decode cX8_fork 49 = .ok (.iconst 1, 1) := by decide +kernel
theorem dX8_fork_50 : decode cX8_fork 50 = .ok (.iadd, 1) := by decide +kernel
theorem dX8_fork_51 : decode cX8_fork 51 = .ok (.putfield 46, 3) := by decide +kernel
theorem dX8_fork_54 : decode cX8_fork 54 = .ok (.aload_n 0, 1) := by decide +kernel
theorem dX8_fork_55 : decode cX8_fork 55 = .ok (.getfield 46, 3) := by decide +kernel
theorem dX8_fork_58 : decode cX8_fork 58 = .ok (.iconst 1, 1) := by decide +kernel
theorem dX8_fork_59 : decode cX8_fork 59 = .ok (.isub, 1) := by decide +kernel
theorem dX8_fork_60 : decode cX8_fork 60 = .ok (.ireturn, 1) := by decide +kernel
theorem dX8_merge_0 : decode cX8_merge 0 = .ok (.aload_n 0, 1) := by decide +kernel
theorem dX8_merge_1 : decode cX8_merge 1 = .ok (.iload_n 1, 1) := by decide +kernel
theorem dX8_merge_2 : decode cX8_merge 2 = .ok (.invokevirtual 58, 3) := by decide +kernel
theorem dX8_merge_5 : decode cX8_merge 5 = .ok (.astore_n 2, 1) := by decide +kernel
theorem dX8_merge_6 : decode cX8_merge 6 = .ok (.iload_n 1, 1) := by decide +kernel
theorem dX8_merge_7 : decode cX8_merge 7 = .ok (.ifCond .ne 13, 3) := by decide +kernel
theorem dX8_merge_10 : decode cX8_merge 10 = .ok (.new 213, 3) := by decide +kernel
theorem dX8_merge_13 : decode cX8_merge 13 = .ok (.dup, 1) := by decide +kernel
theorem dX8_merge_14 : decode cX8_merge 14 = .ok (.ldc 244, 2) := by decide +kernel
theorem dX8_merge_16 : decode cX8_merge 16 = .ok (.invokespecial 217, 3) := by decide +kernel
theorem dX8_merge_19 : decode cX8_merge 19 = .ok (.athrow, 1) := by decide +kernel
theorem dX8_merge_20 : decode cX8_merge 20 = .ok (.aload_n 0, 1) := by decide +kernel
theorem dX8_merge_21 : decode cX8_merge 21 = .ok (.getfield 11, 3) := by decide +kernel
theorem dX8_merge_24 : decode cX8_merge 24 = .ok (.aload_n 2, 1) := by decide +kernel
theorem dX8_merge_25 : decode cX8_merge 25 = .ok (.getfield 246, 3) := by decide +kernel
theorem dX8_merge_28 : decode cX8_merge 28 = .ok (.aaload, 1) := by decide +kernel
theorem dX8_merge_29 : decode cX8_merge 29 = .ok (.astore_n 3, 1) := by decide +kernel
theorem dX8_merge_30 : decode cX8_merge 30 = .ok (.aload_n 3, 1) := by decide +kernel
theorem dX8_merge_31 : decode cX8_merge 31 = .ok (.getfield 92, 3) := by decide +kernel
theorem dX8_merge_34 : decode cX8_merge 34 = .ok (.istore 4, 2) := by decide +kernel
theorem dX8_merge_36 : decode cX8_merge 36 = .ok (.aload_n 0, 1) := by decide +kernel
theorem dX8_merge_37 : decode cX8_merge 37 = .ok (.iconst 0, 1) := by decide +kernel
theorem dX8_merge_38 : decode cX8_merge 38 = .ok (.putfield 53, 3) := by decide +kernel
theorem dX8_merge_41 : decode cX8_merge 41 = .ok (.aload_n 2, 1) := by decide +kernel
theorem dX8_merge_42 : decode cX8_merge 42 = .ok (.getfield 249, 3) := by decide +kernel
theorem dX8_merge_45 : decode cX8_merge 45 = .ok (.istore 5, 2) := by decide +kernel
theorem dX8_merge_47 : decode cX8_merge 47 = .ok (.iload 5, 2) := by decide +kernel
theorem dX8_merge_49 : decode cX8_merge 49 = .ok (.aload_n 2, 1) := by decide +kernel
theorem dX8_merge_50 : decode cX8_merge 50 = .ok (.getfield 92, 3) := by decide +kernel
theorem dX8_merge_53 : decode cX8_merge 53 = .ok (.if_icmp .ge 93, 3) := by decide +kernel
theorem dX8_merge_56 : decode cX8_merge 56 = .ok (.aload_n 2, 1) := by decide +kernel
theorem dX8_merge_57 : decode cX8_merge 57 = .ok (.getfield 226, 3) := by decide +kernel
theorem dX8_merge_60 : decode cX8_merge 60 = .ok (.iload 5, 2) := by decide +kernel
theorem dX8_merge_62 : decode cX8_merge 62 = .ok (.aaload, 1) := by decide +kernel
theorem dX8_merge_63 : decode cX8_merge 63 = .ok (.astore 6, 2) := by decide +kernel
theorem dX8_merge_65 : decode cX8_merge 65 = .ok (.aload 6, 2) := by decide +kernel
theorem dX8_merge_67 : decode cX8_merge 67 = .ok (.getfield 230, 3) := by decide +kernel
theorem dX8_merge_70 : decode cX8_merge 70 = .ok (.ifCond .ne 27, 3) := by decide +kernel
theorem dX8_merge_73 : decode cX8_merge 73 = .ok (.aload_n 3, 1) := by decide +kernel
theorem dX8_merge_74 : decode cX8_merge 74 = .ok (.aload 6, 2) := by decide +kernel
theorem dX8_merge_76 : decode cX8_merge 76 = .ok (.aload_n 2, 1) := by decide +kernel
theorem dX8_merge_77 : decode cX8_merge 77 = .ok (.getfield 252, 3) := by decide +kernel
theorem dX8_merge_80 : decode cX8_merge 80 = .ok (.iload_n 1, 1) := by decide +kernel
theorem dX8_merge_81 : decode cX8_merge 81 = .ok (.invokevirtual 255, 3) := by decide +kernel
theorem dX8_merge_84 : decode cX8_merge 84 = .ok (.ifCond .ne 13, 3) := by decide +kernel
theorem dX8_merge_87 : decode cX8_merge 87 = .ok (.aload_n 0, 1) := by decide +kernel
theorem dX8_merge_88 : decode cX8_merge 88 = .ok (.aload_n 3, 1) := by decide +kernel
theorem dX8_merge_89 : decode cX8_merge 89 = .ok (.aload 6, 2) := by decide +kernel
theorem dX8_merge_91 : decode cX8_merge 91 = .ok (.invokevirtual 259, 3) := by decide +kernel
theorem dX8_merge_94 : decode cX8_merge 94 = .ok (.ifCond .ne 16, 3) := by decide +kernel
theorem dX8_merge_97 : decode cX8_merge 97 = .ok (.aload_n 0, 1) := by decide +kernel
theorem dX8_merge_98 : decode cX8_merge 98 = .ok (.dup, 1) := by decide +kernel
theorem dX8_merge_99 : decode cX8_merge 99 = .ok (.getfield 53, 3) := by decide +kernel
theorem dX8_merge_102 : decode cX8_merge 102 = .ok (.iconst 1, 1) := by decide +kernel
theorem dX8_merge_103 : decode cX8_merge 103 = .ok (.iadd, 1) := by decide +kernel
theorem dX8_merge_104 : decode cX8_merge 104 = .ok (.putfield 53, 3) := by decide +kernel
theorem dX8_merge_107 : decode cX8_merge 107 = .ok (.goto 33, 3) := by decide +kernel
theorem dX8_merge_110 : decode cX8_merge 110 = .ok (.aload_n 3, 1) := by decide +kernel
theorem dX8_merge_111 : decode cX8_merge 111 = .ok (.aload 6, 2) := by decide +kernel
theorem dX8_merge_113 : decode cX8_merge 113 = .ok (.getfield 263, 3) := by decide +kernel
theorem dX8_merge_116 : decode cX8_merge 116 = .ok (.aload 6, 2) := by decide +kernel
theorem dX8_merge_118 : decode cX8_merge 118 = .ok (.getfield 266, 3) := by decide +kernel
theorem dX8_merge_121 : decode cX8_merge 121 = .ok (.aload 6, 2) := by decide +kernel
theorem dX8_merge_123 : decode cX8_merge 123 = .ok (.getfield 269, 3) := by decide +kernel
theorem dX8_merge_126 : decode cX8_merge 126 = .ok (.aload 6, 2) := by decide +kernel
theorem dX8_merge_128 : decode cX8_merge 128 = .ok (.getfield 272, 3) := by decide +kernel
theorem dX8_merge_131 : decode cX8_merge 131 = .ok (.aload 6, 2) := by decide +kernel
theorem dX8_merge_133 : decode cX8_merge 133 = .ok (.getfield 275, 3) := by decide +kernel
theorem dX8_merge_136 : decode cX8_merge 136 = .ok (.iload_n 1, 1) := by decide +kernel
theorem dX8_merge_137 : decode cX8_merge 137 = .ok (.invokevirtual 85, 3) := by decide +kernel
theorem dX8_merge_140 : decode cX8_merge 140 = .ok (.iinc 5 1, 3) := by decide +kernel
theorem dX8_merge_143 : decode cX8_merge 143 = .ok (.goto (-96), 3) := by decide +kernel
theorem dX8_merge_146 : decode cX8_merge 146 = .ok (.aload_n 2, 1) := by decide +kernel
theorem dX8_merge_147 : decode cX8_merge 147 = .ok (.aload_n 2, 1) := by decide +kernel
theorem dX8_merge_148 : decode cX8_merge 148 = .ok (.getfield 92, 3) := by decide +kernel
theorem dX8_merge_151 : decode cX8_merge 151 = .ok (.putfield 249, 3) := by decide +kernel
theorem dX8_merge_154 : decode cX8_merge 154 = .ok (.aload_n 0, 1) := by decide +kernel
theorem dX8_merge_155 : decode cX8_merge 155 = .ok (.aload_n 2, 1) := by decide +kernel
theorem dX8_merge_156 : decode cX8_merge 156 = .ok (.getfield 246, 3) := by decide +kernel
theorem dX8_merge_159 : decode cX8_merge 159 = .ok (.invokevirtual 89, 3) := by decide +kernel
theorem dX8_merge_162 : decode cX8_merge 162 = .ok (.aload_n 3, 1) := by decide +kernel
theorem dX8_merge_163 : decode cX8_merge 163 = .ok (.getfield 92, 3) := by decide +kernel
theorem dX8_merge_166 : decode cX8_merge 166 = .ok (.iload 4, 2) := by decide +kernel
theorem dX8_merge_168 : decode cX8_merge 168 = .ok (.isub, 1) := by decide +kernel
theorem dX8_merge_169 : decode cX8_merge 169 = .ok (.ireturn, 1) := by decide +kernel
theorem dX8_conflicts_0 : decode cX8_conflicts 0 = .ok (.aload_n 0, 1) := by decide +kernel
theorem dX8_conflicts_1 : decode cX8_conflicts 1 = .ok (.getfield 53, 3) := by decide +kernel
theorem dX8_conflicts_4 : decode cX8_conflicts 4 = .ok (.ireturn, 1) := by decide +kernel
theorem dX8_listen_0 : decode cX8_listen 0 = .ok (.aload_n 0, 1) := by decide +kernel
theorem dX8_listen_1 : decode cX8_listen 1 = .ok (.iload_n 1, 1) := by decide +kernel
theorem dX8_listen_2 : decode cX8_listen 2 = .ok (.invokevirtual 58, 3) := by decide +kernel
theorem dX8_listen_5 : decode cX8_listen 5 = .ok (.astore 6, 2) := by decide +kernel
theorem dX8_listen_7 : decode cX8_listen 7 = .ok (.iload_n 2, 1) := by decide +kernel
theorem dX8_listen_8 : decode cX8_listen 8 = .ok (.invokestatic 95, 3) := by decide +kernel
theorem dX8_listen_11 : decode cX8_listen 11 = .ok (.iload_n 3, 1) := by decide +kernel
theorem dX8_listen_12 : decode cX8_listen 12 = .ok (.iconst (-1), 1) := by decide +kernel
theorem dX8_listen_13 : decode cX8_listen 13 = .ok (.if_icmp .eq 12, 3) := by decide +kernel
theorem dX8_listen_16 : decode cX8_listen 16 = .ok (.iload_n 3, 1) := by decide +kernel
theorem dX8_listen_17 : decode cX8_listen 17 = .ok (.bipush 8, 2) := by decide +kernel
theorem dX8_listen_19 : decode cX8_listen 19 = .ok (.invokestatic 210, 3) := by decide +kernel
theorem dX8_listen_22 : decode cX8_listen 22 = .ok (.ifCond .eq 19, 3) := by decide +kernel
theorem dX8_listen_25 : decode cX8_listen 25 = .ok (.iload 4, 2) := by decide +kernel
theorem dX8_listen_27 : decode cX8_listen 27 = .ok (.iconst (-1), 1) := by decide +kernel
theorem dX8_listen_28 : decode cX8_listen 28 = .ok (.if_icmp .eq 23, 3) := by decide +kernel
theorem dX8_listen_31 : decode cX8_listen 31 = .ok (.iload 4, 2) := by decide +kernel
theorem dX8_listen_33 : decode cX8_listen 33 = .ok (.bipush 8, 2) := by decide +kernel
theorem dX8_listen_35 : decode cX8_listen 35 = .ok (.invokestatic 210, 3) := by decide +kernel
theorem dX8_listen_38 : decode cX8_listen 38 = .ok (.ifCond .ne 13, 3) := by decide +kernel
theorem dX8_listen_41 : decode cX8_listen 41 = .ok (.new 213, 3) := by decide +kernel
theorem dX8_listen_44 : decode cX8_listen 44 = .ok (.dup, 1) := by decide +kernel
theorem dX8_listen_45 : decode cX8_listen 45 = .ok (.ldc 215, 2) := by decide +kernel
theorem dX8_listen_47 : decode cX8_listen 47 = .ok (.invokespecial 217, 3) := by decide +kernel
theorem dX8_listen_50 : decode cX8_listen 50 = .ok (.athrow, 1) := by decide +kernel
theorem dX8_listen_51 : decode cX8_listen 51 = .ok (.iload 5, 2) := by decide +kernel
theorem dX8_listen_53 : decode cX8_listen 53 = .ok (.invokestatic 170, 3) := by decide +kernel
theorem dX8_listen_56 : decode cX8_listen 56 = .ok (.aload_n 0, 1) := by decide +kernel
theorem dX8_listen_57 : decode cX8_listen 57 = .ok (.getfield 50, 3) := by decide +kernel
theorem dX8_listen_60 : decode cX8_listen 60 = .ok (.iconst 5, 1) := by decide +kernel
theorem dX8_listen_61 : decode cX8_listen 61 = .ok (.if_icmp .lt 14, 3) := by decide +kernel
theorem dX8_listen_64 : decode cX8_listen 64 = .ok (.new 103, 3) := by decide +kernel
theorem dX8_listen_67 : decode cX8_listen 67 = .ok (.dup, 1) := by decide +kernel
theorem dX8_listen_68 : decode cX8_listen 68 = .ok (.ldc_w 278, 3) := by decide +kernel
theorem dX8_listen_71 : decode cX8_listen 71 = .ok (.invokespecial 107, 3) := by decide +kernel
theorem dX8_listen_74 : decode cX8_listen 74 = .ok (.athrow, 1) := by decide +kernel
theorem dX8_listen_75 : decode cX8_listen 75 = .ok (.aload_n 0, 1) := by decide +kernel
theorem dX8_listen_76 : decode cX8_listen 76 = .ok (.getfield 17, 3) := by decide +kernel
theorem dX8_listen_79 : decode cX8_listen 79 = .ok (.aload_n 0, 1) := by decide +kernel
theorem dX8_listen_80 : decode cX8_listen 80 = .ok (.getfield 50, 3) := by decide +kernel
theorem dX8_listen_83 : decode cX8_listen 83 = .ok (.aaload, 1) := by decide +kernel
theorem dX8_listen_84 : decode cX8_listen 84 = .ok (.astore 7, 2) := by decide +kernel
theorem dX8_listen_86 : decode cX8_listen 86 = .ok (.aload 7, 2) := by decide +kernel
theorem dX8_listen_88 : decode cX8_listen 88 = .ok (.iload_n 1, 1) := by decide +kernel
theorem dX8_listen_89 : decode cX8_listen 89 = .ok (.iload_n 2, 1) := by decide +kernel
theorem dX8_listen_90 : decode cX8_listen 90 = .ok (.iload 5, 2) := by decide +kernel
theorem dX8_listen_92 : decode cX8_listen 92 = .ok (.iload_n 3, 1) := by decide +kernel
theorem dX8_listen_93 : decode cX8_listen 93 = .ok (.iload 4, 2) := by decide +kernel
theorem dX8_listen_95 : decode cX8_listen 95 = .ok (.invokestatic 280, 3) := by decide +kernel
theorem dX8_listen_98 : decode cX8_listen 98 = .ok (.invokevirtual 284, 3) := by decide +kernel
theorem dX8_listen_101 : decode cX8_listen 101 = .ok (.aload 7, 2) := by decide +kernel
theorem dX8_listen_103 : decode cX8_listen 103 = .ok (.aload_n 0, 1) := by decide +kernel
theorem dX8_listen_104 : decode cX8_listen 104 = .ok (.aload 6, 2) := by decide +kernel
theorem dX8_listen_106 : decode cX8_listen 106 = .ok (.aload 6, 2) := by decide +kernel
theorem dX8_listen_108 : decode cX8_listen 108 = .ok (.getfield 92, 3) := by decide +kernel
theorem dX8_listen_111 : decode cX8_listen 111 = .ok (.iload 5, 2) := by decide +kernel
theorem dX8_listen_113 : decode cX8_listen 113 = .ok (.invokevirtual 160, 3) := by decide +kernel
theorem dX8_listen_116 : decode cX8_listen 116 = .ok (.invokevirtual 288, 3) := by decide +kernel
theorem dX8_listen_119 : decode cX8_listen 119 = .ok (.aload_n 0, 1) := by decide +kernel
theorem dX8_listen_120 : decode cX8_listen 120 = .ok (.dup, 1) := by decide +kernel
theorem dX8_listen_121 : decode cX8_listen 121 = .ok (.getfield 50, 3) := by decide +kernel
theorem dX8_listen_124 : decode cX8_listen 124 = .ok (.iconst 1, 1) := by decide +kernel
theorem dX8_listen_125 : decode cX8_listen 125 = .ok (.iadd, 1) := by decide +kernel
theorem dX8_listen_126 : decode cX8_listen 126 = .ok (.putfield 50, 3) := by decide +kernel
theorem dX8_listen_129 : decode cX8_listen 129 = .ok (.aload_n 0, 1) := by decide +kernel
theorem dX8_listen_130 : decode cX8_listen 130 = .ok (.getfield 50, 3) := by decide +kernel
theorem dX8_listen_133 : decode cX8_listen 133 = .ok (.iconst 1, 1) := by decide +kernel
theorem dX8_listen_134 : decode cX8_listen 134 = .ok (.isub, 1) := by decide +kernel
theorem dX8_listen_135 : decode cX8_listen 135 = .ok (.ireturn, 1) := by decide +kernel
theorem dX8_waiting_0 : decode cX8_waiting 0 = .ok (.aload_n 0, 1) := by decide +kernel
theorem dX8_waiting_1 : decode cX8_waiting 1 = .ok (.iload_n 1, 1) := by decide +kernel
theorem dX8_waiting_2 : decode cX8_waiting 2 = .ok (.invokevirtual 292, 3) := by decide +kernel
theorem dX8_waiting_5 : decode cX8_waiting 5 = .ok (.getfield 296, 3) := by decide +kernel
theorem dX8_waiting_8 : decode cX8_waiting 8 = .ok (.ireturn, 1) := by decide +kernel
theorem dX8_next_0 : decode cX8_next 0 = .ok (.aload_n 0, 1) := by decide +kernel
theorem dX8_next_1 : decode cX8_next 1 = .ok (.iload_n 1, 1) := by decide +kernel
theorem dX8_next_2 : decode cX8_next 2 = .ok (.invokevirtual 292, 3) := by decide +kernel
theorem dX8_next_5 : decode cX8_next 5 = .ok (.astore_n 2, 1) := by decide +kernel
theorem dX8_next_6 : decode cX8_next 6 = .ok (.aload_n 2, 1) := by decide +kernel
theorem dX8_next_7 : decode cX8_next 7 = .ok (.invokevirtual 299, 3) := by decide +kernel
theorem dX8_next_10 : decode cX8_next 10 = .ok (.ifCond .ne 14, 3) := by decide +kernel
theorem dX8_next_13 : decode cX8_next 13 = .ok (.new 201, 3) := by decide +kernel
theorem dX8_next_16 : decode cX8_next 16 = .ok (.dup, 1) := by decide +kernel
theorem dX8_next_17 : decode cX8_next 17 = .ok (.ldc_w 303, 3) := by decide +kernel
theorem dX8_next_20 : decode cX8_next 20 = .ok (.invokespecial 205, 3) := by decide +kernel
theorem dX8_next_23 : decode cX8_next 23 = .ok (.athrow, 1) := by decide +kernel
theorem dX8_next_24 : decode cX8_next 24 = .ok (.aload_n 2, 1) := by decide +kernel
theorem dX8_next_25 : decode cX8_next 25 = .ok (.invokevirtual 305, 3) := by decide +kernel
theorem dX8_next_28 : decode cX8_next 28 = .ok (.ireturn, 1) := by decide +kernel
theorem dX8_hours_0 : decode cX8_hours 0 = .ok (.lconst 0, 1) := by decide +kernel
theorem dX8_hours_1 : decode cX8_hours 1 = .ok (.lstore_n 1, 1) := by decide +kernel
theorem dX8_hours_2 : decode cX8_hours 2 = .ok (.iconst 0, 1) := by decide +kernel
theorem dX8_hours_3 : decode cX8_hours 3 = .ok (.istore_n 3, 1) := by decide +kernel
theorem dX8_hours_4 : decode cX8_hours 4 = .ok (.iload_n 3, 1) := by decide +kernel
theorem dX8_hours_5 : decode cX8_hours 5 = .ok (.aload_n 0, 1) := by decide +kernel
theorem dX8_hours_6 : decode cX8_hours 6 = .ok (.getfield 46, 3) := by decide +kernel
theorem dX8_hours_9 : decode cX8_hours 9 = .ok (.if_icmp .ge 21, 3) := by decide +kernel
theorem dX8_hours_12 : decode cX8_hours 12 = .ok (.lload_n 1, 1) := by decide +kernel
theorem dX8_hours_13 : decode cX8_hours 13 = .ok (.aload_n 0, 1) := by decide +kernel
theorem dX8_hours_14 : decode cX8_hours 14 = .ok (.getfield 11, 3) := by decide +kernel
theorem dX8_hours_17 : decode cX8_hours 17 = .ok (.iload_n 3, 1) := by decide +kernel
theorem dX8_hours_18 : decode cX8_hours 18 = .ok (.aaload, 1) := by decide +kernel
theorem dX8_hours_19 : decode cX8_hours 19 = .ok (.invokevirtual 309, 3) := by decide +kernel
theorem dX8_hours_22 : decode cX8_hours 22 = .ok (.ladd, 1) := by decide +kernel
theorem dX8_hours_23 : decode cX8_hours 23 = .ok (.lstore_n 1, 1) := by decide +kernel
theorem dX8_hours_24 : decode cX8_hours 24 = .ok (.iinc 3 1, 3) := by decide +kernel
theorem dX8_hours_27 : decode cX8_hours 27 = .ok (.goto (-23), 3) := by decide +kernel
theorem dX8_hours_30 : decode cX8_hours 30 = .ok (.lload_n 1, 1) := by decide +kernel
theorem dX8_hours_31 : decode cX8_hours 31 = .ok (.lreturn, 1) := by decide +kernel
theorem dX8_derivedShare_0 : decode cX8_derivedShare 0 = .ok (.aload_n 0, 1) := by decide +kernel
theorem dX8_derivedShare_1 : decode cX8_derivedShare 1 = .ok (.iload_n 1, 1) := by decide +kernel
theorem dX8_derivedShare_2 : decode cX8_derivedShare 2 = .ok (.invokevirtual 58, 3) := by decide +kernel
theorem dX8_derivedShare_5 : decode cX8_derivedShare 5 = .ok (.astore_n 3, 1) := by decide +kernel
theorem dX8_derivedShare_6 : decode cX8_derivedShare 6 = .ok (.iload_n 2, 1) := by decide +kernel
theorem dX8_derivedShare_7 : decode cX8_derivedShare 7 = .ok (.invokestatic 170, 3) := by decide +kernel
theorem dX8_derivedShare_10 : decode cX8_derivedShare 10 = .ok (.aload_n 0, 1) := by decide +kernel
theorem dX8_derivedShare_11 : decode cX8_derivedShare 11 = .ok (.aload_n 3, 1) := by decide +kernel
theorem dX8_derivedShare_12 : decode cX8_derivedShare 12 = .ok (.aload_n 3, 1) := by decide +kernel
theorem dX8_derivedShare_13 : decode cX8_derivedShare 13 = .ok (.getfield 92, 3) := by decide +kernel
theorem dX8_derivedShare_16 : decode cX8_derivedShare 16 = .ok (.iload_n 2, 1) := by decide +kernel
theorem dX8_derivedShare_17 : decode cX8_derivedShare 17 = .ok (.invokevirtual 160, 3) := by decide +kernel
theorem dX8_derivedShare_20 : decode cX8_derivedShare 20 = .ok (.astore 4, 2) := by decide +kernel
theorem dX8_derivedShare_22 : decode cX8_derivedShare 22 = .ok (.iconst 0, 1) := by decide +kernel
theorem dX8_derivedShare_23 : decode cX8_derivedShare 23 = .ok (.istore 5, 2) := by decide +kernel
theorem dX8_derivedShare_25 : decode cX8_derivedShare 25 = .ok (.iconst 0, 1) := by decide +kernel
theorem dX8_derivedShare_26 : decode cX8_derivedShare 26 = .ok (.istore 6, 2) := by decide +kernel
theorem dX8_derivedShare_28 : decode cX8_derivedShare 28 = .ok (.iconst 0, 1) := by decide +kernel
theorem dX8_derivedShare_29 : decode cX8_derivedShare 29 = .ok (.istore 7, 2) := by decide +kernel
theorem dX8_derivedShare_31 : decode cX8_derivedShare 31 = .ok (.iload 7, 2) := by decide +kernel
theorem dX8_derivedShare_33 : decode cX8_derivedShare 33 = .ok (.bipush 6, 2) := by decide +kernel
theorem dX8_derivedShare_35 : decode cX8_derivedShare 35 = .ok (.if_icmp .ge 54, 3) := by decide +kernel
theorem dX8_derivedShare_38 : decode cX8_derivedShare 38 = .ok (.iload 5, 2) := by decide +kernel
theorem dX8_derivedShare_40 : decode cX8_derivedShare 40 = .ok (.aload 4, 2) := by decide +kernel
theorem dX8_derivedShare_42 : decode cX8_derivedShare 42 = .ok (.getfield 173, 3) := by decide +kernel
theorem dX8_derivedShare_45 : decode cX8_derivedShare 45 = .ok (.iload 7, 2) := by decide +kernel
theorem dX8_derivedShare_47 : decode cX8_derivedShare 47 = .ok (.laload, 1) := by decide +kernel
theorem dX8_derivedShare_48 : decode cX8_derivedShare 48 = .ok (.invokestatic 177, 3) := by decide +kernel
theorem dX8_derivedShare_51 : decode cX8_derivedShare 51 = .ok (.iadd, 1) := by decide +kernel
theorem dX8_derivedShare_52 : decode cX8_derivedShare 52 = .ok (.istore 5, 2) := by decide +kernel
theorem dX8_derivedShare_54 : decode cX8_derivedShare 54 = .ok (.iload 6, 2) := by decide +kernel
theorem dX8_derivedShare_56 : decode cX8_derivedShare 56 = .ok (.aload 4, 2) := by decide +kernel
theorem dX8_derivedShare_58 : decode cX8_derivedShare 58 = .ok (.getfield 173, 3) := by decide +kernel
theorem dX8_derivedShare_61 : decode cX8_derivedShare 61 = .ok (.iload 7, 2) := by decide +kernel
theorem dX8_derivedShare_63 : decode cX8_derivedShare 63 = .ok (.laload, 1) := by decide +kernel
theorem dX8_derivedShare_64 : decode cX8_derivedShare 64 = .ok (.aload 4, 2) := by decide +kernel
theorem dX8_derivedShare_66 : decode cX8_derivedShare 66 = .ok (.getfield 313, 3) := by decide +kernel
theorem dX8_derivedShare_69 : decode cX8_derivedShare 69 = .ok (.iload 7, 2) := by decide +kernel
theorem dX8_derivedShare_71 : decode cX8_derivedShare 71 = .ok (.laload, 1) := by decide +kernel
theorem dX8_derivedShare_72 : decode cX8_derivedShare 72 = .ok (.ldc2_w 316, 3) := by decide +kernel
theorem dX8_derivedShare_75 : decode cX8_derivedShare 75 = .ok (.lxor, 1) := by decide +kernel
theorem dX8_derivedShare_76 : decode cX8_derivedShare 76 = .ok (.land, 1) := by decide +kernel
theorem dX8_derivedShare_77 : decode cX8_derivedShare 77 = .ok (.invokestatic 177, 3) := by decide +kernel
theorem dX8_derivedShare_80 : decode cX8_derivedShare 80 = .ok (.iadd, 1) := by decide +kernel
theorem dX8_derivedShare_81 : decode cX8_derivedShare 81 = .ok (.istore 6, 2) := by decide +kernel
theorem dX8_derivedShare_83 : decode cX8_derivedShare 83 = .ok (.iinc 7 1, 3) := by decide +kernel
theorem dX8_derivedShare_86 : decode cX8_derivedShare 86 = .ok (.goto (-55), 3) := by decide +kernel
theorem dX8_derivedShare_89 : decode cX8_derivedShare 89 = .ok (.iload 5, 2) := by decide +kernel
theorem dX8_derivedShare_91 : decode cX8_derivedShare 91 = .ok (.ifCond .ne 14, 3) := by decide +kernel
theorem dX8_derivedShare_94 : decode cX8_derivedShare 94 = .ok (.new 318, 3) := by decide +kernel
theorem dX8_derivedShare_97 : decode cX8_derivedShare 97 = .ok (.dup, 1) := by decide +kernel
theorem dX8_derivedShare_98 : decode cX8_derivedShare 98 = .ok (.ldc_w 320, 3) := by decide +kernel
theorem dX8_derivedShare_101 : decode cX8_derivedShare 101 = .ok (.invokespecial 322, 3) := by decide +kernel
theorem dX8_derivedShare_104 : decode cX8_derivedShare 104 = .ok (.athrow, 1) := by decide +kernel
theorem dX8_derivedShare_105 : decode cX8_derivedShare 105 = .ok (.iload 6, 2) := by decide +kernel
theorem dX8_derivedShare_107 : decode cX8_derivedShare 107 = .ok (.i2f, 1) := by decide +kernel
theorem dX8_derivedShare_108 : decode cX8_derivedShare 108 = .ok (.iload 5, 2) := by decide +kernel
theorem dX8_derivedShare_110 : decode cX8_derivedShare 110 = .ok (.i2f, 1) := by decide +kernel
theorem dX8_derivedShare_111 : decode cX8_derivedShare 111 = .ok (.fdiv, 1) := by decide +kernel
theorem dX8_derivedShare_112 : decode cX8_derivedShare 112 = .ok (.freturn, 1) := by decide +kernel
theorem dX8_meanRank_0 : decode cX8_meanRank 0 = .ok (.aload_n 0, 1) := by decide +kernel
theorem dX8_meanRank_1 : decode cX8_meanRank 1 = .ok (.iload_n 1, 1) := by decide +kernel
theorem dX8_meanRank_2 : decode cX8_meanRank 2 = .ok (.invokevirtual 58, 3) := by decide +kernel
theorem dX8_meanRank_5 : decode cX8_meanRank 5 = .ok (.astore_n 3, 1) := by decide +kernel
theorem dX8_meanRank_6 : decode cX8_meanRank 6 = .ok (.iload_n 2, 1) := by decide +kernel
theorem dX8_meanRank_7 : decode cX8_meanRank 7 = .ok (.invokestatic 170, 3) := by decide +kernel
theorem dX8_meanRank_10 : decode cX8_meanRank 10 = .ok (.aload_n 0, 1) := by decide +kernel
theorem dX8_meanRank_11 : decode cX8_meanRank 11 = .ok (.getfield 35, 3) := by decide +kernel
theorem dX8_meanRank_14 : decode cX8_meanRank 14 = .ok (.aload_n 0, 1) := by decide +kernel
theorem dX8_meanRank_15 : decode cX8_meanRank 15 = .ok (.getfield 28, 3) := by decide +kernel
theorem dX8_meanRank_18 : decode cX8_meanRank 18 = .ok (.aload_n 0, 1) := by decide +kernel
theorem dX8_meanRank_19 : decode cX8_meanRank 19 = .ok (.aload_n 3, 1) := by decide +kernel
theorem dX8_meanRank_20 : decode cX8_meanRank 20 = .ok (.aload_n 3, 1) := by decide +kernel
theorem dX8_meanRank_21 : decode cX8_meanRank 21 = .ok (.getfield 92, 3) := by decide +kernel
theorem dX8_meanRank_24 : decode cX8_meanRank 24 = .ok (.iload_n 2, 1) := by decide +kernel
theorem dX8_meanRank_25 : decode cX8_meanRank 25 = .ok (.invokevirtual 160, 3) := by decide +kernel
theorem dX8_meanRank_28 : decode cX8_meanRank 28 = .ok (.invokevirtual 323, 3) := by decide +kernel
theorem dX8_meanRank_31 : decode cX8_meanRank 31 = .ok (.iconst 0, 1) := by decide +kernel
theorem dX8_meanRank_32 : decode cX8_meanRank 32 = .ok (.istore 4, 2) := by decide +kernel
theorem dX8_meanRank_34 : decode cX8_meanRank 34 = .ok (.iconst 0, 1) := by decide +kernel
theorem dX8_meanRank_35 : decode cX8_meanRank 35 = .ok (.istore 5, 2) := by decide +kernel
theorem dX8_meanRank_37 : decode cX8_meanRank 37 = .ok (.iconst 0, 1) := by decide +kernel
theorem dX8_meanRank_38 : decode cX8_meanRank 38 = .ok (.istore 6, 2) := by decide +kernel
theorem dX8_meanRank_40 : decode cX8_meanRank 40 = .ok (.iload 6, 2) := by decide +kernel
theorem dX8_meanRank_42 : decode cX8_meanRank 42 = .ok (.sipush 384, 3) := by decide +kernel
theorem dX8_meanRank_45 : decode cX8_meanRank 45 = .ok (.if_icmp .ge 41, 3) := by decide +kernel
theorem dX8_meanRank_48 : decode cX8_meanRank 48 = .ok (.aload_n 0, 1) := by decide +kernel
theorem dX8_meanRank_49 : decode cX8_meanRank 49 = .ok (.getfield 35, 3) := by decide +kernel
theorem dX8_meanRank_52 : decode cX8_meanRank 52 = .ok (.getfield 191, 3) := by decide +kernel
theorem dX8_meanRank_55 : decode cX8_meanRank 55 = .ok (.iload 6, 2) := by decide +kernel
theorem dX8_meanRank_57 : decode cX8_meanRank 57 = .ok (.iaload, 1) := by decide +kernel
theorem dX8_meanRank_58 : decode cX8_meanRank 58 = .ok (.iconst (-1), 1) := by decide +kernel
theorem dX8_meanRank_59 : decode cX8_meanRank 59 = .ok (.if_icmp .eq 21, 3) := by decide +kernel
theorem dX8_meanRank_62 : decode cX8_meanRank 62 = .ok (.iinc 4 1, 3) := by decide +kernel
theorem dX8_meanRank_65 : decode cX8_meanRank 65 = .ok (.iload 5, 2) := by decide +kernel
theorem dX8_meanRank_67 : decode cX8_meanRank 67 = .ok (.aload_n 0, 1) := by decide +kernel
theorem dX8_meanRank_68 : decode cX8_meanRank 68 = .ok (.getfield 35, 3) := by decide +kernel
theorem dX8_meanRank_71 : decode cX8_meanRank 71 = .ok (.getfield 191, 3) := by decide +kernel
theorem dX8_meanRank_74 : decode cX8_meanRank 74 = .ok (.iload 6, 2) := by decide +kernel
theorem dX8_meanRank_76 : decode cX8_meanRank 76 = .ok (.iaload, 1) := by decide +kernel
theorem dX8_meanRank_77 : decode cX8_meanRank 77 = .ok (.iadd, 1) := by decide +kernel
theorem dX8_meanRank_78 : decode cX8_meanRank 78 = .ok (.istore 5, 2) := by decide +kernel
theorem dX8_meanRank_80 : decode cX8_meanRank 80 = .ok (.iinc 6 1, 3) := by decide +kernel
theorem dX8_meanRank_83 : decode cX8_meanRank 83 = .ok (.goto (-43), 3) := by decide +kernel
theorem dX8_meanRank_86 : decode cX8_meanRank 86 = .ok (.iload 4, 2) := by decide +kernel
theorem dX8_meanRank_88 : decode cX8_meanRank 88 = .ok (.ifCond .ne 14, 3) := by decide +kernel
theorem dX8_meanRank_91 : decode cX8_meanRank 91 = .ok (.new 318, 3) := by decide +kernel
theorem dX8_meanRank_94 : decode cX8_meanRank 94 = .ok (.dup, 1) := by decide +kernel
theorem dX8_meanRank_95 : decode cX8_meanRank 95 = .ok (.ldc_w 320, 3) := by decide +kernel
theorem dX8_meanRank_98 : decode cX8_meanRank 98 = .ok (.invokespecial 322, 3) := by decide +kernel
theorem dX8_meanRank_101 : decode cX8_meanRank 101 = .ok (.athrow, 1) := by decide +kernel
theorem dX8_meanRank_102 : decode cX8_meanRank 102 = .ok (.iload 5, 2) := by decide +kernel
theorem dX8_meanRank_104 : decode cX8_meanRank 104 = .ok (.i2d, 1) := by decide +kernel
theorem dX8_meanRank_105 : decode cX8_meanRank 105 = .ok (.iload 4, 2) := by decide +kernel
theorem dX8_meanRank_107 : decode cX8_meanRank 107 = .ok (.i2d, 1) := by decide +kernel
theorem dX8_meanRank_108 : decode cX8_meanRank 108 = .ok (.ddiv, 1) := by decide +kernel
theorem dX8_meanRank_109 : decode cX8_meanRank 109 = .ok (.dreturn, 1) := by decide +kernel
theorem dX8_isSound_0 : decode cX8_isSound 0 = .ok (.iconst 0, 1) := by decide +kernel
theorem dX8_isSound_1 : decode cX8_isSound 1 = .ok (.istore_n 1, 1) := by decide +kernel
theorem dX8_isSound_2 : decode cX8_isSound 2 = .ok (.iload_n 1, 1) := by decide +kernel
theorem dX8_isSound_3 : decode cX8_isSound 3 = .ok (.aload_n 0, 1) := by decide +kernel
theorem dX8_isSound_4 : decode cX8_isSound 4 = .ok (.getfield 46, 3) := by decide +kernel
theorem dX8_isSound_7 : decode cX8_isSound 7 = .ok (.if_icmp .ge 36, 3) := by decide +kernel
theorem dX8_isSound_10 : decode cX8_isSound 10 = .ok (.aload_n 0, 1) := by decide +kernel
theorem dX8_isSound_11 : decode cX8_isSound 11 = .ok (.getfield 11, 3) := by decide +kernel
theorem dX8_isSound_14 : decode cX8_isSound 14 = .ok (.iload_n 1, 1) := by decide +kernel
theorem dX8_isSound_15 : decode cX8_isSound 15 = .ok (.aaload, 1) := by decide +kernel
theorem dX8_isSound_16 : decode cX8_isSound 16 = .ok (.invokevirtual 327, 3) := by decide +kernel
theorem dX8_isSound_19 : decode cX8_isSound 19 = .ok (.ifCond .eq 16, 3) := by decide +kernel
theorem dX8_isSound_22 : decode cX8_isSound 22 = .ok (.aload_n 0, 1) := by decide +kernel
theorem dX8_isSound_23 : decode cX8_isSound 23 = .ok (.aload_n 0, 1) := by decide +kernel
theorem dX8_isSound_24 : decode cX8_isSound 24 = .ok (.getfield 11, 3) := by decide +kernel
theorem dX8_isSound_27 : decode cX8_isSound 27 = .ok (.iload_n 1, 1) := by decide +kernel
theorem dX8_isSound_28 : decode cX8_isSound 28 = .ok (.aaload, 1) := by decide +kernel
theorem dX8_isSound_29 : decode cX8_isSound 29 = .ok (.invokevirtual 330, 3) := by decide +kernel
theorem dX8_isSound_32 : decode cX8_isSound 32 = .ok (.ifCond .ne 5, 3) := by decide +kernel
theorem dX8_isSound_35 : decode cX8_isSound 35 = .ok (.iconst 0, 1) := by decide +kernel
theorem dX8_isSound_36 : decode cX8_isSound 36 = .ok (.ireturn, 1) := by decide +kernel
theorem dX8_isSound_37 : decode cX8_isSound 37 = .ok (.iinc 1 1, 3) := by decide +kernel
theorem dX8_isSound_40 : decode cX8_isSound 40 = .ok (.goto (-38), 3) := by decide +kernel
theorem dX8_isSound_43 : decode cX8_isSound 43 = .ok (.iconst 1, 1) := by decide +kernel
theorem dX8_isSound_44 : decode cX8_isSound 44 = .ok (.ireturn, 1) := by decide +kernel
theorem dX8_isBelow_0 : decode cX8_isBelow 0 = .ok (.iload_n 0, 1) := by decide +kernel
theorem dX8_isBelow_1 : decode cX8_isBelow 1 = .ok (.ifCond .lt 12, 3) := by decide +kernel
theorem dX8_isBelow_4 : decode cX8_isBelow 4 = .ok (.iload_n 0, 1) := by decide +kernel
theorem dX8_isBelow_5 : decode cX8_isBelow 5 = .ok (.iload_n 1, 1) := by decide +kernel
theorem dX8_isBelow_6 : decode cX8_isBelow 6 = .ok (.if_icmp .ge 7, 3) := by decide +kernel
theorem dX8_isBelow_9 : decode cX8_isBelow 9 = .ok (.iconst 1, 1) := by decide +kernel
theorem dX8_isBelow_10 : decode cX8_isBelow 10 = .ok (.goto 4, 3) := by decide +kernel
theorem dX8_isBelow_13 : decode cX8_isBelow 13 = .ok (.iconst 0, 1) := by decide +kernel
theorem dX8_isBelow_14 : decode cX8_isBelow 14 = .ok (.ireturn, 1) := by decide +kernel
theorem dX8_isAmong_0 : decode cX8_isAmong 0 = .ok (.iload_n 1, 1) := by decide +kernel
theorem dX8_isAmong_1 : decode cX8_isAmong 1 = .ok (.iload_n 0, 1) := by decide +kernel
theorem dX8_isAmong_2 : decode cX8_isAmong 2 = .ok (.ishr, 1) := by decide +kernel
theorem dX8_isAmong_3 : decode cX8_isAmong 3 = .ok (.iconst 1, 1) := by decide +kernel
theorem dX8_isAmong_4 : decode cX8_isAmong 4 = .ok (.iand, 1) := by decide +kernel
theorem dX8_isAmong_5 : decode cX8_isAmong 5 = .ok (.ifCond .eq 7, 3) := by decide +kernel
theorem dX8_isAmong_8 : decode cX8_isAmong 8 = .ok (.iconst 1, 1) := by decide +kernel
theorem dX8_isAmong_9 : decode cX8_isAmong 9 = .ok (.goto 4, 3) := by decide +kernel
theorem dX8_isAmong_12 : decode cX8_isAmong 12 = .ok (.iconst 0, 1) := by decide +kernel
theorem dX8_isAmong_13 : decode cX8_isAmong 13 = .ok (.ireturn, 1) := by decide +kernel
theorem dX8_chained_0 : decode cX8_chained 0 = .ok (.bipush 31, 2) := by decide +kernel
theorem dX8_chained_2 : decode cX8_chained 2 = .ok (.iload_n 0, 1) := by decide +kernel
theorem dX8_chained_3 : decode cX8_chained 3 = .ok (.imul, 1) := by decide +kernel
theorem dX8_chained_4 : decode cX8_chained 4 = .ok (.iload_n 1, 1) := by decide +kernel
theorem dX8_chained_5 : decode cX8_chained 5 = .ok (.iadd, 1) := by decide +kernel
theorem dX8_chained_6 : decode cX8_chained 6 = .ok (.ldc_w 334, 3) := by decide +kernel
theorem dX8_chained_9 : decode cX8_chained 9 = .ok (.irem, 1) := by decide +kernel
theorem dX8_chained_10 : decode cX8_chained 10 = .ok (.ireturn, 1) := by decide +kernel
theorem dX8_branchAt_0 : decode cX8_branchAt 0 = .ok (.iload_n 1, 1) := by decide +kernel
theorem dX8_branchAt_1 : decode cX8_branchAt 1 = .ok (.aload_n 0, 1) := by decide +kernel
theorem dX8_branchAt_2 : decode cX8_branchAt 2 = .ok (.getfield 46, 3) := by decide +kernel
theorem dX8_branchAt_5 : decode cX8_branchAt 5 = .ok (.invokestatic 210, 3) := by decide +kernel
theorem dX8_branchAt_8 : decode cX8_branchAt 8 = .ok (.ifCond .ne 14, 3) := by decide +kernel
theorem dX8_branchAt_11 : decode cX8_branchAt 11 = .ok (.new 221, 3) := by decide +kernel
theorem dX8_branchAt_14 : decode cX8_branchAt 14 = .ok (.dup, 1) := by decide +kernel
theorem dX8_branchAt_15 : decode cX8_branchAt 15 = .ok (.ldc_w 335, 3) := by decide +kernel
theorem dX8_branchAt_18 : decode cX8_branchAt 18 = .ok (.invokespecial 225, 3) := by decide +kernel
theorem dX8_branchAt_21 : decode cX8_branchAt 21 = .ok (.athrow, 1) := by decide +kernel
theorem dX8_branchAt_22 : decode cX8_branchAt 22 = .ok (.aload_n 0, 1) := by decide +kernel
theorem dX8_branchAt_23 : decode cX8_branchAt 23 = .ok (.getfield 11, 3) := by decide +kernel
theorem dX8_branchAt_26 : decode cX8_branchAt 26 = .ok (.iload_n 1, 1) := by decide +kernel
theorem dX8_branchAt_27 : decode cX8_branchAt 27 = .ok (.aaload, 1) := by decide +kernel
theorem dX8_branchAt_28 : decode cX8_branchAt 28 = .ok (.areturn, 1) := by decide +kernel
theorem dX8_ruleAt_0 : decode cX8_ruleAt 0 = .ok (.iload_n 1, 1) := by decide +kernel
theorem dX8_ruleAt_1 : decode cX8_ruleAt 1 = .ok (.aload_n 0, 1) := by decide +kernel
theorem dX8_ruleAt_2 : decode cX8_ruleAt 2 = .ok (.getfield 28, 3) := by decide +kernel
theorem dX8_ruleAt_5 : decode cX8_ruleAt 5 = .ok (.getfield 102, 3) := by decide +kernel
theorem dX8_ruleAt_8 : decode cX8_ruleAt 8 = .ok (.invokestatic 210, 3) := by decide +kernel
theorem dX8_ruleAt_11 : decode cX8_ruleAt 11 = .ok (.ifCond .ne 14, 3) := by decide +kernel
theorem dX8_ruleAt_14 : decode cX8_ruleAt 14 = .ok (.new 221, 3) := by decide +kernel
theorem dX8_ruleAt_17 : decode cX8_ruleAt 17 = .ok (.dup, 1) := by decide +kernel
theorem dX8_ruleAt_18 : decode cX8_ruleAt 18 = .ok (.ldc_w 337, 3) := by decide +kernel
theorem dX8_ruleAt_21 : decode cX8_ruleAt 21 = .ok (.invokespecial 225, 3) := by decide +kernel
theorem dX8_ruleAt_24 : decode cX8_ruleAt 24 = .ok (.athrow, 1) := by decide +kernel
theorem dX8_ruleAt_25 : decode cX8_ruleAt 25 = .ok (.aload_n 0, 1) := by decide +kernel
theorem dX8_ruleAt_26 : decode cX8_ruleAt 26 = .ok (.getfield 28, 3) := by decide +kernel
theorem dX8_ruleAt_29 : decode cX8_ruleAt 29 = .ok (.getfield 108, 3) := by decide +kernel
theorem dX8_ruleAt_32 : decode cX8_ruleAt 32 = .ok (.iload_n 1, 1) := by decide +kernel
theorem dX8_ruleAt_33 : decode cX8_ruleAt 33 = .ok (.aaload, 1) := by decide +kernel
theorem dX8_ruleAt_34 : decode cX8_ruleAt 34 = .ok (.areturn, 1) := by decide +kernel
theorem dX8_listenerAt_0 : decode cX8_listenerAt 0 = .ok (.iload_n 1, 1) := by decide +kernel
theorem dX8_listenerAt_1 : decode cX8_listenerAt 1 = .ok (.aload_n 0, 1) := by decide +kernel
theorem dX8_listenerAt_2 : decode cX8_listenerAt 2 = .ok (.getfield 50, 3) := by decide +kernel
theorem dX8_listenerAt_5 : decode cX8_listenerAt 5 = .ok (.invokestatic 210, 3) := by decide +kernel
theorem dX8_listenerAt_8 : decode cX8_listenerAt 8 = .ok (.ifCond .ne 14, 3) := by decide +kernel
theorem dX8_listenerAt_11 : decode cX8_listenerAt 11 = .ok (.new 221, 3) := by decide +kernel
theorem dX8_listenerAt_14 : decode cX8_listenerAt 14 = .ok (.dup, 1) := by decide +kernel
theorem dX8_listenerAt_15 : decode cX8_listenerAt 15 = .ok (.ldc_w 339, 3) := by decide +kernel
theorem dX8_listenerAt_18 : decode cX8_listenerAt 18 = .ok (.invokespecial 225, 3) := by decide +kernel
theorem dX8_listenerAt_21 : decode cX8_listenerAt 21 = .ok (.athrow, 1) := by decide +kernel
theorem dX8_listenerAt_22 : decode cX8_listenerAt 22 = .ok (.aload_n 0, 1) := by decide +kernel
theorem dX8_listenerAt_23 : decode cX8_listenerAt 23 = .ok (.getfield 17, 3) := by decide +kernel
theorem dX8_listenerAt_26 : decode cX8_listenerAt 26 = .ok (.iload_n 1, 1) := by decide +kernel
theorem dX8_listenerAt_27 : decode cX8_listenerAt 27 = .ok (.aaload, 1) := by decide +kernel
theorem dX8_listenerAt_28 : decode cX8_listenerAt 28 = .ok (.areturn, 1) := by decide +kernel
theorem dX8_checkKnowing_0 : decode cX8_checkKnowing 0 = .ok (.iload_n 1, 1) := by decide +kernel
theorem dX8_checkKnowing_1 : decode cX8_checkKnowing 1 = .ok (.aload_n 0, 1) := by decide +kernel
theorem dX8_checkKnowing_2 : decode cX8_checkKnowing 2 = .ok (.getfield 92, 3) := by decide +kernel
theorem dX8_checkKnowing_5 : decode cX8_checkKnowing 5 = .ok (.iconst 1, 1) := by decide +kernel
theorem dX8_checkKnowing_6 : decode cX8_checkKnowing 6 = .ok (.iadd, 1) := by decide +kernel
theorem dX8_checkKnowing_7 : decode cX8_checkKnowing 7 = .ok (.invokestatic 210, 3) := by decide +kernel
theorem dX8_checkKnowing_10 : decode cX8_checkKnowing 10 = .ok (.ifCond .ne 14, 3) := by decide +kernel
theorem dX8_checkKnowing_13 : decode cX8_checkKnowing 13 = .ok (.new 221, 3) := by decide +kernel
theorem dX8_checkKnowing_16 : decode cX8_checkKnowing 16 = .ok (.dup, 1) := by decide +kernel
theorem dX8_checkKnowing_17 : decode cX8_checkKnowing 17 = .ok (.ldc_w 341, 3) := by decide +kernel
theorem dX8_checkKnowing_20 : decode cX8_checkKnowing 20 = .ok (.invokespecial 225, 3) := by decide +kernel
theorem dX8_checkKnowing_23 : decode cX8_checkKnowing 23 = .ok (.athrow, 1) := by decide +kernel
theorem dX8_checkKnowing_24 : decode cX8_checkKnowing 24 = .ok (.return_, 1) := by decide +kernel
theorem dX8_checkFact_0 : decode cX8_checkFact 0 = .ok (.iload_n 0, 1) := by decide +kernel
theorem dX8_checkFact_1 : decode cX8_checkFact 1 = .ok (.sipush 384, 3) := by decide +kernel
theorem dX8_checkFact_4 : decode cX8_checkFact 4 = .ok (.invokestatic 210, 3) := by decide +kernel
theorem dX8_checkFact_7 : decode cX8_checkFact 7 = .ok (.ifCond .ne 14, 3) := by decide +kernel
theorem dX8_checkFact_10 : decode cX8_checkFact 10 = .ok (.new 213, 3) := by decide +kernel
theorem dX8_checkFact_13 : decode cX8_checkFact 13 = .ok (.dup, 1) := by decide +kernel
theorem dX8_checkFact_14 : decode cX8_checkFact 14 = .ok (.ldc_w 343, 3) := by decide +kernel
theorem dX8_checkFact_17 : decode cX8_checkFact 17 = .ok (.invokespecial 217, 3) := by decide +kernel
theorem dX8_checkFact_20 : decode cX8_checkFact 20 = .ok (.athrow, 1) := by decide +kernel
theorem dX8_checkFact_21 : decode cX8_checkFact 21 = .ok (.return_, 1) := by decide +kernel
theorem dX8_checkHour_0 : decode cX8_checkHour 0 = .ok (.iload_n 0, 1) := by decide +kernel
theorem dX8_checkHour_1 : decode cX8_checkHour 1 = .ok (.bipush 24, 2) := by decide +kernel
theorem dX8_checkHour_3 : decode cX8_checkHour 3 = .ok (.invokestatic 210, 3) := by decide +kernel
theorem dX8_checkHour_6 : decode cX8_checkHour 6 = .ok (.ifCond .ne 14, 3) := by decide +kernel
theorem dX8_checkHour_9 : decode cX8_checkHour 9 = .ok (.new 213, 3) := by decide +kernel
theorem dX8_checkHour_12 : decode cX8_checkHour 12 = .ok (.dup, 1) := by decide +kernel
theorem dX8_checkHour_13 : decode cX8_checkHour 13 = .ok (.ldc_w 345, 3) := by decide +kernel
theorem dX8_checkHour_16 : decode cX8_checkHour 16 = .ok (.invokespecial 217, 3) := by decide +kernel
theorem dX8_checkHour_19 : decode cX8_checkHour 19 = .ok (.athrow, 1) := by decide +kernel
theorem dX8_checkHour_20 : decode cX8_checkHour 20 = .ok (.return_, 1) := by decide +kernel
theorem dX8_checkSpan_0 : decode cX8_checkSpan 0 = .ok (.iload_n 0, 1) := by decide +kernel
theorem dX8_checkSpan_1 : decode cX8_checkSpan 1 = .ok (.bipush 24, 2) := by decide +kernel
theorem dX8_checkSpan_3 : decode cX8_checkSpan 3 = .ok (.invokestatic 210, 3) := by decide +kernel
theorem dX8_checkSpan_6 : decode cX8_checkSpan 6 = .ok (.ifCond .eq 17, 3) := by decide +kernel
theorem dX8_checkSpan_9 : decode cX8_checkSpan 9 = .ok (.iload_n 1, 1) := by decide +kernel
theorem dX8_checkSpan_10 : decode cX8_checkSpan 10 = .ok (.bipush 24, 2) := by decide +kernel
theorem dX8_checkSpan_12 : decode cX8_checkSpan 12 = .ok (.invokestatic 210, 3) := by decide +kernel
theorem dX8_checkSpan_15 : decode cX8_checkSpan 15 = .ok (.ifCond .eq 8, 3) := by decide +kernel
theorem dX8_checkSpan_18 : decode cX8_checkSpan 18 = .ok (.iload_n 1, 1) := by decide +kernel
theorem dX8_checkSpan_19 : decode cX8_checkSpan 19 = .ok (.iload_n 0, 1) := by decide +kernel
theorem dX8_checkSpan_20 : decode cX8_checkSpan 20 = .ok (.if_icmp .ge 14, 3) := by decide +kernel
theorem dX8_checkSpan_23 : decode cX8_checkSpan 23 = .ok (.new 213, 3) := by decide +kernel
theorem dX8_checkSpan_26 : decode cX8_checkSpan 26 = .ok (.dup, 1) := by decide +kernel
theorem dX8_checkSpan_27 : decode cX8_checkSpan 27 = .ok (.ldc_w 347, 3) := by decide +kernel
theorem dX8_checkSpan_30 : decode cX8_checkSpan 30 = .ok (.invokespecial 217, 3) := by decide +kernel
theorem dX8_checkSpan_33 : decode cX8_checkSpan 33 = .ok (.athrow, 1) := by decide +kernel
theorem dX8_checkSpan_34 : decode cX8_checkSpan 34 = .ok (.return_, 1) := by decide +kernel
theorem dX8_checkRelation_0 : decode cX8_checkRelation 0 = .ok (.iload_n 0, 1) := by decide +kernel
theorem dX8_checkRelation_1 : decode cX8_checkRelation 1 = .ok (.bipush 6, 2) := by decide +kernel
theorem dX8_checkRelation_3 : decode cX8_checkRelation 3 = .ok (.invokestatic 210, 3) := by decide +kernel
theorem dX8_checkRelation_6 : decode cX8_checkRelation 6 = .ok (.ifCond .ne 14, 3) := by decide +kernel
theorem dX8_checkRelation_9 : decode cX8_checkRelation 9 = .ok (.new 213, 3) := by decide +kernel
theorem dX8_checkRelation_12 : decode cX8_checkRelation 12 = .ok (.dup, 1) := by decide +kernel
theorem dX8_checkRelation_13 : decode cX8_checkRelation 13 = .ok (.ldc_w 349, 3) := by decide +kernel
theorem dX8_checkRelation_16 : decode cX8_checkRelation 16 = .ok (.invokespecial 217, 3) := by decide +kernel
theorem dX8_checkRelation_19 : decode cX8_checkRelation 19 = .ok (.athrow, 1) := by decide +kernel
theorem dX8_checkRelation_20 : decode cX8_checkRelation 20 = .ok (.return_, 1) := by decide +kernel
theorem dX8_checkPattern_0 : decode cX8_checkPattern 0 = .ok (.iload_n 0, 1) := by decide +kernel
theorem dX8_checkPattern_1 : decode cX8_checkPattern 1 = .ok (.bipush 6, 2) := by decide +kernel
theorem dX8_checkPattern_3 : decode cX8_checkPattern 3 = .ok (.invokestatic 210, 3) := by decide +kernel
theorem dX8_checkPattern_6 : decode cX8_checkPattern 6 = .ok (.ifCond .eq 19, 3) := by decide +kernel
theorem dX8_checkPattern_9 : decode cX8_checkPattern 9 = .ok (.iload_n 1, 1) := by decide +kernel
theorem dX8_checkPattern_10 : decode cX8_checkPattern 10 = .ok (.iconst 3, 1) := by decide +kernel
theorem dX8_checkPattern_11 : decode cX8_checkPattern 11 = .ok (.invokestatic 210, 3) := by decide +kernel
theorem dX8_checkPattern_14 : decode cX8_checkPattern 14 = .ok (.ifCond .eq 11, 3) := by decide +kernel
theorem dX8_checkPattern_17 : decode cX8_checkPattern 17 = .ok (.iload_n 2, 1) := by decide +kernel
theorem dX8_checkPattern_18 : decode cX8_checkPattern 18 = .ok (.iconst 3, 1) := by decide +kernel
theorem dX8_checkPattern_19 : decode cX8_checkPattern 19 = .ok (.invokestatic 210, 3) := by decide +kernel
theorem dX8_checkPattern_22 : decode cX8_checkPattern 22 = .ok (.ifCond .ne 14, 3) := by decide +kernel
theorem dX8_checkPattern_25 : decode cX8_checkPattern 25 = .ok (.new 213, 3) := by decide +kernel
theorem dX8_checkPattern_28 : decode cX8_checkPattern 28 = .ok (.dup, 1) := by decide +kernel
theorem dX8_checkPattern_29 : decode cX8_checkPattern 29 = .ok (.ldc_w 351, 3) := by decide +kernel
theorem dX8_checkPattern_32 : decode cX8_checkPattern 32 = .ok (.invokespecial 217, 3) := by decide +kernel
theorem dX8_checkPattern_35 : decode cX8_checkPattern 35 = .ok (.athrow, 1) := by decide +kernel
theorem dX8_checkPattern_36 : decode cX8_checkPattern 36 = .ok (.return_, 1) := by decide +kernel
theorem dX8_checkRoom_0 : decode cX8_checkRoom 0 = .ok (.aload_n 0, 1) := by decide +kernel
theorem dX8_checkRoom_1 : decode cX8_checkRoom 1 = .ok (.invokevirtual 353, 3) := by decide +kernel
theorem dX8_checkRoom_4 : decode cX8_checkRoom 4 = .ok (.ifCond .eq 14, 3) := by decide +kernel
theorem dX8_checkRoom_7 : decode cX8_checkRoom 7 = .ok (.new 103, 3) := by decide +kernel
theorem dX8_checkRoom_10 : decode cX8_checkRoom 10 = .ok (.dup, 1) := by decide +kernel
theorem dX8_checkRoom_11 : decode cX8_checkRoom 11 = .ok (.ldc_w 356, 3) := by decide +kernel
theorem dX8_checkRoom_14 : decode cX8_checkRoom 14 = .ok (.invokespecial 107, 3) := by decide +kernel
theorem dX8_checkRoom_17 : decode cX8_checkRoom 17 = .ok (.athrow, 1) := by decide +kernel
theorem dX8_checkRoom_18 : decode cX8_checkRoom 18 = .ok (.return_, 1) := by decide +kernel
theorem dX8_checkAsked_0 : decode cX8_checkAsked 0 = .ok (.aload_n 0, 1) := by decide +kernel
theorem dX8_checkAsked_1 : decode cX8_checkAsked 1 = .ok (.iload_n 1, 1) := by decide +kernel
theorem dX8_checkAsked_2 : decode cX8_checkAsked 2 = .ok (.invokestatic 141, 3) := by decide +kernel
theorem dX8_checkAsked_5 : decode cX8_checkAsked 5 = .ok (.iload_n 2, 1) := by decide +kernel
theorem dX8_checkAsked_6 : decode cX8_checkAsked 6 = .ok (.invokestatic 170, 3) := by decide +kernel
theorem dX8_checkAsked_9 : decode cX8_checkAsked 9 = .ok (.iload_n 3, 1) := by decide +kernel
theorem dX8_checkAsked_10 : decode cX8_checkAsked 10 = .ok (.invokestatic 62, 3) := by decide +kernel
theorem dX8_checkAsked_13 : decode cX8_checkAsked 13 = .ok (.return_, 1) := by decide +kernel
theorem dX8_checkHeld_0 : decode cX8_checkHeld 0 = .ok (.aload_n 0, 1) := by decide +kernel
theorem dX8_checkHeld_1 : decode cX8_checkHeld 1 = .ok (.iload_n 1, 1) := by decide +kernel
theorem dX8_checkHeld_2 : decode cX8_checkHeld 2 = .ok (.invokevirtual 164, 3) := by decide +kernel
theorem dX8_checkHeld_5 : decode cX8_checkHeld 5 = .ok (.ifCond .ne 14, 3) := by decide +kernel
theorem dX8_checkHeld_8 : decode cX8_checkHeld 8 = .ok (.new 201, 3) := by decide +kernel
theorem dX8_checkHeld_11 : decode cX8_checkHeld 11 = .ok (.dup, 1) := by decide +kernel
theorem dX8_checkHeld_12 : decode cX8_checkHeld 12 = .ok (.ldc_w 358, 3) := by decide +kernel
theorem dX8_checkHeld_15 : decode cX8_checkHeld 15 = .ok (.invokespecial 205, 3) := by decide +kernel
theorem dX8_checkHeld_18 : decode cX8_checkHeld 18 = .ok (.athrow, 1) := by decide +kernel
theorem dX8_checkHeld_19 : decode cX8_checkHeld 19 = .ok (.return_, 1) := by decide +kernel
theorem dX8_hasRival_0 : decode cX8_hasRival 0 = .ok (.iload_n 2, 1) := by decide +kernel
theorem dX8_hasRival_1 : decode cX8_hasRival 1 = .ok (.bipush 64, 2) := by decide +kernel
theorem dX8_hasRival_3 : decode cX8_hasRival 3 = .ok (.idiv, 1) := by decide +kernel
theorem dX8_hasRival_4 : decode cX8_hasRival 4 = .ok (.istore 5, 2) := by decide +kernel
theorem dX8_hasRival_6 : decode cX8_hasRival 6 = .ok (.aload_n 0, 1) := by decide +kernel
theorem dX8_hasRival_7 : decode cX8_hasRival 7 = .ok (.getfield 21, 3) := by decide +kernel
theorem dX8_hasRival_10 : decode cX8_hasRival 10 = .ok (.iload 5, 2) := by decide +kernel
theorem dX8_hasRival_12 : decode cX8_hasRival 12 = .ok (.baload, 1) := by decide +kernel
theorem dX8_hasRival_13 : decode cX8_hasRival 13 = .ok (.ifCond .ne 5, 3) := by decide +kernel
theorem dX8_hasRival_16 : decode cX8_hasRival 16 = .ok (.iconst 0, 1) := by decide +kernel
theorem dX8_hasRival_17 : decode cX8_hasRival 17 = .ok (.ireturn, 1) := by decide +kernel
theorem dX8_hasRival_18 : decode cX8_hasRival 18 = .ok (.iload_n 2, 1) := by decide +kernel
theorem dX8_hasRival_19 : decode cX8_hasRival 19 = .ok (.bipush 64, 2) := by decide +kernel
theorem dX8_hasRival_21 : decode cX8_hasRival 21 = .ok (.irem, 1) := by decide +kernel
theorem dX8_hasRival_22 : decode cX8_hasRival 22 = .ok (.istore 6, 2) := by decide +kernel
theorem dX8_hasRival_24 : decode cX8_hasRival 24 = .ok (.iload 6, 2) := by decide +kernel
theorem dX8_hasRival_26 : decode cX8_hasRival 26 = .ok (.bipush 8, 2) := by decide +kernel
theorem dX8_hasRival_28 : decode cX8_hasRival 28 = .ok (.idiv, 1) := by decide +kernel
theorem dX8_hasRival_29 : decode cX8_hasRival 29 = .ok (.iconst (-1), 1) := by decide +kernel
theorem dX8_hasRival_30 : decode cX8_hasRival 30 = .ok (.invokestatic 280, 3) := by decide +kernel
theorem dX8_hasRival_33 : decode cX8_hasRival 33 = .ok (.lconst 1, 1) := by decide +kernel
theorem dX8_hasRival_34 : decode cX8_hasRival 34 = .ok (.iload 6, 2) := by decide +kernel
theorem dX8_hasRival_36 : decode cX8_hasRival 36 = .ok (.lshl, 1) := by decide +kernel
theorem dX8_hasRival_37 : decode cX8_hasRival 37 = .ok (.ldc2_w 316, 3) := by decide +kernel
theorem dX8_hasRival_40 : decode cX8_hasRival 40 = .ok (.lxor, 1) := by decide +kernel
theorem dX8_hasRival_41 : decode cX8_hasRival 41 = .ok (.land, 1) := by decide +kernel
theorem dX8_hasRival_42 : decode cX8_hasRival 42 = .ok (.lstore 7, 2) := by decide +kernel
theorem dX8_hasRival_44 : decode cX8_hasRival 44 = .ok (.iload_n 3, 1) := by decide +kernel
theorem dX8_hasRival_45 : decode cX8_hasRival 45 = .ok (.istore 9, 2) := by decide +kernel
theorem dX8_hasRival_47 : decode cX8_hasRival 47 = .ok (.iload 9, 2) := by decide +kernel
theorem dX8_hasRival_49 : decode cX8_hasRival 49 = .ok (.iload 4, 2) := by decide +kernel
theorem dX8_hasRival_51 : decode cX8_hasRival 51 = .ok (.if_icmp .gt 43, 3) := by decide +kernel
theorem dX8_hasRival_54 : decode cX8_hasRival 54 = .ok (.aload_n 1, 1) := by decide +kernel
theorem dX8_hasRival_55 : decode cX8_hasRival 55 = .ok (.aload_n 1, 1) := by decide +kernel
theorem dX8_hasRival_56 : decode cX8_hasRival 56 = .ok (.getfield 92, 3) := by decide +kernel
theorem dX8_hasRival_59 : decode cX8_hasRival 59 = .ok (.iload 9, 2) := by decide +kernel
theorem dX8_hasRival_61 : decode cX8_hasRival 61 = .ok (.aload_n 0, 1) := by decide +kernel
theorem dX8_hasRival_62 : decode cX8_hasRival 62 = .ok (.getfield 42, 3) := by decide +kernel
theorem dX8_hasRival_65 : decode cX8_hasRival 65 = .ok (.invokevirtual 360, 3) := by decide +kernel
theorem dX8_hasRival_68 : decode cX8_hasRival 68 = .ok (.aload_n 0, 1) := by decide +kernel
theorem dX8_hasRival_69 : decode cX8_hasRival 69 = .ok (.getfield 42, 3) := by decide +kernel
theorem dX8_hasRival_72 : decode cX8_hasRival 72 = .ok (.getfield 313, 3) := by decide +kernel
theorem dX8_hasRival_75 : decode cX8_hasRival 75 = .ok (.iload 5, 2) := by decide +kernel
theorem dX8_hasRival_77 : decode cX8_hasRival 77 = .ok (.laload, 1) := by decide +kernel
theorem dX8_hasRival_78 : decode cX8_hasRival 78 = .ok (.lload 7, 2) := by decide +kernel
theorem dX8_hasRival_80 : decode cX8_hasRival 80 = .ok (.land, 1) := by decide +kernel
theorem dX8_hasRival_81 : decode cX8_hasRival 81 = .ok (.lconst 0, 1) := by decide +kernel
theorem dX8_hasRival_82 : decode cX8_hasRival 82 = .ok (.lcmp, 1) := by decide +kernel
theorem dX8_hasRival_83 : decode cX8_hasRival 83 = .ok (.ifCond .eq 5, 3) := by decide +kernel
theorem dX8_hasRival_86 : decode cX8_hasRival 86 = .ok (.iconst 1, 1) := by decide +kernel
theorem dX8_hasRival_87 : decode cX8_hasRival 87 = .ok (.ireturn, 1) := by decide +kernel
theorem dX8_hasRival_88 : decode cX8_hasRival 88 = .ok (.iinc 9 1, 3) := by decide +kernel
theorem dX8_hasRival_91 : decode cX8_hasRival 91 = .ok (.goto (-44), 3) := by decide +kernel
theorem dX8_hasRival_94 : decode cX8_hasRival 94 = .ok (.iconst 0, 1) := by decide +kernel
theorem dX8_hasRival_95 : decode cX8_hasRival 95 = .ok (.ireturn, 1) := by decide +kernel
theorem dX8_canBeTold_0 : decode cX8_canBeTold 0 = .ok (.aload_n 1, 1) := by decide +kernel
theorem dX8_canBeTold_1 : decode cX8_canBeTold 1 = .ok (.invokevirtual 353, 3) := by decide +kernel
theorem dX8_canBeTold_4 : decode cX8_canBeTold 4 = .ok (.ifCond .eq 5, 3) := by decide +kernel
theorem dX8_canBeTold_7 : decode cX8_canBeTold 7 = .ok (.iconst 0, 1) := by decide +kernel
theorem dX8_canBeTold_8 : decode cX8_canBeTold 8 = .ok (.ireturn, 1) := by decide +kernel
theorem dX8_canBeTold_9 : decode cX8_canBeTold 9 = .ok (.aload_n 2, 1) := by decide +kernel
theorem dX8_canBeTold_10 : decode cX8_canBeTold 10 = .ok (.getfield 266, 3) := by decide +kernel
theorem dX8_canBeTold_13 : decode cX8_canBeTold 13 = .ok (.ifCond .ne 5, 3) := by decide +kernel
theorem dX8_canBeTold_16 : decode cX8_canBeTold 16 = .ok (.iconst 1, 1) := by decide +kernel
theorem dX8_canBeTold_17 : decode cX8_canBeTold 17 = .ok (.ireturn, 1) := by decide +kernel
theorem dX8_canBeTold_18 : decode cX8_canBeTold 18 = .ok (.aload_n 2, 1) := by decide +kernel
theorem dX8_canBeTold_19 : decode cX8_canBeTold 19 = .ok (.getfield 263, 3) := by decide +kernel
theorem dX8_canBeTold_22 : decode cX8_canBeTold 22 = .ok (.ifCond .eq 25, 3) := by decide +kernel
theorem dX8_canBeTold_25 : decode cX8_canBeTold 25 = .ok (.aload_n 0, 1) := by decide +kernel
theorem dX8_canBeTold_26 : decode cX8_canBeTold 26 = .ok (.getfield 28, 3) := by decide +kernel
theorem dX8_canBeTold_29 : decode cX8_canBeTold 29 = .ok (.aload_n 2, 1) := by decide +kernel
theorem dX8_canBeTold_30 : decode cX8_canBeTold 30 = .ok (.getfield 269, 3) := by decide +kernel
theorem dX8_canBeTold_33 : decode cX8_canBeTold 33 = .ok (.aload_n 1, 1) := by decide +kernel
theorem dX8_canBeTold_34 : decode cX8_canBeTold 34 = .ok (.aload_n 1, 1) := by decide +kernel
theorem dX8_canBeTold_35 : decode cX8_canBeTold 35 = .ok (.getfield 92, 3) := by decide +kernel
theorem dX8_canBeTold_38 : decode cX8_canBeTold 38 = .ok (.invokevirtual 131, 3) := by decide +kernel
theorem dX8_canBeTold_41 : decode cX8_canBeTold 41 = .ok (.invokevirtual 135, 3) := by decide +kernel
theorem dX8_canBeTold_44 : decode cX8_canBeTold 44 = .ok (.goto 28, 3) := by decide +kernel
theorem dX8_canBeTold_47 : decode cX8_canBeTold 47 = .ok (.aload_n 0, 1) := by decide +kernel
theorem dX8_canBeTold_48 : decode cX8_canBeTold 48 = .ok (.aload_n 1, 1) := by decide +kernel
theorem dX8_canBeTold_49 : decode cX8_canBeTold 49 = .ok (.aload_n 2, 1) := by decide +kernel
theorem dX8_canBeTold_50 : decode cX8_canBeTold 50 = .ok (.getfield 269, 3) := by decide +kernel
theorem dX8_canBeTold_53 : decode cX8_canBeTold 53 = .ok (.aload_n 2, 1) := by decide +kernel
theorem dX8_canBeTold_54 : decode cX8_canBeTold 54 = .ok (.getfield 272, 3) := by decide +kernel
theorem dX8_canBeTold_57 : decode cX8_canBeTold 57 = .ok (.aload_n 2, 1) := by decide +kernel
theorem dX8_canBeTold_58 : decode cX8_canBeTold 58 = .ok (.getfield 275, 3) := by decide +kernel
theorem dX8_canBeTold_61 : decode cX8_canBeTold 61 = .ok (.invokevirtual 70, 3) := by decide +kernel
theorem dX8_canBeTold_64 : decode cX8_canBeTold 64 = .ok (.ifCond .ne 7, 3) := by decide +kernel
theorem dX8_canBeTold_67 : decode cX8_canBeTold 67 = .ok (.iconst 1, 1) := by decide +kernel
theorem dX8_canBeTold_68 : decode cX8_canBeTold 68 = .ok (.goto 4, 3) := by decide +kernel
theorem dX8_canBeTold_71 : decode cX8_canBeTold 71 = .ok (.iconst 0, 1) := by decide +kernel
theorem dX8_canBeTold_72 : decode cX8_canBeTold 72 = .ok (.ireturn, 1) := by decide +kernel
theorem dX8_pairsOf_0 : decode cX8_pairsOf 0 = .ok (.lconst 0, 1) := by decide +kernel
theorem dX8_pairsOf_1 : decode cX8_pairsOf 1 = .ok (.lstore_n 2, 1) := by decide +kernel
theorem dX8_pairsOf_2 : decode cX8_pairsOf 2 = .ok (.iconst 0, 1) := by decide +kernel
theorem dX8_pairsOf_3 : decode cX8_pairsOf 3 = .ok (.istore 4, 2) := by decide +kernel
theorem dX8_pairsOf_5 : decode cX8_pairsOf 5 = .ok (.iload 4, 2) := by decide +kernel
theorem dX8_pairsOf_7 : decode cX8_pairsOf 7 = .ok (.bipush 64, 2) := by decide +kernel
theorem dX8_pairsOf_9 : decode cX8_pairsOf 9 = .ok (.if_icmp .ge 44, 3) := by decide +kernel
theorem dX8_pairsOf_12 : decode cX8_pairsOf 12 = .ok (.iload_n 0, 1) := by decide +kernel
theorem dX8_pairsOf_13 : decode cX8_pairsOf 13 = .ok (.iconst (-1), 1) := by decide +kernel
theorem dX8_pairsOf_14 : decode cX8_pairsOf 14 = .ok (.if_icmp .eq 12, 3) := by decide +kernel
theorem dX8_pairsOf_17 : decode cX8_pairsOf 17 = .ok (.iload_n 0, 1) := by decide +kernel
theorem dX8_pairsOf_18 : decode cX8_pairsOf 18 = .ok (.iload 4, 2) := by decide +kernel
theorem dX8_pairsOf_20 : decode cX8_pairsOf 20 = .ok (.bipush 8, 2) := by decide +kernel
theorem dX8_pairsOf_22 : decode cX8_pairsOf 22 = .ok (.idiv, 1) := by decide +kernel
theorem dX8_pairsOf_23 : decode cX8_pairsOf 23 = .ok (.if_icmp .ne 24, 3) := by decide +kernel
theorem dX8_pairsOf_26 : decode cX8_pairsOf 26 = .ok (.iload_n 1, 1) := by decide +kernel
theorem dX8_pairsOf_27 : decode cX8_pairsOf 27 = .ok (.iconst (-1), 1) := by decide +kernel
theorem dX8_pairsOf_28 : decode cX8_pairsOf 28 = .ok (.if_icmp .eq 12, 3) := by decide +kernel
theorem dX8_pairsOf_31 : decode cX8_pairsOf 31 = .ok (.iload_n 1, 1) := by decide +kernel
theorem dX8_pairsOf_32 : decode cX8_pairsOf 32 = .ok (.iload 4, 2) := by decide +kernel
theorem dX8_pairsOf_34 : decode cX8_pairsOf 34 = .ok (.bipush 8, 2) := by decide +kernel
theorem dX8_pairsOf_36 : decode cX8_pairsOf 36 = .ok (.irem, 1) := by decide +kernel
theorem dX8_pairsOf_37 : decode cX8_pairsOf 37 = .ok (.if_icmp .ne 10, 3) := by decide +kernel
theorem dX8_pairsOf_40 : decode cX8_pairsOf 40 = .ok (.lload_n 2, 1) := by decide +kernel
theorem dX8_pairsOf_41 : decode cX8_pairsOf 41 = .ok (.lconst 1, 1) := by decide +kernel
theorem dX8_pairsOf_42 : decode cX8_pairsOf 42 = .ok (.iload 4, 2) := by decide +kernel
theorem dX8_pairsOf_44 : decode cX8_pairsOf 44 = .ok (.lshl, 1) := by decide +kernel
theorem dX8_pairsOf_45 : decode cX8_pairsOf 45 = .ok (.lor, 1) := by decide +kernel
theorem dX8_pairsOf_46 : decode cX8_pairsOf 46 = .ok (.lstore_n 2, 1) := by decide +kernel
theorem dX8_pairsOf_47 : decode cX8_pairsOf 47 = .ok (.iinc 4 1, 3) := by decide +kernel
theorem dX8_pairsOf_50 : decode cX8_pairsOf 50 = .ok (.goto (-45), 3) := by decide +kernel
theorem dX8_pairsOf_53 : decode cX8_pairsOf 53 = .ok (.lload_n 2, 1) := by decide +kernel
theorem dX8_pairsOf_54 : decode cX8_pairsOf 54 = .ok (.lreturn, 1) := by decide +kernel
theorem dX8_stateOf_0 : decode cX8_stateOf 0 = .ok (.aload_n 1, 1) := by decide +kernel
theorem dX8_stateOf_1 : decode cX8_stateOf 1 = .ok (.getfield 363, 3) := by decide +kernel
theorem dX8_stateOf_4 : decode cX8_stateOf 4 = .ok (.iload_n 3, 1) := by decide +kernel
theorem dX8_stateOf_5 : decode cX8_stateOf 5 = .ok (.aaload, 1) := by decide +kernel
theorem dX8_stateOf_6 : decode cX8_stateOf 6 = .ok (.astore 4, 2) := by decide +kernel
theorem dX8_stateOf_8 : decode cX8_stateOf 8 = .ok (.aload_n 1, 1) := by decide +kernel
theorem dX8_stateOf_9 : decode cX8_stateOf 9 = .ok (.iload_n 2, 1) := by decide +kernel
theorem dX8_stateOf_10 : decode cX8_stateOf 10 = .ok (.iload_n 3, 1) := by decide +kernel
theorem dX8_stateOf_11 : decode cX8_stateOf 11 = .ok (.aload_n 0, 1) := by decide +kernel
theorem dX8_stateOf_12 : decode cX8_stateOf 12 = .ok (.getfield 42, 3) := by decide +kernel
theorem dX8_stateOf_15 : decode cX8_stateOf 15 = .ok (.invokevirtual 360, 3) := by decide +kernel
theorem dX8_stateOf_18 : decode cX8_stateOf 18 = .ok (.aload 4, 2) := by decide +kernel
theorem dX8_stateOf_20 : decode cX8_stateOf 20 = .ok (.aload_n 0, 1) := by decide +kernel
theorem dX8_stateOf_21 : decode cX8_stateOf 21 = .ok (.getfield 42, 3) := by decide +kernel
theorem dX8_stateOf_24 : decode cX8_stateOf 24 = .ok (.invokevirtual 367, 3) := by decide +kernel
theorem dX8_stateOf_27 : decode cX8_stateOf 27 = .ok (.ifCond .ne 23, 3) := by decide +kernel
theorem dX8_stateOf_30 : decode cX8_stateOf 30 = .ok (.aload_n 0, 1) := by decide +kernel
theorem dX8_stateOf_31 : decode cX8_stateOf 31 = .ok (.getfield 28, 3) := by decide +kernel
theorem dX8_stateOf_34 : decode cX8_stateOf 34 = .ok (.aload_n 0, 1) := by decide +kernel
theorem dX8_stateOf_35 : decode cX8_stateOf 35 = .ok (.getfield 42, 3) := by decide +kernel
theorem dX8_stateOf_38 : decode cX8_stateOf 38 = .ok (.invokevirtual 371, 3) := by decide +kernel
theorem dX8_stateOf_41 : decode cX8_stateOf 41 = .ok (.aload 4, 2) := by decide +kernel
theorem dX8_stateOf_43 : decode cX8_stateOf 43 = .ok (.aload_n 0, 1) := by decide +kernel
theorem dX8_stateOf_44 : decode cX8_stateOf 44 = .ok (.getfield 42, 3) := by decide +kernel
theorem dX8_stateOf_47 : decode cX8_stateOf 47 = .ok (.invokevirtual 374, 3) := by decide +kernel
theorem dX8_stateOf_50 : decode cX8_stateOf 50 = .ok (.aload 4, 2) := by decide +kernel
theorem dX8_stateOf_52 : decode cX8_stateOf 52 = .ok (.areturn, 1) := by decide +kernel
theorem dX8_stateAnew_0 : decode cX8_stateAnew 0 = .ok (.aload_n 1, 1) := by decide +kernel
theorem dX8_stateAnew_1 : decode cX8_stateAnew 1 = .ok (.iload_n 2, 1) := by decide +kernel
theorem dX8_stateAnew_2 : decode cX8_stateAnew 2 = .ok (.iload_n 3, 1) := by decide +kernel
theorem dX8_stateAnew_3 : decode cX8_stateAnew 3 = .ok (.aload_n 0, 1) := by decide +kernel
theorem dX8_stateAnew_4 : decode cX8_stateAnew 4 = .ok (.getfield 42, 3) := by decide +kernel
theorem dX8_stateAnew_7 : decode cX8_stateAnew 7 = .ok (.invokevirtual 360, 3) := by decide +kernel
theorem dX8_stateAnew_10 : decode cX8_stateAnew 10 = .ok (.aload_n 0, 1) := by decide +kernel
theorem dX8_stateAnew_11 : decode cX8_stateAnew 11 = .ok (.getfield 28, 3) := by decide +kernel
theorem dX8_stateAnew_14 : decode cX8_stateAnew 14 = .ok (.aload_n 0, 1) := by decide +kernel
theorem dX8_stateAnew_15 : decode cX8_stateAnew 15 = .ok (.getfield 42, 3) := by decide +kernel
theorem dX8_stateAnew_18 : decode cX8_stateAnew 18 = .ok (.invokevirtual 371, 3) := by decide +kernel
theorem dX8_stateAnew_21 : decode cX8_stateAnew 21 = .ok (.aload_n 0, 1) := by decide +kernel
theorem dX8_stateAnew_22 : decode cX8_stateAnew 22 = .ok (.getfield 42, 3) := by decide +kernel
theorem dX8_stateAnew_25 : decode cX8_stateAnew 25 = .ok (.areturn, 1) := by decide +kernel
theorem dX8_findReason_0 : decode cX8_findReason 0 = .ok (.aload_n 0, 1) := by decide +kernel
theorem dX8_findReason_1 : decode cX8_findReason 1 = .ok (.iload_n 1, 1) := by decide +kernel
theorem dX8_findReason_2 : decode cX8_findReason 2 = .ok (.invokevirtual 58, 3) := by decide +kernel
theorem dX8_findReason_5 : decode cX8_findReason 5 = .ok (.astore 5, 2) := by decide +kernel
theorem dX8_findReason_7 : decode cX8_findReason 7 = .ok (.aload 5, 2) := by decide +kernel
theorem dX8_findReason_9 : decode cX8_findReason 9 = .ok (.iload_n 2, 1) := by decide +kernel
theorem dX8_findReason_10 : decode cX8_findReason 10 = .ok (.iload_n 3, 1) := by decide +kernel
theorem dX8_findReason_11 : decode cX8_findReason 11 = .ok (.iload 4, 2) := by decide +kernel
theorem dX8_findReason_13 : decode cX8_findReason 13 = .ok (.invokestatic 156, 3) := by decide +kernel
theorem dX8_findReason_16 : decode cX8_findReason 16 = .ok (.aload_n 0, 1) := by decide +kernel
theorem dX8_findReason_17 : decode cX8_findReason 17 = .ok (.aload 5, 2) := by decide +kernel
theorem dX8_findReason_19 : decode cX8_findReason 19 = .ok (.iload_n 2, 1) := by decide +kernel
theorem dX8_findReason_20 : decode cX8_findReason 20 = .ok (.iload_n 3, 1) := by decide +kernel
theorem dX8_findReason_21 : decode cX8_findReason 21 = .ok (.invokevirtual 160, 3) := by decide +kernel
theorem dX8_findReason_24 : decode cX8_findReason 24 = .ok (.astore 6, 2) := by decide +kernel
theorem dX8_findReason_26 : decode cX8_findReason 26 = .ok (.aload 6, 2) := by decide +kernel
theorem dX8_findReason_28 : decode cX8_findReason 28 = .ok (.iload 4, 2) := by decide +kernel
theorem dX8_findReason_30 : decode cX8_findReason 30 = .ok (.invokestatic 183, 3) := by decide +kernel
theorem dX8_findReason_33 : decode cX8_findReason 33 = .ok (.aload_n 0, 1) := by decide +kernel
theorem dX8_findReason_34 : decode cX8_findReason 34 = .ok (.getfield 35, 3) := by decide +kernel
theorem dX8_findReason_37 : decode cX8_findReason 37 = .ok (.aload_n 0, 1) := by decide +kernel
theorem dX8_findReason_38 : decode cX8_findReason 38 = .ok (.getfield 28, 3) := by decide +kernel
theorem dX8_findReason_41 : decode cX8_findReason 41 = .ok (.aload 6, 2) := by decide +kernel
theorem dX8_findReason_43 : decode cX8_findReason 43 = .ok (.invokevirtual 323, 3) := by decide +kernel
theorem dX8_findReason_46 : decode cX8_findReason 46 = .ok (.return_, 1) := by decide +kernel
theorem dX8_inform_0 : decode cX8_inform 0 = .ok (.iconst 0, 1) := by decide +kernel
theorem dX8_inform_1 : decode cX8_inform 1 = .ok (.istore_n 2, 1) := by decide +kernel
theorem dX8_inform_2 : decode cX8_inform 2 = .ok (.iload_n 2, 1) := by decide +kernel
theorem dX8_inform_3 : decode cX8_inform 3 = .ok (.aload_n 0, 1) := by decide +kernel
theorem dX8_inform_4 : decode cX8_inform 4 = .ok (.getfield 50, 3) := by decide +kernel
theorem dX8_inform_7 : decode cX8_inform 7 = .ok (.if_icmp .ge 51, 3) := by decide +kernel
theorem dX8_inform_10 : decode cX8_inform 10 = .ok (.aload_n 0, 1) := by decide +kernel
theorem dX8_inform_11 : decode cX8_inform 11 = .ok (.getfield 17, 3) := by decide +kernel
theorem dX8_inform_14 : decode cX8_inform 14 = .ok (.iload_n 2, 1) := by decide +kernel
theorem dX8_inform_15 : decode cX8_inform 15 = .ok (.aaload, 1) := by decide +kernel
theorem dX8_inform_16 : decode cX8_inform 16 = .ok (.astore_n 3, 1) := by decide +kernel
theorem dX8_inform_17 : decode cX8_inform 17 = .ok (.aload_n 3, 1) := by decide +kernel
theorem dX8_inform_18 : decode cX8_inform 18 = .ok (.getfield 377, 3) := by decide +kernel
theorem dX8_inform_21 : decode cX8_inform 21 = .ok (.iload_n 1, 1) := by decide +kernel
theorem dX8_inform_22 : decode cX8_inform 22 = .ok (.if_icmp .ne 30, 3) := by decide +kernel
theorem dX8_inform_25 : decode cX8_inform 25 = .ok (.aload_n 0, 1) := by decide +kernel
theorem dX8_inform_26 : decode cX8_inform 26 = .ok (.getfield 11, 3) := by decide +kernel
theorem dX8_inform_29 : decode cX8_inform 29 = .ok (.iload_n 1, 1) := by decide +kernel
theorem dX8_inform_30 : decode cX8_inform 30 = .ok (.aaload, 1) := by decide +kernel
theorem dX8_inform_31 : decode cX8_inform 31 = .ok (.astore 4, 2) := by decide +kernel
theorem dX8_inform_33 : decode cX8_inform 33 = .ok (.aload_n 3, 1) := by decide +kernel
theorem dX8_inform_34 : decode cX8_inform 34 = .ok (.aload_n 0, 1) := by decide +kernel
theorem dX8_inform_35 : decode cX8_inform 35 = .ok (.aload 4, 2) := by decide +kernel
theorem dX8_inform_37 : decode cX8_inform 37 = .ok (.aload 4, 2) := by decide +kernel
theorem dX8_inform_39 : decode cX8_inform 39 = .ok (.getfield 92, 3) := by decide +kernel
theorem dX8_inform_42 : decode cX8_inform 42 = .ok (.aload_n 3, 1) := by decide +kernel
theorem dX8_inform_43 : decode cX8_inform 43 = .ok (.getfield 380, 3) := by decide +kernel
theorem dX8_inform_46 : decode cX8_inform 46 = .ok (.invokevirtual 160, 3) := by decide +kernel
theorem dX8_inform_49 : decode cX8_inform 49 = .ok (.invokevirtual 383, 3) := by decide +kernel
theorem dX8_inform_52 : decode cX8_inform 52 = .ok (.iinc 2 1, 3) := by decide +kernel
theorem dX8_inform_55 : decode cX8_inform 55 = .ok (.goto (-53), 3) := by decide +kernel
theorem dX8_inform_58 : decode cX8_inform 58 = .ok (.return_, 1) := by decide +kernel
theorem dX8_agreesWithAnew_0 : decode cX8_agreesWithAnew 0 = .ok (.iconst 0, 1) := by decide +kernel
theorem dX8_agreesWithAnew_1 : decode cX8_agreesWithAnew 1 = .ok (.istore_n 2, 1) := by decide +kernel
theorem dX8_agreesWithAnew_2 : decode cX8_agreesWithAnew 2 = .ok (.iload_n 2, 1) := by decide +kernel
theorem dX8_agreesWithAnew_3 : decode cX8_agreesWithAnew 3 = .ok (.bipush 24, 2) := by decide +kernel
theorem dX8_agreesWithAnew_5 : decode cX8_agreesWithAnew 5 = .ok (.if_icmp .ge 69, 3) := by decide +kernel
theorem dX8_agreesWithAnew_8 : decode cX8_agreesWithAnew 8 = .ok (.aload_n 0, 1) := by decide +kernel
theorem dX8_agreesWithAnew_9 : decode cX8_agreesWithAnew 9 = .ok (.aload_n 1, 1) := by decide +kernel
theorem dX8_agreesWithAnew_10 : decode cX8_agreesWithAnew 10 = .ok (.aload_n 1, 1) := by decide +kernel
theorem dX8_agreesWithAnew_11 : decode cX8_agreesWithAnew 11 = .ok (.getfield 92, 3) := by decide +kernel
theorem dX8_agreesWithAnew_14 : decode cX8_agreesWithAnew 14 = .ok (.iload_n 2, 1) := by decide +kernel
theorem dX8_agreesWithAnew_15 : decode cX8_agreesWithAnew 15 = .ok (.invokevirtual 160, 3) := by decide +kernel
theorem dX8_agreesWithAnew_18 : decode cX8_agreesWithAnew 18 = .ok (.astore_n 3, 1) := by decide +kernel
theorem dX8_agreesWithAnew_19 : decode cX8_agreesWithAnew 19 = .ok (.aload_n 0, 1) := by decide +kernel
theorem dX8_agreesWithAnew_20 : decode cX8_agreesWithAnew 20 = .ok (.aload_n 1, 1) := by decide +kernel
theorem dX8_agreesWithAnew_21 : decode cX8_agreesWithAnew 21 = .ok (.aload_n 1, 1) := by decide +kernel
theorem dX8_agreesWithAnew_22 : decode cX8_agreesWithAnew 22 = .ok (.getfield 92, 3) := by decide +kernel
theorem dX8_agreesWithAnew_25 : decode cX8_agreesWithAnew 25 = .ok (.iload_n 2, 1) := by decide +kernel
theorem dX8_agreesWithAnew_26 : decode cX8_agreesWithAnew 26 = .ok (.invokevirtual 167, 3) := by decide +kernel
theorem dX8_agreesWithAnew_29 : decode cX8_agreesWithAnew 29 = .ok (.astore 4, 2) := by decide +kernel
theorem dX8_agreesWithAnew_31 : decode cX8_agreesWithAnew 31 = .ok (.iconst 0, 1) := by decide +kernel
theorem dX8_agreesWithAnew_32 : decode cX8_agreesWithAnew 32 = .ok (.istore 5, 2) := by decide +kernel
theorem dX8_agreesWithAnew_34 : decode cX8_agreesWithAnew 34 = .ok (.iload 5, 2) := by decide +kernel
theorem dX8_agreesWithAnew_36 : decode cX8_agreesWithAnew 36 = .ok (.bipush 6, 2) := by decide +kernel
theorem dX8_agreesWithAnew_38 : decode cX8_agreesWithAnew 38 = .ok (.if_icmp .ge 30, 3) := by decide +kernel
theorem dX8_agreesWithAnew_41 : decode cX8_agreesWithAnew 41 = .ok (.aload_n 3, 1) := by decide +kernel
theorem dX8_agreesWithAnew_42 : decode cX8_agreesWithAnew 42 = .ok (.getfield 173, 3) := by decide +kernel
theorem dX8_agreesWithAnew_45 : decode cX8_agreesWithAnew 45 = .ok (.iload 5, 2) := by decide +kernel
theorem dX8_agreesWithAnew_47 : decode cX8_agreesWithAnew 47 = .ok (.laload, 1) := by decide +kernel
theorem dX8_agreesWithAnew_48 : decode cX8_agreesWithAnew 48 = .ok (.aload 4, 2) := by decide +kernel
theorem dX8_agreesWithAnew_50 : decode cX8_agreesWithAnew 50 = .ok (.getfield 173, 3) := by decide +kernel
theorem dX8_agreesWithAnew_53 : decode cX8_agreesWithAnew 53 = .ok (.iload 5, 2) := by decide +kernel
theorem dX8_agreesWithAnew_55 : decode cX8_agreesWithAnew 55 = .ok (.laload, 1) := by decide +kernel
theorem dX8_agreesWithAnew_56 : decode cX8_agreesWithAnew 56 = .ok (.lcmp, 1) := by decide +kernel
theorem dX8_agreesWithAnew_57 : decode cX8_agreesWithAnew 57 = .ok (.ifCond .eq 5, 3) := by decide +kernel
theorem dX8_agreesWithAnew_60 : decode cX8_agreesWithAnew 60 = .ok (.iconst 0, 1) := by decide +kernel
theorem dX8_agreesWithAnew_61 : decode cX8_agreesWithAnew 61 = .ok (.ireturn, 1) := by decide +kernel
theorem dX8_agreesWithAnew_62 : decode cX8_agreesWithAnew 62 = .ok (.iinc 5 1, 3) := by decide +kernel
theorem dX8_agreesWithAnew_65 : decode cX8_agreesWithAnew 65 = .ok (.goto (-31), 3) := by decide +kernel
theorem dX8_agreesWithAnew_68 : decode cX8_agreesWithAnew 68 = .ok (.iinc 2 6, 3) := by decide +kernel
theorem dX8_agreesWithAnew_71 : decode cX8_agreesWithAnew 71 = .ok (.goto (-69), 3) := by decide +kernel
theorem dX8_agreesWithAnew_74 : decode cX8_agreesWithAnew 74 = .ok (.iconst 1, 1) := by decide +kernel
theorem dX8_agreesWithAnew_75 : decode cX8_agreesWithAnew 75 = .ok (.ireturn, 1) := by decide +kernel
theorem dX9_init_0 : decode cX9_init 0 = .ok (.aload_n 0, 1) := by decide +kernel
theorem dX9_init_1 : decode cX9_init 1 = .ok (.invokespecial 1, 3) := by decide +kernel
theorem dX9_init_4 : decode cX9_init 4 = .ok (.aload_n 0, 1) := by decide +kernel
theorem dX9_init_5 : decode cX9_init 5 = .ok (.sipush 240, 3) := by decide +kernel
theorem dX9_init_8 : decode cX9_init 8 = .ok (.newarray .char, 2) := by decide +kernel
theorem dX9_init_10 : decode cX9_init 10 = .ok (.putfield 9, 3) := by decide +kernel
theorem dX9_init_13 : decode cX9_init 13 = .ok (.aload_n 0, 1) := by decide +kernel
theorem dX9_init_14 : decode cX9_init 14 = .ok (.sipush 240, 3) := by decide +kernel
theorem dX9_init_17 : decode cX9_init 17 = .ok (.newarray .int, 2) := by decide +kernel
theorem dX9_init_19 : decode cX9_init 19 = .ok (.putfield 13, 3) := by decide +kernel
theorem dX9_init_22 : decode cX9_init 22 = .ok (.aload_n 0, 1) := by decide +kernel
theorem dX9_init_23 : decode cX9_init 23 = .ok (.sipush 240, 3) := by decide +kernel
theorem dX9_init_26 : decode cX9_init 26 = .ok (.newarray .int, 2) := by decide +kernel
theorem dX9_init_28 : decode cX9_init 28 = .ok (.putfield 17, 3) := by decide +kernel
theorem dX9_init_31 : decode cX9_init 31 = .ok (.aload_n 0, 1) := by decide +kernel
theorem dX9_init_32 : decode cX9_init 32 = .ok (.sipush 240, 3) := by decide +kernel
theorem dX9_init_35 : decode cX9_init 35 = .ok (.newarray .int, 2) := by decide +kernel
theorem dX9_init_37 : decode cX9_init 37 = .ok (.putfield 20, 3) := by decide +kernel
theorem dX9_init_40 : decode cX9_init 40 = .ok (.aload_n 0, 1) := by decide +kernel
theorem dX9_init_41 : decode cX9_init 41 = .ok (.sipush 240, 3) := by decide +kernel
theorem dX9_init_44 : decode cX9_init 44 = .ok (.newarray .int, 2) := by decide +kernel
theorem dX9_init_46 : decode cX9_init 46 = .ok (.putfield 23, 3) := by decide +kernel
theorem dX9_init_49 : decode cX9_init 49 = .ok (.aload_n 0, 1) := by decide +kernel
theorem dX9_init_50 : decode cX9_init 50 = .ok (.sipush 240, 3) := by decide +kernel
theorem dX9_init_53 : decode cX9_init 53 = .ok (.newarray .boolean, 2) := by decide +kernel
theorem dX9_init_55 : decode cX9_init 55 = .ok (.putfield 26, 3) := by decide +kernel
theorem dX9_init_58 : decode cX9_init 58 = .ok (.aload_n 0, 1) := by decide +kernel
theorem dX9_init_59 : decode cX9_init 59 = .ok (.bipush 6, 2) := by decide +kernel
theorem dX9_init_61 : decode cX9_init 61 = .ok (.newarray .boolean, 2) := by decide +kernel
theorem dX9_init_63 : decode cX9_init 63 = .ok (.putfield 30, 3) := by decide +kernel
theorem dX9_init_66 : decode cX9_init 66 = .ok (.aload_n 0, 1) := by decide +kernel
theorem dX9_init_67 : decode cX9_init 67 = .ok (.iconst 4, 1) := by decide +kernel
theorem dX9_init_68 : decode cX9_init 68 = .ok (.newarray .int, 2) := by decide +kernel
theorem dX9_init_70 : decode cX9_init 70 = .ok (.putfield 33, 3) := by decide +kernel
theorem dX9_init_73 : decode cX9_init 73 = .ok (.aload_n 0, 1) := by decide +kernel
theorem dX9_init_74 : decode cX9_init 74 = .ok (.iconst 4, 1) := by decide +kernel
theorem dX9_init_75 : decode cX9_init 75 = .ok (.newarray .int, 2) := by decide +kernel
theorem dX9_init_77 : decode cX9_init 77 = .ok (.putfield 36, 3) := by decide +kernel
theorem dX9_init_80 : decode cX9_init 80 = .ok (.aload_n 0, 1) := by decide +kernel
theorem dX9_init_81 : decode cX9_init 81 = .ok (.iconst 4, 1) := by decide +kernel
theorem dX9_init_82 : decode cX9_init 82 = .ok (.newarray .int, 2) := by decide +kernel
theorem dX9_init_84 : decode cX9_init 84 = .ok (.putfield 39, 3) := by decide +kernel
theorem dX9_init_87 : decode cX9_init 87 = .ok (.aload_n 0, 1) := by decide +kernel
theorem dX9_init_88 : decode cX9_init 88 = .ok (.iconst 4, 1) := by decide +kernel
theorem dX9_init_89 : decode cX9_init 89 = .ok (.newarray .int, 2) := by decide +kernel
theorem dX9_init_91 : decode cX9_init 91 = .ok (.putfield 42, 3) := by decide +kernel
theorem dX9_init_94 : decode cX9_init 94 = .ok (.aload_n 0, 1) := by decide +kernel
theorem dX9_init_95 : decode cX9_init 95 = .ok (.iconst 1, 1) := by decide +kernel
theorem dX9_init_96 : decode cX9_init 96 = .ok (.putfield 45, 3) := by decide +kernel
theorem dX9_init_99 : decode cX9_init 99 = .ok (.aload_n 0, 1) := by decide +kernel
theorem dX9_init_100 : decode cX9_init 100 = .ok (.bipush 30, 2) := by decide +kernel
theorem dX9_init_102 : decode cX9_init 102 = .ok (.newarray .int, 2) := by decide +kernel
theorem dX9_init_104 : decode cX9_init 104 = .ok (.putfield 49, 3) := by decide +kernel
theorem dX9_init_107 : decode cX9_init 107 = .ok (.aload_n 0, 1) := by decide +kernel
theorem dX9_init_108 : decode cX9_init 108 = .ok (.bipush 90, 2) := by decide +kernel
theorem dX9_init_110 : decode cX9_init 110 = .ok (.newarray .int, 2) := by decide +kernel
theorem dX9_init_112 : decode cX9_init 112 = .ok (.putfield 52, 3) := by decide +kernel
theorem dX9_init_115 : decode cX9_init 115 = .ok (.aload_n 0, 1) := by decide +kernel
theorem dX9_init_116 : decode cX9_init 116 = .ok (.bipush 10, 2) := by decide +kernel
theorem dX9_init_118 : decode cX9_init 118 = .ok (.newarray .int, 2) := by decide +kernel
theorem dX9_init_120 : decode cX9_init 120 = .ok (.putfield 55, 3) := by decide +kernel
theorem dX9_init_123 : decode cX9_init 123 = .ok (.aload_n 0, 1) := by decide +kernel
theorem dX9_init_124 : decode cX9_init 124 = .ok (.bipush 30, 2) := by decide +kernel
theorem dX9_init_126 : decode cX9_init 126 = .ok (.newarray .boolean, 2) := by decide +kernel
theorem dX9_init_128 : decode cX9_init 128 = .ok (.putfield 58, 3) := by decide +kernel
theorem dX9_init_131 : decode cX9_init 131 = .ok (.aload_n 0, 1) := by decide +kernel
theorem dX9_init_132 : decode cX9_init 132 = .ok (.bipush 10, 2) := by decide +kernel
theorem dX9_init_134 : decode cX9_init 134 = .ok (.newarray .boolean, 2) := by decide +kernel
theorem dX9_init_136 : decode cX9_init 136 = .ok (.putfield 61, 3) := by decide +kernel
theorem dX9_init_139 : decode cX9_init 139 = .ok (.aload_n 0, 1) := by decide +kernel
theorem dX9_init_140 : decode cX9_init 140 = .ok (.bipush 25, 2) := by decide +kernel
theorem dX9_init_142 : decode cX9_init 142 = .ok (.newarray .int, 2) := by decide +kernel
theorem dX9_init_144 : decode cX9_init 144 = .ok (.putfield 64, 3) := by decide +kernel
theorem dX9_init_147 : decode cX9_init 147 = .ok (.aload_n 0, 1) := by decide +kernel
theorem dX9_init_148 : decode cX9_init 148 = .ok (.iconst 5, 1) := by decide +kernel
theorem dX9_init_149 : decode cX9_init 149 = .ok (.newarray .int, 2) := by decide +kernel
theorem dX9_init_151 : decode cX9_init 151 = .ok (.putfield 67, 3) := by decide +kernel
theorem dX9_init_154 : decode cX9_init 154 = .ok (.aload_n 0, 1) := by decide +kernel
theorem dX9_init_155 : decode cX9_init 155 = .ok (.iconst 5, 1) := by decide +kernel
theorem dX9_init_156 : decode cX9_init 156 = .ok (.newarray .int, 2) := by decide +kernel
theorem dX9_init_158 : decode cX9_init 158 = .ok (.putfield 70, 3) := by decide +kernel
theorem dX9_init_161 : decode cX9_init 161 = .ok (.aload_n 0, 1) := by decide +kernel
theorem dX9_init_162 : decode cX9_init 162 = .ok (.iconst 5, 1) := by decide +kernel
theorem dX9_init_163 : decode cX9_init 163 = .ok (.bipush 64, 2) := by decide +kernel
theorem dX9_init_165 : decode cX9_init 165 = .ok (.multianewarray 73 2, 4) := by decide +kernel
theorem dX9_init_169 : decode cX9_init 169 = .ok (.putfield 75, 3) := by decide +kernel
theorem dX9_init_172 : decode cX9_init 172 = .ok (.aload_n 0, 1) := by decide +kernel
theorem dX9_init_173 : decode cX9_init 173 = .ok (.sipush 320, 3) := by decide +kernel
theorem dX9_init_176 : decode cX9_init 176 = .ok (.newarray .boolean, 2) := by decide +kernel
theorem dX9_init_178 : decode cX9_init 178 = .ok (.putfield 78, 3) := by decide +kernel
theorem dX9_init_181 : decode cX9_init 181 = .ok (.aload_n 0, 1) := by decide +kernel
theorem dX9_init_182 : decode cX9_init 182 = .ok (.bipush 10, 2) := by decide +kernel
theorem dX9_init_184 : decode cX9_init 184 = .ok (.newarray .boolean, 2) := by decide +kernel
theorem dX9_init_186 : decode cX9_init 186 = .ok (.putfield 81, 3) := by decide +kernel
theorem dX9_init_189 : decode cX9_init 189 = .ok (.aload_n 0, 1) := by decide +kernel
theorem dX9_init_190 : decode cX9_init 190 = .ok (.bipush 6, 2) := by decide +kernel
theorem dX9_init_192 : decode cX9_init 192 = .ok (.newarray .int, 2) := by decide +kernel
theorem dX9_init_194 : decode cX9_init 194 = .ok (.putfield 84, 3) := by decide +kernel
theorem dX9_init_197 : decode cX9_init 197 = .ok (.aload_n 0, 1) := by decide +kernel
theorem dX9_init_198 : decode cX9_init 198 = .ok (.sipush 384, 3) := by decide +kernel
theorem dX9_init_201 : decode cX9_init 201 = .ok (.newarray .int, 2) := by decide +kernel
theorem dX9_init_203 : decode cX9_init 203 = .ok (.putfield 87, 3) := by decide +kernel
theorem dX9_init_206 : decode cX9_init 206 = .ok (.aload_n 0, 1) := by decide +kernel
theorem dX9_init_207 : decode cX9_init 207 = .ok (.iconst 3, 1) := by decide +kernel
theorem dX9_init_208 : decode cX9_init 208 = .ok (.newarray .int, 2) := by decide +kernel
theorem dX9_init_210 : decode cX9_init 210 = .ok (.putfield 90, 3) := by decide +kernel
theorem dX9_init_213 : decode cX9_init 213 = .ok (.aload_n 0, 1) := by decide +kernel
theorem dX9_init_214 : decode cX9_init 214 = .ok (.sipush 384, 3) := by decide +kernel
theorem dX9_init_217 : decode cX9_init 217 = .ok (.newarray .boolean, 2) := by decide +kernel
theorem dX9_init_219 : decode cX9_init 219 = .ok (.putfield 93, 3) := by decide +kernel
theorem dX9_init_222 : decode cX9_init 222 = .ok (.return_, 1) := by decide +kernel
theorem dX9_thrown_0 : decode cX9_thrown 0 = .ok (.aload_n 0, 1) := by decide +kernel
theorem dX9_thrown_1 : decode cX9_thrown 1 = .ok (.getfield 96, 3) := by decide +kernel
theorem dX9_thrown_4 : decode cX9_thrown 4 = .ok (.ireturn, 1) := by decide +kernel
theorem dX9_isIn_0 : decode cX9_isIn 0 = .ok (.iload_n 0, 1) := by decide +kernel
theorem dX9_isIn_1 : decode cX9_isIn 1 = .ok (.iload_n 1, 1) := by decide +kernel
theorem dX9_isIn_2 : decode cX9_isIn 2 = .ok (.if_icmp .lt 12, 3) := by decide +kernel
theorem dX9_isIn_5 : decode cX9_isIn 5 = .ok (.iload_n 0, 1) := by decide +kernel
theorem dX9_isIn_6 : decode cX9_isIn 6 = .ok (.iload_n 2, 1) := by decide +kernel
theorem dX9_isIn_7 : decode cX9_isIn 7 = .ok (.if_icmp .gt 7, 3) := by decide +kernel
theorem dX9_isIn_10 : decode cX9_isIn 10 = .ok (.iconst 1, 1) := by decide +kernel
theorem dX9_isIn_11 : decode cX9_isIn 11 = .ok (.goto 4, 3) := by decide +kernel
theorem dX9_isIn_14 : decode cX9_isIn 14 = .ok (.iconst 0, 1) := by decide +kernel
theorem dX9_isIn_15 : decode cX9_isIn 15 = .ok (.ireturn, 1) := by decide +kernel
theorem dX9_isThrown_0 : decode cX9_isThrown 0 = .ok (.aload_n 0, 1) := by decide +kernel
theorem dX9_isThrown_1 : decode cX9_isThrown 1 = .ok (.iload_n 1, 1) := by decide +kernel
theorem dX9_isThrown_2 : decode cX9_isThrown 2 = .ok (.ifCond .eq 7, 3) := by decide +kernel
theorem dX9_isThrown_5 : decode cX9_isThrown 5 = .ok (.iload_n 2, 1) := by decide +kernel
theorem dX9_isThrown_6 : decode cX9_isThrown 6 = .ok (.goto 4, 3) := by decide +kernel
theorem dX9_isThrown_9 : decode cX9_isThrown 9 = .ok (.iconst 0, 1) := by decide +kernel
theorem dX9_isThrown_10 : decode cX9_isThrown 10 = .ok (.putfield 96, 3) := by decide +kernel
theorem dX9_isThrown_13 : decode cX9_isThrown 13 = .ok (.iload_n 1, 1) := by decide +kernel
theorem dX9_isThrown_14 : decode cX9_isThrown 14 = .ok (.ireturn, 1) := by decide +kernel
theorem dX9_isNo_0 : decode cX9_isNo 0 = .ok (.aload_n 0, 1) := by decide +kernel
theorem dX9_isNo_1 : decode cX9_isNo 1 = .ok (.iload_n 1, 1) := by decide +kernel
theorem dX9_isNo_2 : decode cX9_isNo 2 = .ok (.iconst 0, 1) := by decide +kernel
theorem dX9_isNo_3 : decode cX9_isNo 3 = .ok (.iload_n 2, 1) := by decide +kernel
theorem dX9_isNo_4 : decode cX9_isNo 4 = .ok (.iconst 1, 1) := by decide +kernel
theorem dX9_isNo_5 : decode cX9_isNo 5 = .ok (.isub, 1) := by decide +kernel
theorem dX9_isNo_6 : decode cX9_isNo 6 = .ok (.invokestatic 99, 3) := by decide +kernel
theorem dX9_isNo_9 : decode cX9_isNo 9 = .ok (.ifCond .ne 7, 3) := by decide +kernel
theorem dX9_isNo_12 : decode cX9_isNo 12 = .ok (.iconst 1, 1) := by decide +kernel
theorem dX9_isNo_13 : decode cX9_isNo 13 = .ok (.goto 4, 3) := by decide +kernel
theorem dX9_isNo_16 : decode cX9_isNo 16 = .ok (.iconst 0, 1) := by decide +kernel
theorem dX9_isNo_17 : decode cX9_isNo 17 = .ok (.iconst 1, 1) := by decide +kernel
theorem dX9_isNo_18 : decode cX9_isNo 18 = .ok (.invokevirtual 103, 3) := by decide +kernel
theorem dX9_isNo_21 : decode cX9_isNo 21 = .ok (.ireturn, 1) := by decide +kernel
theorem dX9_isOfFact_0 : decode cX9_isOfFact 0 = .ok (.iload_n 0, 1) := by decide +kernel
theorem dX9_isOfFact_1 : decode cX9_isOfFact 1 = .ok (.bipush 104, 2) := by decide +kernel
theorem dX9_isOfFact_3 : decode cX9_isOfFact 3 = .ok (.if_icmp .eq 9, 3) := by decide +kernel
theorem dX9_isOfFact_6 : decode cX9_isOfFact 6 = .ok (.iload_n 0, 1) := by decide +kernel
theorem dX9_isOfFact_7 : decode cX9_isOfFact 7 = .ok (.bipush 117, 2) := by decide +kernel
theorem dX9_isOfFact_9 : decode cX9_isOfFact 9 = .ok (.if_icmp .ne 7, 3) := by decide +kernel
theorem dX9_isOfFact_12 : decode cX9_isOfFact 12 = .ok (.iconst 1, 1) := by decide +kernel
theorem dX9_isOfFact_13 : decode cX9_isOfFact 13 = .ok (.goto 4, 3) := by decide +kernel
theorem dX9_isOfFact_16 : decode cX9_isOfFact 16 = .ok (.iconst 0, 1) := by decide +kernel
theorem dX9_isOfFact_17 : decode cX9_isOfFact 17 = .ok (.ireturn, 1) := by decide +kernel
theorem dX9_isTold_0 : decode cX9_isTold 0 = .ok (.iconst 0, 1) := by decide +kernel
theorem dX9_isTold_1 : decode cX9_isTold 1 = .ok (.istore 5, 2) := by decide +kernel
theorem dX9_isTold_3 : decode cX9_isTold 3 = .ok (.iload_n 1, 1) := by decide +kernel
theorem dX9_isTold_4 : decode cX9_isTold 4 = .ok (.bipush 60, 2) := by decide +kernel
theorem dX9_isTold_6 : decode cX9_isTold 6 = .ok (.imul, 1) := by decide +kernel
theorem dX9_isTold_7 : decode cX9_isTold 7 = .ok (.istore 6, 2) := by decide +kernel
theorem dX9_isTold_9 : decode cX9_isTold 9 = .ok (.iload 6, 2) := by decide +kernel
theorem dX9_isTold_11 : decode cX9_isTold 11 = .ok (.iload_n 1, 1) := by decide +kernel
theorem dX9_isTold_12 : decode cX9_isTold 12 = .ok (.bipush 60, 2) := by decide +kernel
theorem dX9_isTold_14 : decode cX9_isTold 14 = .ok (.imul, 1) := by decide +kernel
theorem dX9_isTold_15 : decode cX9_isTold 15 = .ok (.iload_n 2, 1) := by decide +kernel
theorem dX9_isTold_16 : decode cX9_isTold 16 = .ok (.iadd, 1) := by decide +kernel
theorem dX9_isTold_17 : decode cX9_isTold 17 = .ok (.if_icmp .ge 101, 3) := by decide +kernel
theorem dX9_isTold_20 : decode cX9_isTold 20 = .ok (.aload_n 0, 1) := by decide +kernel
theorem dX9_isTold_21 : decode cX9_isTold 21 = .ok (.getfield 9, 3) := by decide +kernel
theorem dX9_isTold_24 : decode cX9_isTold 24 = .ok (.iload 6, 2) := by decide +kernel
theorem dX9_isTold_26 : decode cX9_isTold 26 = .ok (.caload, 1) := by decide +kernel
theorem dX9_isTold_27 : decode cX9_isTold 27 = .ok (.invokestatic 107, 3) := by decide +kernel
theorem dX9_isTold_30 : decode cX9_isTold 30 = .ok (.ifCond .eq 50, 3) := by decide +kernel
theorem dX9_isTold_33 : decode cX9_isTold 33 = .ok (.aload_n 0, 1) := by decide +kernel
theorem dX9_isTold_34 : decode cX9_isTold 34 = .ok (.getfield 13, 3) := by decide +kernel
theorem dX9_isTold_37 : decode cX9_isTold 37 = .ok (.iload 6, 2) := by decide +kernel
theorem dX9_isTold_39 : decode cX9_isTold 39 = .ok (.iaload, 1) := by decide +kernel
theorem dX9_isTold_40 : decode cX9_isTold 40 = .ok (.iload 4, 2) := by decide +kernel
theorem dX9_isTold_42 : decode cX9_isTold 42 = .ok (.if_icmp .ne 38, 3) := by decide +kernel
theorem dX9_isTold_45 : decode cX9_isTold 45 = .ok (.iload_n 3, 1) := by decide +kernel
theorem dX9_isTold_46 : decode cX9_isTold 46 = .ok (.aload_n 0, 1) := by decide +kernel
theorem dX9_isTold_47 : decode cX9_isTold 47 = .ok (.getfield 17, 3) := by decide +kernel
theorem dX9_isTold_50 : decode cX9_isTold 50 = .ok (.iload 6, 2) := by decide +kernel
theorem dX9_isTold_52 : decode cX9_isTold 52 = .ok (.iaload, 1) := by decide +kernel
theorem dX9_isTold_53 : decode cX9_isTold 53 = .ok (.aload_n 0, 1) := by decide +kernel
theorem dX9_isTold_54 : decode cX9_isTold 54 = .ok (.getfield 20, 3) := by decide +kernel
theorem dX9_isTold_57 : decode cX9_isTold 57 = .ok (.iload 6, 2) := by decide +kernel
theorem dX9_isTold_59 : decode cX9_isTold 59 = .ok (.iaload, 1) := by decide +kernel
theorem dX9_isTold_60 : decode cX9_isTold 60 = .ok (.invokestatic 99, 3) := by decide +kernel
theorem dX9_isTold_63 : decode cX9_isTold 63 = .ok (.ifCond .eq 17, 3) := by decide +kernel
theorem dX9_isTold_66 : decode cX9_isTold 66 = .ok (.aload_n 0, 1) := by decide +kernel
theorem dX9_isTold_67 : decode cX9_isTold 67 = .ok (.getfield 26, 3) := by decide +kernel
theorem dX9_isTold_70 : decode cX9_isTold 70 = .ok (.iload 6, 2) := by decide +kernel
theorem dX9_isTold_72 : decode cX9_isTold 72 = .ok (.baload, 1) := by decide +kernel
theorem dX9_isTold_73 : decode cX9_isTold 73 = .ok (.ifCond .ne 7, 3) := by decide +kernel
theorem dX9_isTold_76 : decode cX9_isTold 76 = .ok (.iconst 1, 1) := by decide +kernel
theorem dX9_isTold_77 : decode cX9_isTold 77 = .ok (.goto 4, 3) := by decide +kernel
theorem dX9_isTold_80 : decode cX9_isTold 80 = .ok (.iconst 0, 1) := by decide +kernel
theorem dX9_isTold_81 : decode cX9_isTold 81 = .ok (.istore 7, 2) := by decide +kernel
theorem dX9_isTold_83 : decode cX9_isTold 83 = .ok (.iload 7, 2) := by decide +kernel
theorem dX9_isTold_85 : decode cX9_isTold 85 = .ok (.ifCond .eq 23, 3) := by decide +kernel
theorem dX9_isTold_88 : decode cX9_isTold 88 = .ok (.aload_n 0, 1) := by decide +kernel
theorem dX9_isTold_89 : decode cX9_isTold 89 = .ok (.getfield 9, 3) := by decide +kernel
theorem dX9_isTold_92 : decode cX9_isTold 92 = .ok (.iload 6, 2) := by decide +kernel
theorem dX9_isTold_94 : decode cX9_isTold 94 = .ok (.caload, 1) := by decide +kernel
theorem dX9_isTold_95 : decode cX9_isTold 95 = .ok (.bipush 104, 2) := by decide +kernel
theorem dX9_isTold_97 : decode cX9_isTold 97 = .ok (.if_icmp .ne 7, 3) := by decide +kernel
theorem dX9_isTold_100 : decode cX9_isTold 100 = .ok (.iconst 1, 1) := by decide +kernel
theorem dX9_isTold_101 : decode cX9_isTold 101 = .ok (.goto 9, 3) := by decide +kernel
theorem dX9_isTold_104 : decode cX9_isTold 104 = .ok (.iconst 0, 1) := by decide +kernel
theorem dX9_isTold_105 : decode cX9_isTold 105 = .ok (.goto 5, 3) := by decide +kernel
theorem dX9_isTold_108 : decode cX9_isTold 108 = .ok (.iload 5, 2) := by decide +kernel
theorem dX9_isTold_110 : decode cX9_isTold 110 = .ok (.istore 5, 2) := by decide +kernel
theorem dX9_isTold_112 : decode cX9_isTold 112 = .ok (.iinc 6 1, 3) := by decide +kernel
theorem dX9_isTold_115 : decode cX9_isTold 115 = .ok (.goto (-106), 3) := by decide +kernel
theorem dX9_isTold_118 : decode cX9_isTold 118 = .ok (.iload 5, 2) := by decide +kernel
theorem dX9_isTold_120 : decode cX9_isTold 120 = .ok (.ireturn, 1) := by decide +kernel
theorem dX9_turnsOn_0 : decode cX9_turnsOn 0 = .ok (.iconst 0, 1) := by decide +kernel
theorem dX9_turnsOn_1 : decode cX9_turnsOn 1 = .ok (.istore_n 3, 1) := by decide +kernel
theorem dX9_turnsOn_2 : decode cX9_turnsOn 2 = .ok (.iload_n 3, 1) := by decide +kernel
theorem dX9_turnsOn_3 : decode cX9_turnsOn 3 = .ok (.bipush 10, 2) := by decide +kernel
theorem dX9_turnsOn_5 : decode cX9_turnsOn 5 = .ok (.if_icmp .ge 16, 3) := by decide +kernel
theorem dX9_turnsOn_8 : decode cX9_turnsOn 8 = .ok (.aload_n 0, 1) := by decide +kernel
theorem dX9_turnsOn_9 : decode cX9_turnsOn 9 = .ok (.getfield 81, 3) := by decide +kernel
theorem dX9_turnsOn_12 : decode cX9_turnsOn 12 = .ok (.iload_n 3, 1) := by decide +kernel
theorem dX9_turnsOn_13 : decode cX9_turnsOn 13 = .ok (.iconst 0, 1) := by decide +kernel
theorem dX9_turnsOn_14 : decode cX9_turnsOn 14 = .ok (.bastore, 1) := by decide +kernel
theorem dX9_turnsOn_15 : decode cX9_turnsOn 15 = .ok (.iinc 3 1, 3) := by decide +kernel
theorem dX9_turnsOn_18 : decode cX9_turnsOn 18 = .ok (.goto (-16), 3) := by decide +kernel
theorem dX9_turnsOn_21 : decode cX9_turnsOn 21 = .ok (.iload_n 1, 1) := by decide +kernel
theorem dX9_turnsOn_22 : decode cX9_turnsOn 22 = .ok (.bipush 60, 2) := by decide +kernel
theorem dX9_turnsOn_24 : decode cX9_turnsOn 24 = .ok (.imul, 1) := by decide +kernel
theorem dX9_turnsOn_25 : decode cX9_turnsOn 25 = .ok (.istore_n 3, 1) := by decide +kernel
theorem dX9_turnsOn_26 : decode cX9_turnsOn 26 = .ok (.iload_n 3, 1) := by decide +kernel
theorem dX9_turnsOn_27 : decode cX9_turnsOn 27 = .ok (.iload_n 1, 1) := by decide +kernel
theorem dX9_turnsOn_28 : decode cX9_turnsOn 28 = .ok (.bipush 60, 2) := by decide +kernel
theorem dX9_turnsOn_30 : decode cX9_turnsOn 30 = .ok (.imul, 1) := by decide +kernel
theorem dX9_turnsOn_31 : decode cX9_turnsOn 31 = .ok (.iload_n 2, 1) := by decide +kernel
theorem dX9_turnsOn_32 : decode cX9_turnsOn 32 = .ok (.iadd, 1) := by decide +kernel
theorem dX9_turnsOn_33 : decode cX9_turnsOn 33 = .ok (.if_icmp .ge 48, 3) := by decide +kernel
theorem dX9_turnsOn_36 : decode cX9_turnsOn 36 = .ok (.aload_n 0, 1) := by decide +kernel
theorem dX9_turnsOn_37 : decode cX9_turnsOn 37 = .ok (.getfield 9, 3) := by decide +kernel
theorem dX9_turnsOn_40 : decode cX9_turnsOn 40 = .ok (.iload_n 3, 1) := by decide +kernel
theorem dX9_turnsOn_41 : decode cX9_turnsOn 41 = .ok (.caload, 1) := by decide +kernel
theorem dX9_turnsOn_42 : decode cX9_turnsOn 42 = .ok (.invokestatic 107, 3) := by decide +kernel
theorem dX9_turnsOn_45 : decode cX9_turnsOn 45 = .ok (.ifCond .ne 30, 3) := by decide +kernel
theorem dX9_turnsOn_48 : decode cX9_turnsOn 48 = .ok (.aload_n 0, 1) := by decide +kernel
theorem dX9_turnsOn_49 : decode cX9_turnsOn 49 = .ok (.getfield 81, 3) := by decide +kernel
theorem dX9_turnsOn_52 : decode cX9_turnsOn 52 = .ok (.aload_n 0, 1) := by decide +kernel
theorem dX9_turnsOn_53 : decode cX9_turnsOn 53 = .ok (.getfield 13, 3) := by decide +kernel
theorem dX9_turnsOn_56 : decode cX9_turnsOn 56 = .ok (.iload_n 3, 1) := by decide +kernel
theorem dX9_turnsOn_57 : decode cX9_turnsOn 57 = .ok (.iaload, 1) := by decide +kernel
theorem dX9_turnsOn_58 : decode cX9_turnsOn 58 = .ok (.aload_n 0, 1) := by decide +kernel
theorem dX9_turnsOn_59 : decode cX9_turnsOn 59 = .ok (.getfield 9, 3) := by decide +kernel
theorem dX9_turnsOn_62 : decode cX9_turnsOn 62 = .ok (.iload_n 3, 1) := by decide +kernel
theorem dX9_turnsOn_63 : decode cX9_turnsOn 63 = .ok (.caload, 1) := by decide +kernel
theorem dX9_turnsOn_64 : decode cX9_turnsOn 64 = .ok (.bipush 110, 2) := by decide +kernel
theorem dX9_turnsOn_66 : decode cX9_turnsOn 66 = .ok (.if_icmp .ne 7, 3) := by decide +kernel
theorem dX9_turnsOn_69 : decode cX9_turnsOn 69 = .ok (.iconst 1, 1) := by decide +kernel
theorem dX9_turnsOn_70 : decode cX9_turnsOn 70 = .ok (.goto 4, 3) := by decide +kernel
theorem dX9_turnsOn_73 : decode cX9_turnsOn 73 = .ok (.iconst 0, 1) := by decide +kernel
theorem dX9_turnsOn_74 : decode cX9_turnsOn 74 = .ok (.bastore, 1) := by decide +kernel
theorem dX9_turnsOn_75 : decode cX9_turnsOn 75 = .ok (.iinc 3 1, 3) := by decide +kernel
theorem dX9_turnsOn_78 : decode cX9_turnsOn 78 = .ok (.goto (-52), 3) := by decide +kernel
theorem dX9_turnsOn_81 : decode cX9_turnsOn 81 = .ok (.return_, 1) := by decide +kernel
theorem dX9_layers_0 : decode cX9_layers 0 = .ok (.iconst 0, 1) := by decide +kernel
theorem dX9_layers_1 : decode cX9_layers 1 = .ok (.istore_n 1, 1) := by decide +kernel
theorem dX9_layers_2 : decode cX9_layers 2 = .ok (.iload_n 1, 1) := by decide +kernel
theorem dX9_layers_3 : decode cX9_layers 3 = .ok (.bipush 6, 2) := by decide +kernel
theorem dX9_layers_5 : decode cX9_layers 5 = .ok (.if_icmp .ge 16, 3) := by decide +kernel
theorem dX9_layers_8 : decode cX9_layers 8 = .ok (.aload_n 0, 1) := by decide +kernel
theorem dX9_layers_9 : decode cX9_layers 9 = .ok (.getfield 84, 3) := by decide +kernel
theorem dX9_layers_12 : decode cX9_layers 12 = .ok (.iload_n 1, 1) := by decide +kernel
theorem dX9_layers_13 : decode cX9_layers 13 = .ok (.iconst 0, 1) := by decide +kernel
theorem dX9_layers_14 : decode cX9_layers 14 = .ok (.iastore, 1) := by decide +kernel
theorem dX9_layers_15 : decode cX9_layers 15 = .ok (.iinc 1 1, 3) := by decide +kernel
theorem dX9_layers_18 : decode cX9_layers 18 = .ok (.goto (-16), 3) := by decide +kernel
theorem dX9_layers_21 : decode cX9_layers 21 = .ok (.iconst 1, 1) := by decide +kernel
theorem dX9_layers_22 : decode cX9_layers 22 = .ok (.istore_n 1, 1) := by decide +kernel
theorem dX9_layers_23 : decode cX9_layers 23 = .ok (.iload_n 1, 1) := by decide +kernel
theorem dX9_layers_24 : decode cX9_layers 24 = .ok (.ifCond .eq 167, 3) := by decide +kernel
theorem dX9_layers_27 : decode cX9_layers 27 = .ok (.iconst 0, 1) := by decide +kernel
theorem dX9_layers_28 : decode cX9_layers 28 = .ok (.istore_n 1, 1) := by decide +kernel
theorem dX9_layers_29 : decode cX9_layers 29 = .ok (.iconst 0, 1) := by decide +kernel
theorem dX9_layers_30 : decode cX9_layers 30 = .ok (.istore_n 2, 1) := by decide +kernel
theorem dX9_layers_31 : decode cX9_layers 31 = .ok (.iload_n 2, 1) := by decide +kernel
theorem dX9_layers_32 : decode cX9_layers 32 = .ok (.aload_n 0, 1) := by decide +kernel
theorem dX9_layers_33 : decode cX9_layers 33 = .ok (.getfield 111, 3) := by decide +kernel
theorem dX9_layers_36 : decode cX9_layers 36 = .ok (.if_icmp .ge 152, 3) := by decide +kernel
theorem dX9_layers_39 : decode cX9_layers 39 = .ok (.iconst 0, 1) := by decide +kernel
theorem dX9_layers_40 : decode cX9_layers 40 = .ok (.istore_n 3, 1) := by decide +kernel
theorem dX9_layers_41 : decode cX9_layers 41 = .ok (.iload_n 3, 1) := by decide +kernel
theorem dX9_layers_42 : decode cX9_layers 42 = .ok (.aload_n 0, 1) := by decide +kernel
theorem dX9_layers_43 : decode cX9_layers 43 = .ok (.getfield 55, 3) := by decide +kernel
theorem dX9_layers_46 : decode cX9_layers 46 = .ok (.iload_n 2, 1) := by decide +kernel
theorem dX9_layers_47 : decode cX9_layers 47 = .ok (.iaload, 1) := by decide +kernel
theorem dX9_layers_48 : decode cX9_layers 48 = .ok (.if_icmp .ge 114, 3) := by decide +kernel
theorem dX9_layers_51 : decode cX9_layers 51 = .ok (.aload_n 0, 1) := by decide +kernel
theorem dX9_layers_52 : decode cX9_layers 52 = .ok (.getfield 81, 3) := by decide +kernel
theorem dX9_layers_55 : decode cX9_layers 55 = .ok (.iload_n 2, 1) := by decide +kernel
theorem dX9_layers_56 : decode cX9_layers 56 = .ok (.baload, 1) := by decide +kernel
theorem dX9_layers_57 : decode cX9_layers 57 = .ok (.ifCond .eq 105, 3) := by decide +kernel
theorem dX9_layers_60 : decode cX9_layers 60 = .ok (.aload_n 0, 1) := by decide +kernel
theorem dX9_layers_61 : decode cX9_layers 61 = .ok (.getfield 84, 3) := by decide +kernel
theorem dX9_layers_64 : decode cX9_layers 64 = .ok (.aload_n 0, 1) := by decide +kernel
theorem dX9_layers_65 : decode cX9_layers 65 = .ok (.getfield 52, 3) := by decide +kernel
theorem dX9_layers_68 : decode cX9_layers 68 = .ok (.bipush 9, 2) := by decide +kernel
theorem dX9_layers_70 : decode cX9_layers 70 = .ok (.iload_n 2, 1) := by decide +kernel
theorem dX9_layers_71 : decode cX9_layers 71 = .ok (.imul, 1) := by decide +kernel
theorem dX9_layers_72 : decode cX9_layers 72 = .ok (.iconst 3, 1) := by decide +kernel
theorem dX9_layers_73 : decode cX9_layers 73 = .ok (.iload_n 3, 1) := by decide +kernel
theorem dX9_layers_74 : decode cX9_layers 74 = .ok (.imul, 1) := by decide +kernel
theorem dX9_layers_75 : decode cX9_layers 75 = .ok (.iadd, 1) := by decide +kernel
theorem dX9_layers_76 : decode cX9_layers 76 = .ok (.iaload, 1) := by decide +kernel
theorem dX9_layers_77 : decode cX9_layers 77 = .ok (.iaload, 1) := by decide +kernel
theorem dX9_layers_78 : decode cX9_layers 78 = .ok (.aload_n 0, 1) := by decide +kernel
theorem dX9_layers_79 : decode cX9_layers 79 = .ok (.getfield 58, 3) := by decide +kernel
theorem dX9_layers_82 : decode cX9_layers 82 = .ok (.iconst 3, 1) := by decide +kernel
theorem dX9_layers_83 : decode cX9_layers 83 = .ok (.iload_n 2, 1) := by decide +kernel
theorem dX9_layers_84 : decode cX9_layers 84 = .ok (.imul, 1) := by decide +kernel
theorem dX9_layers_85 : decode cX9_layers 85 = .ok (.iload_n 3, 1) := by decide +kernel
theorem dX9_layers_86 : decode cX9_layers 86 = .ok (.iadd, 1) := by decide +kernel
theorem dX9_layers_87 : decode cX9_layers 87 = .ok (.baload, 1) := by decide +kernel
theorem dX9_layers_88 : decode cX9_layers 88 = .ok (.ifCond .eq 7, 3) := by decide +kernel
theorem dX9_layers_91 : decode cX9_layers 91 = .ok (.iconst 1, 1) := by decide +kernel
theorem dX9_layers_92 : decode cX9_layers 92 = .ok (.goto 4, 3) := by decide +kernel
theorem dX9_layers_95 : decode cX9_layers 95 = .ok (.iconst 0, 1) := by decide +kernel
theorem dX9_layers_96 : decode cX9_layers 96 = .ok (.iadd, 1) := by decide +kernel
theorem dX9_layers_97 : decode cX9_layers 97 = .ok (.istore 4, 2) := by decide +kernel
theorem dX9_layers_99 : decode cX9_layers 99 = .ok (.iload_n 1, 1) := by decide +kernel
theorem dX9_layers_100 : decode cX9_layers 100 = .ok (.aload_n 0, 1) := by decide +kernel
theorem dX9_layers_101 : decode cX9_layers 101 = .ok (.getfield 84, 3) := by decide +kernel
theorem dX9_layers_104 : decode cX9_layers 104 = .ok (.aload_n 0, 1) := by decide +kernel
theorem dX9_layers_105 : decode cX9_layers 105 = .ok (.getfield 49, 3) := by decide +kernel
theorem dX9_layers_108 : decode cX9_layers 108 = .ok (.iconst 3, 1) := by decide +kernel
theorem dX9_layers_109 : decode cX9_layers 109 = .ok (.iload_n 2, 1) := by decide +kernel
theorem dX9_layers_110 : decode cX9_layers 110 = .ok (.imul, 1) := by decide +kernel
theorem dX9_layers_111 : decode cX9_layers 111 = .ok (.iaload, 1) := by decide +kernel
theorem dX9_layers_112 : decode cX9_layers 112 = .ok (.iaload, 1) := by decide +kernel
theorem dX9_layers_113 : decode cX9_layers 113 = .ok (.iload 4, 2) := by decide +kernel
theorem dX9_layers_115 : decode cX9_layers 115 = .ok (.if_icmp .ge 7, 3) := by decide +kernel
theorem dX9_layers_118 : decode cX9_layers 118 = .ok (.iconst 1, 1) := by decide +kernel
theorem dX9_layers_119 : decode cX9_layers 119 = .ok (.goto 4, 3) := by decide +kernel
theorem dX9_layers_122 : decode cX9_layers 122 = .ok (.iconst 0, 1) := by decide +kernel
theorem dX9_layers_123 : decode cX9_layers 123 = .ok (.ior, 1) := by decide +kernel
theorem dX9_layers_124 : decode cX9_layers 124 = .ok (.istore_n 1, 1) := by decide +kernel
theorem dX9_layers_125 : decode cX9_layers 125 = .ok (.aload_n 0, 1) := by decide +kernel
theorem dX9_layers_126 : decode cX9_layers 126 = .ok (.getfield 84, 3) := by decide +kernel
theorem dX9_layers_129 : decode cX9_layers 129 = .ok (.aload_n 0, 1) := by decide +kernel
theorem dX9_layers_130 : decode cX9_layers 130 = .ok (.getfield 49, 3) := by decide +kernel
theorem dX9_layers_133 : decode cX9_layers 133 = .ok (.iconst 3, 1) := by decide +kernel
theorem dX9_layers_134 : decode cX9_layers 134 = .ok (.iload_n 2, 1) := by decide +kernel
theorem dX9_layers_135 : decode cX9_layers 135 = .ok (.imul, 1) := by decide +kernel
theorem dX9_layers_136 : decode cX9_layers 136 = .ok (.iaload, 1) := by decide +kernel
theorem dX9_layers_137 : decode cX9_layers 137 = .ok (.aload_n 0, 1) := by decide +kernel
theorem dX9_layers_138 : decode cX9_layers 138 = .ok (.getfield 84, 3) := by decide +kernel
theorem dX9_layers_141 : decode cX9_layers 141 = .ok (.aload_n 0, 1) := by decide +kernel
theorem dX9_layers_142 : decode cX9_layers 142 = .ok (.getfield 49, 3) := by decide +kernel
theorem dX9_layers_145 : decode cX9_layers 145 = .ok (.iconst 3, 1) := by decide +kernel
theorem dX9_layers_146 : decode cX9_layers 146 = .ok (.iload_n 2, 1) := by decide +kernel
theorem dX9_layers_147 : decode cX9_layers 147 = .ok (.imul, 1) := by decide +kernel
theorem dX9_layers_148 : decode cX9_layers 148 = .ok (.iaload, 1) := by decide +kernel
theorem dX9_layers_149 : decode cX9_layers 149 = .ok (.iaload, 1) := by decide +kernel
theorem dX9_layers_150 : decode cX9_layers 150 = .ok (.iload 4, 2) := by decide +kernel
theorem dX9_layers_152 : decode cX9_layers 152 = .ok (.invokestatic 114, 3) := by decide +kernel
theorem dX9_layers_155 : decode cX9_layers 155 = .ok (.iastore, 1) := by decide +kernel
theorem dX9_layers_156 : decode cX9_layers 156 = .ok (.iinc 3 1, 3) := by decide +kernel
theorem dX9_layers_159 : decode cX9_layers 159 = .ok (.goto (-118), 3) := by decide +kernel
theorem dX9_layers_162 : decode cX9_layers 162 = .ok (.aload_n 0, 1) := by decide +kernel
