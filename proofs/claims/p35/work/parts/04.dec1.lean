theorem dX0_init_0 : decode cX0_init 0 = .ok (.aload_n 0, 1) := by decide +kernel
theorem dX0_init_1 : decode cX0_init 1 = .ok (.invokespecial 3, 3) := by decide +kernel
theorem dX0_init_4 : decode cX0_init 4 = .ok (.aload_n 0, 1) := by decide +kernel
theorem dX0_init_5 : decode cX0_init 5 = .ok (.bipush 60, 2) := by decide +kernel
theorem dX0_init_7 : decode cX0_init 7 = .ok (.anewarray 9, 3) := by decide +kernel
theorem dX0_init_10 : decode cX0_init 10 = .ok (.putfield 11, 3) := by decide +kernel
theorem dX0_init_13 : decode cX0_init 13 = .ok (.aload_n 0, 1) := by decide +kernel
theorem dX0_init_14 : decode cX0_init 14 = .ok (.bipush 61, 2) := by decide +kernel
theorem dX0_init_16 : decode cX0_init 16 = .ok (.newarray .int, 2) := by decide +kernel
theorem dX0_init_18 : decode cX0_init 18 = .ok (.putfield 17, 3) := by decide +kernel
theorem dX0_init_21 : decode cX0_init 21 = .ok (.aload_n 0, 1) := by decide +kernel
theorem dX0_init_22 : decode cX0_init 22 = .ok (.bipush 24, 2) := by decide +kernel
theorem dX0_init_24 : decode cX0_init 24 = .ok (.anewarray 21, 3) := by decide +kernel
theorem dX0_init_27 : decode cX0_init 27 = .ok (.putfield 23, 3) := by decide +kernel
theorem dX0_init_30 : decode cX0_init 30 = .ok (.aload_n 0, 1) := by decide +kernel
theorem dX0_init_31 : decode cX0_init 31 = .ok (.iconst 0, 1) := by decide +kernel
theorem dX0_init_32 : decode cX0_init 32 = .ok (.putfield 27, 3) := by decide +kernel
theorem dX0_init_35 : decode cX0_init 35 = .ok (.aload_n 0, 1) := by decide +kernel
theorem dX0_init_36 : decode cX0_init 36 = .ok (.iconst 0, 1) := by decide +kernel
theorem dX0_init_37 : decode cX0_init 37 = .ok (.putfield 31, 3) := by decide +kernel
theorem dX0_init_40 : decode cX0_init 40 = .ok (.aload_n 0, 1) := by decide +kernel
theorem dX0_init_41 : decode cX0_init 41 = .ok (.iconst 0, 1) := by decide +kernel
theorem dX0_init_42 : decode cX0_init 42 = .ok (.putfield 34, 3) := by decide +kernel
theorem dX0_init_45 : decode cX0_init 45 = .ok (.aload_n 0, 1) := by decide +kernel
theorem dX0_init_46 : decode cX0_init 46 = .ok (.iconst 0, 1) := by decide +kernel
theorem dX0_init_47 : decode cX0_init 47 = .ok (.putfield 37, 3) := by decide +kernel
theorem dX0_init_50 : decode cX0_init 50 = .ok (.iconst 0, 1) := by decide +kernel
theorem dX0_init_51 : decode cX0_init 51 = .ok (.istore_n 1, 1) := by decide +kernel
theorem dX0_init_52 : decode cX0_init 52 = .ok (.iload_n 1, 1) := by decide +kernel
theorem dX0_init_53 : decode cX0_init 53 = .ok (.bipush 60, 2) := by decide +kernel
theorem dX0_init_55 : decode cX0_init 55 = .ok (.if_icmp .ge 22, 3) := by decide +kernel
theorem dX0_init_58 : decode cX0_init 58 = .ok (.aload_n 0, 1) := by decide +kernel
theorem dX0_init_59 : decode cX0_init 59 = .ok (.getfield 11, 3) := by decide +kernel
theorem dX0_init_62 : decode cX0_init 62 = .ok (.iload_n 1, 1) := by decide +kernel
theorem dX0_init_63 : decode cX0_init 63 = .ok (.new 9, 3) := by decide +kernel
theorem dX0_init_66 : decode cX0_init 66 = .ok (.dup, 1) := by decide +kernel
theorem dX0_init_67 : decode cX0_init 67 = .ok (.invokespecial 40, 3) := by decide +kernel
theorem dX0_init_70 : decode cX0_init 70 = .ok (.aastore, 1) := by decide +kernel
theorem dX0_init_71 : decode cX0_init 71 = .ok (.iinc 1 1, 3) := by decide +kernel
theorem dX0_init_74 : decode cX0_init 74 = .ok (.goto (-22), 3) := by decide +kernel
theorem dX0_init_77 : decode cX0_init 77 = .ok (.iconst 0, 1) := by decide +kernel
theorem dX0_init_78 : decode cX0_init 78 = .ok (.istore_n 1, 1) := by decide +kernel
theorem dX0_init_79 : decode cX0_init 79 = .ok (.iload_n 1, 1) := by decide +kernel
theorem dX0_init_80 : decode cX0_init 80 = .ok (.bipush 24, 2) := by decide +kernel
theorem dX0_init_82 : decode cX0_init 82 = .ok (.if_icmp .ge 22, 3) := by decide +kernel
theorem dX0_init_85 : decode cX0_init 85 = .ok (.aload_n 0, 1) := by decide +kernel
theorem dX0_init_86 : decode cX0_init 86 = .ok (.getfield 23, 3) := by decide +kernel
theorem dX0_init_89 : decode cX0_init 89 = .ok (.iload_n 1, 1) := by decide +kernel
theorem dX0_init_90 : decode cX0_init 90 = .ok (.new 21, 3) := by decide +kernel
theorem dX0_init_93 : decode cX0_init 93 = .ok (.dup, 1) := by decide +kernel
theorem dX0_init_94 : decode cX0_init 94 = .ok (.invokespecial 41, 3) := by decide +kernel
theorem dX0_init_97 : decode cX0_init 97 = .ok (.aastore, 1) := by decide +kernel
theorem dX0_init_98 : decode cX0_init 98 = .ok (.iinc 1 1, 3) := by decide +kernel
theorem dX0_init_101 : decode cX0_init 101 = .ok (.goto (-22), 3) := by decide +kernel
theorem dX0_init_104 : decode cX0_init 104 = .ok (.aload_n 0, 1) := by decide +kernel
theorem dX0_init_105 : decode cX0_init 105 = .ok (.getfield 17, 3) := by decide +kernel
theorem dX0_init_108 : decode cX0_init 108 = .ok (.iconst 0, 1) := by decide +kernel
theorem dX0_init_109 : decode cX0_init 109 = .ok (.iconst 1, 1) := by decide +kernel
theorem dX0_init_110 : decode cX0_init 110 = .ok (.iastore, 1) := by decide +kernel
theorem dX0_init_111 : decode cX0_init 111 = .ok (.return_, 1) := by decide +kernel
theorem dX0_isFull_0 : decode cX0_isFull 0 = .ok (.aload_n 0, 1) := by decide +kernel
theorem dX0_isFull_1 : decode cX0_isFull 1 = .ok (.getfield 27, 3) := by decide +kernel
theorem dX0_isFull_4 : decode cX0_isFull 4 = .ok (.bipush 60, 2) := by decide +kernel
theorem dX0_isFull_6 : decode cX0_isFull 6 = .ok (.if_icmp .lt 7, 3) := by decide +kernel
theorem dX0_isFull_9 : decode cX0_isFull 9 = .ok (.iconst 1, 1) := by decide +kernel
theorem dX0_isFull_10 : decode cX0_isFull 10 = .ok (.goto 4, 3) := by decide +kernel
theorem dX0_isFull_13 : decode cX0_isFull 13 = .ok (.iconst 0, 1) := by decide +kernel
theorem dX0_isFull_14 : decode cX0_isFull 14 = .ok (.ireturn, 1) := by decide +kernel
theorem dX0_append_0 : decode cX0_append 0 = .ok (.aload_n 0, 1) := by decide +kernel
theorem dX0_append_1 : decode cX0_append 1 = .ok (.invokevirtual 42, 3) := by decide +kernel
theorem dX0_append_4 : decode cX0_append 4 = .ok (.ifCond .eq 4, 3) := by decide +kernel
theorem dX0_append_7 : decode cX0_append 7 = .ok (.return_, 1) := by decide +kernel
theorem dX0_append_8 : decode cX0_append 8 = .ok (.aload_n 0, 1) := by decide +kernel
theorem dX0_append_9 : decode cX0_append 9 = .ok (.getfield 11, 3) := by decide +kernel
theorem dX0_append_12 : decode cX0_append 12 = .ok (.aload_n 0, 1) := by decide +kernel
theorem dX0_append_13 : decode cX0_append 13 = .ok (.getfield 27, 3) := by decide +kernel
theorem dX0_append_16 : decode cX0_append 16 = .ok (.aaload, 1) := by decide +kernel
theorem dX0_append_17 : decode cX0_append 17 = .ok (.astore 7, 2) := by decide +kernel
theorem dX0_append_19 : decode cX0_append 19 = .ok (.aload 7, 2) := by decide +kernel
theorem dX0_append_21 : decode cX0_append 21 = .ok (.iload_n 1, 1) := by decide +kernel
theorem dX0_append_22 : decode cX0_append 22 = .ok (.putfield 46, 3) := by decide +kernel
theorem dX0_append_25 : decode cX0_append 25 = .ok (.aload 7, 2) := by decide +kernel
theorem dX0_append_27 : decode cX0_append 27 = .ok (.iload_n 2, 1) := by decide +kernel
theorem dX0_append_28 : decode cX0_append 28 = .ok (.putfield 50, 3) := by decide +kernel
theorem dX0_append_31 : decode cX0_append 31 = .ok (.aload 7, 2) := by decide +kernel
theorem dX0_append_33 : decode cX0_append 33 = .ok (.iload_n 3, 1) := by decide +kernel
theorem dX0_append_34 : decode cX0_append 34 = .ok (.putfield 53, 3) := by decide +kernel
theorem dX0_append_37 : decode cX0_append 37 = .ok (.aload 7, 2) := by decide +kernel
theorem dX0_append_39 : decode cX0_append 39 = .ok (.iload 4, 2) := by decide +kernel
theorem dX0_append_41 : decode cX0_append 41 = .ok (.putfield 56, 3) := by decide +kernel
theorem dX0_append_44 : decode cX0_append 44 = .ok (.aload 7, 2) := by decide +kernel
theorem dX0_append_46 : decode cX0_append 46 = .ok (.iload 5, 2) := by decide +kernel
theorem dX0_append_48 : decode cX0_append 48 = .ok (.putfield 59, 3) := by decide +kernel
theorem dX0_append_51 : decode cX0_append 51 = .ok (.aload 7, 2) := by decide +kernel
theorem dX0_append_53 : decode cX0_append 53 = .ok (.iconst 0, 1) := by decide +kernel
theorem dX0_append_54 : decode cX0_append 54 = .ok (.putfield 62, 3) := by decide +kernel
theorem dX0_append_57 : decode cX0_append 57 = .ok (.aload 7, 2) := by decide +kernel
theorem dX0_append_59 : decode cX0_append 59 = .ok (.iload 6, 2) := by decide +kernel
theorem dX0_append_61 : decode cX0_append 61 = .ok (.putfield 65, 3) := by decide +kernel
theorem dX0_append_64 : decode cX0_append 64 = .ok (.aload 7, 2) := by decide +kernel
theorem dX0_append_66 : decode cX0_append 66 = .ok (.invokevirtual 68, 3) := by decide +kernel
theorem dX0_append_69 : decode cX0_append 69 = .ok (.aload_n 0, 1) := by decide +kernel
theorem dX0_append_70 : decode cX0_append 70 = .ok (.getfield 17, 3) := by decide +kernel
theorem dX0_append_73 : decode cX0_append 73 = .ok (.aload_n 0, 1) := by decide +kernel
theorem dX0_append_74 : decode cX0_append 74 = .ok (.getfield 27, 3) := by decide +kernel
theorem dX0_append_77 : decode cX0_append 77 = .ok (.iconst 1, 1) := by decide +kernel
theorem dX0_append_78 : decode cX0_append 78 = .ok (.iadd, 1) := by decide +kernel
theorem dX0_append_79 : decode cX0_append 79 = .ok (.aload_n 0, 1) := by decide +kernel
theorem dX0_append_80 : decode cX0_append 80 = .ok (.getfield 17, 3) := by decide +kernel
theorem dX0_append_83 : decode cX0_append 83 = .ok (.aload_n 0, 1) := by decide +kernel
theorem dX0_append_84 : decode cX0_append 84 = .ok (.getfield 27, 3) := by decide +kernel
theorem dX0_append_87 : decode cX0_append 87 = .ok (.iaload, 1) := by decide +kernel
theorem dX0_append_88 : decode cX0_append 88 = .ok (.aload 7, 2) := by decide +kernel
theorem dX0_append_90 : decode cX0_append 90 = .ok (.getfield 71, 3) := by decide +kernel
theorem dX0_append_93 : decode cX0_append 93 = .ok (.invokestatic 74, 3) := by decide +kernel
theorem dX0_append_96 : decode cX0_append 96 = .ok (.iastore, 1) := by decide +kernel
theorem dX0_append_97 : decode cX0_append 97 = .ok (.aload_n 0, 1) := by decide +kernel
theorem dX0_append_98 : decode cX0_append 98 = .ok (.dup, 1) := by decide +kernel
theorem dX0_append_99 : decode cX0_append 99 = .ok (.getfield 27, 3) := by decide +kernel
theorem dX0_append_102 : decode cX0_append 102 = .ok (.iconst 1, 1) := by decide +kernel
theorem dX0_append_103 : decode cX0_append 103 = .ok (.iadd, 1) := by decide +kernel
theorem dX0_append_104 : decode cX0_append 104 = .ok (.putfield 27, 3) := by decide +kernel
theorem dX0_append_107 : decode cX0_append 107 = .ok (.return_, 1) := by decide +kernel
theorem dX0_rulesOn_0 : decode cX0_rulesOn 0 = .ok (.iconst 0, 1) := by decide +kernel
theorem dX0_rulesOn_1 : decode cX0_rulesOn 1 = .ok (.istore_n 2, 1) := by decide +kernel
theorem dX0_rulesOn_2 : decode cX0_rulesOn 2 = .ok (.iconst 0, 1) := by decide +kernel
theorem dX0_rulesOn_3 : decode cX0_rulesOn 3 = .ok (.istore_n 3, 1) := by decide +kernel
theorem dX0_rulesOn_4 : decode cX0_rulesOn 4 = .ok (.iload_n 3, 1) := by decide +kernel
theorem dX0_rulesOn_5 : decode cX0_rulesOn 5 = .ok (.iload_n 1, 1) := by decide +kernel
theorem dX0_rulesOn_6 : decode cX0_rulesOn 6 = .ok (.if_icmp .ge 56, 3) := by decide +kernel
theorem dX0_rulesOn_9 : decode cX0_rulesOn 9 = .ok (.aload_n 0, 1) := by decide +kernel
theorem dX0_rulesOn_10 : decode cX0_rulesOn 10 = .ok (.getfield 11, 3) := by decide +kernel
theorem dX0_rulesOn_13 : decode cX0_rulesOn 13 = .ok (.iload_n 3, 1) := by decide +kernel
theorem dX0_rulesOn_14 : decode cX0_rulesOn 14 = .ok (.aaload, 1) := by decide +kernel
theorem dX0_rulesOn_15 : decode cX0_rulesOn 15 = .ok (.astore 4, 2) := by decide +kernel
theorem dX0_rulesOn_17 : decode cX0_rulesOn 17 = .ok (.aload 4, 2) := by decide +kernel
theorem dX0_rulesOn_19 : decode cX0_rulesOn 19 = .ok (.getfield 46, 3) := by decide +kernel
theorem dX0_rulesOn_22 : decode cX0_rulesOn 22 = .ok (.ifCond .eq 34, 3) := by decide +kernel
theorem dX0_rulesOn_25 : decode cX0_rulesOn 25 = .ok (.iconst 1, 1) := by decide +kernel
theorem dX0_rulesOn_26 : decode cX0_rulesOn 26 = .ok (.aload 4, 2) := by decide +kernel
theorem dX0_rulesOn_28 : decode cX0_rulesOn 28 = .ok (.getfield 53, 3) := by decide +kernel
theorem dX0_rulesOn_31 : decode cX0_rulesOn 31 = .ok (.ishl, 1) := by decide +kernel
theorem dX0_rulesOn_32 : decode cX0_rulesOn 32 = .ok (.istore 5, 2) := by decide +kernel
theorem dX0_rulesOn_34 : decode cX0_rulesOn 34 = .ok (.aload 4, 2) := by decide +kernel
theorem dX0_rulesOn_36 : decode cX0_rulesOn 36 = .ok (.getfield 50, 3) := by decide +kernel
theorem dX0_rulesOn_39 : decode cX0_rulesOn 39 = .ok (.ifCond .eq 10, 3) := by decide +kernel
theorem dX0_rulesOn_42 : decode cX0_rulesOn 42 = .ok (.iload_n 2, 1) := by decide +kernel
theorem dX0_rulesOn_43 : decode cX0_rulesOn 43 = .ok (.iload 5, 2) := by decide +kernel
theorem dX0_rulesOn_45 : decode cX0_rulesOn 45 = .ok (.ior, 1) := by decide +kernel
theorem dX0_rulesOn_46 : decode cX0_rulesOn 46 = .ok (.goto 9, 3) := by decide +kernel
theorem dX0_rulesOn_49 : decode cX0_rulesOn 49 = .ok (.iload_n 2, 1) := by decide +kernel
theorem dX0_rulesOn_50 : decode cX0_rulesOn 50 = .ok (.iload 5, 2) := by decide +kernel
theorem dX0_rulesOn_52 : decode cX0_rulesOn 52 = .ok (.iconst (-1), 1) := by decide +kernel
theorem dX0_rulesOn_53 : decode cX0_rulesOn 53 = .ok (.ixor, 1) := by decide +kernel
theorem dX0_rulesOn_54 : decode cX0_rulesOn 54 = .ok (.iand, 1) := by decide +kernel
theorem dX0_rulesOn_55 : decode cX0_rulesOn 55 = .ok (.istore_n 2, 1) := by decide +kernel
theorem dX0_rulesOn_56 : decode cX0_rulesOn 56 = .ok (.iinc 3 1, 3) := by decide +kernel
theorem dX0_rulesOn_59 : decode cX0_rulesOn 59 = .ok (.goto (-55), 3) := by decide +kernel
theorem dX0_rulesOn_62 : decode cX0_rulesOn 62 = .ok (.iload_n 2, 1) := by decide +kernel
theorem dX0_rulesOn_63 : decode cX0_rulesOn 63 = .ok (.ireturn, 1) := by decide +kernel
theorem dX0_read_0 : decode cX0_read 0 = .ok (.aload_n 3, 1) := by decide +kernel
theorem dX0_read_1 : decode cX0_read 1 = .ok (.getfield 82, 3) := by decide +kernel
theorem dX0_read_4 : decode cX0_read 4 = .ok (.lconst 0, 1) := by decide +kernel
theorem dX0_read_5 : decode cX0_read 5 = .ok (.invokestatic 86, 3) := by decide +kernel
theorem dX0_read_8 : decode cX0_read 8 = .ok (.iconst 0, 1) := by decide +kernel
theorem dX0_read_9 : decode cX0_read 9 = .ok (.istore 4, 2) := by decide +kernel
theorem dX0_read_11 : decode cX0_read 11 = .ok (.iload 4, 2) := by decide +kernel
theorem dX0_read_13 : decode cX0_read 13 = .ok (.iload_n 1, 1) := by decide +kernel
theorem dX0_read_14 : decode cX0_read 14 = .ok (.if_icmp .ge 116, 3) := by decide +kernel
theorem dX0_read_17 : decode cX0_read 17 = .ok (.aload_n 0, 1) := by decide +kernel
theorem dX0_read_18 : decode cX0_read 18 = .ok (.getfield 11, 3) := by decide +kernel
theorem dX0_read_21 : decode cX0_read 21 = .ok (.iload 4, 2) := by decide +kernel
theorem dX0_read_23 : decode cX0_read 23 = .ok (.aaload, 1) := by decide +kernel
theorem dX0_read_24 : decode cX0_read 24 = .ok (.astore 5, 2) := by decide +kernel
theorem dX0_read_26 : decode cX0_read 26 = .ok (.aload 5, 2) := by decide +kernel
theorem dX0_read_28 : decode cX0_read 28 = .ok (.getfield 46, 3) := by decide +kernel
theorem dX0_read_31 : decode cX0_read 31 = .ok (.ifCond .ne 93, 3) := by decide +kernel
theorem dX0_read_34 : decode cX0_read 34 = .ok (.aload 5, 2) := by decide +kernel
theorem dX0_read_36 : decode cX0_read 36 = .ok (.getfield 62, 3) := by decide +kernel
theorem dX0_read_39 : decode cX0_read 39 = .ok (.ifCond .ne 85, 3) := by decide +kernel
theorem dX0_read_42 : decode cX0_read 42 = .ok (.aload 5, 2) := by decide +kernel
theorem dX0_read_44 : decode cX0_read 44 = .ok (.getfield 56, 3) := by decide +kernel
theorem dX0_read_47 : decode cX0_read 47 = .ok (.iload_n 2, 1) := by decide +kernel
theorem dX0_read_48 : decode cX0_read 48 = .ok (.if_icmp .gt 76, 3) := by decide +kernel
theorem dX0_read_51 : decode cX0_read 51 = .ok (.iload_n 2, 1) := by decide +kernel
theorem dX0_read_52 : decode cX0_read 52 = .ok (.aload 5, 2) := by decide +kernel
theorem dX0_read_54 : decode cX0_read 54 = .ok (.getfield 59, 3) := by decide +kernel
theorem dX0_read_57 : decode cX0_read 57 = .ok (.if_icmp .gt 67, 3) := by decide +kernel
theorem dX0_read_60 : decode cX0_read 60 = .ok (.aload 5, 2) := by decide +kernel
theorem dX0_read_62 : decode cX0_read 62 = .ok (.getfield 53, 3) := by decide +kernel
theorem dX0_read_65 : decode cX0_read 65 = .ok (.bipush 64, 2) := by decide +kernel
theorem dX0_read_67 : decode cX0_read 67 = .ok (.idiv, 1) := by decide +kernel
theorem dX0_read_68 : decode cX0_read 68 = .ok (.istore 6, 2) := by decide +kernel
theorem dX0_read_70 : decode cX0_read 70 = .ok (.lconst 1, 1) := by decide +kernel
theorem dX0_read_71 : decode cX0_read 71 = .ok (.aload 5, 2) := by decide +kernel
theorem dX0_read_73 : decode cX0_read 73 = .ok (.getfield 53, 3) := by decide +kernel
theorem dX0_read_76 : decode cX0_read 76 = .ok (.bipush 64, 2) := by decide +kernel
theorem dX0_read_78 : decode cX0_read 78 = .ok (.irem, 1) := by decide +kernel
theorem dX0_read_79 : decode cX0_read 79 = .ok (.lshl, 1) := by decide +kernel
theorem dX0_read_80 : decode cX0_read 80 = .ok (.lstore 7, 2) := by decide +kernel
theorem dX0_read_82 : decode cX0_read 82 = .ok (.aload_n 3, 1) := by decide +kernel
theorem dX0_read_83 : decode cX0_read 83 = .ok (.getfield 82, 3) := by decide +kernel
theorem dX0_read_86 : decode cX0_read 86 = .ok (.iload 6, 2) := by decide +kernel
theorem dX0_read_88 : decode cX0_read 88 = .ok (.aload 5, 2) := by decide +kernel
theorem dX0_read_90 : decode cX0_read 90 = .ok (.getfield 50, 3) := by decide +kernel
theorem dX0_read_93 : decode cX0_read 93 = .ok (.ifCond .eq 16, 3) := by decide +kernel
theorem dX0_read_96 : decode cX0_read 96 = .ok (.aload_n 3, 1) := by decide +kernel
theorem dX0_read_97 : decode cX0_read 97 = .ok (.getfield 82, 3) := by decide +kernel
theorem dX0_read_100 : decode cX0_read 100 = .ok (.iload 6, 2) := by decide +kernel
theorem dX0_read_102 : decode cX0_read 102 = .ok (.laload, 1) := by decide +kernel
theorem dX0_read_103 : decode cX0_read 103 = .ok (.lload 7, 2) := by decide +kernel
theorem dX0_read_105 : decode cX0_read 105 = .ok (.lor, 1) := by decide +kernel
theorem dX0_read_106 : decode cX0_read 106 = .ok (.goto 17, 3) := by decide +kernel
theorem dX0_read_109 : decode cX0_read 109 = .ok (.aload_n 3, 1) := by decide +kernel
theorem dX0_read_110 : decode cX0_read 110 = .ok (.getfield 82, 3) := by decide +kernel
theorem dX0_read_113 : decode cX0_read 113 = .ok (.iload 6, 2) := by decide +kernel
theorem dX0_read_115 : decode cX0_read 115 = .ok (.laload, 1) := by decide +kernel
theorem dX0_read_116 : decode cX0_read 116 = .ok (.lload 7, 2) := by decide +kernel
theorem dX0_read_118 : decode cX0_read 118 = .ok (.ldc2_w 92, 3) := by decide +kernel
theorem dX0_read_121 : decode cX0_read 121 = .ok (.lxor, 1) := by decide +kernel
theorem dX0_read_122 : decode cX0_read 122 = .ok (.land, 1) := by decide +kernel
theorem dX0_read_123 : decode cX0_read 123 = .ok (.lastore, 1) := by decide +kernel
theorem dX0_read_124 : decode cX0_read 124 = .ok (.iinc 4 1, 3) := by decide +kernel
theorem dX0_read_127 : decode cX0_read 127 = .ok (.goto (-116), 3) := by decide +kernel
theorem dX0_read_130 : decode cX0_read 130 = .ok (.aload_n 3, 1) := by decide +kernel
theorem dX0_read_131 : decode cX0_read 131 = .ok (.aload_n 0, 1) := by decide +kernel
theorem dX0_read_132 : decode cX0_read 132 = .ok (.iload_n 1, 1) := by decide +kernel
theorem dX0_read_133 : decode cX0_read 133 = .ok (.invokevirtual 94, 3) := by decide +kernel
theorem dX0_read_136 : decode cX0_read 136 = .ok (.putfield 98, 3) := by decide +kernel
theorem dX0_read_139 : decode cX0_read 139 = .ok (.return_, 1) := by decide +kernel
theorem dX0_hasTrueSeals_0 : decode cX0_hasTrueSeals 0 = .ok (.iconst 1, 1) := by decide +kernel
theorem dX0_hasTrueSeals_1 : decode cX0_hasTrueSeals 1 = .ok (.istore_n 1, 1) := by decide +kernel
theorem dX0_hasTrueSeals_2 : decode cX0_hasTrueSeals 2 = .ok (.iconst 0, 1) := by decide +kernel
theorem dX0_hasTrueSeals_3 : decode cX0_hasTrueSeals 3 = .ok (.istore_n 2, 1) := by decide +kernel
theorem dX0_hasTrueSeals_4 : decode cX0_hasTrueSeals 4 = .ok (.iload_n 2, 1) := by decide +kernel
theorem dX0_hasTrueSeals_5 : decode cX0_hasTrueSeals 5 = .ok (.aload_n 0, 1) := by decide +kernel
theorem dX0_hasTrueSeals_6 : decode cX0_hasTrueSeals 6 = .ok (.getfield 27, 3) := by decide +kernel
theorem dX0_hasTrueSeals_9 : decode cX0_hasTrueSeals 9 = .ok (.if_icmp .ge 35, 3) := by decide +kernel
theorem dX0_hasTrueSeals_12 : decode cX0_hasTrueSeals 12 = .ok (.aload_n 0, 1) := by decide +kernel
theorem dX0_hasTrueSeals_13 : decode cX0_hasTrueSeals 13 = .ok (.getfield 17, 3) := by decide +kernel
theorem dX0_hasTrueSeals_16 : decode cX0_hasTrueSeals 16 = .ok (.iload_n 2, 1) := by decide +kernel
theorem dX0_hasTrueSeals_17 : decode cX0_hasTrueSeals 17 = .ok (.iaload, 1) := by decide +kernel
theorem dX0_hasTrueSeals_18 : decode cX0_hasTrueSeals 18 = .ok (.iload_n 1, 1) := by decide +kernel
theorem dX0_hasTrueSeals_19 : decode cX0_hasTrueSeals 19 = .ok (.if_icmp .eq 5, 3) := by decide +kernel
theorem dX0_hasTrueSeals_22 : decode cX0_hasTrueSeals 22 = .ok (.iconst 0, 1) := by decide +kernel
theorem dX0_hasTrueSeals_23 : decode cX0_hasTrueSeals 23 = .ok (.ireturn, 1) := by decide +kernel
theorem dX0_hasTrueSeals_24 : decode cX0_hasTrueSeals 24 = .ok (.iload_n 1, 1) := by decide +kernel
theorem dX0_hasTrueSeals_25 : decode cX0_hasTrueSeals 25 = .ok (.aload_n 0, 1) := by decide +kernel
theorem dX0_hasTrueSeals_26 : decode cX0_hasTrueSeals 26 = .ok (.getfield 11, 3) := by decide +kernel
theorem dX0_hasTrueSeals_29 : decode cX0_hasTrueSeals 29 = .ok (.iload_n 2, 1) := by decide +kernel
theorem dX0_hasTrueSeals_30 : decode cX0_hasTrueSeals 30 = .ok (.aaload, 1) := by decide +kernel
theorem dX0_hasTrueSeals_31 : decode cX0_hasTrueSeals 31 = .ok (.getfield 71, 3) := by decide +kernel
theorem dX0_hasTrueSeals_34 : decode cX0_hasTrueSeals 34 = .ok (.invokestatic 74, 3) := by decide +kernel
theorem dX0_hasTrueSeals_37 : decode cX0_hasTrueSeals 37 = .ok (.istore_n 1, 1) := by decide +kernel
theorem dX0_hasTrueSeals_38 : decode cX0_hasTrueSeals 38 = .ok (.iinc 2 1, 3) := by decide +kernel
theorem dX0_hasTrueSeals_41 : decode cX0_hasTrueSeals 41 = .ok (.goto (-37), 3) := by decide +kernel
theorem dX0_hasTrueSeals_44 : decode cX0_hasTrueSeals 44 = .ok (.aload_n 0, 1) := by decide +kernel
theorem dX0_hasTrueSeals_45 : decode cX0_hasTrueSeals 45 = .ok (.getfield 17, 3) := by decide +kernel
theorem dX0_hasTrueSeals_48 : decode cX0_hasTrueSeals 48 = .ok (.aload_n 0, 1) := by decide +kernel
theorem dX0_hasTrueSeals_49 : decode cX0_hasTrueSeals 49 = .ok (.getfield 27, 3) := by decide +kernel
theorem dX0_hasTrueSeals_52 : decode cX0_hasTrueSeals 52 = .ok (.iaload, 1) := by decide +kernel
theorem dX0_hasTrueSeals_53 : decode cX0_hasTrueSeals 53 = .ok (.iload_n 1, 1) := by decide +kernel
theorem dX0_hasTrueSeals_54 : decode cX0_hasTrueSeals 54 = .ok (.if_icmp .ne 7, 3) := by decide +kernel
theorem dX0_hasTrueSeals_57 : decode cX0_hasTrueSeals 57 = .ok (.iconst 1, 1) := by decide +kernel
theorem dX0_hasTrueSeals_58 : decode cX0_hasTrueSeals 58 = .ok (.goto 4, 3) := by decide +kernel
theorem dX0_hasTrueSeals_61 : decode cX0_hasTrueSeals 61 = .ok (.iconst 0, 1) := by decide +kernel
theorem dX0_hasTrueSeals_62 : decode cX0_hasTrueSeals 62 = .ok (.ireturn, 1) := by decide +kernel
theorem dX1_init_0 : decode cX1_init 0 = .ok (.aload_n 0, 1) := by decide +kernel
theorem dX1_init_1 : decode cX1_init 1 = .ok (.invokespecial 3, 3) := by decide +kernel
theorem dX1_init_4 : decode cX1_init 4 = .ok (.aload_n 0, 1) := by decide +kernel
theorem dX1_init_5 : decode cX1_init 5 = .ok (.bipush 120, 2) := by decide +kernel
theorem dX1_init_7 : decode cX1_init 7 = .ok (.newarray .long, 2) := by decide +kernel
theorem dX1_init_9 : decode cX1_init 9 = .ok (.putfield 9, 3) := by decide +kernel
theorem dX1_init_12 : decode cX1_init 12 = .ok (.aload_n 0, 1) := by decide +kernel
theorem dX1_init_13 : decode cX1_init 13 = .ok (.bipush 120, 2) := by decide +kernel
theorem dX1_init_15 : decode cX1_init 15 = .ok (.newarray .long, 2) := by decide +kernel
theorem dX1_init_17 : decode cX1_init 17 = .ok (.putfield 15, 3) := by decide +kernel
theorem dX1_init_20 : decode cX1_init 20 = .ok (.aload_n 0, 1) := by decide +kernel
theorem dX1_init_21 : decode cX1_init 21 = .ok (.iconst 0, 1) := by decide +kernel
theorem dX1_init_22 : decode cX1_init 22 = .ok (.putfield 18, 3) := by decide +kernel
theorem dX1_init_25 : decode cX1_init 25 = .ok (.aload_n 0, 1) := by decide +kernel
theorem dX1_init_26 : decode cX1_init 26 = .ok (.iconst 0, 1) := by decide +kernel
theorem dX1_init_27 : decode cX1_init 27 = .ok (.putfield 22, 3) := by decide +kernel
theorem dX1_init_30 : decode cX1_init 30 = .ok (.aload_n 0, 1) := by decide +kernel
theorem dX1_init_31 : decode cX1_init 31 = .ok (.iconst 0, 1) := by decide +kernel
theorem dX1_init_32 : decode cX1_init 32 = .ok (.putfield 25, 3) := by decide +kernel
theorem dX1_init_35 : decode cX1_init 35 = .ok (.aload_n 0, 1) := by decide +kernel
theorem dX1_init_36 : decode cX1_init 36 = .ok (.lconst 0, 1) := by decide +kernel
theorem dX1_init_37 : decode cX1_init 37 = .ok (.putfield 28, 3) := by decide +kernel
theorem dX1_init_40 : decode cX1_init 40 = .ok (.aload_n 0, 1) := by decide +kernel
theorem dX1_init_41 : decode cX1_init 41 = .ok (.lconst 0, 1) := by decide +kernel
theorem dX1_init_42 : decode cX1_init 42 = .ok (.putfield 32, 3) := by decide +kernel
theorem dX1_init_45 : decode cX1_init 45 = .ok (.aload_n 0, 1) := by decide +kernel
theorem dX1_init_46 : decode cX1_init 46 = .ok (.iconst 0, 1) := by decide +kernel
theorem dX1_init_47 : decode cX1_init 47 = .ok (.putfield 35, 3) := by decide +kernel
theorem dX1_init_50 : decode cX1_init 50 = .ok (.aload_n 0, 1) := by decide +kernel
theorem dX1_init_51 : decode cX1_init 51 = .ok (.iconst 0, 1) := by decide +kernel
theorem dX1_init_52 : decode cX1_init 52 = .ok (.putfield 38, 3) := by decide +kernel
theorem dX1_init_55 : decode cX1_init 55 = .ok (.aload_n 0, 1) := by decide +kernel
theorem dX1_init_56 : decode cX1_init 56 = .ok (.iconst 0, 1) := by decide +kernel
theorem dX1_init_57 : decode cX1_init 57 = .ok (.putfield 41, 3) := by decide +kernel
theorem dX1_init_60 : decode cX1_init 60 = .ok (.return_, 1) := by decide +kernel
theorem dX1_hear_0 : decode cX1_hear 0 = .ok (.aload_n 1, 1) := by decide +kernel
theorem dX1_hear_1 : decode cX1_hear 1 = .ok (.getfield 44, 3) := by decide +kernel
theorem dX1_hear_4 : decode cX1_hear 4 = .ok (.aload_n 0, 1) := by decide +kernel
theorem dX1_hear_5 : decode cX1_hear 5 = .ok (.getfield 22, 3) := by decide +kernel
theorem dX1_hear_8 : decode cX1_hear 8 = .ok (.laload, 1) := by decide +kernel
theorem dX1_hear_9 : decode cX1_hear 9 = .ok (.aload_n 0, 1) := by decide +kernel
theorem dX1_hear_10 : decode cX1_hear 10 = .ok (.getfield 28, 3) := by decide +kernel
theorem dX1_hear_13 : decode cX1_hear 13 = .ok (.land, 1) := by decide +kernel
theorem dX1_hear_14 : decode cX1_hear 14 = .ok (.lstore_n 2, 1) := by decide +kernel
theorem dX1_hear_15 : decode cX1_hear 15 = .ok (.lload_n 2, 1) := by decide +kernel
theorem dX1_hear_16 : decode cX1_hear 16 = .ok (.aload_n 0, 1) := by decide +kernel
theorem dX1_hear_17 : decode cX1_hear 17 = .ok (.getfield 32, 3) := by decide +kernel
theorem dX1_hear_20 : decode cX1_hear 20 = .ok (.lcmp, 1) := by decide +kernel
theorem dX1_hear_21 : decode cX1_hear 21 = .ok (.ifCond .eq 78, 3) := by decide +kernel
theorem dX1_hear_24 : decode cX1_hear 24 = .ok (.aload_n 0, 1) := by decide +kernel
theorem dX1_hear_25 : decode cX1_hear 25 = .ok (.getfield 38, 3) := by decide +kernel
theorem dX1_hear_28 : decode cX1_hear 28 = .ok (.bipush 120, 2) := by decide +kernel
theorem dX1_hear_30 : decode cX1_hear 30 = .ok (.if_icmp .ge 69, 3) := by decide +kernel
theorem dX1_hear_33 : decode cX1_hear 33 = .ok (.aload_n 0, 1) := by decide +kernel
theorem dX1_hear_34 : decode cX1_hear 34 = .ok (.getfield 9, 3) := by decide +kernel
theorem dX1_hear_37 : decode cX1_hear 37 = .ok (.aload_n 0, 1) := by decide +kernel
theorem dX1_hear_38 : decode cX1_hear 38 = .ok (.getfield 38, 3) := by decide +kernel
theorem dX1_hear_41 : decode cX1_hear 41 = .ok (.lload_n 2, 1) := by decide +kernel
theorem dX1_hear_42 : decode cX1_hear 42 = .ok (.aload_n 0, 1) := by decide +kernel
theorem dX1_hear_43 : decode cX1_hear 43 = .ok (.getfield 32, 3) := by decide +kernel
theorem dX1_hear_46 : decode cX1_hear 46 = .ok (.ldc2_w 49, 3) := by decide +kernel
theorem dX1_hear_49 : decode cX1_hear 49 = .ok (.lxor, 1) := by decide +kernel
theorem dX1_hear_50 : decode cX1_hear 50 = .ok (.land, 1) := by decide +kernel
theorem dX1_hear_51 : decode cX1_hear 51 = .ok (.lastore, 1) := by decide +kernel
theorem dX1_hear_52 : decode cX1_hear 52 = .ok (.aload_n 0, 1) := by decide +kernel
theorem dX1_hear_53 : decode cX1_hear 53 = .ok (.getfield 15, 3) := by decide +kernel
theorem dX1_hear_56 : decode cX1_hear 56 = .ok (.aload_n 0, 1) := by decide +kernel
theorem dX1_hear_57 : decode cX1_hear 57 = .ok (.getfield 38, 3) := by decide +kernel
theorem dX1_hear_60 : decode cX1_hear 60 = .ok (.aload_n 0, 1) := by decide +kernel
theorem dX1_hear_61 : decode cX1_hear 61 = .ok (.getfield 32, 3) := by decide +kernel
theorem dX1_hear_64 : decode cX1_hear 64 = .ok (.lload_n 2, 1) := by decide +kernel
theorem dX1_hear_65 : decode cX1_hear 65 = .ok (.ldc2_w 49, 3) := by decide +kernel
theorem dX1_hear_68 : decode cX1_hear 68 = .ok (.lxor, 1) := by decide +kernel
theorem dX1_hear_69 : decode cX1_hear 69 = .ok (.land, 1) := by decide +kernel
theorem dX1_hear_70 : decode cX1_hear 70 = .ok (.lastore, 1) := by decide +kernel
theorem dX1_hear_71 : decode cX1_hear 71 = .ok (.aload_n 0, 1) := by decide +kernel
theorem dX1_hear_72 : decode cX1_hear 72 = .ok (.dup, 1) := by decide +kernel
theorem dX1_hear_73 : decode cX1_hear 73 = .ok (.getfield 41, 3) := by decide +kernel
theorem dX1_hear_76 : decode cX1_hear 76 = .ok (.lload_n 2, 1) := by decide +kernel
theorem dX1_hear_77 : decode cX1_hear 77 = .ok (.aload_n 0, 1) := by decide +kernel
theorem dX1_hear_78 : decode cX1_hear 78 = .ok (.getfield 32, 3) := by decide +kernel
theorem dX1_hear_81 : decode cX1_hear 81 = .ok (.lxor, 1) := by decide +kernel
theorem dX1_hear_82 : decode cX1_hear 82 = .ok (.invokestatic 51, 3) := by decide +kernel
theorem dX1_hear_85 : decode cX1_hear 85 = .ok (.iadd, 1) := by decide +kernel
theorem dX1_hear_86 : decode cX1_hear 86 = .ok (.putfield 41, 3) := by decide +kernel
theorem dX1_hear_89 : decode cX1_hear 89 = .ok (.aload_n 0, 1) := by decide +kernel
theorem dX1_hear_90 : decode cX1_hear 90 = .ok (.dup, 1) := by decide +kernel
theorem dX1_hear_91 : decode cX1_hear 91 = .ok (.getfield 38, 3) := by decide +kernel
theorem dX1_hear_94 : decode cX1_hear 94 = .ok (.iconst 1, 1) := by decide +kernel
theorem dX1_hear_95 : decode cX1_hear 95 = .ok (.iadd, 1) := by decide +kernel
theorem dX1_hear_96 : decode cX1_hear 96 = .ok (.putfield 38, 3) := by decide +kernel
theorem dX1_hear_99 : decode cX1_hear 99 = .ok (.aload_n 0, 1) := by decide +kernel
theorem dX1_hear_100 : decode cX1_hear 100 = .ok (.lload_n 2, 1) := by decide +kernel
theorem dX1_hear_101 : decode cX1_hear 101 = .ok (.putfield 32, 3) := by decide +kernel
theorem dX1_hear_104 : decode cX1_hear 104 = .ok (.return_, 1) := by decide +kernel
theorem dX2_init_0 : decode cX2_init 0 = .ok (.aload_n 0, 1) := by decide +kernel
theorem dX2_init_1 : decode cX2_init 1 = .ok (.invokespecial 3, 3) := by decide +kernel
theorem dX2_init_4 : decode cX2_init 4 = .ok (.return_, 1) := by decide +kernel
theorem dX2_become_0 : decode cX2_become 0 = .ok (.aload_n 0, 1) := by decide +kernel
theorem dX2_become_1 : decode cX2_become 1 = .ok (.iload_n 1, 1) := by decide +kernel
theorem dX2_become_2 : decode cX2_become 2 = .ok (.putfield 9, 3) := by decide +kernel
theorem dX2_become_5 : decode cX2_become 5 = .ok (.aload_n 0, 1) := by decide +kernel
theorem dX2_become_6 : decode cX2_become 6 = .ok (.iload 4, 2) := by decide +kernel
theorem dX2_become_8 : decode cX2_become 8 = .ok (.putfield 15, 3) := by decide +kernel
theorem dX2_become_11 : decode cX2_become 11 = .ok (.aload_n 0, 1) := by decide +kernel
theorem dX2_become_12 : decode cX2_become 12 = .ok (.iload_n 2, 1) := by decide +kernel
theorem dX2_become_13 : decode cX2_become 13 = .ok (.invokestatic 19, 3) := by decide +kernel
theorem dX2_become_16 : decode cX2_become 16 = .ok (.putfield 23, 3) := by decide +kernel
theorem dX2_become_19 : decode cX2_become 19 = .ok (.aload_n 0, 1) := by decide +kernel
theorem dX2_become_20 : decode cX2_become 20 = .ok (.iload_n 3, 1) := by decide +kernel
theorem dX2_become_21 : decode cX2_become 21 = .ok (.invokestatic 19, 3) := by decide +kernel
theorem dX2_become_24 : decode cX2_become 24 = .ok (.putfield 26, 3) := by decide +kernel
theorem dX2_become_27 : decode cX2_become 27 = .ok (.return_, 1) := by decide +kernel
theorem dX2_shiftOf_0 : decode cX2_shiftOf 0 = .ok (.iconst 3, 1) := by decide +kernel
theorem dX2_shiftOf_1 : decode cX2_shiftOf 1 = .ok (.iconst 2, 1) := by decide +kernel
theorem dX2_shiftOf_2 : decode cX2_shiftOf 2 = .ok (.iload_n 0, 1) := by decide +kernel
theorem dX2_shiftOf_3 : decode cX2_shiftOf 3 = .ok (.isub, 1) := by decide +kernel
theorem dX2_shiftOf_4 : decode cX2_shiftOf 4 = .ok (.imul, 1) := by decide +kernel
theorem dX2_shiftOf_5 : decode cX2_shiftOf 5 = .ok (.ireturn, 1) := by decide +kernel
theorem dX2_pairOf_0 : decode cX2_pairOf 0 = .ok (.bipush 8, 2) := by decide +kernel
theorem dX2_pairOf_2 : decode cX2_pairOf 2 = .ok (.iload_n 1, 1) := by decide +kernel
theorem dX2_pairOf_3 : decode cX2_pairOf 3 = .ok (.aload_n 0, 1) := by decide +kernel
theorem dX2_pairOf_4 : decode cX2_pairOf 4 = .ok (.getfield 23, 3) := by decide +kernel
theorem dX2_pairOf_7 : decode cX2_pairOf 7 = .ok (.ishr, 1) := by decide +kernel
theorem dX2_pairOf_8 : decode cX2_pairOf 8 = .ok (.bipush 7, 2) := by decide +kernel
theorem dX2_pairOf_10 : decode cX2_pairOf 10 = .ok (.iand, 1) := by decide +kernel
theorem dX2_pairOf_11 : decode cX2_pairOf 11 = .ok (.imul, 1) := by decide +kernel
theorem dX2_pairOf_12 : decode cX2_pairOf 12 = .ok (.iload_n 1, 1) := by decide +kernel
theorem dX2_pairOf_13 : decode cX2_pairOf 13 = .ok (.aload_n 0, 1) := by decide +kernel
theorem dX2_pairOf_14 : decode cX2_pairOf 14 = .ok (.getfield 26, 3) := by decide +kernel
theorem dX2_pairOf_17 : decode cX2_pairOf 17 = .ok (.ishr, 1) := by decide +kernel
theorem dX2_pairOf_18 : decode cX2_pairOf 18 = .ok (.bipush 7, 2) := by decide +kernel
theorem dX2_pairOf_20 : decode cX2_pairOf 20 = .ok (.iand, 1) := by decide +kernel
theorem dX2_pairOf_21 : decode cX2_pairOf 21 = .ok (.iadd, 1) := by decide +kernel
theorem dX2_pairOf_22 : decode cX2_pairOf 22 = .ok (.ireturn, 1) := by decide +kernel
theorem dX2_factOf_0 : decode cX2_factOf 0 = .ok (.bipush 64, 2) := by decide +kernel
theorem dX2_factOf_2 : decode cX2_factOf 2 = .ok (.aload_n 0, 1) := by decide +kernel
theorem dX2_factOf_3 : decode cX2_factOf 3 = .ok (.getfield 9, 3) := by decide +kernel
theorem dX2_factOf_6 : decode cX2_factOf 6 = .ok (.imul, 1) := by decide +kernel
theorem dX2_factOf_7 : decode cX2_factOf 7 = .ok (.aload_n 0, 1) := by decide +kernel
theorem dX2_factOf_8 : decode cX2_factOf 8 = .ok (.iload_n 1, 1) := by decide +kernel
theorem dX2_factOf_9 : decode cX2_factOf 9 = .ok (.invokevirtual 29, 3) := by decide +kernel
theorem dX2_factOf_12 : decode cX2_factOf 12 = .ok (.iadd, 1) := by decide +kernel
theorem dX2_factOf_13 : decode cX2_factOf 13 = .ok (.ireturn, 1) := by decide +kernel
theorem dX2_digits_0 : decode cX2_digits 0 = .ok (.bipush 7, 2) := by decide +kernel
theorem dX2_digits_2 : decode cX2_digits 2 = .ok (.aload_n 0, 1) := by decide +kernel
theorem dX2_digits_3 : decode cX2_digits 3 = .ok (.getfield 23, 3) := by decide +kernel
theorem dX2_digits_6 : decode cX2_digits 6 = .ok (.ishl, 1) := by decide +kernel
theorem dX2_digits_7 : decode cX2_digits 7 = .ok (.bipush 7, 2) := by decide +kernel
theorem dX2_digits_9 : decode cX2_digits 9 = .ok (.aload_n 0, 1) := by decide +kernel
theorem dX2_digits_10 : decode cX2_digits 10 = .ok (.getfield 26, 3) := by decide +kernel
theorem dX2_digits_13 : decode cX2_digits 13 = .ok (.ishl, 1) := by decide +kernel
theorem dX2_digits_14 : decode cX2_digits 14 = .ok (.ior, 1) := by decide +kernel
theorem dX2_digits_15 : decode cX2_digits 15 = .ok (.ireturn, 1) := by decide +kernel
theorem dX2_freeDigits_0 : decode cX2_freeDigits 0 = .ok (.iconst 1, 1) := by decide +kernel
theorem dX2_freeDigits_1 : decode cX2_freeDigits 1 = .ok (.aload_n 0, 1) := by decide +kernel
theorem dX2_freeDigits_2 : decode cX2_freeDigits 2 = .ok (.getfield 23, 3) := by decide +kernel
theorem dX2_freeDigits_5 : decode cX2_freeDigits 5 = .ok (.aload_n 0, 1) := by decide +kernel
theorem dX2_freeDigits_6 : decode cX2_freeDigits 6 = .ok (.getfield 26, 3) := by decide +kernel
theorem dX2_freeDigits_9 : decode cX2_freeDigits 9 = .ok (.if_icmp .ge 10, 3) := by decide +kernel
theorem dX2_freeDigits_12 : decode cX2_freeDigits 12 = .ok (.aload_n 0, 1) := by decide +kernel
theorem dX2_freeDigits_13 : decode cX2_freeDigits 13 = .ok (.getfield 23, 3) := by decide +kernel
theorem dX2_freeDigits_16 : decode cX2_freeDigits 16 = .ok (.goto 7, 3) := by decide +kernel
theorem dX2_freeDigits_19 : decode cX2_freeDigits 19 = .ok (.aload_n 0, 1) := by decide +kernel
theorem dX2_freeDigits_20 : decode cX2_freeDigits 20 = .ok (.getfield 26, 3) := by decide +kernel
theorem dX2_freeDigits_23 : decode cX2_freeDigits 23 = .ok (.ishl, 1) := by decide +kernel
theorem dX2_freeDigits_24 : decode cX2_freeDigits 24 = .ok (.iconst 1, 1) := by decide +kernel
theorem dX2_freeDigits_25 : decode cX2_freeDigits 25 = .ok (.isub, 1) := by decide +kernel
theorem dX2_freeDigits_26 : decode cX2_freeDigits 26 = .ok (.ireturn, 1) := by decide +kernel
theorem dX3_init_0 : decode cX3_init 0 = .ok (.aload_n 0, 1) := by decide +kernel
theorem dX3_init_1 : decode cX3_init 1 = .ok (.invokespecial 3, 3) := by decide +kernel
theorem dX3_init_4 : decode cX3_init 4 = .ok (.aload_n 0, 1) := by decide +kernel
theorem dX3_init_5 : decode cX3_init 5 = .ok (.new 9, 3) := by decide +kernel
theorem dX3_init_8 : decode cX3_init 8 = .ok (.dup, 1) := by decide +kernel
theorem dX3_init_9 : decode cX3_init 9 = .ok (.invokespecial 11, 3) := by decide +kernel
theorem dX3_init_12 : decode cX3_init 12 = .ok (.putfield 12, 3) := by decide +kernel
theorem dX3_init_15 : decode cX3_init 15 = .ok (.aload_n 0, 1) := by decide +kernel
theorem dX3_init_16 : decode cX3_init 16 = .ok (.sipush 384, 3) := by decide +kernel
theorem dX3_init_19 : decode cX3_init 19 = .ok (.newarray .int, 2) := by decide +kernel
theorem dX3_init_21 : decode cX3_init 21 = .ok (.putfield 18, 3) := by decide +kernel
theorem dX3_init_24 : decode cX3_init 24 = .ok (.aload_n 0, 1) := by decide +kernel
theorem dX3_init_25 : decode cX3_init 25 = .ok (.sipush 384, 3) := by decide +kernel
theorem dX3_init_28 : decode cX3_init 28 = .ok (.newarray .int, 2) := by decide +kernel
theorem dX3_init_30 : decode cX3_init 30 = .ok (.putfield 22, 3) := by decide +kernel
theorem dX3_init_33 : decode cX3_init 33 = .ok (.aload_n 0, 1) := by decide +kernel
theorem dX3_init_34 : decode cX3_init 34 = .ok (.sipush 384, 3) := by decide +kernel
theorem dX3_init_37 : decode cX3_init 37 = .ok (.newarray .int, 2) := by decide +kernel
theorem dX3_init_39 : decode cX3_init 39 = .ok (.putfield 25, 3) := by decide +kernel
theorem dX3_init_42 : decode cX3_init 42 = .ok (.aload_n 0, 1) := by decide +kernel
theorem dX3_init_43 : decode cX3_init 43 = .ok (.bipush 6, 2) := by decide +kernel
theorem dX3_init_45 : decode cX3_init 45 = .ok (.newarray .long, 2) := by decide +kernel
theorem dX3_init_47 : decode cX3_init 47 = .ok (.putfield 28, 3) := by decide +kernel
theorem dX3_init_50 : decode cX3_init 50 = .ok (.aload_n 0, 1) := by decide +kernel
theorem dX3_init_51 : decode cX3_init 51 = .ok (.bipush 6, 2) := by decide +kernel
theorem dX3_init_53 : decode cX3_init 53 = .ok (.newarray .long, 2) := by decide +kernel
theorem dX3_init_55 : decode cX3_init 55 = .ok (.putfield 32, 3) := by decide +kernel
theorem dX3_init_58 : decode cX3_init 58 = .ok (.aload_n 0, 1) := by decide +kernel
theorem dX3_init_59 : decode cX3_init 59 = .ok (.bipush 6, 2) := by decide +kernel
theorem dX3_init_61 : decode cX3_init 61 = .ok (.newarray .long, 2) := by decide +kernel
theorem dX3_init_63 : decode cX3_init 63 = .ok (.putfield 35, 3) := by decide +kernel
theorem dX3_init_66 : decode cX3_init 66 = .ok (.aload_n 0, 1) := by decide +kernel
theorem dX3_init_67 : decode cX3_init 67 = .ok (.sipush 384, 3) := by decide +kernel
theorem dX3_init_70 : decode cX3_init 70 = .ok (.newarray .int, 2) := by decide +kernel
theorem dX3_init_72 : decode cX3_init 72 = .ok (.putfield 38, 3) := by decide +kernel
theorem dX3_init_75 : decode cX3_init 75 = .ok (.aload_n 0, 1) := by decide +kernel
theorem dX3_init_76 : decode cX3_init 76 = .ok (.getfield 18, 3) := by decide +kernel
theorem dX3_init_79 : decode cX3_init 79 = .ok (.iconst (-1), 1) := by decide +kernel
theorem dX3_init_80 : decode cX3_init 80 = .ok (.invokestatic 41, 3) := by decide +kernel
theorem dX3_init_83 : decode cX3_init 83 = .ok (.return_, 1) := by decide +kernel
theorem dX3_read_0 : decode cX3_read 0 = .ok (.aload_n 0, 1) := by decide +kernel
theorem dX3_read_1 : decode cX3_read 1 = .ok (.getfield 12, 3) := by decide +kernel
theorem dX3_read_4 : decode cX3_read 4 = .ok (.aload_n 2, 1) := by decide +kernel
theorem dX3_read_5 : decode cX3_read 5 = .ok (.invokevirtual 47, 3) := by decide +kernel
theorem dX3_read_8 : decode cX3_read 8 = .ok (.ifCond .eq 4, 3) := by decide +kernel
theorem dX3_read_11 : decode cX3_read 11 = .ok (.return_, 1) := by decide +kernel
theorem dX3_read_12 : decode cX3_read 12 = .ok (.aload_n 0, 1) := by decide +kernel
theorem dX3_read_13 : decode cX3_read 13 = .ok (.getfield 12, 3) := by decide +kernel
theorem dX3_read_16 : decode cX3_read 16 = .ok (.aload_n 2, 1) := by decide +kernel
theorem dX3_read_17 : decode cX3_read 17 = .ok (.invokevirtual 51, 3) := by decide +kernel
theorem dX3_read_20 : decode cX3_read 20 = .ok (.aload_n 0, 1) := by decide +kernel
theorem dX3_read_21 : decode cX3_read 21 = .ok (.invokevirtual 55, 3) := by decide +kernel
theorem dX3_read_24 : decode cX3_read 24 = .ok (.bipush 63, 2) := by decide +kernel
theorem dX3_read_26 : decode cX3_read 26 = .ok (.istore_n 3, 1) := by decide +kernel
theorem dX3_read_27 : decode cX3_read 27 = .ok (.iconst 1, 1) := by decide +kernel
theorem dX3_read_28 : decode cX3_read 28 = .ok (.istore 4, 2) := by decide +kernel
theorem dX3_read_30 : decode cX3_read 30 = .ok (.iload_n 3, 1) := by decide +kernel
theorem dX3_read_31 : decode cX3_read 31 = .ok (.ifCond .eq 85, 3) := by decide +kernel
theorem dX3_read_34 : decode cX3_read 34 = .ok (.iload 4, 2) := by decide +kernel
theorem dX3_read_36 : decode cX3_read 36 = .ok (.sipush 384, 3) := by decide +kernel
theorem dX3_read_39 : decode cX3_read 39 = .ok (.if_icmp .gt 77, 3) := by decide +kernel
theorem dX3_read_42 : decode cX3_read 42 = .ok (.iconst 0, 1) := by decide +kernel
theorem dX3_read_43 : decode cX3_read 43 = .ok (.istore 5, 2) := by decide +kernel
theorem dX3_read_45 : decode cX3_read 45 = .ok (.iload 5, 2) := by decide +kernel
theorem dX3_read_47 : decode cX3_read 47 = .ok (.aload_n 1, 1) := by decide +kernel
theorem dX3_read_48 : decode cX3_read 48 = .ok (.getfield 58, 3) := by decide +kernel
theorem dX3_read_51 : decode cX3_read 51 = .ok (.if_icmp .ge 54, 3) := by decide +kernel
theorem dX3_read_54 : decode cX3_read 54 = .ok (.iload 5, 2) := by decide +kernel
theorem dX3_read_56 : decode cX3_read 56 = .ok (.aload_n 0, 1) := by decide +kernel
theorem dX3_read_57 : decode cX3_read 57 = .ok (.getfield 12, 3) := by decide +kernel
theorem dX3_read_60 : decode cX3_read 60 = .ok (.getfield 64, 3) := by decide +kernel
theorem dX3_read_63 : decode cX3_read 63 = .ok (.invokestatic 67, 3) := by decide +kernel
theorem dX3_read_66 : decode cX3_read 66 = .ok (.ifCond .eq 33, 3) := by decide +kernel
theorem dX3_read_69 : decode cX3_read 69 = .ok (.aload_n 1, 1) := by decide +kernel
theorem dX3_read_70 : decode cX3_read 70 = .ok (.getfield 71, 3) := by decide +kernel
theorem dX3_read_73 : decode cX3_read 73 = .ok (.iload 5, 2) := by decide +kernel
theorem dX3_read_75 : decode cX3_read 75 = .ok (.aaload, 1) := by decide +kernel
theorem dX3_read_76 : decode cX3_read 76 = .ok (.getfield 75, 3) := by decide +kernel
theorem dX3_read_79 : decode cX3_read 79 = .ok (.iload_n 3, 1) := by decide +kernel
theorem dX3_read_80 : decode cX3_read 80 = .ok (.iand, 1) := by decide +kernel
theorem dX3_read_81 : decode cX3_read 81 = .ok (.ifCond .eq 18, 3) := by decide +kernel
theorem dX3_read_84 : decode cX3_read 84 = .ok (.aload_n 0, 1) := by decide +kernel
theorem dX3_read_85 : decode cX3_read 85 = .ok (.aload_n 1, 1) := by decide +kernel
theorem dX3_read_86 : decode cX3_read 86 = .ok (.getfield 71, 3) := by decide +kernel
theorem dX3_read_89 : decode cX3_read 89 = .ok (.iload 5, 2) := by decide +kernel
theorem dX3_read_91 : decode cX3_read 91 = .ok (.aaload, 1) := by decide +kernel
theorem dX3_read_92 : decode cX3_read 92 = .ok (.iload 5, 2) := by decide +kernel
theorem dX3_read_94 : decode cX3_read 94 = .ok (.iload 4, 2) := by decide +kernel
theorem dX3_read_96 : decode cX3_read 96 = .ok (.invokevirtual 80, 3) := by decide +kernel
theorem dX3_read_99 : decode cX3_read 99 = .ok (.iinc 5 1, 3) := by decide +kernel
theorem dX3_read_102 : decode cX3_read 102 = .ok (.goto (-57), 3) := by decide +kernel
theorem dX3_read_105 : decode cX3_read 105 = .ok (.aload_n 0, 1) := by decide +kernel
theorem dX3_read_106 : decode cX3_read 106 = .ok (.invokevirtual 84, 3) := by decide +kernel
theorem dX3_read_109 : decode cX3_read 109 = .ok (.istore_n 3, 1) := by decide +kernel
theorem dX3_read_110 : decode cX3_read 110 = .ok (.iinc 4 1, 3) := by decide +kernel
theorem dX3_read_113 : decode cX3_read 113 = .ok (.goto (-83), 3) := by decide +kernel
theorem dX3_read_116 : decode cX3_read 116 = .ok (.return_, 1) := by decide +kernel
theorem dX3_begin_0 : decode cX3_begin 0 = .ok (.aload_n 0, 1) := by decide +kernel
theorem dX3_begin_1 : decode cX3_begin 1 = .ok (.getfield 12, 3) := by decide +kernel
theorem dX3_begin_4 : decode cX3_begin 4 = .ok (.getfield 88, 3) := by decide +kernel
theorem dX3_begin_7 : decode cX3_begin 7 = .ok (.iconst 0, 1) := by decide +kernel
theorem dX3_begin_8 : decode cX3_begin 8 = .ok (.aload_n 0, 1) := by decide +kernel
theorem dX3_begin_9 : decode cX3_begin 9 = .ok (.getfield 28, 3) := by decide +kernel
theorem dX3_begin_12 : decode cX3_begin 12 = .ok (.iconst 0, 1) := by decide +kernel
theorem dX3_begin_13 : decode cX3_begin 13 = .ok (.bipush 6, 2) := by decide +kernel
theorem dX3_begin_15 : decode cX3_begin 15 = .ok (.invokestatic 91, 3) := by decide +kernel
theorem dX3_begin_18 : decode cX3_begin 18 = .ok (.aload_n 0, 1) := by decide +kernel
theorem dX3_begin_19 : decode cX3_begin 19 = .ok (.getfield 32, 3) := by decide +kernel
theorem dX3_begin_22 : decode cX3_begin 22 = .ok (.lconst 0, 1) := by decide +kernel
theorem dX3_begin_23 : decode cX3_begin 23 = .ok (.invokestatic 97, 3) := by decide +kernel
theorem dX3_begin_26 : decode cX3_begin 26 = .ok (.iconst 0, 1) := by decide +kernel
theorem dX3_begin_27 : decode cX3_begin 27 = .ok (.istore_n 1, 1) := by decide +kernel
theorem dX3_begin_28 : decode cX3_begin 28 = .ok (.iload_n 1, 1) := by decide +kernel
theorem dX3_begin_29 : decode cX3_begin 29 = .ok (.sipush 384, 3) := by decide +kernel
theorem dX3_begin_32 : decode cX3_begin 32 = .ok (.if_icmp .ge 51, 3) := by decide +kernel
theorem dX3_begin_35 : decode cX3_begin 35 = .ok (.aload_n 0, 1) := by decide +kernel
theorem dX3_begin_36 : decode cX3_begin 36 = .ok (.getfield 28, 3) := by decide +kernel
theorem dX3_begin_39 : decode cX3_begin 39 = .ok (.iload_n 1, 1) := by decide +kernel
theorem dX3_begin_40 : decode cX3_begin 40 = .ok (.bipush 64, 2) := by decide +kernel
theorem dX3_begin_42 : decode cX3_begin 42 = .ok (.idiv, 1) := by decide +kernel
theorem dX3_begin_43 : decode cX3_begin 43 = .ok (.laload, 1) := by decide +kernel
theorem dX3_begin_44 : decode cX3_begin 44 = .ok (.iload_n 1, 1) := by decide +kernel
theorem dX3_begin_45 : decode cX3_begin 45 = .ok (.bipush 64, 2) := by decide +kernel
theorem dX3_begin_47 : decode cX3_begin 47 = .ok (.irem, 1) := by decide +kernel
theorem dX3_begin_48 : decode cX3_begin 48 = .ok (.lushr, 1) := by decide +kernel
theorem dX3_begin_49 : decode cX3_begin 49 = .ok (.lconst 1, 1) := by decide +kernel
theorem dX3_begin_50 : decode cX3_begin 50 = .ok (.land, 1) := by decide +kernel
theorem dX3_begin_51 : decode cX3_begin 51 = .ok (.lconst 0, 1) := by decide +kernel
theorem dX3_begin_52 : decode cX3_begin 52 = .ok (.lcmp, 1) := by decide +kernel
theorem dX3_begin_53 : decode cX3_begin 53 = .ok (.ifCond .eq 7, 3) := by decide +kernel
theorem dX3_begin_56 : decode cX3_begin 56 = .ok (.iconst 1, 1) := by decide +kernel
theorem dX3_begin_57 : decode cX3_begin 57 = .ok (.goto 4, 3) := by decide +kernel
theorem dX3_begin_60 : decode cX3_begin 60 = .ok (.iconst 0, 1) := by decide +kernel
theorem dX3_begin_61 : decode cX3_begin 61 = .ok (.istore_n 2, 1) := by decide +kernel
theorem dX3_begin_62 : decode cX3_begin 62 = .ok (.aload_n 0, 1) := by decide +kernel
theorem dX3_begin_63 : decode cX3_begin 63 = .ok (.getfield 18, 3) := by decide +kernel
theorem dX3_begin_66 : decode cX3_begin 66 = .ok (.iload_n 1, 1) := by decide +kernel
theorem dX3_begin_67 : decode cX3_begin 67 = .ok (.iload_n 2, 1) := by decide +kernel
theorem dX3_begin_68 : decode cX3_begin 68 = .ok (.ifCond .eq 7, 3) := by decide +kernel
theorem dX3_begin_71 : decode cX3_begin 71 = .ok (.iconst 0, 1) := by decide +kernel
theorem dX3_begin_72 : decode cX3_begin 72 = .ok (.goto 4, 3) := by decide +kernel
theorem dX3_begin_75 : decode cX3_begin 75 = .ok (.iconst (-1), 1) := by decide +kernel
theorem dX3_begin_76 : decode cX3_begin 76 = .ok (.iastore, 1) := by decide +kernel
theorem dX3_begin_77 : decode cX3_begin 77 = .ok (.iinc 1 1, 3) := by decide +kernel
theorem dX3_begin_80 : decode cX3_begin 80 = .ok (.goto (-52), 3) := by decide +kernel
theorem dX3_begin_83 : decode cX3_begin 83 = .ok (.return_, 1) := by decide +kernel
theorem dX3_reachBy_0 : decode cX3_reachBy 0 = .ok (.iconst 0, 1) := by decide +kernel
theorem dX3_reachBy_1 : decode cX3_reachBy 1 = .ok (.istore 4, 2) := by decide +kernel
theorem dX3_reachBy_3 : decode cX3_reachBy 3 = .ok (.iconst 0, 1) := by decide +kernel
theorem dX3_reachBy_4 : decode cX3_reachBy 4 = .ok (.istore 5, 2) := by decide +kernel
theorem dX3_reachBy_6 : decode cX3_reachBy 6 = .ok (.iload 5, 2) := by decide +kernel
theorem dX3_reachBy_8 : decode cX3_reachBy 8 = .ok (.sipush 512, 3) := by decide +kernel
theorem dX3_reachBy_11 : decode cX3_reachBy 11 = .ok (.if_icmp .ge 60, 3) := by decide +kernel
theorem dX3_reachBy_14 : decode cX3_reachBy 14 = .ok (.aload_n 1, 1) := by decide +kernel
theorem dX3_reachBy_15 : decode cX3_reachBy 15 = .ok (.iload 5, 2) := by decide +kernel
theorem dX3_reachBy_17 : decode cX3_reachBy 17 = .ok (.aload_n 0, 1) := by decide +kernel
theorem dX3_reachBy_18 : decode cX3_reachBy 18 = .ok (.getfield 28, 3) := by decide +kernel
theorem dX3_reachBy_21 : decode cX3_reachBy 21 = .ok (.aload_n 0, 1) := by decide +kernel
theorem dX3_reachBy_22 : decode cX3_reachBy 22 = .ok (.getfield 12, 3) := by decide +kernel
theorem dX3_reachBy_25 : decode cX3_reachBy 25 = .ok (.getfield 100, 3) := by decide +kernel
theorem dX3_reachBy_28 : decode cX3_reachBy 28 = .ok (.invokevirtual 103, 3) := by decide +kernel
theorem dX3_reachBy_31 : decode cX3_reachBy 31 = .ok (.istore 4, 2) := by decide +kernel
theorem dX3_reachBy_33 : decode cX3_reachBy 33 = .ok (.iload 4, 2) := by decide +kernel
theorem dX3_reachBy_35 : decode cX3_reachBy 35 = .ok (.iconst (-1), 1) := by decide +kernel
theorem dX3_reachBy_36 : decode cX3_reachBy 36 = .ok (.if_icmp .ne 23, 3) := by decide +kernel
theorem dX3_reachBy_39 : decode cX3_reachBy 39 = .ok (.aload_n 0, 1) := by decide +kernel
theorem dX3_reachBy_40 : decode cX3_reachBy 40 = .ok (.aload_n 1, 1) := by decide +kernel
theorem dX3_reachBy_41 : decode cX3_reachBy 41 = .ok (.getfield 107, 3) := by decide +kernel
theorem dX3_reachBy_44 : decode cX3_reachBy 44 = .ok (.iload 5, 2) := by decide +kernel
theorem dX3_reachBy_46 : decode cX3_reachBy 46 = .ok (.invokevirtual 111, 3) := by decide +kernel
theorem dX3_reachBy_49 : decode cX3_reachBy 49 = .ok (.iload_n 2, 1) := by decide +kernel
theorem dX3_reachBy_50 : decode cX3_reachBy 50 = .ok (.iload 5, 2) := by decide +kernel
theorem dX3_reachBy_52 : decode cX3_reachBy 52 = .ok (.iload_n 3, 1) := by decide +kernel
theorem dX3_reachBy_53 : decode cX3_reachBy 53 = .ok (.invokevirtual 117, 3) := by decide +kernel
theorem dX3_reachBy_56 : decode cX3_reachBy 56 = .ok (.iconst 0, 1) := by decide +kernel
theorem dX3_reachBy_57 : decode cX3_reachBy 57 = .ok (.istore 4, 2) := by decide +kernel
theorem dX3_reachBy_59 : decode cX3_reachBy 59 = .ok (.iload 5, 2) := by decide +kernel
theorem dX3_reachBy_61 : decode cX3_reachBy 61 = .ok (.iload 4, 2) := by decide +kernel
theorem dX3_reachBy_63 : decode cX3_reachBy 63 = .ok (.ior, 1) := by decide +kernel
theorem dX3_reachBy_64 : decode cX3_reachBy 64 = .ok (.iconst 1, 1) := by decide +kernel
theorem dX3_reachBy_65 : decode cX3_reachBy 65 = .ok (.iadd, 1) := by decide +kernel
theorem dX3_reachBy_66 : decode cX3_reachBy 66 = .ok (.istore 5, 2) := by decide +kernel
theorem dX3_reachBy_68 : decode cX3_reachBy 68 = .ok (.goto (-62), 3) := by decide +kernel
theorem dX3_reachBy_71 : decode cX3_reachBy 71 = .ok (.return_, 1) := by decide +kernel
theorem dX3_reach_0 : decode cX3_reach 0 = .ok (.aload_n 0, 1) := by decide +kernel
theorem dX3_reach_1 : decode cX3_reach 1 = .ok (.getfield 18, 3) := by decide +kernel
theorem dX3_reach_4 : decode cX3_reach 4 = .ok (.iload_n 1, 1) := by decide +kernel
theorem dX3_reach_5 : decode cX3_reach 5 = .ok (.iaload, 1) := by decide +kernel
theorem dX3_reach_6 : decode cX3_reach 6 = .ok (.iconst (-1), 1) := by decide +kernel
theorem dX3_reach_7 : decode cX3_reach 7 = .ok (.if_icmp .ne 43, 3) := by decide +kernel
theorem dX3_reach_10 : decode cX3_reach 10 = .ok (.aload_n 0, 1) := by decide +kernel
theorem dX3_reach_11 : decode cX3_reach 11 = .ok (.getfield 18, 3) := by decide +kernel
theorem dX3_reach_14 : decode cX3_reach 14 = .ok (.iload_n 1, 1) := by decide +kernel
theorem dX3_reach_15 : decode cX3_reach 15 = .ok (.iload 4, 2) := by decide +kernel
theorem dX3_reach_17 : decode cX3_reach 17 = .ok (.iastore, 1) := by decide +kernel
theorem dX3_reach_18 : decode cX3_reach 18 = .ok (.aload_n 0, 1) := by decide +kernel
theorem dX3_reach_19 : decode cX3_reach 19 = .ok (.getfield 22, 3) := by decide +kernel
theorem dX3_reach_22 : decode cX3_reach 22 = .ok (.iload_n 1, 1) := by decide +kernel
theorem dX3_reach_23 : decode cX3_reach 23 = .ok (.iload_n 2, 1) := by decide +kernel
theorem dX3_reach_24 : decode cX3_reach 24 = .ok (.iastore, 1) := by decide +kernel
theorem dX3_reach_25 : decode cX3_reach 25 = .ok (.aload_n 0, 1) := by decide +kernel
theorem dX3_reach_26 : decode cX3_reach 26 = .ok (.getfield 25, 3) := by decide +kernel
theorem dX3_reach_29 : decode cX3_reach 29 = .ok (.iload_n 1, 1) := by decide +kernel
theorem dX3_reach_30 : decode cX3_reach 30 = .ok (.iload_n 3, 1) := by decide +kernel
theorem dX3_reach_31 : decode cX3_reach 31 = .ok (.iastore, 1) := by decide +kernel
theorem dX3_reach_32 : decode cX3_reach 32 = .ok (.aload_n 0, 1) := by decide +kernel
theorem dX3_reach_33 : decode cX3_reach 33 = .ok (.getfield 32, 3) := by decide +kernel
theorem dX3_reach_36 : decode cX3_reach 36 = .ok (.iload_n 1, 1) := by decide +kernel
theorem dX3_reach_37 : decode cX3_reach 37 = .ok (.bipush 64, 2) := by decide +kernel
theorem dX3_reach_39 : decode cX3_reach 39 = .ok (.idiv, 1) := by decide +kernel
theorem dX3_reach_40 : decode cX3_reach 40 = .ok (.dup2, 1) := by decide +kernel
theorem dX3_reach_41 : decode cX3_reach 41 = .ok (.laload, 1) := by decide +kernel
theorem dX3_reach_42 : decode cX3_reach 42 = .ok (.lconst 1, 1) := by decide +kernel
theorem dX3_reach_43 : decode cX3_reach 43 = .ok (.iload_n 1, 1) := by decide +kernel
theorem dX3_reach_44 : decode cX3_reach 44 = .ok (.bipush 64, 2) := by decide +kernel
theorem dX3_reach_46 : decode cX3_reach 46 = .ok (.irem, 1) := by decide +kernel
theorem dX3_reach_47 : decode cX3_reach 47 = .ok (.lshl, 1) := by decide +kernel
theorem dX3_reach_48 : decode cX3_reach 48 = .ok (.lor, 1) := by decide +kernel
theorem dX3_reach_49 : decode cX3_reach 49 = .ok (.lastore, 1) := by decide +kernel
theorem dX3_reach_50 : decode cX3_reach 50 = .ok (.return_, 1) := by decide +kernel
theorem dX3_endStep_0 : decode cX3_endStep 0 = .ok (.iconst 0, 1) := by decide +kernel
theorem dX3_endStep_1 : decode cX3_endStep 1 = .ok (.istore_n 1, 1) := by decide +kernel
theorem dX3_endStep_2 : decode cX3_endStep 2 = .ok (.iconst 0, 1) := by decide +kernel
theorem dX3_endStep_3 : decode cX3_endStep 3 = .ok (.istore_n 2, 1) := by decide +kernel
theorem dX3_endStep_4 : decode cX3_endStep 4 = .ok (.iload_n 2, 1) := by decide +kernel
theorem dX3_endStep_5 : decode cX3_endStep 5 = .ok (.bipush 6, 2) := by decide +kernel
theorem dX3_endStep_7 : decode cX3_endStep 7 = .ok (.if_icmp .ge 52, 3) := by decide +kernel
theorem dX3_endStep_10 : decode cX3_endStep 10 = .ok (.iload_n 1, 1) := by decide +kernel
theorem dX3_endStep_11 : decode cX3_endStep 11 = .ok (.aload_n 0, 1) := by decide +kernel
theorem dX3_endStep_12 : decode cX3_endStep 12 = .ok (.getfield 32, 3) := by decide +kernel
theorem dX3_endStep_15 : decode cX3_endStep 15 = .ok (.iload_n 2, 1) := by decide +kernel
theorem dX3_endStep_16 : decode cX3_endStep 16 = .ok (.laload, 1) := by decide +kernel
theorem dX3_endStep_17 : decode cX3_endStep 17 = .ok (.lconst 0, 1) := by decide +kernel
theorem dX3_endStep_18 : decode cX3_endStep 18 = .ok (.lcmp, 1) := by decide +kernel
theorem dX3_endStep_19 : decode cX3_endStep 19 = .ok (.ifCond .ne 7, 3) := by decide +kernel
theorem dX3_endStep_22 : decode cX3_endStep 22 = .ok (.iconst 0, 1) := by decide +kernel
theorem dX3_endStep_23 : decode cX3_endStep 23 = .ok (.goto 6, 3) := by decide +kernel
theorem dX3_endStep_26 : decode cX3_endStep 26 = .ok (.iconst 1, 1) := by decide +kernel
theorem dX3_endStep_27 : decode cX3_endStep 27 = .ok (.iload_n 2, 1) := by decide +kernel
theorem dX3_endStep_28 : decode cX3_endStep 28 = .ok (.ishl, 1) := by decide +kernel
theorem dX3_endStep_29 : decode cX3_endStep 29 = .ok (.ior, 1) := by decide +kernel
theorem dX3_endStep_30 : decode cX3_endStep 30 = .ok (.istore_n 1, 1) := by decide +kernel
theorem dX3_endStep_31 : decode cX3_endStep 31 = .ok (.aload_n 0, 1) := by decide +kernel
theorem dX3_endStep_32 : decode cX3_endStep 32 = .ok (.getfield 28, 3) := by decide +kernel
theorem dX3_endStep_35 : decode cX3_endStep 35 = .ok (.iload_n 2, 1) := by decide +kernel
theorem dX3_endStep_36 : decode cX3_endStep 36 = .ok (.dup2, 1) := by decide +kernel
theorem dX3_endStep_37 : decode cX3_endStep 37 = .ok (.laload, 1) := by decide +kernel
theorem dX3_endStep_38 : decode cX3_endStep 38 = .ok (.aload_n 0, 1) := by decide +kernel
theorem dX3_endStep_39 : decode cX3_endStep 39 = .ok (.getfield 32, 3) := by decide +kernel
theorem dX3_endStep_42 : decode cX3_endStep 42 = .ok (.iload_n 2, 1) := by decide +kernel
theorem dX3_endStep_43 : decode cX3_endStep 43 = .ok (.laload, 1) := by decide +kernel
theorem dX3_endStep_44 : decode cX3_endStep 44 = .ok (.lor, 1) := by decide +kernel
theorem dX3_endStep_45 : decode cX3_endStep 45 = .ok (.lastore, 1) := by decide +kernel
theorem dX3_endStep_46 : decode cX3_endStep 46 = .ok (.aload_n 0, 1) := by decide +kernel
theorem dX3_endStep_47 : decode cX3_endStep 47 = .ok (.getfield 32, 3) := by decide +kernel
theorem dX3_endStep_50 : decode cX3_endStep 50 = .ok (.iload_n 2, 1) := by decide +kernel
theorem dX3_endStep_51 : decode cX3_endStep 51 = .ok (.lconst 0, 1) := by decide +kernel
theorem dX3_endStep_52 : decode cX3_endStep 52 = .ok (.lastore, 1) := by decide +kernel
theorem dX3_endStep_53 : decode cX3_endStep 53 = .ok (.iinc 2 1, 3) := by decide +kernel
theorem dX3_endStep_56 : decode cX3_endStep 56 = .ok (.goto (-52), 3) := by decide +kernel
theorem dX3_endStep_59 : decode cX3_endStep 59 = .ok (.iload_n 1, 1) := by decide +kernel
theorem dX3_endStep_60 : decode cX3_endStep 60 = .ok (.ireturn, 1) := by decide +kernel
theorem dX4_init_0 : decode cX4_init 0 = .ok (.aload_n 0, 1) := by decide +kernel
theorem dX4_init_1 : decode cX4_init 1 = .ok (.invokespecial 3, 3) := by decide +kernel
theorem dX4_init_4 : decode cX4_init 4 = .ok (.aload_n 0, 1) := by decide +kernel
theorem dX4_init_5 : decode cX4_init 5 = .ok (.new 9, 3) := by decide +kernel
theorem dX4_init_8 : decode cX4_init 8 = .ok (.dup, 1) := by decide +kernel
theorem dX4_init_9 : decode cX4_init 9 = .ok (.invokespecial 11, 3) := by decide +kernel
theorem dX4_init_12 : decode cX4_init 12 = .ok (.putfield 12, 3) := by decide +kernel
theorem dX4_init_15 : decode cX4_init 15 = .ok (.aload_n 0, 1) := by decide +kernel
theorem dX4_init_16 : decode cX4_init 16 = .ok (.iconst 3, 1) := by decide +kernel
theorem dX4_init_17 : decode cX4_init 17 = .ok (.anewarray 9, 3) := by decide +kernel
theorem dX4_init_20 : decode cX4_init 20 = .ok (.putfield 18, 3) := by decide +kernel
theorem dX4_init_23 : decode cX4_init 23 = .ok (.aload_n 0, 1) := by decide +kernel
theorem dX4_init_24 : decode cX4_init 24 = .ok (.iconst 0, 1) := by decide +kernel
theorem dX4_init_25 : decode cX4_init 25 = .ok (.putfield 22, 3) := by decide +kernel
theorem dX4_init_28 : decode cX4_init 28 = .ok (.aload_n 0, 1) := by decide +kernel
theorem dX4_init_29 : decode cX4_init 29 = .ok (.iconst 0, 1) := by decide +kernel
theorem dX4_init_30 : decode cX4_init 30 = .ok (.putfield 26, 3) := by decide +kernel
theorem dX4_init_33 : decode cX4_init 33 = .ok (.aload_n 0, 1) := by decide +kernel
theorem dX4_init_34 : decode cX4_init 34 = .ok (.sipush 511, 3) := by decide +kernel
theorem dX4_init_37 : decode cX4_init 37 = .ok (.putfield 29, 3) := by decide +kernel
theorem dX4_init_40 : decode cX4_init 40 = .ok (.aload_n 0, 1) := by decide +kernel
theorem dX4_init_41 : decode cX4_init 41 = .ok (.iconst 0, 1) := by decide +kernel
theorem dX4_init_42 : decode cX4_init 42 = .ok (.putfield 32, 3) := by decide +kernel
theorem dX4_init_45 : decode cX4_init 45 = .ok (.iconst 0, 1) := by decide +kernel
theorem dX4_init_46 : decode cX4_init 46 = .ok (.istore_n 1, 1) := by decide +kernel
theorem dX4_init_47 : decode cX4_init 47 = .ok (.iload_n 1, 1) := by decide +kernel
theorem dX4_init_48 : decode cX4_init 48 = .ok (.iconst 3, 1) := by decide +kernel
theorem dX4_init_49 : decode cX4_init 49 = .ok (.if_icmp .ge 22, 3) := by decide +kernel
theorem dX4_init_52 : decode cX4_init 52 = .ok (.aload_n 0, 1) := by decide +kernel
theorem dX4_init_53 : decode cX4_init 53 = .ok (.getfield 18, 3) := by decide +kernel
theorem dX4_init_56 : decode cX4_init 56 = .ok (.iload_n 1, 1) := by decide +kernel
theorem dX4_init_57 : decode cX4_init 57 = .ok (.new 9, 3) := by decide +kernel
theorem dX4_init_60 : decode cX4_init 60 = .ok (.dup, 1) := by decide +kernel
theorem dX4_init_61 : decode cX4_init 61 = .ok (.invokespecial 11, 3) := by decide +kernel
theorem dX4_init_64 : decode cX4_init 64 = .ok (.aastore, 1) := by decide +kernel
theorem dX4_init_65 : decode cX4_init 65 = .ok (.iinc 1 1, 3) := by decide +kernel
theorem dX4_init_68 : decode cX4_init 68 = .ok (.goto (-21), 3) := by decide +kernel
theorem dX4_init_71 : decode cX4_init 71 = .ok (.return_, 1) := by decide +kernel
theorem dX4_setHead_0 : decode cX4_setHead 0 = .ok (.aload_n 0, 1) := by decide +kernel
theorem dX4_setHead_1 : decode cX4_setHead 1 = .ok (.getfield 12, 3) := by decide +kernel
theorem dX4_setHead_4 : decode cX4_setHead 4 = .ok (.iload_n 1, 1) := by decide +kernel
theorem dX4_setHead_5 : decode cX4_setHead 5 = .ok (.iload_n 2, 1) := by decide +kernel
theorem dX4_setHead_6 : decode cX4_setHead 6 = .ok (.iload_n 3, 1) := by decide +kernel
theorem dX4_setHead_7 : decode cX4_setHead 7 = .ok (.iconst 0, 1) := by decide +kernel
theorem dX4_setHead_8 : decode cX4_setHead 8 = .ok (.invokevirtual 36, 3) := by decide +kernel
theorem dX4_setHead_11 : decode cX4_setHead 11 = .ok (.aload_n 0, 1) := by decide +kernel
theorem dX4_setHead_12 : decode cX4_setHead 12 = .ok (.dup, 1) := by decide +kernel
theorem dX4_setHead_13 : decode cX4_setHead 13 = .ok (.getfield 29, 3) := by decide +kernel
theorem dX4_setHead_16 : decode cX4_setHead 16 = .ok (.aload_n 0, 1) := by decide +kernel
theorem dX4_setHead_17 : decode cX4_setHead 17 = .ok (.getfield 12, 3) := by decide +kernel
theorem dX4_setHead_20 : decode cX4_setHead 20 = .ok (.invokevirtual 40, 3) := by decide +kernel
theorem dX4_setHead_23 : decode cX4_setHead 23 = .ok (.iconst (-1), 1) := by decide +kernel
theorem dX4_setHead_24 : decode cX4_setHead 24 = .ok (.ixor, 1) := by decide +kernel
theorem dX4_setHead_25 : decode cX4_setHead 25 = .ok (.iand, 1) := by decide +kernel
theorem dX4_setHead_26 : decode cX4_setHead 26 = .ok (.putfield 29, 3) := by decide +kernel
theorem dX4_setHead_29 : decode cX4_setHead 29 = .ok (.return_, 1) := by decide +kernel
theorem dX4_append_0 : decode cX4_append 0 = .ok (.aload_n 0, 1) := by decide +kernel
theorem dX4_append_1 : decode cX4_append 1 = .ok (.getfield 22, 3) := by decide +kernel
theorem dX4_append_4 : decode cX4_append 4 = .ok (.iconst 3, 1) := by decide +kernel
theorem dX4_append_5 : decode cX4_append 5 = .ok (.if_icmp .lt 4, 3) := by decide +kernel
theorem dX4_append_8 : decode cX4_append 8 = .ok (.return_, 1) := by decide +kernel
theorem dX4_append_9 : decode cX4_append 9 = .ok (.aload_n 0, 1) := by decide +kernel
theorem dX4_append_10 : decode cX4_append 10 = .ok (.getfield 18, 3) := by decide +kernel
theorem dX4_append_13 : decode cX4_append 13 = .ok (.aload_n 0, 1) := by decide +kernel
theorem dX4_append_14 : decode cX4_append 14 = .ok (.getfield 22, 3) := by decide +kernel
theorem dX4_append_17 : decode cX4_append 17 = .ok (.aaload, 1) := by decide +kernel
theorem dX4_append_18 : decode cX4_append 18 = .ok (.iload_n 1, 1) := by decide +kernel
theorem dX4_append_19 : decode cX4_append 19 = .ok (.iload_n 2, 1) := by decide +kernel
theorem dX4_append_20 : decode cX4_append 20 = .ok (.iload_n 3, 1) := by decide +kernel
theorem dX4_append_21 : decode cX4_append 21 = .ok (.iload 4, 2) := by decide +kernel
theorem dX4_append_23 : decode cX4_append 23 = .ok (.invokevirtual 36, 3) := by decide +kernel
theorem dX4_append_26 : decode cX4_append 26 = .ok (.aload_n 0, 1) := by decide +kernel
theorem dX4_append_27 : decode cX4_append 27 = .ok (.dup, 1) := by decide +kernel
theorem dX4_append_28 : decode cX4_append 28 = .ok (.getfield 29, 3) := by decide +kernel
theorem dX4_append_31 : decode cX4_append 31 = .ok (.aload_n 0, 1) := by decide +kernel
theorem dX4_append_32 : decode cX4_append 32 = .ok (.getfield 18, 3) := by decide +kernel
theorem dX4_append_35 : decode cX4_append 35 = .ok (.aload_n 0, 1) := by decide +kernel
theorem dX4_append_36 : decode cX4_append 36 = .ok (.getfield 22, 3) := by decide +kernel
theorem dX4_append_39 : decode cX4_append 39 = .ok (.aaload, 1) := by decide +kernel
theorem dX4_append_40 : decode cX4_append 40 = .ok (.invokevirtual 40, 3) := by decide +kernel
theorem dX4_append_43 : decode cX4_append 43 = .ok (.iconst (-1), 1) := by decide +kernel
theorem dX4_append_44 : decode cX4_append 44 = .ok (.ixor, 1) := by decide +kernel
theorem dX4_append_45 : decode cX4_append 45 = .ok (.iand, 1) := by decide +kernel
theorem dX4_append_46 : decode cX4_append 46 = .ok (.putfield 29, 3) := by decide +kernel
theorem dX4_append_49 : decode cX4_append 49 = .ok (.iload 4, 2) := by decide +kernel
theorem dX4_append_51 : decode cX4_append 51 = .ok (.ifCond .ne 15, 3) := by decide +kernel
theorem dX4_append_54 : decode cX4_append 54 = .ok (.aload_n 0, 1) := by decide +kernel
theorem dX4_append_55 : decode cX4_append 55 = .ok (.dup, 1) := by decide +kernel
theorem dX4_append_56 : decode cX4_append 56 = .ok (.getfield 26, 3) := by decide +kernel
theorem dX4_append_59 : decode cX4_append 59 = .ok (.iconst 1, 1) := by decide +kernel
theorem dX4_append_60 : decode cX4_append 60 = .ok (.iload_n 1, 1) := by decide +kernel
theorem dX4_append_61 : decode cX4_append 61 = .ok (.ishl, 1) := by decide +kernel
theorem dX4_append_62 : decode cX4_append 62 = .ok (.ior, 1) := by decide +kernel
theorem dX4_append_63 : decode cX4_append 63 = .ok (.putfield 26, 3) := by decide +kernel
theorem dX4_append_66 : decode cX4_append 66 = .ok (.aload_n 0, 1) := by decide +kernel
theorem dX4_append_67 : decode cX4_append 67 = .ok (.dup, 1) := by decide +kernel
theorem dX4_append_68 : decode cX4_append 68 = .ok (.getfield 22, 3) := by decide +kernel
theorem dX4_append_71 : decode cX4_append 71 = .ok (.iconst 1, 1) := by decide +kernel
theorem dX4_append_72 : decode cX4_append 72 = .ok (.iadd, 1) := by decide +kernel
theorem dX4_append_73 : decode cX4_append 73 = .ok (.putfield 22, 3) := by decide +kernel
theorem dX4_append_76 : decode cX4_append 76 = .ok (.return_, 1) := by decide +kernel
theorem dX4_isBound_0 : decode cX4_isBound 0 = .ok (.aload_n 0, 1) := by decide +kernel
theorem dX4_isBound_1 : decode cX4_isBound 1 = .ok (.getfield 29, 3) := by decide +kernel
theorem dX4_isBound_4 : decode cX4_isBound 4 = .ok (.istore_n 1, 1) := by decide +kernel
theorem dX4_isBound_5 : decode cX4_isBound 5 = .ok (.iconst 0, 1) := by decide +kernel
theorem dX4_isBound_6 : decode cX4_isBound 6 = .ok (.istore_n 2, 1) := by decide +kernel
theorem dX4_isBound_7 : decode cX4_isBound 7 = .ok (.iload_n 2, 1) := by decide +kernel
theorem dX4_isBound_8 : decode cX4_isBound 8 = .ok (.aload_n 0, 1) := by decide +kernel
theorem dX4_isBound_9 : decode cX4_isBound 9 = .ok (.getfield 22, 3) := by decide +kernel
theorem dX4_isBound_12 : decode cX4_isBound 12 = .ok (.if_icmp .ge 37, 3) := by decide +kernel
theorem dX4_isBound_15 : decode cX4_isBound 15 = .ok (.iload_n 1, 1) := by decide +kernel
theorem dX4_isBound_16 : decode cX4_isBound 16 = .ok (.aload_n 0, 1) := by decide +kernel
theorem dX4_isBound_17 : decode cX4_isBound 17 = .ok (.getfield 18, 3) := by decide +kernel
theorem dX4_isBound_20 : decode cX4_isBound 20 = .ok (.iload_n 2, 1) := by decide +kernel
theorem dX4_isBound_21 : decode cX4_isBound 21 = .ok (.aaload, 1) := by decide +kernel
theorem dX4_isBound_22 : decode cX4_isBound 22 = .ok (.getfield 44, 3) := by decide +kernel
theorem dX4_isBound_25 : decode cX4_isBound 25 = .ok (.ifCond .eq 7, 3) := by decide +kernel
theorem dX4_isBound_28 : decode cX4_isBound 28 = .ok (.iconst 0, 1) := by decide +kernel
theorem dX4_isBound_29 : decode cX4_isBound 29 = .ok (.goto 12, 3) := by decide +kernel
theorem dX4_isBound_32 : decode cX4_isBound 32 = .ok (.aload_n 0, 1) := by decide +kernel
theorem dX4_isBound_33 : decode cX4_isBound 33 = .ok (.getfield 18, 3) := by decide +kernel
theorem dX4_isBound_36 : decode cX4_isBound 36 = .ok (.iload_n 2, 1) := by decide +kernel
theorem dX4_isBound_37 : decode cX4_isBound 37 = .ok (.aaload, 1) := by decide +kernel
theorem dX4_isBound_38 : decode cX4_isBound 38 = .ok (.invokevirtual 40, 3) := by decide +kernel
theorem dX4_isBound_41 : decode cX4_isBound 41 = .ok (.ior, 1) := by decide +kernel
theorem dX4_isBound_42 : decode cX4_isBound 42 = .ok (.istore_n 1, 1) := by decide +kernel
theorem dX4_isBound_43 : decode cX4_isBound 43 = .ok (.iinc 2 1, 3) := by decide +kernel
theorem dX4_isBound_46 : decode cX4_isBound 46 = .ok (.goto (-39), 3) := by decide +kernel
theorem dX4_isBound_49 : decode cX4_isBound 49 = .ok (.iload_n 1, 1) := by decide +kernel
theorem dX4_isBound_50 : decode cX4_isBound 50 = .ok (.sipush 511, 3) := by decide +kernel
theorem dX4_isBound_53 : decode cX4_isBound 53 = .ok (.if_icmp .ne 7, 3) := by decide +kernel
theorem dX4_isBound_56 : decode cX4_isBound 56 = .ok (.iconst 1, 1) := by decide +kernel
theorem dX4_isBound_57 : decode cX4_isBound 57 = .ok (.goto 4, 3) := by decide +kernel
theorem dX4_isBound_60 : decode cX4_isBound 60 = .ok (.iconst 0, 1) := by decide +kernel
theorem dX4_isBound_61 : decode cX4_isBound 61 = .ok (.ireturn, 1) := by decide +kernel
theorem dX4_misfit_0 : decode cX4_misfit 0 = .ok (.iload_n 1, 1) := by decide +kernel
theorem dX4_misfit_1 : decode cX4_misfit 1 = .ok (.aload_n 0, 1) := by decide +kernel
theorem dX4_misfit_2 : decode cX4_misfit 2 = .ok (.getfield 29, 3) := by decide +kernel
theorem dX4_misfit_5 : decode cX4_misfit 5 = .ok (.iand, 1) := by decide +kernel
theorem dX4_misfit_6 : decode cX4_misfit 6 = .ok (.istore 4, 2) := by decide +kernel
theorem dX4_misfit_8 : decode cX4_misfit 8 = .ok (.iload 4, 2) := by decide +kernel
theorem dX4_misfit_10 : decode cX4_misfit 10 = .ok (.ifCond .eq 31, 3) := by decide +kernel
theorem dX4_misfit_13 : decode cX4_misfit 13 = .ok (.iload 4, 2) := by decide +kernel
theorem dX4_misfit_15 : decode cX4_misfit 15 = .ok (.bipush 64, 2) := by decide +kernel
theorem dX4_misfit_17 : decode cX4_misfit 17 = .ok (.if_icmp .lt 9, 3) := by decide +kernel
theorem dX4_misfit_20 : decode cX4_misfit 20 = .ok (.sipush 511, 3) := by decide +kernel
theorem dX4_misfit_23 : decode cX4_misfit 23 = .ok (.goto 17, 3) := by decide +kernel
theorem dX4_misfit_26 : decode cX4_misfit 26 = .ok (.iload 4, 2) := by decide +kernel
theorem dX4_misfit_28 : decode cX4_misfit 28 = .ok (.bipush 8, 2) := by decide +kernel
theorem dX4_misfit_30 : decode cX4_misfit 30 = .ok (.if_icmp .lt 8, 3) := by decide +kernel
theorem dX4_misfit_33 : decode cX4_misfit 33 = .ok (.bipush 63, 2) := by decide +kernel
theorem dX4_misfit_35 : decode cX4_misfit 35 = .ok (.goto 5, 3) := by decide +kernel
theorem dX4_misfit_38 : decode cX4_misfit 38 = .ok (.bipush 7, 2) := by decide +kernel
theorem dX4_misfit_40 : decode cX4_misfit 40 = .ok (.ireturn, 1) := by decide +kernel
theorem dX4_misfit_41 : decode cX4_misfit 41 = .ok (.iconst 0, 1) := by decide +kernel
theorem dX4_misfit_42 : decode cX4_misfit 42 = .ok (.istore 5, 2) := by decide +kernel
theorem dX4_misfit_44 : decode cX4_misfit 44 = .ok (.iload 5, 2) := by decide +kernel
theorem dX4_misfit_46 : decode cX4_misfit 46 = .ok (.aload_n 0, 1) := by decide +kernel
theorem dX4_misfit_47 : decode cX4_misfit 47 = .ok (.getfield 22, 3) := by decide +kernel
theorem dX4_misfit_50 : decode cX4_misfit 50 = .ok (.if_icmp .ge 84, 3) := by decide +kernel
theorem dX4_misfit_53 : decode cX4_misfit 53 = .ok (.aload_n 0, 1) := by decide +kernel
theorem dX4_misfit_54 : decode cX4_misfit 54 = .ok (.getfield 18, 3) := by decide +kernel
theorem dX4_misfit_57 : decode cX4_misfit 57 = .ok (.iload 5, 2) := by decide +kernel
theorem dX4_misfit_59 : decode cX4_misfit 59 = .ok (.aaload, 1) := by decide +kernel
theorem dX4_misfit_60 : decode cX4_misfit 60 = .ok (.astore 6, 2) := by decide +kernel
theorem dX4_misfit_62 : decode cX4_misfit 62 = .ok (.aload 6, 2) := by decide +kernel
theorem dX4_misfit_64 : decode cX4_misfit 64 = .ok (.getfield 44, 3) := by decide +kernel
theorem dX4_misfit_67 : decode cX4_misfit 67 = .ok (.ifCond .eq 13, 3) := by decide +kernel
theorem dX4_misfit_70 : decode cX4_misfit 70 = .ok (.aload_n 3, 1) := by decide +kernel
theorem dX4_misfit_71 : decode cX4_misfit 71 = .ok (.aload 6, 2) := by decide +kernel
theorem dX4_misfit_73 : decode cX4_misfit 73 = .ok (.getfield 47, 3) := by decide +kernel
theorem dX4_misfit_76 : decode cX4_misfit 76 = .ok (.laload, 1) := by decide +kernel
theorem dX4_misfit_77 : decode cX4_misfit 77 = .ok (.goto 10, 3) := by decide +kernel
theorem dX4_misfit_80 : decode cX4_misfit 80 = .ok (.aload_n 2, 1) := by decide +kernel
theorem dX4_misfit_81 : decode cX4_misfit 81 = .ok (.aload 6, 2) := by decide +kernel
theorem dX4_misfit_83 : decode cX4_misfit 83 = .ok (.getfield 47, 3) := by decide +kernel
theorem dX4_misfit_86 : decode cX4_misfit 86 = .ok (.laload, 1) := by decide +kernel
theorem dX4_misfit_87 : decode cX4_misfit 87 = .ok (.lstore 7, 2) := by decide +kernel
theorem dX4_misfit_89 : decode cX4_misfit 89 = .ok (.lload 7, 2) := by decide +kernel
theorem dX4_misfit_91 : decode cX4_misfit 91 = .ok (.aload 6, 2) := by decide +kernel
theorem dX4_misfit_93 : decode cX4_misfit 93 = .ok (.iload_n 1, 1) := by decide +kernel
theorem dX4_misfit_94 : decode cX4_misfit 94 = .ok (.invokevirtual 50, 3) := by decide +kernel
theorem dX4_misfit_97 : decode cX4_misfit 97 = .ok (.lushr, 1) := by decide +kernel
theorem dX4_misfit_98 : decode cX4_misfit 98 = .ok (.lconst 1, 1) := by decide +kernel
theorem dX4_misfit_99 : decode cX4_misfit 99 = .ok (.land, 1) := by decide +kernel
theorem dX4_misfit_100 : decode cX4_misfit 100 = .ok (.lconst 0, 1) := by decide +kernel
theorem dX4_misfit_101 : decode cX4_misfit 101 = .ok (.lcmp, 1) := by decide +kernel
theorem dX4_misfit_102 : decode cX4_misfit 102 = .ok (.ifCond .eq 7, 3) := by decide +kernel
theorem dX4_misfit_105 : decode cX4_misfit 105 = .ok (.iconst 1, 1) := by decide +kernel
theorem dX4_misfit_106 : decode cX4_misfit 106 = .ok (.goto 4, 3) := by decide +kernel
theorem dX4_misfit_109 : decode cX4_misfit 109 = .ok (.iconst 0, 1) := by decide +kernel
theorem dX4_misfit_110 : decode cX4_misfit 110 = .ok (.istore 9, 2) := by decide +kernel
theorem dX4_misfit_112 : decode cX4_misfit 112 = .ok (.iload 9, 2) := by decide +kernel
theorem dX4_misfit_114 : decode cX4_misfit 114 = .ok (.aload 6, 2) := by decide +kernel
theorem dX4_misfit_116 : decode cX4_misfit 116 = .ok (.getfield 44, 3) := by decide +kernel
theorem dX4_misfit_119 : decode cX4_misfit 119 = .ok (.if_icmp .ne 9, 3) := by decide +kernel
theorem dX4_misfit_122 : decode cX4_misfit 122 = .ok (.aload 6, 2) := by decide +kernel
theorem dX4_misfit_124 : decode cX4_misfit 124 = .ok (.invokevirtual 54, 3) := by decide +kernel
theorem dX4_misfit_127 : decode cX4_misfit 127 = .ok (.ireturn, 1) := by decide +kernel
theorem dX4_misfit_128 : decode cX4_misfit 128 = .ok (.iinc 5 1, 3) := by decide +kernel
theorem dX4_misfit_131 : decode cX4_misfit 131 = .ok (.goto (-87), 3) := by decide +kernel
theorem dX4_misfit_134 : decode cX4_misfit 134 = .ok (.iconst (-1), 1) := by decide +kernel
theorem dX4_misfit_135 : decode cX4_misfit 135 = .ok (.ireturn, 1) := by decide +kernel
theorem dX4_headsFrom_0 : decode cX4_headsFrom 0 = .ok (.lconst 0, 1) := by decide +kernel
theorem dX4_headsFrom_1 : decode cX4_headsFrom 1 = .ok (.lstore_n 2, 1) := by decide +kernel
theorem dX4_headsFrom_2 : decode cX4_headsFrom 2 = .ok (.iconst 0, 1) := by decide +kernel
theorem dX4_headsFrom_3 : decode cX4_headsFrom 3 = .ok (.istore 4, 2) := by decide +kernel
theorem dX4_headsFrom_5 : decode cX4_headsFrom 5 = .ok (.iconst 0, 1) := by decide +kernel
theorem dX4_headsFrom_6 : decode cX4_headsFrom 6 = .ok (.istore 5, 2) := by decide +kernel
theorem dX4_headsFrom_8 : decode cX4_headsFrom 8 = .ok (.iload 5, 2) := by decide +kernel
theorem dX4_headsFrom_10 : decode cX4_headsFrom 10 = .ok (.sipush 512, 3) := by decide +kernel
theorem dX4_headsFrom_13 : decode cX4_headsFrom 13 = .ok (.if_icmp .ge 48, 3) := by decide +kernel
theorem dX4_headsFrom_16 : decode cX4_headsFrom 16 = .ok (.aload_n 0, 1) := by decide +kernel
theorem dX4_headsFrom_17 : decode cX4_headsFrom 17 = .ok (.iload 5, 2) := by decide +kernel
theorem dX4_headsFrom_19 : decode cX4_headsFrom 19 = .ok (.aload_n 1, 1) := by decide +kernel
theorem dX4_headsFrom_20 : decode cX4_headsFrom 20 = .ok (.aload_n 1, 1) := by decide +kernel
theorem dX4_headsFrom_21 : decode cX4_headsFrom 21 = .ok (.invokevirtual 57, 3) := by decide +kernel
theorem dX4_headsFrom_24 : decode cX4_headsFrom 24 = .ok (.istore 4, 2) := by decide +kernel
theorem dX4_headsFrom_26 : decode cX4_headsFrom 26 = .ok (.iload 4, 2) := by decide +kernel
theorem dX4_headsFrom_28 : decode cX4_headsFrom 28 = .ok (.iconst (-1), 1) := by decide +kernel
theorem dX4_headsFrom_29 : decode cX4_headsFrom 29 = .ok (.if_icmp .ne 20, 3) := by decide +kernel
theorem dX4_headsFrom_32 : decode cX4_headsFrom 32 = .ok (.lload_n 2, 1) := by decide +kernel
theorem dX4_headsFrom_33 : decode cX4_headsFrom 33 = .ok (.lconst 1, 1) := by decide +kernel
theorem dX4_headsFrom_34 : decode cX4_headsFrom 34 = .ok (.aload_n 0, 1) := by decide +kernel
theorem dX4_headsFrom_35 : decode cX4_headsFrom 35 = .ok (.getfield 12, 3) := by decide +kernel
theorem dX4_headsFrom_38 : decode cX4_headsFrom 38 = .ok (.iload 5, 2) := by decide +kernel
theorem dX4_headsFrom_40 : decode cX4_headsFrom 40 = .ok (.invokevirtual 50, 3) := by decide +kernel
theorem dX4_headsFrom_43 : decode cX4_headsFrom 43 = .ok (.lshl, 1) := by decide +kernel
theorem dX4_headsFrom_44 : decode cX4_headsFrom 44 = .ok (.lor, 1) := by decide +kernel
theorem dX4_headsFrom_45 : decode cX4_headsFrom 45 = .ok (.lstore_n 2, 1) := by decide +kernel
theorem dX4_headsFrom_46 : decode cX4_headsFrom 46 = .ok (.iconst 0, 1) := by decide +kernel
theorem dX4_headsFrom_47 : decode cX4_headsFrom 47 = .ok (.istore 4, 2) := by decide +kernel
theorem dX4_headsFrom_49 : decode cX4_headsFrom 49 = .ok (.iload 5, 2) := by decide +kernel
theorem dX4_headsFrom_51 : decode cX4_headsFrom 51 = .ok (.iload 4, 2) := by decide +kernel
theorem dX4_headsFrom_53 : decode cX4_headsFrom 53 = .ok (.ior, 1) := by decide +kernel
theorem dX4_headsFrom_54 : decode cX4_headsFrom 54 = .ok (.iconst 1, 1) := by decide +kernel
theorem dX4_headsFrom_55 : decode cX4_headsFrom 55 = .ok (.iadd, 1) := by decide +kernel
theorem dX4_headsFrom_56 : decode cX4_headsFrom 56 = .ok (.istore 5, 2) := by decide +kernel
theorem dX4_headsFrom_58 : decode cX4_headsFrom 58 = .ok (.goto (-50), 3) := by decide +kernel
theorem dX4_headsFrom_61 : decode cX4_headsFrom 61 = .ok (.lload_n 2, 1) := by decide +kernel
theorem dX4_headsFrom_62 : decode cX4_headsFrom 62 = .ok (.lreturn, 1) := by decide +kernel
theorem dX5_init_0 : decode cX5_init 0 = .ok (.aload_n 0, 1) := by decide +kernel
theorem dX5_init_1 : decode cX5_init 1 = .ok (.invokespecial 3, 3) := by decide +kernel
theorem dX5_init_4 : decode cX5_init 4 = .ok (.aload_n 0, 1) := by decide +kernel
theorem dX5_init_5 : decode cX5_init 5 = .ok (.bipush 10, 2) := by decide +kernel
theorem dX5_init_7 : decode cX5_init 7 = .ok (.anewarray 9, 3) := by decide +kernel
theorem dX5_init_10 : decode cX5_init 10 = .ok (.putfield 11, 3) := by decide +kernel
theorem dX5_init_13 : decode cX5_init 13 = .ok (.aload_n 0, 1) := by decide +kernel
theorem dX5_init_14 : decode cX5_init 14 = .ok (.bipush 6, 2) := by decide +kernel
theorem dX5_init_16 : decode cX5_init 16 = .ok (.newarray .int, 2) := by decide +kernel
theorem dX5_init_18 : decode cX5_init 18 = .ok (.putfield 17, 3) := by decide +kernel
theorem dX5_init_21 : decode cX5_init 21 = .ok (.aload_n 0, 1) := by decide +kernel
theorem dX5_init_22 : decode cX5_init 22 = .ok (.iconst 0, 1) := by decide +kernel
theorem dX5_init_23 : decode cX5_init 23 = .ok (.putfield 21, 3) := by decide +kernel
theorem dX5_init_26 : decode cX5_init 26 = .ok (.iconst 0, 1) := by decide +kernel
theorem dX5_init_27 : decode cX5_init 27 = .ok (.istore_n 1, 1) := by decide +kernel
theorem dX5_init_28 : decode cX5_init 28 = .ok (.iload_n 1, 1) := by decide +kernel
theorem dX5_init_29 : decode cX5_init 29 = .ok (.bipush 10, 2) := by decide +kernel
theorem dX5_init_31 : decode cX5_init 31 = .ok (.if_icmp .ge 22, 3) := by decide +kernel
theorem dX5_init_34 : decode cX5_init 34 = .ok (.aload_n 0, 1) := by decide +kernel
theorem dX5_init_35 : decode cX5_init 35 = .ok (.getfield 11, 3) := by decide +kernel
theorem dX5_init_38 : decode cX5_init 38 = .ok (.iload_n 1, 1) := by decide +kernel
theorem dX5_init_39 : decode cX5_init 39 = .ok (.new 9, 3) := by decide +kernel
theorem dX5_init_42 : decode cX5_init 42 = .ok (.dup, 1) := by decide +kernel
theorem dX5_init_43 : decode cX5_init 43 = .ok (.invokespecial 25, 3) := by decide +kernel
theorem dX5_init_46 : decode cX5_init 46 = .ok (.aastore, 1) := by decide +kernel
theorem dX5_init_47 : decode cX5_init 47 = .ok (.iinc 1 1, 3) := by decide +kernel
theorem dX5_init_50 : decode cX5_init 50 = .ok (.goto (-22), 3) := by decide +kernel
theorem dX5_init_53 : decode cX5_init 53 = .ok (.return_, 1) := by decide +kernel
theorem dX5_canBeOn_0 : decode cX5_canBeOn 0 = .ok (.aload_n 0, 1) := by decide +kernel
theorem dX5_canBeOn_1 : decode cX5_canBeOn 1 = .ok (.getfield 11, 3) := by decide +kernel
theorem dX5_canBeOn_4 : decode cX5_canBeOn 4 = .ok (.iload_n 1, 1) := by decide +kernel
theorem dX5_canBeOn_5 : decode cX5_canBeOn 5 = .ok (.aaload, 1) := by decide +kernel
theorem dX5_canBeOn_6 : decode cX5_canBeOn 6 = .ok (.invokevirtual 26, 3) := by decide +kernel
theorem dX5_canBeOn_9 : decode cX5_canBeOn 9 = .ok (.ifCond .eq 19, 3) := by decide +kernel
theorem dX5_canBeOn_12 : decode cX5_canBeOn 12 = .ok (.aload_n 0, 1) := by decide +kernel
theorem dX5_canBeOn_13 : decode cX5_canBeOn 13 = .ok (.iload_n 2, 1) := by decide +kernel
theorem dX5_canBeOn_14 : decode cX5_canBeOn 14 = .ok (.iconst 1, 1) := by decide +kernel
theorem dX5_canBeOn_15 : decode cX5_canBeOn 15 = .ok (.iload_n 1, 1) := by decide +kernel
theorem dX5_canBeOn_16 : decode cX5_canBeOn 16 = .ok (.ishl, 1) := by decide +kernel
theorem dX5_canBeOn_17 : decode cX5_canBeOn 17 = .ok (.ior, 1) := by decide +kernel
theorem dX5_canBeOn_18 : decode cX5_canBeOn 18 = .ok (.invokevirtual 30, 3) := by decide +kernel
theorem dX5_canBeOn_21 : decode cX5_canBeOn 21 = .ok (.ifCond .eq 7, 3) := by decide +kernel
theorem dX5_canBeOn_24 : decode cX5_canBeOn 24 = .ok (.iconst 1, 1) := by decide +kernel
theorem dX5_canBeOn_25 : decode cX5_canBeOn 25 = .ok (.goto 4, 3) := by decide +kernel
theorem dX5_canBeOn_28 : decode cX5_canBeOn 28 = .ok (.iconst 0, 1) := by decide +kernel
theorem dX5_canBeOn_29 : decode cX5_canBeOn 29 = .ok (.ireturn, 1) := by decide +kernel
theorem dX5_findLayers_0 : decode cX5_findLayers 0 = .ok (.aload_n 0, 1) := by decide +kernel
theorem dX5_findLayers_1 : decode cX5_findLayers 1 = .ok (.getfield 17, 3) := by decide +kernel
theorem dX5_findLayers_4 : decode cX5_findLayers 4 = .ok (.iconst 0, 1) := by decide +kernel
theorem dX5_findLayers_5 : decode cX5_findLayers 5 = .ok (.invokestatic 34, 3) := by decide +kernel
theorem dX5_findLayers_8 : decode cX5_findLayers 8 = .ok (.iconst 1, 1) := by decide +kernel
theorem dX5_findLayers_9 : decode cX5_findLayers 9 = .ok (.istore_n 2, 1) := by decide +kernel
theorem dX5_findLayers_10 : decode cX5_findLayers 10 = .ok (.iconst 0, 1) := by decide +kernel
theorem dX5_findLayers_11 : decode cX5_findLayers 11 = .ok (.istore_n 3, 1) := by decide +kernel
theorem dX5_findLayers_12 : decode cX5_findLayers 12 = .ok (.iload_n 2, 1) := by decide +kernel
theorem dX5_findLayers_13 : decode cX5_findLayers 13 = .ok (.ifCond .eq 114, 3) := by decide +kernel
theorem dX5_findLayers_16 : decode cX5_findLayers 16 = .ok (.iload_n 3, 1) := by decide +kernel
theorem dX5_findLayers_17 : decode cX5_findLayers 17 = .ok (.bipush 36, 2) := by decide +kernel
theorem dX5_findLayers_19 : decode cX5_findLayers 19 = .ok (.if_icmp .gt 108, 3) := by decide +kernel
theorem dX5_findLayers_22 : decode cX5_findLayers 22 = .ok (.iconst 0, 1) := by decide +kernel
theorem dX5_findLayers_23 : decode cX5_findLayers 23 = .ok (.istore_n 2, 1) := by decide +kernel
theorem dX5_findLayers_24 : decode cX5_findLayers 24 = .ok (.iconst 0, 1) := by decide +kernel
theorem dX5_findLayers_25 : decode cX5_findLayers 25 = .ok (.istore 4, 2) := by decide +kernel
theorem dX5_findLayers_27 : decode cX5_findLayers 27 = .ok (.iload 4, 2) := by decide +kernel
theorem dX5_findLayers_29 : decode cX5_findLayers 29 = .ok (.aload_n 0, 1) := by decide +kernel
theorem dX5_findLayers_30 : decode cX5_findLayers 30 = .ok (.getfield 21, 3) := by decide +kernel
theorem dX5_findLayers_33 : decode cX5_findLayers 33 = .ok (.if_icmp .ge 88, 3) := by decide +kernel
theorem dX5_findLayers_36 : decode cX5_findLayers 36 = .ok (.iload 4, 2) := by decide +kernel
theorem dX5_findLayers_38 : decode cX5_findLayers 38 = .ok (.iload_n 1, 1) := by decide +kernel
theorem dX5_findLayers_39 : decode cX5_findLayers 39 = .ok (.invokestatic 40, 3) := by decide +kernel
theorem dX5_findLayers_42 : decode cX5_findLayers 42 = .ok (.ifCond .eq 17, 3) := by decide +kernel
theorem dX5_findLayers_45 : decode cX5_findLayers 45 = .ok (.aload_n 0, 1) := by decide +kernel
theorem dX5_findLayers_46 : decode cX5_findLayers 46 = .ok (.aload_n 0, 1) := by decide +kernel
theorem dX5_findLayers_47 : decode cX5_findLayers 47 = .ok (.getfield 11, 3) := by decide +kernel
theorem dX5_findLayers_50 : decode cX5_findLayers 50 = .ok (.iload 4, 2) := by decide +kernel
theorem dX5_findLayers_52 : decode cX5_findLayers 52 = .ok (.aaload, 1) := by decide +kernel
theorem dX5_findLayers_53 : decode cX5_findLayers 53 = .ok (.invokevirtual 44, 3) := by decide +kernel
theorem dX5_findLayers_56 : decode cX5_findLayers 56 = .ok (.goto 4, 3) := by decide +kernel
theorem dX5_findLayers_59 : decode cX5_findLayers 59 = .ok (.iconst 0, 1) := by decide +kernel
theorem dX5_findLayers_60 : decode cX5_findLayers 60 = .ok (.istore 5, 2) := by decide +kernel
theorem dX5_findLayers_62 : decode cX5_findLayers 62 = .ok (.iload 5, 2) := by decide +kernel
theorem dX5_findLayers_64 : decode cX5_findLayers 64 = .ok (.iconst 5, 1) := by decide +kernel
theorem dX5_findLayers_65 : decode cX5_findLayers 65 = .ok (.if_icmp .le 5, 3) := by decide +kernel
theorem dX5_findLayers_68 : decode cX5_findLayers 68 = .ok (.iconst 0, 1) := by decide +kernel
theorem dX5_findLayers_69 : decode cX5_findLayers 69 = .ok (.ireturn, 1) := by decide +kernel
theorem dX5_findLayers_70 : decode cX5_findLayers 70 = .ok (.iload 5, 2) := by decide +kernel
theorem dX5_findLayers_72 : decode cX5_findLayers 72 = .ok (.aload_n 0, 1) := by decide +kernel
theorem dX5_findLayers_73 : decode cX5_findLayers 73 = .ok (.getfield 17, 3) := by decide +kernel
theorem dX5_findLayers_76 : decode cX5_findLayers 76 = .ok (.aload_n 0, 1) := by decide +kernel
theorem dX5_findLayers_77 : decode cX5_findLayers 77 = .ok (.getfield 11, 3) := by decide +kernel
theorem dX5_findLayers_80 : decode cX5_findLayers 80 = .ok (.iload 4, 2) := by decide +kernel
theorem dX5_findLayers_82 : decode cX5_findLayers 82 = .ok (.aaload, 1) := by decide +kernel
theorem dX5_findLayers_83 : decode cX5_findLayers 83 = .ok (.getfield 48, 3) := by decide +kernel
theorem dX5_findLayers_86 : decode cX5_findLayers 86 = .ok (.getfield 52, 3) := by decide +kernel
theorem dX5_findLayers_89 : decode cX5_findLayers 89 = .ok (.iaload, 1) := by decide +kernel
theorem dX5_findLayers_90 : decode cX5_findLayers 90 = .ok (.if_icmp .le 25, 3) := by decide +kernel
theorem dX5_findLayers_93 : decode cX5_findLayers 93 = .ok (.aload_n 0, 1) := by decide +kernel
theorem dX5_findLayers_94 : decode cX5_findLayers 94 = .ok (.getfield 17, 3) := by decide +kernel
theorem dX5_findLayers_97 : decode cX5_findLayers 97 = .ok (.aload_n 0, 1) := by decide +kernel
theorem dX5_findLayers_98 : decode cX5_findLayers 98 = .ok (.getfield 11, 3) := by decide +kernel
theorem dX5_findLayers_101 : decode cX5_findLayers 101 = .ok (.iload 4, 2) := by decide +kernel
theorem dX5_findLayers_103 : decode cX5_findLayers 103 = .ok (.aaload, 1) := by decide +kernel
theorem dX5_findLayers_104 : decode cX5_findLayers 104 = .ok (.getfield 48, 3) := by decide +kernel
theorem dX5_findLayers_107 : decode cX5_findLayers 107 = .ok (.getfield 52, 3) := by decide +kernel
theorem dX5_findLayers_110 : decode cX5_findLayers 110 = .ok (.iload 5, 2) := by decide +kernel
theorem dX5_findLayers_112 : decode cX5_findLayers 112 = .ok (.iastore, 1) := by decide +kernel
theorem dX5_findLayers_113 : decode cX5_findLayers 113 = .ok (.iconst 1, 1) := by decide +kernel
theorem dX5_findLayers_114 : decode cX5_findLayers 114 = .ok (.istore_n 2, 1) := by decide +kernel
theorem dX5_findLayers_115 : decode cX5_findLayers 115 = .ok (.iinc 4 1, 3) := by decide +kernel
theorem dX5_findLayers_118 : decode cX5_findLayers 118 = .ok (.goto (-91), 3) := by decide +kernel
theorem dX5_findLayers_121 : decode cX5_findLayers 121 = .ok (.iinc 3 1, 3) := by decide +kernel
theorem dX5_findLayers_124 : decode cX5_findLayers 124 = .ok (.goto (-112), 3) := by decide +kernel
theorem dX5_findLayers_127 : decode cX5_findLayers 127 = .ok (.iconst 1, 1) := by decide +kernel
theorem dX5_findLayers_128 : decode cX5_findLayers 128 = .ok (.ireturn, 1) := by decide +kernel
theorem dX5_leastLayer_0 : decode cX5_leastLayer 0 = .ok (.iconst 0, 1) := by decide +kernel
theorem dX5_leastLayer_1 : decode cX5_leastLayer 1 = .ok (.istore_n 2, 1) := by decide +kernel
theorem dX5_leastLayer_2 : decode cX5_leastLayer 2 = .ok (.iconst 0, 1) := by decide +kernel
theorem dX5_leastLayer_3 : decode cX5_leastLayer 3 = .ok (.istore_n 3, 1) := by decide +kernel
theorem dX5_leastLayer_4 : decode cX5_leastLayer 4 = .ok (.iload_n 3, 1) := by decide +kernel
theorem dX5_leastLayer_5 : decode cX5_leastLayer 5 = .ok (.aload_n 1, 1) := by decide +kernel
theorem dX5_leastLayer_6 : decode cX5_leastLayer 6 = .ok (.getfield 57, 3) := by decide +kernel
theorem dX5_leastLayer_9 : decode cX5_leastLayer 9 = .ok (.if_icmp .ge 51, 3) := by decide +kernel
theorem dX5_leastLayer_12 : decode cX5_leastLayer 12 = .ok (.aload_n 1, 1) := by decide +kernel
theorem dX5_leastLayer_13 : decode cX5_leastLayer 13 = .ok (.getfield 58, 3) := by decide +kernel
theorem dX5_leastLayer_16 : decode cX5_leastLayer 16 = .ok (.iload_n 3, 1) := by decide +kernel
theorem dX5_leastLayer_17 : decode cX5_leastLayer 17 = .ok (.aaload, 1) := by decide +kernel
theorem dX5_leastLayer_18 : decode cX5_leastLayer 18 = .ok (.astore 4, 2) := by decide +kernel
theorem dX5_leastLayer_20 : decode cX5_leastLayer 20 = .ok (.aload_n 0, 1) := by decide +kernel
theorem dX5_leastLayer_21 : decode cX5_leastLayer 21 = .ok (.getfield 17, 3) := by decide +kernel
theorem dX5_leastLayer_24 : decode cX5_leastLayer 24 = .ok (.aload 4, 2) := by decide +kernel
theorem dX5_leastLayer_26 : decode cX5_leastLayer 26 = .ok (.getfield 52, 3) := by decide +kernel
theorem dX5_leastLayer_29 : decode cX5_leastLayer 29 = .ok (.iaload, 1) := by decide +kernel
theorem dX5_leastLayer_30 : decode cX5_leastLayer 30 = .ok (.istore 5, 2) := by decide +kernel
theorem dX5_leastLayer_32 : decode cX5_leastLayer 32 = .ok (.iload_n 2, 1) := by decide +kernel
theorem dX5_leastLayer_33 : decode cX5_leastLayer 33 = .ok (.aload 4, 2) := by decide +kernel
theorem dX5_leastLayer_35 : decode cX5_leastLayer 35 = .ok (.getfield 62, 3) := by decide +kernel
theorem dX5_leastLayer_38 : decode cX5_leastLayer 38 = .ok (.ifCond .eq 10, 3) := by decide +kernel
theorem dX5_leastLayer_41 : decode cX5_leastLayer 41 = .ok (.iload 5, 2) := by decide +kernel
theorem dX5_leastLayer_43 : decode cX5_leastLayer 43 = .ok (.iconst 1, 1) := by decide +kernel
theorem dX5_leastLayer_44 : decode cX5_leastLayer 44 = .ok (.iadd, 1) := by decide +kernel
theorem dX5_leastLayer_45 : decode cX5_leastLayer 45 = .ok (.goto 5, 3) := by decide +kernel
theorem dX5_leastLayer_48 : decode cX5_leastLayer 48 = .ok (.iload 5, 2) := by decide +kernel
theorem dX5_leastLayer_50 : decode cX5_leastLayer 50 = .ok (.invokestatic 66, 3) := by decide +kernel
theorem dX5_leastLayer_53 : decode cX5_leastLayer 53 = .ok (.istore_n 2, 1) := by decide +kernel
theorem dX5_leastLayer_54 : decode cX5_leastLayer 54 = .ok (.iinc 3 1, 3) := by decide +kernel
theorem dX5_leastLayer_57 : decode cX5_leastLayer 57 = .ok (.goto (-53), 3) := by decide +kernel
theorem dX5_leastLayer_60 : decode cX5_leastLayer 60 = .ok (.iload_n 2, 1) := by decide +kernel
theorem dX5_leastLayer_61 : decode cX5_leastLayer 61 = .ok (.ireturn, 1) := by decide +kernel
theorem dX5_derive_0 : decode cX5_derive 0 = .ok (.aload_n 1, 1) := by decide +kernel
theorem dX5_derive_1 : decode cX5_derive 1 = .ok (.getfield 72, 3) := by decide +kernel
theorem dX5_derive_4 : decode cX5_derive 4 = .ok (.iconst 0, 1) := by decide +kernel
theorem dX5_derive_5 : decode cX5_derive 5 = .ok (.aload_n 1, 1) := by decide +kernel
theorem dX5_derive_6 : decode cX5_derive 6 = .ok (.getfield 78, 3) := by decide +kernel
theorem dX5_derive_9 : decode cX5_derive 9 = .ok (.iconst 0, 1) := by decide +kernel
theorem dX5_derive_10 : decode cX5_derive 10 = .ok (.bipush 6, 2) := by decide +kernel
theorem dX5_derive_12 : decode cX5_derive 12 = .ok (.invokestatic 81, 3) := by decide +kernel
theorem dX5_derive_15 : decode cX5_derive 15 = .ok (.aload_n 0, 1) := by decide +kernel
theorem dX5_derive_16 : decode cX5_derive 16 = .ok (.aload_n 1, 1) := by decide +kernel
theorem dX5_derive_17 : decode cX5_derive 17 = .ok (.getfield 87, 3) := by decide +kernel
theorem dX5_derive_20 : decode cX5_derive 20 = .ok (.invokevirtual 30, 3) := by decide +kernel
theorem dX5_derive_23 : decode cX5_derive 23 = .ok (.pop, 1) := by decide +kernel
theorem dX5_derive_24 : decode cX5_derive 24 = .ok (.iconst 0, 1) := by decide +kernel
theorem dX5_derive_25 : decode cX5_derive 25 = .ok (.istore_n 2, 1) := by decide +kernel
theorem dX5_derive_26 : decode cX5_derive 26 = .ok (.iload_n 2, 1) := by decide +kernel
theorem dX5_derive_27 : decode cX5_derive 27 = .ok (.iconst 5, 1) := by decide +kernel
theorem dX5_derive_28 : decode cX5_derive 28 = .ok (.if_icmp .gt 15, 3) := by decide +kernel
theorem dX5_derive_31 : decode cX5_derive 31 = .ok (.aload_n 0, 1) := by decide +kernel
theorem dX5_derive_32 : decode cX5_derive 32 = .ok (.aload_n 1, 1) := by decide +kernel
theorem dX5_derive_33 : decode cX5_derive 33 = .ok (.iload_n 2, 1) := by decide +kernel
theorem dX5_derive_34 : decode cX5_derive 34 = .ok (.invokevirtual 90, 3) := by decide +kernel
theorem dX5_derive_37 : decode cX5_derive 37 = .ok (.iinc 2 1, 3) := by decide +kernel
theorem dX5_derive_40 : decode cX5_derive 40 = .ok (.goto (-14), 3) := by decide +kernel
theorem dX5_derive_43 : decode cX5_derive 43 = .ok (.return_, 1) := by decide +kernel
theorem dX5_deriveLayer_0 : decode cX5_deriveLayer 0 = .ok (.bipush 63, 2) := by decide +kernel
theorem dX5_deriveLayer_2 : decode cX5_deriveLayer 2 = .ok (.istore_n 3, 1) := by decide +kernel
theorem dX5_deriveLayer_3 : decode cX5_deriveLayer 3 = .ok (.iconst 0, 1) := by decide +kernel
theorem dX5_deriveLayer_4 : decode cX5_deriveLayer 4 = .ok (.istore 4, 2) := by decide +kernel
theorem dX5_deriveLayer_6 : decode cX5_deriveLayer 6 = .ok (.iload_n 3, 1) := by decide +kernel
theorem dX5_deriveLayer_7 : decode cX5_deriveLayer 7 = .ok (.ifCond .eq 145, 3) := by decide +kernel
theorem dX5_deriveLayer_10 : decode cX5_deriveLayer 10 = .ok (.iload 4, 2) := by decide +kernel
theorem dX5_deriveLayer_12 : decode cX5_deriveLayer 12 = .ok (.sipush 384, 3) := by decide +kernel
theorem dX5_deriveLayer_15 : decode cX5_deriveLayer 15 = .ok (.if_icmp .gt 137, 3) := by decide +kernel
theorem dX5_deriveLayer_18 : decode cX5_deriveLayer 18 = .ok (.iload_n 3, 1) := by decide +kernel
theorem dX5_deriveLayer_19 : decode cX5_deriveLayer 19 = .ok (.istore 5, 2) := by decide +kernel
theorem dX5_deriveLayer_21 : decode cX5_deriveLayer 21 = .ok (.iconst 0, 1) := by decide +kernel
theorem dX5_deriveLayer_22 : decode cX5_deriveLayer 22 = .ok (.istore_n 3, 1) := by decide +kernel
theorem dX5_deriveLayer_23 : decode cX5_deriveLayer 23 = .ok (.iconst 0, 1) := by decide +kernel
theorem dX5_deriveLayer_24 : decode cX5_deriveLayer 24 = .ok (.istore 6, 2) := by decide +kernel
theorem dX5_deriveLayer_26 : decode cX5_deriveLayer 26 = .ok (.iload 6, 2) := by decide +kernel
theorem dX5_deriveLayer_28 : decode cX5_deriveLayer 28 = .ok (.aload_n 0, 1) := by decide +kernel
theorem dX5_deriveLayer_29 : decode cX5_deriveLayer 29 = .ok (.getfield 21, 3) := by decide +kernel
theorem dX5_deriveLayer_32 : decode cX5_deriveLayer 32 = .ok (.if_icmp .ge 114, 3) := by decide +kernel
theorem dX5_deriveLayer_35 : decode cX5_deriveLayer 35 = .ok (.aload_n 0, 1) := by decide +kernel
theorem dX5_deriveLayer_36 : decode cX5_deriveLayer 36 = .ok (.getfield 11, 3) := by decide +kernel
theorem dX5_deriveLayer_39 : decode cX5_deriveLayer 39 = .ok (.iload 6, 2) := by decide +kernel
theorem dX5_deriveLayer_41 : decode cX5_deriveLayer 41 = .ok (.aaload, 1) := by decide +kernel
theorem dX5_deriveLayer_42 : decode cX5_deriveLayer 42 = .ok (.astore 7, 2) := by decide +kernel
theorem dX5_deriveLayer_44 : decode cX5_deriveLayer 44 = .ok (.aload 7, 2) := by decide +kernel
theorem dX5_deriveLayer_46 : decode cX5_deriveLayer 46 = .ok (.getfield 48, 3) := by decide +kernel
theorem dX5_deriveLayer_49 : decode cX5_deriveLayer 49 = .ok (.getfield 52, 3) := by decide +kernel
theorem dX5_deriveLayer_52 : decode cX5_deriveLayer 52 = .ok (.istore 8, 2) := by decide +kernel
theorem dX5_deriveLayer_54 : decode cX5_deriveLayer 54 = .ok (.iload 6, 2) := by decide +kernel
theorem dX5_deriveLayer_56 : decode cX5_deriveLayer 56 = .ok (.aload_n 1, 1) := by decide +kernel
theorem dX5_deriveLayer_57 : decode cX5_deriveLayer 57 = .ok (.getfield 87, 3) := by decide +kernel
theorem dX5_deriveLayer_60 : decode cX5_deriveLayer 60 = .ok (.invokestatic 40, 3) := by decide +kernel
theorem dX5_deriveLayer_63 : decode cX5_deriveLayer 63 = .ok (.ifCond .eq 77, 3) := by decide +kernel
theorem dX5_deriveLayer_66 : decode cX5_deriveLayer 66 = .ok (.aload_n 0, 1) := by decide +kernel
theorem dX5_deriveLayer_67 : decode cX5_deriveLayer 67 = .ok (.getfield 17, 3) := by decide +kernel
theorem dX5_deriveLayer_70 : decode cX5_deriveLayer 70 = .ok (.iload 8, 2) := by decide +kernel
theorem dX5_deriveLayer_72 : decode cX5_deriveLayer 72 = .ok (.iaload, 1) := by decide +kernel
theorem dX5_deriveLayer_73 : decode cX5_deriveLayer 73 = .ok (.iload_n 2, 1) := by decide +kernel
theorem dX5_deriveLayer_74 : decode cX5_deriveLayer 74 = .ok (.if_icmp .ne 66, 3) := by decide +kernel
theorem dX5_deriveLayer_77 : decode cX5_deriveLayer 77 = .ok (.aload 7, 2) := by decide +kernel
theorem dX5_deriveLayer_79 : decode cX5_deriveLayer 79 = .ok (.getfield 94, 3) := by decide +kernel
theorem dX5_deriveLayer_82 : decode cX5_deriveLayer 82 = .ok (.iload 5, 2) := by decide +kernel
theorem dX5_deriveLayer_84 : decode cX5_deriveLayer 84 = .ok (.iand, 1) := by decide +kernel
theorem dX5_deriveLayer_85 : decode cX5_deriveLayer 85 = .ok (.ifCond .eq 55, 3) := by decide +kernel
theorem dX5_deriveLayer_88 : decode cX5_deriveLayer 88 = .ok (.aload_n 1, 1) := by decide +kernel
theorem dX5_deriveLayer_89 : decode cX5_deriveLayer 89 = .ok (.getfield 78, 3) := by decide +kernel
theorem dX5_deriveLayer_92 : decode cX5_deriveLayer 92 = .ok (.iload 8, 2) := by decide +kernel
theorem dX5_deriveLayer_94 : decode cX5_deriveLayer 94 = .ok (.laload, 1) := by decide +kernel
theorem dX5_deriveLayer_95 : decode cX5_deriveLayer 95 = .ok (.lstore 9, 2) := by decide +kernel
theorem dX5_deriveLayer_97 : decode cX5_deriveLayer 97 = .ok (.aload_n 1, 1) := by decide +kernel
theorem dX5_deriveLayer_98 : decode cX5_deriveLayer 98 = .ok (.getfield 78, 3) := by decide +kernel
theorem dX5_deriveLayer_101 : decode cX5_deriveLayer 101 = .ok (.iload 8, 2) := by decide +kernel
theorem dX5_deriveLayer_103 : decode cX5_deriveLayer 103 = .ok (.dup2, 1) := by decide +kernel
theorem dX5_deriveLayer_104 : decode cX5_deriveLayer 104 = .ok (.laload, 1) := by decide +kernel
theorem dX5_deriveLayer_105 : decode cX5_deriveLayer 105 = .ok (.aload 7, 2) := by decide +kernel
theorem dX5_deriveLayer_107 : decode cX5_deriveLayer 107 = .ok (.aload_n 1, 1) := by decide +kernel
theorem dX5_deriveLayer_108 : decode cX5_deriveLayer 108 = .ok (.getfield 78, 3) := by decide +kernel
theorem dX5_deriveLayer_111 : decode cX5_deriveLayer 111 = .ok (.invokevirtual 97, 3) := by decide +kernel
theorem dX5_deriveLayer_114 : decode cX5_deriveLayer 114 = .ok (.lor, 1) := by decide +kernel
theorem dX5_deriveLayer_115 : decode cX5_deriveLayer 115 = .ok (.lastore, 1) := by decide +kernel
theorem dX5_deriveLayer_116 : decode cX5_deriveLayer 116 = .ok (.iload_n 3, 1) := by decide +kernel
theorem dX5_deriveLayer_117 : decode cX5_deriveLayer 117 = .ok (.aload_n 1, 1) := by decide +kernel
theorem dX5_deriveLayer_118 : decode cX5_deriveLayer 118 = .ok (.getfield 78, 3) := by decide +kernel
theorem dX5_deriveLayer_121 : decode cX5_deriveLayer 121 = .ok (.iload 8, 2) := by decide +kernel
theorem dX5_deriveLayer_123 : decode cX5_deriveLayer 123 = .ok (.laload, 1) := by decide +kernel
theorem dX5_deriveLayer_124 : decode cX5_deriveLayer 124 = .ok (.lload 9, 2) := by decide +kernel
theorem dX5_deriveLayer_126 : decode cX5_deriveLayer 126 = .ok (.lcmp, 1) := by decide +kernel
theorem dX5_deriveLayer_127 : decode cX5_deriveLayer 127 = .ok (.ifCond .ne 7, 3) := by decide +kernel
theorem dX5_deriveLayer_130 : decode cX5_deriveLayer 130 = .ok (.iconst 0, 1) := by decide +kernel
theorem dX5_deriveLayer_131 : decode cX5_deriveLayer 131 = .ok (.goto 7, 3) := by decide +kernel
theorem dX5_deriveLayer_134 : decode cX5_deriveLayer 134 = .ok (.iconst 1, 1) := by decide +kernel
theorem dX5_deriveLayer_135 : decode cX5_deriveLayer 135 = .ok (.iload 8, 2) := by decide +kernel
theorem dX5_deriveLayer_137 : decode cX5_deriveLayer 137 = .ok (.ishl, 1) := by decide +kernel
theorem dX5_deriveLayer_138 : decode cX5_deriveLayer 138 = .ok (.ior, 1) := by decide +kernel
theorem dX5_deriveLayer_139 : decode cX5_deriveLayer 139 = .ok (.istore_n 3, 1) := by decide +kernel
theorem dX5_deriveLayer_140 : decode cX5_deriveLayer 140 = .ok (.iinc 6 1, 3) := by decide +kernel
theorem dX5_deriveLayer_143 : decode cX5_deriveLayer 143 = .ok (.goto (-117), 3) := by decide +kernel
theorem dX5_deriveLayer_146 : decode cX5_deriveLayer 146 = .ok (.iinc 4 1, 3) := by decide +kernel
theorem dX5_deriveLayer_149 : decode cX5_deriveLayer 149 = .ok (.goto (-143), 3) := by decide +kernel
theorem dX5_deriveLayer_152 : decode cX5_deriveLayer 152 = .ok (.return_, 1) := by decide +kernel
theorem dX6_init_0 : decode cX6_init 0 = .ok (.aload_n 0, 1) := by decide +kernel
theorem dX6_init_1 : decode cX6_init 1 = .ok (.invokespecial 3, 3) := by decide +kernel
theorem dX6_init_4 : decode cX6_init 4 = .ok (.aload_n 0, 1) := by decide +kernel
theorem dX6_init_5 : decode cX6_init 5 = .ok (.bipush 6, 2) := by decide +kernel
theorem dX6_init_7 : decode cX6_init 7 = .ok (.newarray .long, 2) := by decide +kernel
theorem dX6_init_9 : decode cX6_init 9 = .ok (.putfield 9, 3) := by decide +kernel
theorem dX6_init_12 : decode cX6_init 12 = .ok (.aload_n 0, 1) := by decide +kernel
theorem dX6_init_13 : decode cX6_init 13 = .ok (.bipush 6, 2) := by decide +kernel
theorem dX6_init_15 : decode cX6_init 15 = .ok (.newarray .long, 2) := by decide +kernel
theorem dX6_init_17 : decode cX6_init 17 = .ok (.putfield 15, 3) := by decide +kernel
theorem dX6_init_20 : decode cX6_init 20 = .ok (.aload_n 0, 1) := by decide +kernel
theorem dX6_init_21 : decode cX6_init 21 = .ok (.iconst 0, 1) := by decide +kernel
theorem dX6_init_22 : decode cX6_init 22 = .ok (.putfield 18, 3) := by decide +kernel
theorem dX6_init_25 : decode cX6_init 25 = .ok (.return_, 1) := by decide +kernel
theorem dX6_has_0 : decode cX6_has 0 = .ok (.aload_n 0, 1) := by decide +kernel
theorem dX6_has_1 : decode cX6_has 1 = .ok (.getfield 15, 3) := by decide +kernel
theorem dX6_has_4 : decode cX6_has 4 = .ok (.iload_n 1, 1) := by decide +kernel
theorem dX6_has_5 : decode cX6_has 5 = .ok (.bipush 64, 2) := by decide +kernel
theorem dX6_has_7 : decode cX6_has 7 = .ok (.idiv, 1) := by decide +kernel
theorem dX6_has_8 : decode cX6_has 8 = .ok (.laload, 1) := by decide +kernel
theorem dX6_has_9 : decode cX6_has 9 = .ok (.iload_n 1, 1) := by decide +kernel
theorem dX6_has_10 : decode cX6_has 10 = .ok (.bipush 64, 2) := by decide +kernel
theorem dX6_has_12 : decode cX6_has 12 = .ok (.irem, 1) := by decide +kernel
theorem dX6_has_13 : decode cX6_has 13 = .ok (.lushr, 1) := by decide +kernel
theorem dX6_has_14 : decode cX6_has 14 = .ok (.lconst 1, 1) := by decide +kernel
theorem dX6_has_15 : decode cX6_has 15 = .ok (.land, 1) := by decide +kernel
theorem dX6_has_16 : decode cX6_has 16 = .ok (.lconst 0, 1) := by decide +kernel
theorem dX6_has_17 : decode cX6_has 17 = .ok (.lcmp, 1) := by decide +kernel
theorem dX6_has_18 : decode cX6_has 18 = .ok (.ifCond .eq 7, 3) := by decide +kernel
theorem dX6_has_21 : decode cX6_has 21 = .ok (.iconst 1, 1) := by decide +kernel
theorem dX6_has_22 : decode cX6_has 22 = .ok (.goto 4, 3) := by decide +kernel
theorem dX6_has_25 : decode cX6_has 25 = .ok (.iconst 0, 1) := by decide +kernel
theorem dX6_has_26 : decode cX6_has 26 = .ok (.ireturn, 1) := by decide +kernel
theorem dX6_isLike_0 : decode cX6_isLike 0 = .ok (.iconst 0, 1) := by decide +kernel
theorem dX6_isLike_1 : decode cX6_isLike 1 = .ok (.istore_n 2, 1) := by decide +kernel
theorem dX6_isLike_2 : decode cX6_isLike 2 = .ok (.iload_n 2, 1) := by decide +kernel
theorem dX6_isLike_3 : decode cX6_isLike 3 = .ok (.bipush 6, 2) := by decide +kernel
theorem dX6_isLike_5 : decode cX6_isLike 5 = .ok (.if_icmp .ge 27, 3) := by decide +kernel
theorem dX6_isLike_8 : decode cX6_isLike 8 = .ok (.aload_n 0, 1) := by decide +kernel
theorem dX6_isLike_9 : decode cX6_isLike 9 = .ok (.getfield 9, 3) := by decide +kernel
theorem dX6_isLike_12 : decode cX6_isLike 12 = .ok (.iload_n 2, 1) := by decide +kernel
theorem dX6_isLike_13 : decode cX6_isLike 13 = .ok (.laload, 1) := by decide +kernel
theorem dX6_isLike_14 : decode cX6_isLike 14 = .ok (.aload_n 1, 1) := by decide +kernel
theorem dX6_isLike_15 : decode cX6_isLike 15 = .ok (.getfield 9, 3) := by decide +kernel
theorem dX6_isLike_18 : decode cX6_isLike 18 = .ok (.iload_n 2, 1) := by decide +kernel
theorem dX6_isLike_19 : decode cX6_isLike 19 = .ok (.laload, 1) := by decide +kernel
theorem dX6_isLike_20 : decode cX6_isLike 20 = .ok (.lcmp, 1) := by decide +kernel
theorem dX6_isLike_21 : decode cX6_isLike 21 = .ok (.ifCond .eq 5, 3) := by decide +kernel
theorem dX6_isLike_24 : decode cX6_isLike 24 = .ok (.iconst 0, 1) := by decide +kernel
theorem dX6_isLike_25 : decode cX6_isLike 25 = .ok (.ireturn, 1) := by decide +kernel
theorem dX6_isLike_26 : decode cX6_isLike 26 = .ok (.iinc 2 1, 3) := by decide +kernel
theorem dX6_isLike_29 : decode cX6_isLike 29 = .ok (.goto (-27), 3) := by decide +kernel
theorem dX6_isLike_32 : decode cX6_isLike 32 = .ok (.aload_n 0, 1) := by decide +kernel
theorem dX6_isLike_33 : decode cX6_isLike 33 = .ok (.getfield 18, 3) := by decide +kernel
theorem dX6_isLike_36 : decode cX6_isLike 36 = .ok (.aload_n 1, 1) := by decide +kernel
theorem dX6_isLike_37 : decode cX6_isLike 37 = .ok (.getfield 18, 3) := by decide +kernel
theorem dX6_isLike_40 : decode cX6_isLike 40 = .ok (.if_icmp .ne 7, 3) := by decide +kernel
theorem dX6_isLike_43 : decode cX6_isLike 43 = .ok (.iconst 1, 1) := by decide +kernel
theorem dX6_isLike_44 : decode cX6_isLike 44 = .ok (.goto 4, 3) := by decide +kernel
theorem dX6_isLike_47 : decode cX6_isLike 47 = .ok (.iconst 0, 1) := by decide +kernel
theorem dX6_isLike_48 : decode cX6_isLike 48 = .ok (.ireturn, 1) := by decide +kernel
theorem dX6_copy_0 : decode cX6_copy 0 = .ok (.aload_n 1, 1) := by decide +kernel
theorem dX6_copy_1 : decode cX6_copy 1 = .ok (.getfield 9, 3) := by decide +kernel
theorem dX6_copy_4 : decode cX6_copy 4 = .ok (.iconst 0, 1) := by decide +kernel
theorem dX6_copy_5 : decode cX6_copy 5 = .ok (.aload_n 0, 1) := by decide +kernel
theorem dX6_copy_6 : decode cX6_copy 6 = .ok (.getfield 9, 3) := by decide +kernel
theorem dX6_copy_9 : decode cX6_copy 9 = .ok (.iconst 0, 1) := by decide +kernel
theorem dX6_copy_10 : decode cX6_copy 10 = .ok (.bipush 6, 2) := by decide +kernel
theorem dX6_copy_12 : decode cX6_copy 12 = .ok (.invokestatic 22, 3) := by decide +kernel
theorem dX6_copy_15 : decode cX6_copy 15 = .ok (.aload_n 1, 1) := by decide +kernel
theorem dX6_copy_16 : decode cX6_copy 16 = .ok (.getfield 15, 3) := by decide +kernel
theorem dX6_copy_19 : decode cX6_copy 19 = .ok (.iconst 0, 1) := by decide +kernel
theorem dX6_copy_20 : decode cX6_copy 20 = .ok (.aload_n 0, 1) := by decide +kernel
theorem dX6_copy_21 : decode cX6_copy 21 = .ok (.getfield 15, 3) := by decide +kernel
theorem dX6_copy_24 : decode cX6_copy 24 = .ok (.iconst 0, 1) := by decide +kernel
theorem dX6_copy_25 : decode cX6_copy 25 = .ok (.bipush 6, 2) := by decide +kernel
theorem dX6_copy_27 : decode cX6_copy 27 = .ok (.invokestatic 22, 3) := by decide +kernel
theorem dX6_copy_30 : decode cX6_copy 30 = .ok (.aload_n 0, 1) := by decide +kernel
theorem dX6_copy_31 : decode cX6_copy 31 = .ok (.aload_n 1, 1) := by decide +kernel
theorem dX6_copy_32 : decode cX6_copy 32 = .ok (.getfield 18, 3) := by decide +kernel
theorem dX6_copy_35 : decode cX6_copy 35 = .ok (.putfield 18, 3) := by decide +kernel
theorem dX6_copy_38 : decode cX6_copy 38 = .ok (.return_, 1) := by decide +kernel
theorem dX7_init_0 : decode cX7_init 0 = .ok (.aload_n 0, 1) := by decide +kernel
theorem dX7_init_1 : decode cX7_init 1 = .ok (.invokespecial 3, 3) := by decide +kernel
theorem dX7_init_4 : decode cX7_init 4 = .ok (.return_, 1) := by decide +kernel
theorem dX7_setDigest_0 : decode cX7_setDigest 0 = .ok (.aload_n 0, 1) := by decide +kernel
theorem dX7_setDigest_1 : decode cX7_setDigest 1 = .ok (.getfield 9, 3) := by decide +kernel
theorem dX7_setDigest_4 : decode cX7_setDigest 4 = .ok (.ifCond .eq 31, 3) := by decide +kernel
theorem dX7_setDigest_7 : decode cX7_setDigest 7 = .ok (.aload_n 0, 1) := by decide +kernel
theorem dX7_setDigest_8 : decode cX7_setDigest 8 = .ok (.aload_n 0, 1) := by decide +kernel
theorem dX7_setDigest_9 : decode cX7_setDigest 9 = .ok (.getfield 15, 3) := by decide +kernel
theorem dX7_setDigest_12 : decode cX7_setDigest 12 = .ok (.ifCond .eq 8, 3) := by decide +kernel
theorem dX7_setDigest_15 : decode cX7_setDigest 15 = .ok (.bipush 13, 2) := by decide +kernel
theorem dX7_setDigest_17 : decode cX7_setDigest 17 = .ok (.goto 5, 3) := by decide +kernel
theorem dX7_setDigest_20 : decode cX7_setDigest 20 = .ok (.bipush 17, 2) := by decide +kernel
theorem dX7_setDigest_22 : decode cX7_setDigest 22 = .ok (.aload_n 0, 1) := by decide +kernel
theorem dX7_setDigest_23 : decode cX7_setDigest 23 = .ok (.getfield 18, 3) := by decide +kernel
theorem dX7_setDigest_26 : decode cX7_setDigest 26 = .ok (.invokestatic 22, 3) := by decide +kernel
theorem dX7_setDigest_29 : decode cX7_setDigest 29 = .ok (.putfield 26, 3) := by decide +kernel
theorem dX7_setDigest_32 : decode cX7_setDigest 32 = .ok (.goto 42, 3) := by decide +kernel
theorem dX7_setDigest_35 : decode cX7_setDigest 35 = .ok (.aload_n 0, 1) := by decide +kernel
theorem dX7_setDigest_36 : decode cX7_setDigest 36 = .ok (.aload_n 0, 1) := by decide +kernel
theorem dX7_setDigest_37 : decode cX7_setDigest 37 = .ok (.getfield 15, 3) := by decide +kernel
theorem dX7_setDigest_40 : decode cX7_setDigest 40 = .ok (.ifCond .eq 8, 3) := by decide +kernel
theorem dX7_setDigest_43 : decode cX7_setDigest 43 = .ok (.bipush 7, 2) := by decide +kernel
theorem dX7_setDigest_45 : decode cX7_setDigest 45 = .ok (.goto 5, 3) := by decide +kernel
theorem dX7_setDigest_48 : decode cX7_setDigest 48 = .ok (.bipush 11, 2) := by decide +kernel
theorem dX7_setDigest_50 : decode cX7_setDigest 50 = .ok (.aload_n 0, 1) := by decide +kernel
theorem dX7_setDigest_51 : decode cX7_setDigest 51 = .ok (.getfield 18, 3) := by decide +kernel
theorem dX7_setDigest_54 : decode cX7_setDigest 54 = .ok (.invokestatic 22, 3) := by decide +kernel
theorem dX7_setDigest_57 : decode cX7_setDigest 57 = .ok (.aload_n 0, 1) := by decide +kernel
theorem dX7_setDigest_58 : decode cX7_setDigest 58 = .ok (.getfield 29, 3) := by decide +kernel
theorem dX7_setDigest_61 : decode cX7_setDigest 61 = .ok (.invokestatic 22, 3) := by decide +kernel
theorem dX7_setDigest_64 : decode cX7_setDigest 64 = .ok (.aload_n 0, 1) := by decide +kernel
theorem dX7_setDigest_65 : decode cX7_setDigest 65 = .ok (.getfield 32, 3) := by decide +kernel
theorem dX7_setDigest_68 : decode cX7_setDigest 68 = .ok (.invokestatic 22, 3) := by decide +kernel
theorem dX7_setDigest_71 : decode cX7_setDigest 71 = .ok (.putfield 26, 3) := by decide +kernel
theorem dX7_setDigest_74 : decode cX7_setDigest 74 = .ok (.return_, 1) := by decide +kernel
theorem dX8_init_0 : decode cX8_init 0 = .ok (.aload_n 0, 1) := by decide +kernel
theorem dX8_init_1 : decode cX8_init 1 = .ok (.invokespecial 3, 3) := by decide +kernel
theorem dX8_init_4 : decode cX8_init 4 = .ok (.aload_n 0, 1) := by decide +kernel
theorem dX8_init_5 : decode cX8_init 5 = .ok (.iconst 4, 1) := by decide +kernel
theorem dX8_init_6 : decode cX8_init 6 = .ok (.anewarray 9, 3) := by decide +kernel
theorem dX8_init_9 : decode cX8_init 9 = .ok (.putfield 11, 3) := by decide +kernel
theorem dX8_init_12 : decode cX8_init 12 = .ok (.aload_n 0, 1) := by decide +kernel
theorem dX8_init_13 : decode cX8_init 13 = .ok (.iconst 5, 1) := by decide +kernel
theorem dX8_init_14 : decode cX8_init 14 = .ok (.anewarray 15, 3) := by decide +kernel
theorem dX8_init_17 : decode cX8_init 17 = .ok (.putfield 17, 3) := by decide +kernel
theorem dX8_init_20 : decode cX8_init 20 = .ok (.aload_n 0, 1) := by decide +kernel
theorem dX8_init_21 : decode cX8_init 21 = .ok (.bipush 6, 2) := by decide +kernel
theorem dX8_init_23 : decode cX8_init 23 = .ok (.newarray .boolean, 2) := by decide +kernel
theorem dX8_init_25 : decode cX8_init 25 = .ok (.putfield 21, 3) := by decide +kernel
theorem dX8_init_28 : decode cX8_init 28 = .ok (.aload_n 0, 1) := by decide +kernel
theorem dX8_init_29 : decode cX8_init 29 = .ok (.new 25, 3) := by decide +kernel
theorem dX8_init_32 : decode cX8_init 32 = .ok (.dup, 1) := by decide +kernel
theorem dX8_init_33 : decode cX8_init 33 = .ok (.invokespecial 27, 3) := by decide +kernel
theorem dX8_init_36 : decode cX8_init 36 = .ok (.putfield 28, 3) := by decide +kernel
theorem dX8_init_39 : decode cX8_init 39 = .ok (.aload_n 0, 1) := by decide +kernel
theorem dX8_init_40 : decode cX8_init 40 = .ok (.new 32, 3) := by decide +kernel
theorem dX8_init_43 : decode cX8_init 43 = .ok (.dup, 1) := by decide +kernel
theorem dX8_init_44 : decode cX8_init 44 = .ok (.invokespecial 34, 3) := by decide +kernel
theorem dX8_init_47 : decode cX8_init 47 = .ok (.putfield 35, 3) := by decide +kernel
theorem dX8_init_50 : decode cX8_init 50 = .ok (.aload_n 0, 1) := by decide +kernel
theorem dX8_init_51 : decode cX8_init 51 = .ok (.new 39, 3) := by decide +kernel
theorem dX8_init_54 : decode cX8_init 54 = .ok (.dup, 1) := by decide +kernel
theorem dX8_init_55 : decode cX8_init 55 = .ok (.invokespecial 41, 3) := by decide +kernel
theorem dX8_init_58 : decode cX8_init 58 = .ok (.putfield 42, 3) := by decide +kernel
theorem dX8_init_61 : decode cX8_init 61 = .ok (.aload_n 0, 1) := by decide +kernel
theorem dX8_init_62 : decode cX8_init 62 = .ok (.iconst 1, 1) := by decide +kernel
theorem dX8_init_63 : decode cX8_init 63 = .ok (.putfield 46, 3) := by decide +kernel
theorem dX8_init_66 : decode cX8_init 66 = .ok (.aload_n 0, 1) := by decide +kernel
theorem dX8_init_67 : decode cX8_init 67 = .ok (.iconst 0, 1) := by decide +kernel
theorem dX8_init_68 : decode cX8_init 68 = .ok (.putfield 50, 3) := by decide +kernel
theorem dX8_init_71 : decode cX8_init 71 = .ok (.aload_n 0, 1) := by decide +kernel
theorem dX8_init_72 : decode cX8_init 72 = .ok (.iconst 0, 1) := by decide +kernel
theorem dX8_init_73 : decode cX8_init 73 = .ok (.putfield 53, 3) := by decide +kernel
theorem dX8_init_76 : decode cX8_init 76 = .ok (.iconst 0, 1) := by decide +kernel
theorem dX8_init_77 : decode cX8_init 77 = .ok (.istore_n 1, 1) := by decide +kernel
theorem dX8_init_78 : decode cX8_init 78 = .ok (.iload_n 1, 1) := by decide +kernel
theorem dX8_init_79 : decode cX8_init 79 = .ok (.iconst 4, 1) := by decide +kernel
theorem dX8_init_80 : decode cX8_init 80 = .ok (.if_icmp .ge 22, 3) := by decide +kernel
theorem dX8_init_83 : decode cX8_init 83 = .ok (.aload_n 0, 1) := by decide +kernel
theorem dX8_init_84 : decode cX8_init 84 = .ok (.getfield 11, 3) := by decide +kernel
theorem dX8_init_87 : decode cX8_init 87 = .ok (.iload_n 1, 1) := by decide +kernel
theorem dX8_init_88 : decode cX8_init 88 = .ok (.new 9, 3) := by decide +kernel
theorem dX8_init_91 : decode cX8_init 91 = .ok (.dup, 1) := by decide +kernel
theorem dX8_init_92 : decode cX8_init 92 = .ok (.invokespecial 56, 3) := by decide +kernel
theorem dX8_init_95 : decode cX8_init 95 = .ok (.aastore, 1) := by decide +kernel
theorem dX8_init_96 : decode cX8_init 96 = .ok (.iinc 1 1, 3) := by decide +kernel
theorem dX8_init_99 : decode cX8_init 99 = .ok (.goto (-21), 3) := by decide +kernel
theorem dX8_init_102 : decode cX8_init 102 = .ok (.iconst 0, 1) := by decide +kernel
theorem dX8_init_103 : decode cX8_init 103 = .ok (.istore_n 1, 1) := by decide +kernel
theorem dX8_init_104 : decode cX8_init 104 = .ok (.iload_n 1, 1) := by decide +kernel
theorem dX8_init_105 : decode cX8_init 105 = .ok (.iconst 5, 1) := by decide +kernel
theorem dX8_init_106 : decode cX8_init 106 = .ok (.if_icmp .ge 22, 3) := by decide +kernel
theorem dX8_init_109 : decode cX8_init 109 = .ok (.aload_n 0, 1) := by decide +kernel
theorem dX8_init_110 : decode cX8_init 110 = .ok (.getfield 17, 3) := by decide +kernel
theorem dX8_init_113 : decode cX8_init 113 = .ok (.iload_n 1, 1) := by decide +kernel
theorem dX8_init_114 : decode cX8_init 114 = .ok (.new 15, 3) := by decide +kernel
theorem dX8_init_117 : decode cX8_init 117 = .ok (.dup, 1) := by decide +kernel
theorem dX8_init_118 : decode cX8_init 118 = .ok (.invokespecial 57, 3) := by decide +kernel
theorem dX8_init_121 : decode cX8_init 121 = .ok (.aastore, 1) := by decide +kernel
theorem dX8_init_122 : decode cX8_init 122 = .ok (.iinc 1 1, 3) := by decide +kernel
theorem dX8_init_125 : decode cX8_init 125 = .ok (.goto (-21), 3) := by decide +kernel
theorem dX8_init_128 : decode cX8_init 128 = .ok (.return_, 1) := by decide +kernel
theorem dX8_tell_0 : decode cX8_tell 0 = .ok (.aload_n 0, 1) := by decide +kernel
theorem dX8_tell_1 : decode cX8_tell 1 = .ok (.iload_n 1, 1) := by decide +kernel
theorem dX8_tell_2 : decode cX8_tell 2 = .ok (.invokevirtual 58, 3) := by decide +kernel
theorem dX8_tell_5 : decode cX8_tell 5 = .ok (.astore 5, 2) := by decide +kernel
theorem dX8_tell_7 : decode cX8_tell 7 = .ok (.iload_n 2, 1) := by decide +kernel
theorem dX8_tell_8 : decode cX8_tell 8 = .ok (.invokestatic 62, 3) := by decide +kernel
theorem dX8_tell_11 : decode cX8_tell 11 = .ok (.iload_n 3, 1) := by decide +kernel
theorem dX8_tell_12 : decode cX8_tell 12 = .ok (.iload 4, 2) := by decide +kernel
theorem dX8_tell_14 : decode cX8_tell 14 = .ok (.invokestatic 66, 3) := by decide +kernel
theorem dX8_tell_17 : decode cX8_tell 17 = .ok (.aload_n 0, 1) := by decide +kernel
theorem dX8_tell_18 : decode cX8_tell 18 = .ok (.aload 5, 2) := by decide +kernel
theorem dX8_tell_20 : decode cX8_tell 20 = .ok (.iload_n 2, 1) := by decide +kernel
theorem dX8_tell_21 : decode cX8_tell 21 = .ok (.iload_n 3, 1) := by decide +kernel
theorem dX8_tell_22 : decode cX8_tell 22 = .ok (.iload 4, 2) := by decide +kernel
theorem dX8_tell_24 : decode cX8_tell 24 = .ok (.invokevirtual 70, 3) := by decide +kernel
theorem dX8_tell_27 : decode cX8_tell 27 = .ok (.ifCond .eq 13, 3) := by decide +kernel
theorem dX8_tell_30 : decode cX8_tell 30 = .ok (.new 74, 3) := by decide +kernel
theorem dX8_tell_33 : decode cX8_tell 33 = .ok (.dup, 1) := by decide +kernel
theorem dX8_tell_34 : decode cX8_tell 34 = .ok (.ldc 76, 2) := by decide +kernel
theorem dX8_tell_36 : decode cX8_tell 36 = .ok (.invokespecial 78, 3) := by decide +kernel
theorem dX8_tell_39 : decode cX8_tell 39 = .ok (.athrow, 1) := by decide +kernel
theorem dX8_tell_40 : decode cX8_tell 40 = .ok (.aload 5, 2) := by decide +kernel
theorem dX8_tell_42 : decode cX8_tell 42 = .ok (.invokestatic 81, 3) := by decide +kernel
theorem dX8_tell_45 : decode cX8_tell 45 = .ok (.aload 5, 2) := by decide +kernel
theorem dX8_tell_47 : decode cX8_tell 47 = .ok (.iconst 0, 1) := by decide +kernel
theorem dX8_tell_48 : decode cX8_tell 48 = .ok (.iconst 1, 1) := by decide +kernel
theorem dX8_tell_49 : decode cX8_tell 49 = .ok (.iload_n 2, 1) := by decide +kernel
theorem dX8_tell_50 : decode cX8_tell 50 = .ok (.iload_n 3, 1) := by decide +kernel
theorem dX8_tell_51 : decode cX8_tell 51 = .ok (.iload 4, 2) := by decide +kernel
theorem dX8_tell_53 : decode cX8_tell 53 = .ok (.iconst (-1), 1) := by decide +kernel
theorem dX8_tell_54 : decode cX8_tell 54 = .ok (.invokevirtual 85, 3) := by decide +kernel
theorem dX8_tell_57 : decode cX8_tell 57 = .ok (.aload_n 0, 1) := by decide +kernel
theorem dX8_tell_58 : decode cX8_tell 58 = .ok (.iload_n 1, 1) := by decide +kernel
theorem dX8_tell_59 : decode cX8_tell 59 = .ok (.invokevirtual 89, 3) := by decide +kernel
theorem dX8_tell_62 : decode cX8_tell 62 = .ok (.aload 5, 2) := by decide +kernel
theorem dX8_tell_64 : decode cX8_tell 64 = .ok (.getfield 92, 3) := by decide +kernel
theorem dX8_tell_67 : decode cX8_tell 67 = .ok (.ireturn, 1) := by decide +kernel
theorem dX8_untell_0 : decode cX8_untell 0 = .ok (.aload_n 0, 1) := by decide +kernel
theorem dX8_untell_1 : decode cX8_untell 1 = .ok (.iload_n 1, 1) := by decide +kernel
theorem dX8_untell_2 : decode cX8_untell 2 = .ok (.invokevirtual 58, 3) := by decide +kernel
theorem dX8_untell_5 : decode cX8_untell 5 = .ok (.astore 5, 2) := by decide +kernel
theorem dX8_untell_7 : decode cX8_untell 7 = .ok (.iload_n 2, 1) := by decide +kernel
theorem dX8_untell_8 : decode cX8_untell 8 = .ok (.invokestatic 62, 3) := by decide +kernel
theorem dX8_untell_11 : decode cX8_untell 11 = .ok (.iload_n 3, 1) := by decide +kernel
theorem dX8_untell_12 : decode cX8_untell 12 = .ok (.iload 4, 2) := by decide +kernel
theorem dX8_untell_14 : decode cX8_untell 14 = .ok (.invokestatic 66, 3) := by decide +kernel
theorem dX8_untell_17 : decode cX8_untell 17 = .ok (.aload 5, 2) := by decide +kernel
theorem dX8_untell_19 : decode cX8_untell 19 = .ok (.invokestatic 81, 3) := by decide +kernel
theorem dX8_untell_22 : decode cX8_untell 22 = .ok (.aload 5, 2) := by decide +kernel
theorem dX8_untell_24 : decode cX8_untell 24 = .ok (.iconst 0, 1) := by decide +kernel
theorem dX8_untell_25 : decode cX8_untell 25 = .ok (.iconst 0, 1) := by decide +kernel
theorem dX8_untell_26 : decode cX8_untell 26 = .ok (.iload_n 2, 1) := by decide +kernel
theorem dX8_untell_27 : decode cX8_untell 27 = .ok (.iload_n 3, 1) := by decide +kernel
theorem dX8_untell_28 : decode cX8_untell 28 = .ok (.iload 4, 2) := by decide +kernel
theorem dX8_untell_30 : decode cX8_untell 30 = .ok (.iconst (-1), 1) := by decide +kernel
theorem dX8_untell_31 : decode cX8_untell 31 = .ok (.invokevirtual 85, 3) := by decide +kernel
theorem dX8_untell_34 : decode cX8_untell 34 = .ok (.aload_n 0, 1) := by decide +kernel
theorem dX8_untell_35 : decode cX8_untell 35 = .ok (.iload_n 1, 1) := by decide +kernel
theorem dX8_untell_36 : decode cX8_untell 36 = .ok (.invokevirtual 89, 3) := by decide +kernel
theorem dX8_untell_39 : decode cX8_untell 39 = .ok (.aload 5, 2) := by decide +kernel
theorem dX8_untell_41 : decode cX8_untell 41 = .ok (.getfield 92, 3) := by decide +kernel
theorem dX8_untell_44 : decode cX8_untell 44 = .ok (.ireturn, 1) := by decide +kernel
theorem dX8_setUnique_0 : decode cX8_setUnique 0 = .ok (.iload_n 1, 1) := by decide +kernel
theorem dX8_setUnique_1 : decode cX8_setUnique 1 = .ok (.invokestatic 95, 3) := by decide +kernel
theorem dX8_setUnique_4 : decode cX8_setUnique 4 = .ok (.aload_n 0, 1) := by decide +kernel
theorem dX8_setUnique_5 : decode cX8_setUnique 5 = .ok (.getfield 21, 3) := by decide +kernel
theorem dX8_setUnique_8 : decode cX8_setUnique 8 = .ok (.iload_n 1, 1) := by decide +kernel
theorem dX8_setUnique_9 : decode cX8_setUnique 9 = .ok (.baload, 1) := by decide +kernel
theorem dX8_setUnique_10 : decode cX8_setUnique 10 = .ok (.istore_n 3, 1) := by decide +kernel
theorem dX8_setUnique_11 : decode cX8_setUnique 11 = .ok (.aload_n 0, 1) := by decide +kernel
theorem dX8_setUnique_12 : decode cX8_setUnique 12 = .ok (.getfield 21, 3) := by decide +kernel
theorem dX8_setUnique_15 : decode cX8_setUnique 15 = .ok (.iload_n 1, 1) := by decide +kernel
theorem dX8_setUnique_16 : decode cX8_setUnique 16 = .ok (.iload_n 2, 1) := by decide +kernel
theorem dX8_setUnique_17 : decode cX8_setUnique 17 = .ok (.bastore, 1) := by decide +kernel
theorem dX8_setUnique_18 : decode cX8_setUnique 18 = .ok (.iload_n 3, 1) := by decide +kernel
theorem dX8_setUnique_19 : decode cX8_setUnique 19 = .ok (.ireturn, 1) := by decide +kernel
theorem dX8_addRule_0 : decode cX8_addRule 0 = .ok (.iload_n 1, 1) := by decide +kernel
theorem dX8_addRule_1 : decode cX8_addRule 1 = .ok (.iload_n 2, 1) := by decide +kernel
theorem dX8_addRule_2 : decode cX8_addRule 2 = .ok (.iload_n 3, 1) := by decide +kernel
theorem dX8_addRule_3 : decode cX8_addRule 3 = .ok (.invokestatic 98, 3) := by decide +kernel
theorem dX8_addRule_6 : decode cX8_addRule 6 = .ok (.iload 4, 2) := by decide +kernel
theorem dX8_addRule_8 : decode cX8_addRule 8 = .ok (.iload 5, 2) := by decide +kernel
theorem dX8_addRule_10 : decode cX8_addRule 10 = .ok (.iload 6, 2) := by decide +kernel
theorem dX8_addRule_12 : decode cX8_addRule 12 = .ok (.invokestatic 98, 3) := by decide +kernel
theorem dX8_addRule_15 : decode cX8_addRule 15 = .ok (.aload_n 0, 1) := by decide +kernel
theorem dX8_addRule_16 : decode cX8_addRule 16 = .ok (.getfield 28, 3) := by decide +kernel
theorem dX8_addRule_19 : decode cX8_addRule 19 = .ok (.getfield 102, 3) := by decide +kernel
theorem dX8_addRule_22 : decode cX8_addRule 22 = .ok (.bipush 10, 2) := by decide +kernel
theorem dX8_addRule_24 : decode cX8_addRule 24 = .ok (.if_icmp .lt 13, 3) := by decide +kernel
theorem dX8_addRule_27 : decode cX8_addRule 27 = .ok (.new 103, 3) := by decide +kernel
theorem dX8_addRule_30 : decode cX8_addRule 30 = .ok (.dup, 1) := by decide +kernel
theorem dX8_addRule_31 : decode cX8_addRule 31 = .ok (.ldc 105, 2) := by decide +kernel
theorem dX8_addRule_33 : decode cX8_addRule 33 = .ok (.invokespecial 107, 3) := by decide +kernel
theorem dX8_addRule_36 : decode cX8_addRule 36 = .ok (.athrow, 1) := by decide +kernel
theorem dX8_addRule_37 : decode cX8_addRule 37 = .ok (.aload_n 0, 1) := by decide +kernel
theorem dX8_addRule_38 : decode cX8_addRule 38 = .ok (.getfield 28, 3) := by decide +kernel
theorem dX8_addRule_41 : decode cX8_addRule 41 = .ok (.getfield 108, 3) := by decide +kernel
theorem dX8_addRule_44 : decode cX8_addRule 44 = .ok (.aload_n 0, 1) := by decide +kernel
theorem dX8_addRule_45 : decode cX8_addRule 45 = .ok (.getfield 28, 3) := by decide +kernel
theorem dX8_addRule_48 : decode cX8_addRule 48 = .ok (.getfield 102, 3) := by decide +kernel
theorem dX8_addRule_51 : decode cX8_addRule 51 = .ok (.aaload, 1) := by decide +kernel
theorem dX8_addRule_52 : decode cX8_addRule 52 = .ok (.astore 7, 2) := by decide +kernel
theorem dX8_addRule_54 : decode cX8_addRule 54 = .ok (.aload 7, 2) := by decide +kernel
theorem dX8_addRule_56 : decode cX8_addRule 56 = .ok (.iload_n 1, 1) := by decide +kernel
theorem dX8_addRule_57 : decode cX8_addRule 57 = .ok (.iload_n 2, 1) := by decide +kernel
theorem dX8_addRule_58 : decode cX8_addRule 58 = .ok (.iload_n 3, 1) := by decide +kernel
theorem dX8_addRule_59 : decode cX8_addRule 59 = .ok (.invokevirtual 112, 3) := by decide +kernel
theorem dX8_addRule_62 : decode cX8_addRule 62 = .ok (.aload 7, 2) := by decide +kernel
theorem dX8_addRule_64 : decode cX8_addRule 64 = .ok (.iload 4, 2) := by decide +kernel
theorem dX8_addRule_66 : decode cX8_addRule 66 = .ok (.iload 5, 2) := by decide +kernel
theorem dX8_addRule_68 : decode cX8_addRule 68 = .ok (.iload 6, 2) := by decide +kernel
theorem dX8_addRule_70 : decode cX8_addRule 70 = .ok (.iconst 0, 1) := by decide +kernel
theorem dX8_addRule_71 : decode cX8_addRule 71 = .ok (.invokevirtual 117, 3) := by decide +kernel
theorem dX8_addRule_74 : decode cX8_addRule 74 = .ok (.aload_n 0, 1) := by decide +kernel
theorem dX8_addRule_75 : decode cX8_addRule 75 = .ok (.getfield 28, 3) := by decide +kernel
theorem dX8_addRule_78 : decode cX8_addRule 78 = .ok (.dup, 1) := by decide +kernel
theorem dX8_addRule_79 : decode cX8_addRule 79 = .ok (.getfield 102, 3) := by decide +kernel
theorem dX8_addRule_82 : decode cX8_addRule 82 = .ok (.iconst 1, 1) := by decide +kernel
theorem dX8_addRule_83 : decode cX8_addRule 83 = .ok (.iadd, 1) := by decide +kernel
theorem dX8_addRule_84 : decode cX8_addRule 84 = .ok (.putfield 102, 3) := by decide +kernel
theorem dX8_addRule_87 : decode cX8_addRule 87 = .ok (.aload_n 0, 1) := by decide +kernel
theorem dX8_addRule_88 : decode cX8_addRule 88 = .ok (.getfield 28, 3) := by decide +kernel
theorem dX8_addRule_91 : decode cX8_addRule 91 = .ok (.getfield 102, 3) := by decide +kernel
theorem dX8_addRule_94 : decode cX8_addRule 94 = .ok (.iconst 1, 1) := by decide +kernel
theorem dX8_addRule_95 : decode cX8_addRule 95 = .ok (.isub, 1) := by decide +kernel
theorem dX8_addRule_96 : decode cX8_addRule 96 = .ok (.ireturn, 1) := by decide +kernel
theorem dX8_addCondition_0 : decode cX8_addCondition 0 = .ok (.aload_n 0, 1) := by decide +kernel
theorem dX8_addCondition_1 : decode cX8_addCondition 1 = .ok (.iload_n 1, 1) := by decide +kernel
theorem dX8_addCondition_2 : decode cX8_addCondition 2 = .ok (.invokevirtual 120, 3) := by decide +kernel
theorem dX8_addCondition_5 : decode cX8_addCondition 5 = .ok (.astore 6, 2) := by decide +kernel
theorem dX8_addCondition_7 : decode cX8_addCondition 7 = .ok (.iload_n 2, 1) := by decide +kernel
theorem dX8_addCondition_8 : decode cX8_addCondition 8 = .ok (.iload_n 3, 1) := by decide +kernel
theorem dX8_addCondition_9 : decode cX8_addCondition 9 = .ok (.iload 4, 2) := by decide +kernel
theorem dX8_addCondition_11 : decode cX8_addCondition 11 = .ok (.invokestatic 98, 3) := by decide +kernel
theorem dX8_addCondition_14 : decode cX8_addCondition 14 = .ok (.aload 6, 2) := by decide +kernel
theorem dX8_addCondition_16 : decode cX8_addCondition 16 = .ok (.getfield 124, 3) := by decide +kernel
theorem dX8_addCondition_19 : decode cX8_addCondition 19 = .ok (.ifCond .ne 12, 3) := by decide +kernel
theorem dX8_addCondition_22 : decode cX8_addCondition 22 = .ok (.aload 6, 2) := by decide +kernel
theorem dX8_addCondition_24 : decode cX8_addCondition 24 = .ok (.getfield 128, 3) := by decide +kernel
theorem dX8_addCondition_27 : decode cX8_addCondition 27 = .ok (.iconst 3, 1) := by decide +kernel
theorem dX8_addCondition_28 : decode cX8_addCondition 28 = .ok (.if_icmp .lt 13, 3) := by decide +kernel
theorem dX8_addCondition_31 : decode cX8_addCondition 31 = .ok (.new 103, 3) := by decide +kernel
theorem dX8_addCondition_34 : decode cX8_addCondition 34 = .ok (.dup, 1) := by decide +kernel
theorem dX8_addCondition_35 : decode cX8_addCondition 35 = .ok (.ldc 129, 2) := by decide +kernel
theorem dX8_addCondition_37 : decode cX8_addCondition 37 = .ok (.invokespecial 107, 3) := by decide +kernel
theorem dX8_addCondition_40 : decode cX8_addCondition 40 = .ok (.athrow, 1) := by decide +kernel
theorem dX8_addCondition_41 : decode cX8_addCondition 41 = .ok (.aload 6, 2) := by decide +kernel
theorem dX8_addCondition_43 : decode cX8_addCondition 43 = .ok (.iload_n 2, 1) := by decide +kernel
theorem dX8_addCondition_44 : decode cX8_addCondition 44 = .ok (.iload_n 3, 1) := by decide +kernel
theorem dX8_addCondition_45 : decode cX8_addCondition 45 = .ok (.iload 4, 2) := by decide +kernel
theorem dX8_addCondition_47 : decode cX8_addCondition 47 = .ok (.iload 5, 2) := by decide +kernel
theorem dX8_addCondition_49 : decode cX8_addCondition 49 = .ok (.invokevirtual 117, 3) := by decide +kernel
theorem dX8_addCondition_52 : decode cX8_addCondition 52 = .ok (.aload 6, 2) := by decide +kernel
theorem dX8_addCondition_54 : decode cX8_addCondition 54 = .ok (.getfield 128, 3) := by decide +kernel
theorem dX8_addCondition_57 : decode cX8_addCondition 57 = .ok (.ireturn, 1) := by decide +kernel
theorem dX8_turn_0 : decode cX8_turn 0 = .ok (.aload_n 0, 1) := by decide +kernel
theorem dX8_turn_1 : decode cX8_turn 1 = .ok (.iload_n 1, 1) := by decide +kernel
theorem dX8_turn_2 : decode cX8_turn 2 = .ok (.invokevirtual 58, 3) := by decide +kernel
theorem dX8_turn_5 : decode cX8_turn 5 = .ok (.astore 4, 2) := by decide +kernel
theorem dX8_turn_7 : decode cX8_turn 7 = .ok (.aload_n 0, 1) := by decide +kernel
theorem dX8_turn_8 : decode cX8_turn 8 = .ok (.iload_n 2, 1) := by decide +kernel
theorem dX8_turn_9 : decode cX8_turn 9 = .ok (.invokevirtual 120, 3) := by decide +kernel
theorem dX8_turn_12 : decode cX8_turn 12 = .ok (.astore 5, 2) := by decide +kernel
theorem dX8_turn_14 : decode cX8_turn 14 = .ok (.iload_n 3, 1) := by decide +kernel
theorem dX8_turn_15 : decode cX8_turn 15 = .ok (.ifCond .eq 34, 3) := by decide +kernel
theorem dX8_turn_18 : decode cX8_turn 18 = .ok (.aload_n 0, 1) := by decide +kernel
theorem dX8_turn_19 : decode cX8_turn 19 = .ok (.getfield 28, 3) := by decide +kernel
theorem dX8_turn_22 : decode cX8_turn 22 = .ok (.iload_n 2, 1) := by decide +kernel
theorem dX8_turn_23 : decode cX8_turn 23 = .ok (.aload 4, 2) := by decide +kernel
theorem dX8_turn_25 : decode cX8_turn 25 = .ok (.aload 4, 2) := by decide +kernel
theorem dX8_turn_27 : decode cX8_turn 27 = .ok (.getfield 92, 3) := by decide +kernel
theorem dX8_turn_30 : decode cX8_turn 30 = .ok (.invokevirtual 131, 3) := by decide +kernel
theorem dX8_turn_33 : decode cX8_turn 33 = .ok (.invokevirtual 135, 3) := by decide +kernel
theorem dX8_turn_36 : decode cX8_turn 36 = .ok (.ifCond .ne 13, 3) := by decide +kernel
theorem dX8_turn_39 : decode cX8_turn 39 = .ok (.new 74, 3) := by decide +kernel
theorem dX8_turn_42 : decode cX8_turn 42 = .ok (.dup, 1) := by decide +kernel
theorem dX8_turn_43 : decode cX8_turn 43 = .ok (.ldc 139, 2) := by decide +kernel
theorem dX8_turn_45 : decode cX8_turn 45 = .ok (.invokespecial 78, 3) := by decide +kernel
theorem dX8_turn_48 : decode cX8_turn 48 = .ok (.athrow, 1) := by decide +kernel
theorem dX8_turn_49 : decode cX8_turn 49 = .ok (.aload 4, 2) := by decide +kernel
theorem dX8_turn_51 : decode cX8_turn 51 = .ok (.invokestatic 81, 3) := by decide +kernel
theorem dX8_turn_54 : decode cX8_turn 54 = .ok (.aload 5, 2) := by decide +kernel
theorem dX8_turn_56 : decode cX8_turn 56 = .ok (.aload 5, 2) := by decide +kernel
theorem dX8_turn_58 : decode cX8_turn 58 = .ok (.getfield 124, 3) := by decide +kernel
theorem dX8_turn_61 : decode cX8_turn 61 = .ok (.ifCond .ne 7, 3) := by decide +kernel
theorem dX8_turn_64 : decode cX8_turn 64 = .ok (.iload_n 3, 1) := by decide +kernel
theorem dX8_turn_65 : decode cX8_turn 65 = .ok (.ifCond .eq 7, 3) := by decide +kernel
theorem dX8_turn_68 : decode cX8_turn 68 = .ok (.iconst 1, 1) := by decide +kernel
theorem dX8_turn_69 : decode cX8_turn 69 = .ok (.goto 4, 3) := by decide +kernel
theorem dX8_turn_72 : decode cX8_turn 72 = .ok (.iconst 0, 1) := by decide +kernel
theorem dX8_turn_73 : decode cX8_turn 73 = .ok (.putfield 124, 3) := by decide +kernel
theorem dX8_turn_76 : decode cX8_turn 76 = .ok (.aload 4, 2) := by decide +kernel
theorem dX8_turn_78 : decode cX8_turn 78 = .ok (.iconst 1, 1) := by decide +kernel
theorem dX8_turn_79 : decode cX8_turn 79 = .ok (.iload_n 3, 1) := by decide +kernel
theorem dX8_turn_80 : decode cX8_turn 80 = .ok (.iload_n 2, 1) := by decide +kernel
theorem dX8_turn_81 : decode cX8_turn 81 = .ok (.iconst 0, 1) := by decide +kernel
theorem dX8_turn_82 : decode cX8_turn 82 = .ok (.iconst 0, 1) := by decide +kernel
theorem dX8_turn_83 : decode cX8_turn 83 = .ok (.iconst (-1), 1) := by decide +kernel
theorem dX8_turn_84 : decode cX8_turn 84 = .ok (.invokevirtual 85, 3) := by decide +kernel
theorem dX8_turn_87 : decode cX8_turn 87 = .ok (.aload_n 0, 1) := by decide +kernel
theorem dX8_turn_88 : decode cX8_turn 88 = .ok (.iload_n 1, 1) := by decide +kernel
theorem dX8_turn_89 : decode cX8_turn 89 = .ok (.invokevirtual 89, 3) := by decide +kernel
theorem dX8_turn_92 : decode cX8_turn 92 = .ok (.aload 4, 2) := by decide +kernel
theorem dX8_turn_94 : decode cX8_turn 94 = .ok (.getfield 92, 3) := by decide +kernel
theorem dX8_turn_97 : decode cX8_turn 97 = .ok (.ireturn, 1) := by decide +kernel
theorem dX8_isOn_0 : decode cX8_isOn 0 = .ok (.aload_n 0, 1) := by decide +kernel
theorem dX8_isOn_1 : decode cX8_isOn 1 = .ok (.iload_n 1, 1) := by decide +kernel
theorem dX8_isOn_2 : decode cX8_isOn 2 = .ok (.invokevirtual 58, 3) := by decide +kernel
theorem dX8_isOn_5 : decode cX8_isOn 5 = .ok (.astore 4, 2) := by decide +kernel
theorem dX8_isOn_7 : decode cX8_isOn 7 = .ok (.aload_n 0, 1) := by decide +kernel
theorem dX8_isOn_8 : decode cX8_isOn 8 = .ok (.iload_n 2, 1) := by decide +kernel
theorem dX8_isOn_9 : decode cX8_isOn 9 = .ok (.invokevirtual 120, 3) := by decide +kernel
theorem dX8_isOn_12 : decode cX8_isOn 12 = .ok (.pop, 1) := by decide +kernel
theorem dX8_isOn_13 : decode cX8_isOn 13 = .ok (.aload 4, 2) := by decide +kernel
theorem dX8_isOn_15 : decode cX8_isOn 15 = .ok (.iload_n 3, 1) := by decide +kernel
theorem dX8_isOn_16 : decode cX8_isOn 16 = .ok (.invokestatic 141, 3) := by decide +kernel
theorem dX8_isOn_19 : decode cX8_isOn 19 = .ok (.iload_n 2, 1) := by decide +kernel
theorem dX8_isOn_20 : decode cX8_isOn 20 = .ok (.aload 4, 2) := by decide +kernel
theorem dX8_isOn_22 : decode cX8_isOn 22 = .ok (.iload_n 3, 1) := by decide +kernel
theorem dX8_isOn_23 : decode cX8_isOn 23 = .ok (.invokevirtual 131, 3) := by decide +kernel
theorem dX8_isOn_26 : decode cX8_isOn 26 = .ok (.invokestatic 145, 3) := by decide +kernel
theorem dX8_isOn_29 : decode cX8_isOn 29 = .ok (.ireturn, 1) := by decide +kernel
theorem dX8_layer_0 : decode cX8_layer 0 = .ok (.aload_n 0, 1) := by decide +kernel
theorem dX8_layer_1 : decode cX8_layer 1 = .ok (.iload_n 1, 1) := by decide +kernel
theorem dX8_layer_2 : decode cX8_layer 2 = .ok (.invokevirtual 58, 3) := by decide +kernel
theorem dX8_layer_5 : decode cX8_layer 5 = .ok (.astore_n 3, 1) := by decide +kernel
theorem dX8_layer_6 : decode cX8_layer 6 = .ok (.iload_n 2, 1) := by decide +kernel
theorem dX8_layer_7 : decode cX8_layer 7 = .ok (.invokestatic 95, 3) := by decide +kernel
theorem dX8_layer_10 : decode cX8_layer 10 = .ok (.aload_n 0, 1) := by decide +kernel
theorem dX8_layer_11 : decode cX8_layer 11 = .ok (.getfield 28, 3) := by decide +kernel
theorem dX8_layer_14 : decode cX8_layer 14 = .ok (.aload_n 3, 1) := by decide +kernel
theorem dX8_layer_15 : decode cX8_layer 15 = .ok (.aload_n 3, 1) := by decide +kernel
theorem dX8_layer_16 : decode cX8_layer 16 = .ok (.getfield 92, 3) := by decide +kernel
theorem dX8_layer_19 : decode cX8_layer 19 = .ok (.invokevirtual 131, 3) := by decide +kernel
theorem dX8_layer_22 : decode cX8_layer 22 = .ok (.invokevirtual 148, 3) := by decide +kernel
theorem dX8_layer_25 : decode cX8_layer 25 = .ok (.pop, 1) := by decide +kernel
theorem dX8_layer_26 : decode cX8_layer 26 = .ok (.aload_n 0, 1) := by decide +kernel
theorem dX8_layer_27 : decode cX8_layer 27 = .ok (.getfield 28, 3) := by decide +kernel
theorem dX8_layer_30 : decode cX8_layer 30 = .ok (.getfield 152, 3) := by decide +kernel
theorem dX8_layer_33 : decode cX8_layer 33 = .ok (.iload_n 2, 1) := by decide +kernel
theorem dX8_layer_34 : decode cX8_layer 34 = .ok (.iaload, 1) := by decide +kernel
theorem dX8_layer_35 : decode cX8_layer 35 = .ok (.ireturn, 1) := by decide +kernel
theorem dX8_knowing_0 : decode cX8_knowing 0 = .ok (.aload_n 0, 1) := by decide +kernel
theorem dX8_knowing_1 : decode cX8_knowing 1 = .ok (.iload_n 1, 1) := by decide +kernel
theorem dX8_knowing_2 : decode cX8_knowing 2 = .ok (.invokevirtual 58, 3) := by decide +kernel
theorem dX8_knowing_5 : decode cX8_knowing 5 = .ok (.getfield 92, 3) := by decide +kernel
theorem dX8_knowing_8 : decode cX8_knowing 8 = .ok (.ireturn, 1) := by decide +kernel
theorem dX8_holds_0 : decode cX8_holds 0 = .ok (.aload_n 0, 1) := by decide +kernel
theorem dX8_holds_1 : decode cX8_holds 1 = .ok (.iload_n 1, 1) := by decide +kernel
theorem dX8_holds_2 : decode cX8_holds 2 = .ok (.invokevirtual 58, 3) := by decide +kernel
theorem dX8_holds_5 : decode cX8_holds 5 = .ok (.astore 5, 2) := by decide +kernel
theorem dX8_holds_7 : decode cX8_holds 7 = .ok (.aload 5, 2) := by decide +kernel
theorem dX8_holds_9 : decode cX8_holds 9 = .ok (.iload_n 2, 1) := by decide +kernel
theorem dX8_holds_10 : decode cX8_holds 10 = .ok (.iload_n 3, 1) := by decide +kernel
theorem dX8_holds_11 : decode cX8_holds 11 = .ok (.iload 4, 2) := by decide +kernel
theorem dX8_holds_13 : decode cX8_holds 13 = .ok (.invokestatic 156, 3) := by decide +kernel
theorem dX8_holds_16 : decode cX8_holds 16 = .ok (.aload_n 0, 1) := by decide +kernel
theorem dX8_holds_17 : decode cX8_holds 17 = .ok (.aload 5, 2) := by decide +kernel
theorem dX8_holds_19 : decode cX8_holds 19 = .ok (.iload_n 2, 1) := by decide +kernel
theorem dX8_holds_20 : decode cX8_holds 20 = .ok (.iload_n 3, 1) := by decide +kernel
theorem dX8_holds_21 : decode cX8_holds 21 = .ok (.invokevirtual 160, 3) := by decide +kernel
theorem dX8_holds_24 : decode cX8_holds 24 = .ok (.iload 4, 2) := by decide +kernel
theorem dX8_holds_26 : decode cX8_holds 26 = .ok (.invokevirtual 164, 3) := by decide +kernel
theorem dX8_holds_29 : decode cX8_holds 29 = .ok (.ireturn, 1) := by decide +kernel
theorem dX8_holdsAnew_0 : decode cX8_holdsAnew 0 = .ok (.aload_n 0, 1) := by decide +kernel
theorem dX8_holdsAnew_1 : decode cX8_holdsAnew 1 = .ok (.iload_n 1, 1) := by decide +kernel
theorem dX8_holdsAnew_2 : decode cX8_holdsAnew 2 = .ok (.invokevirtual 58, 3) := by decide +kernel
theorem dX8_holdsAnew_5 : decode cX8_holdsAnew 5 = .ok (.astore 5, 2) := by decide +kernel
theorem dX8_holdsAnew_7 : decode cX8_holdsAnew 7 = .ok (.aload 5, 2) := by decide +kernel
theorem dX8_holdsAnew_9 : decode cX8_holdsAnew 9 = .ok (.iload_n 2, 1) := by decide +kernel
theorem dX8_holdsAnew_10 : decode cX8_holdsAnew 10 = .ok (.iload_n 3, 1) := by decide +kernel
theorem dX8_holdsAnew_11 : decode cX8_holdsAnew 11 = .ok (.iload 4, 2) := by decide +kernel
theorem dX8_holdsAnew_13 : decode cX8_holdsAnew 13 = .ok (.invokestatic 156, 3) := by decide +kernel
theorem dX8_holdsAnew_16 : decode cX8_holdsAnew 16 = .ok (.aload_n 0, 1) := by decide +kernel
theorem dX8_holdsAnew_17 : decode cX8_holdsAnew 17 = .ok (.aload 5, 2) := by decide +kernel
theorem dX8_holdsAnew_19 : decode cX8_holdsAnew 19 = .ok (.iload_n 2, 1) := by decide +kernel
theorem dX8_holdsAnew_20 : decode cX8_holdsAnew 20 = .ok (.iload_n 3, 1) := by decide +kernel
theorem dX8_holdsAnew_21 : decode cX8_holdsAnew 21 = .ok (.invokevirtual 167, 3) := by decide +kernel
theorem dX8_holdsAnew_24 : decode cX8_holdsAnew 24 = .ok (.iload 4, 2) := by decide +kernel
theorem dX8_holdsAnew_26 : decode cX8_holdsAnew 26 = .ok (.invokevirtual 164, 3) := by decide +kernel
theorem dX8_holdsAnew_29 : decode cX8_holdsAnew 29 = .ok (.ireturn, 1) := by decide +kernel
theorem dX8_count_0 : decode cX8_count 0 = .ok (.aload_n 0, 1) := by decide +kernel
theorem dX8_count_1 : decode cX8_count 1 = .ok (.iload_n 1, 1) := by decide +kernel
theorem dX8_count_2 : decode cX8_count 2 = .ok (.invokevirtual 58, 3) := by decide +kernel
theorem dX8_count_5 : decode cX8_count 5 = .ok (.astore 5, 2) := by decide +kernel
theorem dX8_count_7 : decode cX8_count 7 = .ok (.aload 5, 2) := by decide +kernel
theorem dX8_count_9 : decode cX8_count 9 = .ok (.iload_n 2, 1) := by decide +kernel
theorem dX8_count_10 : decode cX8_count 10 = .ok (.invokestatic 141, 3) := by decide +kernel
theorem dX8_count_13 : decode cX8_count 13 = .ok (.iload_n 3, 1) := by decide +kernel
theorem dX8_count_14 : decode cX8_count 14 = .ok (.invokestatic 170, 3) := by decide +kernel
theorem dX8_count_17 : decode cX8_count 17 = .ok (.iload 4, 2) := by decide +kernel
theorem dX8_count_19 : decode cX8_count 19 = .ok (.invokestatic 95, 3) := by decide +kernel
theorem dX8_count_22 : decode cX8_count 22 = .ok (.aload_n 0, 1) := by decide +kernel
theorem dX8_count_23 : decode cX8_count 23 = .ok (.aload 5, 2) := by decide +kernel
theorem dX8_count_25 : decode cX8_count 25 = .ok (.iload_n 2, 1) := by decide +kernel
theorem dX8_count_26 : decode cX8_count 26 = .ok (.iload_n 3, 1) := by decide +kernel
theorem dX8_count_27 : decode cX8_count 27 = .ok (.invokevirtual 160, 3) := by decide +kernel
theorem dX8_count_30 : decode cX8_count 30 = .ok (.getfield 173, 3) := by decide +kernel
theorem dX8_count_33 : decode cX8_count 33 = .ok (.iload 4, 2) := by decide +kernel
theorem dX8_count_35 : decode cX8_count 35 = .ok (.laload, 1) := by decide +kernel
theorem dX8_count_36 : decode cX8_count 36 = .ok (.invokestatic 177, 3) := by decide +kernel
theorem dX8_count_39 : decode cX8_count 39 = .ok (.ireturn, 1) := by decide +kernel
theorem dX8_rank_0 : decode cX8_rank 0 = .ok (.aload_n 0, 1) := by decide +kernel
theorem dX8_rank_1 : decode cX8_rank 1 = .ok (.iload_n 1, 1) := by decide +kernel
theorem dX8_rank_2 : decode cX8_rank 2 = .ok (.iload_n 2, 1) := by decide +kernel
theorem dX8_rank_3 : decode cX8_rank 3 = .ok (.iload_n 3, 1) := by decide +kernel
theorem dX8_rank_4 : decode cX8_rank 4 = .ok (.iload 4, 2) := by decide +kernel
theorem dX8_rank_6 : decode cX8_rank 6 = .ok (.invokevirtual 187, 3) := by decide +kernel
theorem dX8_rank_9 : decode cX8_rank 9 = .ok (.aload_n 0, 1) := by decide +kernel
theorem dX8_rank_10 : decode cX8_rank 10 = .ok (.getfield 35, 3) := by decide +kernel
theorem dX8_rank_13 : decode cX8_rank 13 = .ok (.getfield 191, 3) := by decide +kernel
theorem dX8_rank_16 : decode cX8_rank 16 = .ok (.iload 4, 2) := by decide +kernel
theorem dX8_rank_18 : decode cX8_rank 18 = .ok (.iaload, 1) := by decide +kernel
theorem dX8_rank_19 : decode cX8_rank 19 = .ok (.ireturn, 1) := by decide +kernel
theorem dX8_derivedShare_0 : decode cX8_derivedShare 0 = .ok (.aload_n 0, 1) := by decide +kernel
theorem dX8_derivedShare_1 : decode cX8_derivedShare 1 = .ok (.iload_n 1, 1) := by decide +kernel
theorem dX8_derivedShare_2 : decode cX8_derivedShare 2 = .ok (.invokevirtual 58, 3) := by decide +kernel
theorem dX8_derivedShare_5 : decode cX8_derivedShare 5 = .ok (.astore_n 3, 1) := by decide +kernel
theorem dX8_derivedShare_6 : decode cX8_derivedShare 6 = .ok (.iload_n 2, 1) := by decide +kernel
theorem dX8_derivedShare_7 : decode cX8_derivedShare 7 = .ok (.invokestatic 170, 3) := by decide +kernel
theorem dX8_derivedShare_10 : decode cX8_derivedShare 10 = .ok (.aload_n 0, 1) := by decide +kernel
theorem dX8_derivedShare_11 : decode cX8_derivedShare 11 = .ok (.aload_n 3, 1) := by decide +kernel
theorem dX8_derivedShare_12 : decode cX8_derivedShare 12 = .ok (.aload_n 3, 1) := by decide +kernel
theorem dX8_derivedShare_13 : decode cX8_derivedShare 13 = .ok (.getfield 92, 3) := by decide +kernel
theorem dX8_derivedShare_16 : decode cX8_derivedShare 16 = .ok (.iload_n 2, 1) := by decide +kernel
theorem dX8_derivedShare_17 : decode cX8_derivedShare 17 = .ok (.invokevirtual 160, 3) := by decide +kernel
theorem dX8_derivedShare_20 : decode cX8_derivedShare 20 = .ok (.astore 4, 2) := by decide +kernel
theorem dX8_derivedShare_22 : decode cX8_derivedShare 22 = .ok (.iconst 0, 1) := by decide +kernel
theorem dX8_derivedShare_23 : decode cX8_derivedShare 23 = .ok (.istore 5, 2) := by decide +kernel
theorem dX8_derivedShare_25 : decode cX8_derivedShare 25 = .ok (.iconst 0, 1) := by decide +kernel
theorem dX8_derivedShare_26 : decode cX8_derivedShare 26 = .ok (.istore 6, 2) := by decide +kernel
theorem dX8_derivedShare_28 : decode cX8_derivedShare 28 = .ok (.iconst 0, 1) := by decide +kernel
theorem dX8_derivedShare_29 : decode cX8_derivedShare 29 = .ok (.istore 7, 2) := by decide +kernel
theorem dX8_derivedShare_31 : decode cX8_derivedShare 31 = .ok (.iload 7, 2) := by decide +kernel
theorem dX8_derivedShare_33 : decode cX8_derivedShare 33 = .ok (.bipush 6, 2) := by decide +kernel
theorem dX8_derivedShare_35 : decode cX8_derivedShare 35 = .ok (.if_icmp .ge 54, 3) := by decide +kernel
theorem dX8_derivedShare_38 : decode cX8_derivedShare 38 = .ok (.iload 5, 2) := by decide +kernel
theorem dX8_derivedShare_40 : decode cX8_derivedShare 40 = .ok (.aload 4, 2) := by decide +kernel
theorem dX8_derivedShare_42 : decode cX8_derivedShare 42 = .ok (.getfield 173, 3) := by decide +kernel
theorem dX8_derivedShare_45 : decode cX8_derivedShare 45 = .ok (.iload 7, 2) := by decide +kernel
theorem dX8_derivedShare_47 : decode cX8_derivedShare 47 = .ok (.laload, 1) := by decide +kernel
theorem dX8_derivedShare_48 : decode cX8_derivedShare 48 = .ok (.invokestatic 177, 3) := by decide +kernel
theorem dX8_derivedShare_51 : decode cX8_derivedShare 51 = .ok (.iadd, 1) := by decide +kernel
theorem dX8_derivedShare_52 : decode cX8_derivedShare 52 = .ok (.istore 5, 2) := by decide +kernel
theorem dX8_derivedShare_54 : decode cX8_derivedShare 54 = .ok (.iload 6, 2) := by decide +kernel
theorem dX8_derivedShare_56 : decode cX8_derivedShare 56 = .ok (.aload 4, 2) := by decide +kernel
theorem dX8_derivedShare_58 : decode cX8_derivedShare 58 = .ok (.getfield 173, 3) := by decide +kernel
theorem dX8_derivedShare_61 : decode cX8_derivedShare 61 = .ok (.iload 7, 2) := by decide +kernel
theorem dX8_derivedShare_63 : decode cX8_derivedShare 63 = .ok (.laload, 1) := by decide +kernel
theorem dX8_derivedShare_64 : decode cX8_derivedShare 64 = .ok (.aload 4, 2) := by decide +kernel
theorem dX8_derivedShare_66 : decode cX8_derivedShare 66 = .ok (.getfield 313, 3) := by decide +kernel
theorem dX8_derivedShare_69 : decode cX8_derivedShare 69 = .ok (.iload 7, 2) := by decide +kernel
theorem dX8_derivedShare_71 : decode cX8_derivedShare 71 = .ok (.laload, 1) := by decide +kernel
theorem dX8_derivedShare_72 : decode cX8_derivedShare 72 = .ok (.ldc2_w 316, 3) := by decide +kernel
theorem dX8_derivedShare_75 : decode cX8_derivedShare 75 = .ok (.lxor, 1) := by decide +kernel
theorem dX8_derivedShare_76 : decode cX8_derivedShare 76 = .ok (.land, 1) := by decide +kernel
theorem dX8_derivedShare_77 : decode cX8_derivedShare 77 = .ok (.invokestatic 177, 3) := by decide +kernel
theorem dX8_derivedShare_80 : decode cX8_derivedShare 80 = .ok (.iadd, 1) := by decide +kernel
theorem dX8_derivedShare_81 : decode cX8_derivedShare 81 = .ok (.istore 6, 2) := by decide +kernel
theorem dX8_derivedShare_83 : decode cX8_derivedShare 83 = .ok (.iinc 7 1, 3) := by decide +kernel
theorem dX8_derivedShare_86 : decode cX8_derivedShare 86 = .ok (.goto (-55), 3) := by decide +kernel
theorem dX8_derivedShare_89 : decode cX8_derivedShare 89 = .ok (.iload 5, 2) := by decide +kernel
theorem dX8_derivedShare_91 : decode cX8_derivedShare 91 = .ok (.ifCond .ne 14, 3) := by decide +kernel
theorem dX8_derivedShare_94 : decode cX8_derivedShare 94 = .ok (.new 318, 3) := by decide +kernel
theorem dX8_derivedShare_97 : decode cX8_derivedShare 97 = .ok (.dup, 1) := by decide +kernel
theorem dX8_derivedShare_98 : decode cX8_derivedShare 98 = .ok (.ldc_w 320, 3) := by decide +kernel
theorem dX8_derivedShare_101 : decode cX8_derivedShare 101 = .ok (.invokespecial 322, 3) := by decide +kernel
theorem dX8_derivedShare_104 : decode cX8_derivedShare 104 = .ok (.athrow, 1) := by decide +kernel
theorem dX8_derivedShare_105 : decode cX8_derivedShare 105 = .ok (.iload 6, 2) := by decide +kernel
theorem dX8_derivedShare_107 : decode cX8_derivedShare 107 = .ok (.i2f, 1) := by decide +kernel
theorem dX8_derivedShare_108 : decode cX8_derivedShare 108 = .ok (.iload 5, 2) := by decide +kernel
theorem dX8_derivedShare_110 : decode cX8_derivedShare 110 = .ok (.i2f, 1) := by decide +kernel
theorem dX8_derivedShare_111 : decode cX8_derivedShare 111 = .ok (.fdiv, 1) := by decide +kernel
theorem dX8_derivedShare_112 : decode cX8_derivedShare 112 = .ok (.freturn, 1) := by decide +kernel
theorem dX8_meanRank_0 : decode cX8_meanRank 0 = .ok (.aload_n 0, 1) := by decide +kernel
theorem dX8_meanRank_1 : decode cX8_meanRank 1 = .ok (.iload_n 1, 1) := by decide +kernel
theorem dX8_meanRank_2 : decode cX8_meanRank 2 = .ok (.invokevirtual 58, 3) := by decide +kernel
theorem dX8_meanRank_5 : decode cX8_meanRank 5 = .ok (.astore_n 3, 1) := by decide +kernel
theorem dX8_meanRank_6 : decode cX8_meanRank 6 = .ok (.iload_n 2, 1) := by decide +kernel
theorem dX8_meanRank_7 : decode cX8_meanRank 7 = .ok (.invokestatic 170, 3) := by decide +kernel
theorem dX8_meanRank_10 : decode cX8_meanRank 10 = .ok (.aload_n 0, 1) := by decide +kernel
theorem dX8_meanRank_11 : decode cX8_meanRank 11 = .ok (.getfield 35, 3) := by decide +kernel
theorem dX8_meanRank_14 : decode cX8_meanRank 14 = .ok (.aload_n 0, 1) := by decide +kernel
theorem dX8_meanRank_15 : decode cX8_meanRank 15 = .ok (.getfield 28, 3) := by decide +kernel
theorem dX8_meanRank_18 : decode cX8_meanRank 18 = .ok (.aload_n 0, 1) := by decide +kernel
theorem dX8_meanRank_19 : decode cX8_meanRank 19 = .ok (.aload_n 3, 1) := by decide +kernel
theorem dX8_meanRank_20 : decode cX8_meanRank 20 = .ok (.aload_n 3, 1) := by decide +kernel
theorem dX8_meanRank_21 : decode cX8_meanRank 21 = .ok (.getfield 92, 3) := by decide +kernel
theorem dX8_meanRank_24 : decode cX8_meanRank 24 = .ok (.iload_n 2, 1) := by decide +kernel
theorem dX8_meanRank_25 : decode cX8_meanRank 25 = .ok (.invokevirtual 160, 3) := by decide +kernel
theorem dX8_meanRank_28 : decode cX8_meanRank 28 = .ok (.invokevirtual 323, 3) := by decide +kernel
theorem dX8_meanRank_31 : decode cX8_meanRank 31 = .ok (.iconst 0, 1) := by decide +kernel
theorem dX8_meanRank_32 : decode cX8_meanRank 32 = .ok (.istore 4, 2) := by decide +kernel
theorem dX8_meanRank_34 : decode cX8_meanRank 34 = .ok (.iconst 0, 1) := by decide +kernel
theorem dX8_meanRank_35 : decode cX8_meanRank 35 = .ok (.istore 5, 2) := by decide +kernel
theorem dX8_meanRank_37 : decode cX8_meanRank 37 = .ok (.iconst 0, 1) := by decide +kernel
theorem dX8_meanRank_38 : decode cX8_meanRank 38 = .ok (.istore 6, 2) := by decide +kernel
theorem dX8_meanRank_40 : decode cX8_meanRank 40 = .ok (.iload 6, 2) := by decide +kernel
theorem dX8_meanRank_42 : decode cX8_meanRank 42 = .ok (.sipush 384, 3) := by decide +kernel
theorem dX8_meanRank_45 : decode cX8_meanRank 45 = .ok (.if_icmp .ge 41, 3) := by decide +kernel
theorem dX8_meanRank_48 : decode cX8_meanRank 48 = .ok (.aload_n 0, 1) := by decide +kernel
theorem dX8_meanRank_49 : decode cX8_meanRank 49 = .ok (.getfield 35, 3) := by decide +kernel
theorem dX8_meanRank_52 : decode cX8_meanRank 52 = .ok (.getfield 191, 3) := by decide +kernel
theorem dX8_meanRank_55 : decode cX8_meanRank 55 = .ok (.iload 6, 2) := by decide +kernel
theorem dX8_meanRank_57 : decode cX8_meanRank 57 = .ok (.iaload, 1) := by decide +kernel
theorem dX8_meanRank_58 : decode cX8_meanRank 58 = .ok (.iconst (-1), 1) := by decide +kernel
theorem dX8_meanRank_59 : decode cX8_meanRank 59 = .ok (.if_icmp .eq 21, 3) := by decide +kernel
theorem dX8_meanRank_62 : decode cX8_meanRank 62 = .ok (.iinc 4 1, 3) := by decide +kernel
theorem dX8_meanRank_65 : decode cX8_meanRank 65 = .ok (.iload 5, 2) := by decide +kernel
theorem dX8_meanRank_67 : decode cX8_meanRank 67 = .ok (.aload_n 0, 1) := by decide +kernel
theorem dX8_meanRank_68 : decode cX8_meanRank 68 = .ok (.getfield 35, 3) := by decide +kernel
theorem dX8_meanRank_71 : decode cX8_meanRank 71 = .ok (.getfield 191, 3) := by decide +kernel
theorem dX8_meanRank_74 : decode cX8_meanRank 74 = .ok (.iload 6, 2) := by decide +kernel
theorem dX8_meanRank_76 : decode cX8_meanRank 76 = .ok (.iaload, 1) := by decide +kernel
theorem dX8_meanRank_77 : decode cX8_meanRank 77 = .ok (.iadd, 1) := by decide +kernel
theorem dX8_meanRank_78 : decode cX8_meanRank 78 = .ok (.istore 5, 2) := by decide +kernel
theorem dX8_meanRank_80 : decode cX8_meanRank 80 = .ok (.iinc 6 1, 3) := by decide +kernel
theorem dX8_meanRank_83 : decode cX8_meanRank 83 = .ok (.goto (-43), 3) := by decide +kernel
theorem dX8_meanRank_86 : decode cX8_meanRank 86 = .ok (.iload 4, 2) := by decide +kernel
theorem dX8_meanRank_88 : decode cX8_meanRank 88 = .ok (.ifCond .ne 14, 3) := by decide +kernel
theorem dX8_meanRank_91 : decode cX8_meanRank 91 = .ok (.new 318, 3) := by decide +kernel
theorem dX8_meanRank_94 : decode cX8_meanRank 94 = .ok (.dup, 1) := by decide +kernel
theorem dX8_meanRank_95 : decode cX8_meanRank 95 = .ok (.ldc_w 320, 3) := by decide +kernel
