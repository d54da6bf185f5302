theorem dX8_meanRank_98 : decode cX8_meanRank 98 = .ok (.invokespecial 322, 3) := by decide +kernel
theorem dX8_meanRank_101 : decode cX8_meanRank 101 = .ok (.athrow, 1) := by decide +kernel
theorem dX8_meanRank_102 : decode cX8_meanRank 102 = .ok (.iload 5, 2) := by decide +kernel
theorem dX8_meanRank_104 : decode cX8_meanRank 104 = .ok (.i2d, 1) := by decide +kernel
theorem dX8_meanRank_105 : decode cX8_meanRank 105 = .ok (.iload 4, 2) := by decide +kernel
theorem dX8_meanRank_107 : decode cX8_meanRank 107 = .ok (.i2d, 1) := by decide +kernel
theorem dX8_meanRank_108 : decode cX8_meanRank 108 = .ok (.ddiv, 1) := by decide +kernel
theorem dX8_meanRank_109 : decode cX8_meanRank 109 = .ok (.dreturn, 1) := by decide +kernel
theorem dX8_isSound_0 : decode cX8_isSound 0 = .ok (.iconst 0, 1) := by decide +kernel
theorem dX8_isSound_1 : decode cX8_isSound 1 = .ok (.istore_n 1, 1) := by decide +kernel
theorem dX8_isSound_2 : decode cX8_isSound 2 = .ok (.iload_n 1, 1) := by decide +kernel
theorem dX8_isSound_3 : decode cX8_isSound 3 = .ok (.aload_n 0, 1) := by decide +kernel
theorem dX8_isSound_4 : decode cX8_isSound 4 = .ok (.getfield 46, 3) := by decide +kernel
theorem dX8_isSound_7 : decode cX8_isSound 7 = .ok (.if_icmp .ge 36, 3) := by decide +kernel
theorem dX8_isSound_10 : decode cX8_isSound 10 = .ok (.aload_n 0, 1) := by decide +kernel
theorem dX8_isSound_11 : decode cX8_isSound 11 = .ok (.getfield 11, 3) := by decide +kernel
theorem dX8_isSound_14 : decode cX8_isSound 14 = .ok (.iload_n 1, 1) := by decide +kernel
theorem dX8_isSound_15 : decode cX8_isSound 15 = .ok (.aaload, 1) := by decide +kernel
theorem dX8_isSound_16 : decode cX8_isSound 16 = .ok (.invokevirtual 327, 3) := by decide +kernel
theorem dX8_isSound_19 : decode cX8_isSound 19 = .ok (.ifCond .eq 16, 3) := by decide +kernel
theorem dX8_isSound_22 : decode cX8_isSound 22 = .ok (.aload_n 0, 1) := by decide +kernel
theorem dX8_isSound_23 : decode cX8_isSound 23 = .ok (.aload_n 0, 1) := by decide +kernel
theorem dX8_isSound_24 : decode cX8_isSound 24 = .ok (.getfield 11, 3) := by decide +kernel
theorem dX8_isSound_27 : decode cX8_isSound 27 = .ok (.iload_n 1, 1) := by decide +kernel
theorem dX8_isSound_28 : decode cX8_isSound 28 = .ok (.aaload, 1) := by decide +kernel
theorem dX8_isSound_29 : decode cX8_isSound 29 = .ok (.invokevirtual 330, 3) := by decide +kernel
theorem dX8_isSound_32 : decode cX8_isSound 32 = .ok (.ifCond .ne 5, 3) := by decide +kernel
theorem dX8_isSound_35 : decode cX8_isSound 35 = .ok (.iconst 0, 1) := by decide +kernel
theorem dX8_isSound_36 : decode cX8_isSound 36 = .ok (.ireturn, 1) := by decide +kernel
theorem dX8_isSound_37 : decode cX8_isSound 37 = .ok (.iinc 1 1, 3) := by decide +kernel
theorem dX8_isSound_40 : decode cX8_isSound 40 = .ok (.goto (-38), 3) := by decide +kernel
theorem dX8_isSound_43 : decode cX8_isSound 43 = .ok (.iconst 1, 1) := by decide +kernel
theorem dX8_isSound_44 : decode cX8_isSound 44 = .ok (.ireturn, 1) := by decide +kernel
theorem dX8_isBelow_0 : decode cX8_isBelow 0 = .ok (.iload_n 0, 1) := by decide +kernel
theorem dX8_isBelow_1 : decode cX8_isBelow 1 = .ok (.ifCond .lt 12, 3) := by decide +kernel
theorem dX8_isBelow_4 : decode cX8_isBelow 4 = .ok (.iload_n 0, 1) := by decide +kernel
theorem dX8_isBelow_5 : decode cX8_isBelow 5 = .ok (.iload_n 1, 1) := by decide +kernel
theorem dX8_isBelow_6 : decode cX8_isBelow 6 = .ok (.if_icmp .ge 7, 3) := by decide +kernel
theorem dX8_isBelow_9 : decode cX8_isBelow 9 = .ok (.iconst 1, 1) := by decide +kernel
theorem dX8_isBelow_10 : decode cX8_isBelow 10 = .ok (.goto 4, 3) := by decide +kernel
theorem dX8_isBelow_13 : decode cX8_isBelow 13 = .ok (.iconst 0, 1) := by decide +kernel
theorem dX8_isBelow_14 : decode cX8_isBelow 14 = .ok (.ireturn, 1) := by decide +kernel
theorem dX8_isAmong_0 : decode cX8_isAmong 0 = .ok (.iload_n 1, 1) := by decide +kernel
theorem dX8_isAmong_1 : decode cX8_isAmong 1 = .ok (.iload_n 0, 1) := by decide +kernel
theorem dX8_isAmong_2 : decode cX8_isAmong 2 = .ok (.ishr, 1) := by decide +kernel
theorem dX8_isAmong_3 : decode cX8_isAmong 3 = .ok (.iconst 1, 1) := by decide +kernel
theorem dX8_isAmong_4 : decode cX8_isAmong 4 = .ok (.iand, 1) := by decide +kernel
theorem dX8_isAmong_5 : decode cX8_isAmong 5 = .ok (.ifCond .eq 7, 3) := by decide +kernel
theorem dX8_isAmong_8 : decode cX8_isAmong 8 = .ok (.iconst 1, 1) := by decide +kernel
theorem dX8_isAmong_9 : decode cX8_isAmong 9 = .ok (.goto 4, 3) := by decide +kernel
theorem dX8_isAmong_12 : decode cX8_isAmong 12 = .ok (.iconst 0, 1) := by decide +kernel
theorem dX8_isAmong_13 : decode cX8_isAmong 13 = .ok (.ireturn, 1) := by decide +kernel
theorem dX8_chained_0 : decode cX8_chained 0 = .ok (.bipush 31, 2) := by decide +kernel
theorem dX8_chained_2 : decode cX8_chained 2 = .ok (.iload_n 0, 1) := by decide +kernel
theorem dX8_chained_3 : decode cX8_chained 3 = .ok (.imul, 1) := by decide +kernel
theorem dX8_chained_4 : decode cX8_chained 4 = .ok (.iload_n 1, 1) := by decide +kernel
theorem dX8_chained_5 : decode cX8_chained 5 = .ok (.iadd, 1) := by decide +kernel
theorem dX8_chained_6 : decode cX8_chained 6 = .ok (.ldc_w 334, 3) := by decide +kernel
theorem dX8_chained_9 : decode cX8_chained 9 = .ok (.irem, 1) := by decide +kernel
theorem dX8_chained_10 : decode cX8_chained 10 = .ok (.ireturn, 1) := by decide +kernel
theorem dX8_branchAt_0 : decode cX8_branchAt 0 = .ok (.iload_n 1, 1) := by decide +kernel
theorem dX8_branchAt_1 : decode cX8_branchAt 1 = .ok (.aload_n 0, 1) := by decide +kernel
theorem dX8_branchAt_2 : decode cX8_branchAt 2 = .ok (.getfield 46, 3) := by decide +kernel
theorem dX8_branchAt_5 : decode cX8_branchAt 5 = .ok (.invokestatic 210, 3) := by decide +kernel
theorem dX8_branchAt_8 : decode cX8_branchAt 8 = .ok (.ifCond .ne 14, 3) := by decide +kernel
theorem dX8_branchAt_11 : decode cX8_branchAt 11 = .ok (.new 221, 3) := by decide +kernel
theorem dX8_branchAt_14 : decode cX8_branchAt 14 = .ok (.dup, 1) := by decide +kernel
theorem dX8_branchAt_15 : decode cX8_branchAt 15 = .ok (.ldc_w 335, 3) := by decide +kernel
theorem dX8_branchAt_18 : decode cX8_branchAt 18 = .ok (.invokespecial 225, 3) := by decide +kernel
theorem dX8_branchAt_21 : decode cX8_branchAt 21 = .ok (.athrow, 1) := by decide +kernel
theorem dX8_branchAt_22 : decode cX8_branchAt 22 = .ok (.aload_n 0, 1) := by decide +kernel
theorem dX8_branchAt_23 : decode cX8_branchAt 23 = .ok (.getfield 11, 3) := by decide +kernel
theorem dX8_branchAt_26 : decode cX8_branchAt 26 = .ok (.iload_n 1, 1) := by decide +kernel
theorem dX8_branchAt_27 : decode cX8_branchAt 27 = .ok (.aaload, 1) := by decide +kernel
theorem dX8_branchAt_28 : decode cX8_branchAt 28 = .ok (.areturn, 1) := by decide +kernel
theorem dX8_ruleAt_0 : decode cX8_ruleAt 0 = .ok (.iload_n 1, 1) := by decide +kernel
theorem dX8_ruleAt_1 : decode cX8_ruleAt 1 = .ok (.aload_n 0, 1) := by decide +kernel
theorem dX8_ruleAt_2 : decode cX8_ruleAt 2 = .ok (.getfield 28, 3) := by decide +kernel
theorem dX8_ruleAt_5 : decode cX8_ruleAt 5 = .ok (.getfield 102, 3) := by decide +kernel
theorem dX8_ruleAt_8 : decode cX8_ruleAt 8 = .ok (.invokestatic 210, 3) := by decide +kernel
theorem dX8_ruleAt_11 : decode cX8_ruleAt 11 = .ok (.ifCond .ne 14, 3) := by decide +kernel
theorem dX8_ruleAt_14 : decode cX8_ruleAt 14 = .ok (.new 221, 3) := by decide +kernel
theorem dX8_ruleAt_17 : decode cX8_ruleAt 17 = .ok (.dup, 1) := by decide +kernel
theorem dX8_ruleAt_18 : decode cX8_ruleAt 18 = .ok (.ldc_w 337, 3) := by decide +kernel
theorem dX8_ruleAt_21 : decode cX8_ruleAt 21 = .ok (.invokespecial 225, 3) := by decide +kernel
theorem dX8_ruleAt_24 : decode cX8_ruleAt 24 = .ok (.athrow, 1) := by decide +kernel
theorem dX8_ruleAt_25 : decode cX8_ruleAt 25 = .ok (.aload_n 0, 1) := by decide +kernel
theorem dX8_ruleAt_26 : decode cX8_ruleAt 26 = .ok (.getfield 28, 3) := by decide +kernel
theorem dX8_ruleAt_29 : decode cX8_ruleAt 29 = .ok (.getfield 108, 3) := by decide +kernel
theorem dX8_ruleAt_32 : decode cX8_ruleAt 32 = .ok (.iload_n 1, 1) := by decide +kernel
theorem dX8_ruleAt_33 : decode cX8_ruleAt 33 = .ok (.aaload, 1) := by decide +kernel
theorem dX8_ruleAt_34 : decode cX8_ruleAt 34 = .ok (.areturn, 1) := by decide +kernel
theorem dX8_checkKnowing_0 : decode cX8_checkKnowing 0 = .ok (.iload_n 1, 1) := by decide +kernel
theorem dX8_checkKnowing_1 : decode cX8_checkKnowing 1 = .ok (.aload_n 0, 1) := by decide +kernel
theorem dX8_checkKnowing_2 : decode cX8_checkKnowing 2 = .ok (.getfield 92, 3) := by decide +kernel
theorem dX8_checkKnowing_5 : decode cX8_checkKnowing 5 = .ok (.iconst 1, 1) := by decide +kernel
theorem dX8_checkKnowing_6 : decode cX8_checkKnowing 6 = .ok (.iadd, 1) := by decide +kernel
theorem dX8_checkKnowing_7 : decode cX8_checkKnowing 7 = .ok (.invokestatic 210, 3) := by decide +kernel
theorem dX8_checkKnowing_10 : decode cX8_checkKnowing 10 = .ok (.ifCond .ne 14, 3) := by decide +kernel
theorem dX8_checkKnowing_13 : decode cX8_checkKnowing 13 = .ok (.new 221, 3) := by decide +kernel
theorem dX8_checkKnowing_16 : decode cX8_checkKnowing 16 = .ok (.dup, 1) := by decide +kernel
theorem dX8_checkKnowing_17 : decode cX8_checkKnowing 17 = .ok (.ldc_w 341, 3) := by decide +kernel
theorem dX8_checkKnowing_20 : decode cX8_checkKnowing 20 = .ok (.invokespecial 225, 3) := by decide +kernel
theorem dX8_checkKnowing_23 : decode cX8_checkKnowing 23 = .ok (.athrow, 1) := by decide +kernel
theorem dX8_checkKnowing_24 : decode cX8_checkKnowing 24 = .ok (.return_, 1) := by decide +kernel
theorem dX8_checkFact_0 : decode cX8_checkFact 0 = .ok (.iload_n 0, 1) := by decide +kernel
theorem dX8_checkFact_1 : decode cX8_checkFact 1 = .ok (.sipush 384, 3) := by decide +kernel
theorem dX8_checkFact_4 : decode cX8_checkFact 4 = .ok (.invokestatic 210, 3) := by decide +kernel
theorem dX8_checkFact_7 : decode cX8_checkFact 7 = .ok (.ifCond .ne 14, 3) := by decide +kernel
theorem dX8_checkFact_10 : decode cX8_checkFact 10 = .ok (.new 213, 3) := by decide +kernel
theorem dX8_checkFact_13 : decode cX8_checkFact 13 = .ok (.dup, 1) := by decide +kernel
theorem dX8_checkFact_14 : decode cX8_checkFact 14 = .ok (.ldc_w 343, 3) := by decide +kernel
theorem dX8_checkFact_17 : decode cX8_checkFact 17 = .ok (.invokespecial 217, 3) := by decide +kernel
theorem dX8_checkFact_20 : decode cX8_checkFact 20 = .ok (.athrow, 1) := by decide +kernel
theorem dX8_checkFact_21 : decode cX8_checkFact 21 = .ok (.return_, 1) := by decide +kernel
theorem dX8_checkHour_0 : decode cX8_checkHour 0 = .ok (.iload_n 0, 1) := by decide +kernel
theorem dX8_checkHour_1 : decode cX8_checkHour 1 = .ok (.bipush 24, 2) := by decide +kernel
theorem dX8_checkHour_3 : decode cX8_checkHour 3 = .ok (.invokestatic 210, 3) := by decide +kernel
theorem dX8_checkHour_6 : decode cX8_checkHour 6 = .ok (.ifCond .ne 14, 3) := by decide +kernel
theorem dX8_checkHour_9 : decode cX8_checkHour 9 = .ok (.new 213, 3) := by decide +kernel
theorem dX8_checkHour_12 : decode cX8_checkHour 12 = .ok (.dup, 1) := by decide +kernel
theorem dX8_checkHour_13 : decode cX8_checkHour 13 = .ok (.ldc_w 345, 3) := by decide +kernel
theorem dX8_checkHour_16 : decode cX8_checkHour 16 = .ok (.invokespecial 217, 3) := by decide +kernel
theorem dX8_checkHour_19 : decode cX8_checkHour 19 = .ok (.athrow, 1) := by decide +kernel
theorem dX8_checkHour_20 : decode cX8_checkHour 20 = .ok (.return_, 1) := by decide +kernel
theorem dX8_checkSpan_0 : decode cX8_checkSpan 0 = .ok (.iload_n 0, 1) := by decide +kernel
theorem dX8_checkSpan_1 : decode cX8_checkSpan 1 = .ok (.bipush 24, 2) := by decide +kernel
theorem dX8_checkSpan_3 : decode cX8_checkSpan 3 = .ok (.invokestatic 210, 3) := by decide +kernel
theorem dX8_checkSpan_6 : decode cX8_checkSpan 6 = .ok (.ifCond .eq 17, 3) := by decide +kernel
theorem dX8_checkSpan_9 : decode cX8_checkSpan 9 = .ok (.iload_n 1, 1) := by decide +kernel
theorem dX8_checkSpan_10 : decode cX8_checkSpan 10 = .ok (.bipush 24, 2) := by decide +kernel
theorem dX8_checkSpan_12 : decode cX8_checkSpan 12 = .ok (.invokestatic 210, 3) := by decide +kernel
theorem dX8_checkSpan_15 : decode cX8_checkSpan 15 = .ok (.ifCond .eq 8, 3) := by decide +kernel
theorem dX8_checkSpan_18 : decode cX8_checkSpan 18 = .ok (.iload_n 1, 1) := by decide +kernel
theorem dX8_checkSpan_19 : decode cX8_checkSpan 19 = .ok (.iload_n 0, 1) := by decide +kernel
theorem dX8_checkSpan_20 : decode cX8_checkSpan 20 = .ok (.if_icmp .ge 14, 3) := by decide +kernel
theorem dX8_checkSpan_23 : decode cX8_checkSpan 23 = .ok (.new 213, 3) := by decide +kernel
theorem dX8_checkSpan_26 : decode cX8_checkSpan 26 = .ok (.dup, 1) := by decide +kernel
theorem dX8_checkSpan_27 : decode cX8_checkSpan 27 = .ok (.ldc_w 347, 3) := by decide +kernel
theorem dX8_checkSpan_30 : decode cX8_checkSpan 30 = .ok (.invokespecial 217, 3) := by decide +kernel
theorem dX8_checkSpan_33 : decode cX8_checkSpan 33 = .ok (.athrow, 1) := by decide +kernel
theorem dX8_checkSpan_34 : decode cX8_checkSpan 34 = .ok (.return_, 1) := by decide +kernel
theorem dX8_checkRelation_0 : decode cX8_checkRelation 0 = .ok (.iload_n 0, 1) := by decide +kernel
theorem dX8_checkRelation_1 : decode cX8_checkRelation 1 = .ok (.bipush 6, 2) := by decide +kernel
theorem dX8_checkRelation_3 : decode cX8_checkRelation 3 = .ok (.invokestatic 210, 3) := by decide +kernel
theorem dX8_checkRelation_6 : decode cX8_checkRelation 6 = .ok (.ifCond .ne 14, 3) := by decide +kernel
theorem dX8_checkRelation_9 : decode cX8_checkRelation 9 = .ok (.new 213, 3) := by decide +kernel
theorem dX8_checkRelation_12 : decode cX8_checkRelation 12 = .ok (.dup, 1) := by decide +kernel
theorem dX8_checkRelation_13 : decode cX8_checkRelation 13 = .ok (.ldc_w 349, 3) := by decide +kernel
theorem dX8_checkRelation_16 : decode cX8_checkRelation 16 = .ok (.invokespecial 217, 3) := by decide +kernel
theorem dX8_checkRelation_19 : decode cX8_checkRelation 19 = .ok (.athrow, 1) := by decide +kernel
theorem dX8_checkRelation_20 : decode cX8_checkRelation 20 = .ok (.return_, 1) := by decide +kernel
theorem dX8_checkPattern_0 : decode cX8_checkPattern 0 = .ok (.iload_n 0, 1) := by decide +kernel
theorem dX8_checkPattern_1 : decode cX8_checkPattern 1 = .ok (.bipush 6, 2) := by decide +kernel
theorem dX8_checkPattern_3 : decode cX8_checkPattern 3 = .ok (.invokestatic 210, 3) := by decide +kernel
theorem dX8_checkPattern_6 : decode cX8_checkPattern 6 = .ok (.ifCond .eq 19, 3) := by decide +kernel
theorem dX8_checkPattern_9 : decode cX8_checkPattern 9 = .ok (.iload_n 1, 1) := by decide +kernel
theorem dX8_checkPattern_10 : decode cX8_checkPattern 10 = .ok (.iconst 3, 1) := by decide +kernel
theorem dX8_checkPattern_11 : decode cX8_checkPattern 11 = .ok (.invokestatic 210, 3) := by decide +kernel
theorem dX8_checkPattern_14 : decode cX8_checkPattern 14 = .ok (.ifCond .eq 11, 3) := by decide +kernel
theorem dX8_checkPattern_17 : decode cX8_checkPattern 17 = .ok (.iload_n 2, 1) := by decide +kernel
theorem dX8_checkPattern_18 : decode cX8_checkPattern 18 = .ok (.iconst 3, 1) := by decide +kernel
theorem dX8_checkPattern_19 : decode cX8_checkPattern 19 = .ok (.invokestatic 210, 3) := by decide +kernel
theorem dX8_checkPattern_22 : decode cX8_checkPattern 22 = .ok (.ifCond .ne 14, 3) := by decide +kernel
theorem dX8_checkPattern_25 : decode cX8_checkPattern 25 = .ok (.new 213, 3) := by decide +kernel
theorem dX8_checkPattern_28 : decode cX8_checkPattern 28 = .ok (.dup, 1) := by decide +kernel
theorem dX8_checkPattern_29 : decode cX8_checkPattern 29 = .ok (.ldc_w 351, 3) := by decide +kernel
theorem dX8_checkPattern_32 : decode cX8_checkPattern 32 = .ok (.invokespecial 217, 3) := by decide +kernel
theorem dX8_checkPattern_35 : decode cX8_checkPattern 35 = .ok (.athrow, 1) := by decide +kernel
theorem dX8_checkPattern_36 : decode cX8_checkPattern 36 = .ok (.return_, 1) := by decide +kernel
theorem dX8_checkRoom_0 : decode cX8_checkRoom 0 = .ok (.aload_n 0, 1) := by decide +kernel
theorem dX8_checkRoom_1 : decode cX8_checkRoom 1 = .ok (.invokevirtual 353, 3) := by decide +kernel
theorem dX8_checkRoom_4 : decode cX8_checkRoom 4 = .ok (.ifCond .eq 14, 3) := by decide +kernel
theorem dX8_checkRoom_7 : decode cX8_checkRoom 7 = .ok (.new 103, 3) := by decide +kernel
theorem dX8_checkRoom_10 : decode cX8_checkRoom 10 = .ok (.dup, 1) := by decide +kernel
theorem dX8_checkRoom_11 : decode cX8_checkRoom 11 = .ok (.ldc_w 356, 3) := by decide +kernel
theorem dX8_checkRoom_14 : decode cX8_checkRoom 14 = .ok (.invokespecial 107, 3) := by decide +kernel
theorem dX8_checkRoom_17 : decode cX8_checkRoom 17 = .ok (.athrow, 1) := by decide +kernel
theorem dX8_checkRoom_18 : decode cX8_checkRoom 18 = .ok (.return_, 1) := by decide +kernel
theorem dX8_checkAsked_0 : decode cX8_checkAsked 0 = .ok (.aload_n 0, 1) := by decide +kernel
theorem dX8_checkAsked_1 : decode cX8_checkAsked 1 = .ok (.iload_n 1, 1) := by decide +kernel
theorem dX8_checkAsked_2 : decode cX8_checkAsked 2 = .ok (.invokestatic 141, 3) := by decide +kernel
theorem dX8_checkAsked_5 : decode cX8_checkAsked 5 = .ok (.iload_n 2, 1) := by decide +kernel
theorem dX8_checkAsked_6 : decode cX8_checkAsked 6 = .ok (.invokestatic 170, 3) := by decide +kernel
theorem dX8_checkAsked_9 : decode cX8_checkAsked 9 = .ok (.iload_n 3, 1) := by decide +kernel
theorem dX8_checkAsked_10 : decode cX8_checkAsked 10 = .ok (.invokestatic 62, 3) := by decide +kernel
theorem dX8_checkAsked_13 : decode cX8_checkAsked 13 = .ok (.return_, 1) := by decide +kernel
theorem dX8_checkHeld_0 : decode cX8_checkHeld 0 = .ok (.aload_n 0, 1) := by decide +kernel
theorem dX8_checkHeld_1 : decode cX8_checkHeld 1 = .ok (.iload_n 1, 1) := by decide +kernel
theorem dX8_checkHeld_2 : decode cX8_checkHeld 2 = .ok (.invokevirtual 164, 3) := by decide +kernel
theorem dX8_checkHeld_5 : decode cX8_checkHeld 5 = .ok (.ifCond .ne 14, 3) := by decide +kernel
theorem dX8_checkHeld_8 : decode cX8_checkHeld 8 = .ok (.new 201, 3) := by decide +kernel
theorem dX8_checkHeld_11 : decode cX8_checkHeld 11 = .ok (.dup, 1) := by decide +kernel
theorem dX8_checkHeld_12 : decode cX8_checkHeld 12 = .ok (.ldc_w 358, 3) := by decide +kernel
theorem dX8_checkHeld_15 : decode cX8_checkHeld 15 = .ok (.invokespecial 205, 3) := by decide +kernel
theorem dX8_checkHeld_18 : decode cX8_checkHeld 18 = .ok (.athrow, 1) := by decide +kernel
theorem dX8_checkHeld_19 : decode cX8_checkHeld 19 = .ok (.return_, 1) := by decide +kernel
theorem dX8_hasRival_0 : decode cX8_hasRival 0 = .ok (.iload_n 2, 1) := by decide +kernel
theorem dX8_hasRival_1 : decode cX8_hasRival 1 = .ok (.bipush 64, 2) := by decide +kernel
theorem dX8_hasRival_3 : decode cX8_hasRival 3 = .ok (.idiv, 1) := by decide +kernel
theorem dX8_hasRival_4 : decode cX8_hasRival 4 = .ok (.istore 5, 2) := by decide +kernel
theorem dX8_hasRival_6 : decode cX8_hasRival 6 = .ok (.aload_n 0, 1) := by decide +kernel
theorem dX8_hasRival_7 : decode cX8_hasRival 7 = .ok (.getfield 21, 3) := by decide +kernel
theorem dX8_hasRival_10 : decode cX8_hasRival 10 = .ok (.iload 5, 2) := by decide +kernel
theorem dX8_hasRival_12 : decode cX8_hasRival 12 = .ok (.baload, 1) := by decide +kernel
theorem dX8_hasRival_13 : decode cX8_hasRival 13 = .ok (.ifCond .ne 5, 3) := by decide +kernel
theorem dX8_hasRival_16 : decode cX8_hasRival 16 = .ok (.iconst 0, 1) := by decide +kernel
theorem dX8_hasRival_17 : decode cX8_hasRival 17 = .ok (.ireturn, 1) := by decide +kernel
theorem dX8_hasRival_18 : decode cX8_hasRival 18 = .ok (.iload_n 2, 1) := by decide +kernel
theorem dX8_hasRival_19 : decode cX8_hasRival 19 = .ok (.bipush 64, 2) := by decide +kernel
theorem dX8_hasRival_21 : decode cX8_hasRival 21 = .ok (.irem, 1) := by decide +kernel
theorem dX8_hasRival_22 : decode cX8_hasRival 22 = .ok (.istore 6, 2) := by decide +kernel
theorem dX8_hasRival_24 : decode cX8_hasRival 24 = .ok (.iload 6, 2) := by decide +kernel
theorem dX8_hasRival_26 : decode cX8_hasRival 26 = .ok (.bipush 8, 2) := by decide +kernel
theorem dX8_hasRival_28 : decode cX8_hasRival 28 = .ok (.idiv, 1) := by decide +kernel
theorem dX8_hasRival_29 : decode cX8_hasRival 29 = .ok (.iconst (-1), 1) := by decide +kernel
theorem dX8_hasRival_30 : decode cX8_hasRival 30 = .ok (.invokestatic 280, 3) := by decide +kernel
theorem dX8_hasRival_33 : decode cX8_hasRival 33 = .ok (.lconst 1, 1) := by decide +kernel
theorem dX8_hasRival_34 : decode cX8_hasRival 34 = .ok (.iload 6, 2) := by decide +kernel
theorem dX8_hasRival_36 : decode cX8_hasRival 36 = .ok (.lshl, 1) := by decide +kernel
theorem dX8_hasRival_37 : decode cX8_hasRival 37 = .ok (.ldc2_w 316, 3) := by decide +kernel
theorem dX8_hasRival_40 : decode cX8_hasRival 40 = .ok (.lxor, 1) := by decide +kernel
theorem dX8_hasRival_41 : decode cX8_hasRival 41 = .ok (.land, 1) := by decide +kernel
theorem dX8_hasRival_42 : decode cX8_hasRival 42 = .ok (.lstore 7, 2) := by decide +kernel
theorem dX8_hasRival_44 : decode cX8_hasRival 44 = .ok (.iload_n 3, 1) := by decide +kernel
theorem dX8_hasRival_45 : decode cX8_hasRival 45 = .ok (.istore 9, 2) := by decide +kernel
theorem dX8_hasRival_47 : decode cX8_hasRival 47 = .ok (.iload 9, 2) := by decide +kernel
theorem dX8_hasRival_49 : decode cX8_hasRival 49 = .ok (.iload 4, 2) := by decide +kernel
theorem dX8_hasRival_51 : decode cX8_hasRival 51 = .ok (.if_icmp .gt 43, 3) := by decide +kernel
theorem dX8_hasRival_54 : decode cX8_hasRival 54 = .ok (.aload_n 1, 1) := by decide +kernel
theorem dX8_hasRival_55 : decode cX8_hasRival 55 = .ok (.aload_n 1, 1) := by decide +kernel
theorem dX8_hasRival_56 : decode cX8_hasRival 56 = .ok (.getfield 92, 3) := by decide +kernel
theorem dX8_hasRival_59 : decode cX8_hasRival 59 = .ok (.iload 9, 2) := by decide +kernel
theorem dX8_hasRival_61 : decode cX8_hasRival 61 = .ok (.aload_n 0, 1) := by decide +kernel
theorem dX8_hasRival_62 : decode cX8_hasRival 62 = .ok (.getfield 42, 3) := by decide +kernel
theorem dX8_hasRival_65 : decode cX8_hasRival 65 = .ok (.invokevirtual 360, 3) := by decide +kernel
theorem dX8_hasRival_68 : decode cX8_hasRival 68 = .ok (.aload_n 0, 1) := by decide +kernel
theorem dX8_hasRival_69 : decode cX8_hasRival 69 = .ok (.getfield 42, 3) := by decide +kernel
theorem dX8_hasRival_72 : decode cX8_hasRival 72 = .ok (.getfield 313, 3) := by decide +kernel
theorem dX8_hasRival_75 : decode cX8_hasRival 75 = .ok (.iload 5, 2) := by decide +kernel
theorem dX8_hasRival_77 : decode cX8_hasRival 77 = .ok (.laload, 1) := by decide +kernel
theorem dX8_hasRival_78 : decode cX8_hasRival 78 = .ok (.lload 7, 2) := by decide +kernel
theorem dX8_hasRival_80 : decode cX8_hasRival 80 = .ok (.land, 1) := by decide +kernel
theorem dX8_hasRival_81 : decode cX8_hasRival 81 = .ok (.lconst 0, 1) := by decide +kernel
theorem dX8_hasRival_82 : decode cX8_hasRival 82 = .ok (.lcmp, 1) := by decide +kernel
theorem dX8_hasRival_83 : decode cX8_hasRival 83 = .ok (.ifCond .eq 5, 3) := by decide +kernel
theorem dX8_hasRival_86 : decode cX8_hasRival 86 = .ok (.iconst 1, 1) := by decide +kernel
theorem dX8_hasRival_87 : decode cX8_hasRival 87 = .ok (.ireturn, 1) := by decide +kernel
theorem dX8_hasRival_88 : decode cX8_hasRival 88 = .ok (.iinc 9 1, 3) := by decide +kernel
theorem dX8_hasRival_91 : decode cX8_hasRival 91 = .ok (.goto (-44), 3) := by decide +kernel
theorem dX8_hasRival_94 : decode cX8_hasRival 94 = .ok (.iconst 0, 1) := by decide +kernel
theorem dX8_hasRival_95 : decode cX8_hasRival 95 = .ok (.ireturn, 1) := by decide +kernel
theorem dX8_pairsOf_0 : decode cX8_pairsOf 0 = .ok (.lconst 0, 1) := by decide +kernel
theorem dX8_pairsOf_1 : decode cX8_pairsOf 1 = .ok (.lstore_n 2, 1) := by decide +kernel
theorem dX8_pairsOf_2 : decode cX8_pairsOf 2 = .ok (.iconst 0, 1) := by decide +kernel
theorem dX8_pairsOf_3 : decode cX8_pairsOf 3 = .ok (.istore 4, 2) := by decide +kernel
theorem dX8_pairsOf_5 : decode cX8_pairsOf 5 = .ok (.iload 4, 2) := by decide +kernel
theorem dX8_pairsOf_7 : decode cX8_pairsOf 7 = .ok (.bipush 64, 2) := by decide +kernel
theorem dX8_pairsOf_9 : decode cX8_pairsOf 9 = .ok (.if_icmp .ge 44, 3) := by decide +kernel
theorem dX8_pairsOf_12 : decode cX8_pairsOf 12 = .ok (.iload_n 0, 1) := by decide +kernel
theorem dX8_pairsOf_13 : decode cX8_pairsOf 13 = .ok (.iconst (-1), 1) := by decide +kernel
theorem dX8_pairsOf_14 : decode cX8_pairsOf 14 = .ok (.if_icmp .eq 12, 3) := by decide +kernel
theorem dX8_pairsOf_17 : decode cX8_pairsOf 17 = .ok (.iload_n 0, 1) := by decide +kernel
theorem dX8_pairsOf_18 : decode cX8_pairsOf 18 = .ok (.iload 4, 2) := by decide +kernel
theorem dX8_pairsOf_20 : decode cX8_pairsOf 20 = .ok (.bipush 8, 2) := by decide +kernel
theorem dX8_pairsOf_22 : decode cX8_pairsOf 22 = .ok (.idiv, 1) := by decide +kernel
theorem dX8_pairsOf_23 : decode cX8_pairsOf 23 = .ok (.if_icmp .ne 24, 3) := by decide +kernel
theorem dX8_pairsOf_26 : decode cX8_pairsOf 26 = .ok (.iload_n 1, 1) := by decide +kernel
theorem dX8_pairsOf_27 : decode cX8_pairsOf 27 = .ok (.iconst (-1), 1) := by decide +kernel
theorem dX8_pairsOf_28 : decode cX8_pairsOf 28 = .ok (.if_icmp .eq 12, 3) := by decide +kernel
theorem dX8_pairsOf_31 : decode cX8_pairsOf 31 = .ok (.iload_n 1, 1) := by decide +kernel
theorem dX8_pairsOf_32 : decode cX8_pairsOf 32 = .ok (.iload 4, 2) := by decide +kernel
theorem dX8_pairsOf_34 : decode cX8_pairsOf 34 = .ok (.bipush 8, 2) := by decide +kernel
theorem dX8_pairsOf_36 : decode cX8_pairsOf 36 = .ok (.irem, 1) := by decide +kernel
theorem dX8_pairsOf_37 : decode cX8_pairsOf 37 = .ok (.if_icmp .ne 10, 3) := by decide +kernel
theorem dX8_pairsOf_40 : decode cX8_pairsOf 40 = .ok (.lload_n 2, 1) := by decide +kernel
theorem dX8_pairsOf_41 : decode cX8_pairsOf 41 = .ok (.lconst 1, 1) := by decide +kernel
theorem dX8_pairsOf_42 : decode cX8_pairsOf 42 = .ok (.iload 4, 2) := by decide +kernel
theorem dX8_pairsOf_44 : decode cX8_pairsOf 44 = .ok (.lshl, 1) := by decide +kernel
theorem dX8_pairsOf_45 : decode cX8_pairsOf 45 = .ok (.lor, 1) := by decide +kernel
theorem dX8_pairsOf_46 : decode cX8_pairsOf 46 = .ok (.lstore_n 2, 1) := by decide +kernel
theorem dX8_pairsOf_47 : decode cX8_pairsOf 47 = .ok (.iinc 4 1, 3) := by decide +kernel
theorem dX8_pairsOf_50 : decode cX8_pairsOf 50 = .ok (.goto (-45), 3) := by decide +kernel
theorem dX8_pairsOf_53 : decode cX8_pairsOf 53 = .ok (.lload_n 2, 1) := by decide +kernel
theorem dX8_pairsOf_54 : decode cX8_pairsOf 54 = .ok (.lreturn, 1) := by decide +kernel
theorem dX8_stateOf_0 : decode cX8_stateOf 0 = .ok (.aload_n 1, 1) := by decide +kernel
theorem dX8_stateOf_1 : decode cX8_stateOf 1 = .ok (.getfield 363, 3) := by decide +kernel
theorem dX8_stateOf_4 : decode cX8_stateOf 4 = .ok (.iload_n 3, 1) := by decide +kernel
theorem dX8_stateOf_5 : decode cX8_stateOf 5 = .ok (.aaload, 1) := by decide +kernel
theorem dX8_stateOf_6 : decode cX8_stateOf 6 = .ok (.astore 4, 2) := by decide +kernel
theorem dX8_stateOf_8 : decode cX8_stateOf 8 = .ok (.aload_n 1, 1) := by decide +kernel
theorem dX8_stateOf_9 : decode cX8_stateOf 9 = .ok (.iload_n 2, 1) := by decide +kernel
theorem dX8_stateOf_10 : decode cX8_stateOf 10 = .ok (.iload_n 3, 1) := by decide +kernel
theorem dX8_stateOf_11 : decode cX8_stateOf 11 = .ok (.aload_n 0, 1) := by decide +kernel
theorem dX8_stateOf_12 : decode cX8_stateOf 12 = .ok (.getfield 42, 3) := by decide +kernel
theorem dX8_stateOf_15 : decode cX8_stateOf 15 = .ok (.invokevirtual 360, 3) := by decide +kernel
theorem dX8_stateOf_18 : decode cX8_stateOf 18 = .ok (.aload 4, 2) := by decide +kernel
theorem dX8_stateOf_20 : decode cX8_stateOf 20 = .ok (.aload_n 0, 1) := by decide +kernel
theorem dX8_stateOf_21 : decode cX8_stateOf 21 = .ok (.getfield 42, 3) := by decide +kernel
theorem dX8_stateOf_24 : decode cX8_stateOf 24 = .ok (.invokevirtual 367, 3) := by decide +kernel
theorem dX8_stateOf_27 : decode cX8_stateOf 27 = .ok (.ifCond .ne 23, 3) := by decide +kernel
theorem dX8_stateOf_30 : decode cX8_stateOf 30 = .ok (.aload_n 0, 1) := by decide +kernel
theorem dX8_stateOf_31 : decode cX8_stateOf 31 = .ok (.getfield 28, 3) := by decide +kernel
theorem dX8_stateOf_34 : decode cX8_stateOf 34 = .ok (.aload_n 0, 1) := by decide +kernel
theorem dX8_stateOf_35 : decode cX8_stateOf 35 = .ok (.getfield 42, 3) := by decide +kernel
theorem dX8_stateOf_38 : decode cX8_stateOf 38 = .ok (.invokevirtual 371, 3) := by decide +kernel
theorem dX8_stateOf_41 : decode cX8_stateOf 41 = .ok (.aload 4, 2) := by decide +kernel
theorem dX8_stateOf_43 : decode cX8_stateOf 43 = .ok (.aload_n 0, 1) := by decide +kernel
theorem dX8_stateOf_44 : decode cX8_stateOf 44 = .ok (.getfield 42, 3) := by decide +kernel
theorem dX8_stateOf_47 : decode cX8_stateOf 47 = .ok (.invokevirtual 374, 3) := by decide +kernel
theorem dX8_stateOf_50 : decode cX8_stateOf 50 = .ok (.aload 4, 2) := by decide +kernel
theorem dX8_stateOf_52 : decode cX8_stateOf 52 = .ok (.areturn, 1) := by decide +kernel
theorem dX8_stateAnew_0 : decode cX8_stateAnew 0 = .ok (.aload_n 1, 1) := by decide +kernel
theorem dX8_stateAnew_1 : decode cX8_stateAnew 1 = .ok (.iload_n 2, 1) := by decide +kernel
theorem dX8_stateAnew_2 : decode cX8_stateAnew 2 = .ok (.iload_n 3, 1) := by decide +kernel
theorem dX8_stateAnew_3 : decode cX8_stateAnew 3 = .ok (.aload_n 0, 1) := by decide +kernel
theorem dX8_stateAnew_4 : decode cX8_stateAnew 4 = .ok (.getfield 42, 3) := by decide +kernel
theorem dX8_stateAnew_7 : decode cX8_stateAnew 7 = .ok (.invokevirtual 360, 3) := by decide +kernel
theorem dX8_stateAnew_10 : decode cX8_stateAnew 10 = .ok (.aload_n 0, 1) := by decide +kernel
theorem dX8_stateAnew_11 : decode cX8_stateAnew 11 = .ok (.getfield 28, 3) := by decide +kernel
theorem dX8_stateAnew_14 : decode cX8_stateAnew 14 = .ok (.aload_n 0, 1) := by decide +kernel
theorem dX8_stateAnew_15 : decode cX8_stateAnew 15 = .ok (.getfield 42, 3) := by decide +kernel
theorem dX8_stateAnew_18 : decode cX8_stateAnew 18 = .ok (.invokevirtual 371, 3) := by decide +kernel
theorem dX8_stateAnew_21 : decode cX8_stateAnew 21 = .ok (.aload_n 0, 1) := by decide +kernel
theorem dX8_stateAnew_22 : decode cX8_stateAnew 22 = .ok (.getfield 42, 3) := by decide +kernel
theorem dX8_stateAnew_25 : decode cX8_stateAnew 25 = .ok (.areturn, 1) := by decide +kernel
theorem dX8_findReason_0 : decode cX8_findReason 0 = .ok (.aload_n 0, 1) := by decide +kernel
theorem dX8_findReason_1 : decode cX8_findReason 1 = .ok (.iload_n 1, 1) := by decide +kernel
theorem dX8_findReason_2 : decode cX8_findReason 2 = .ok (.invokevirtual 58, 3) := by decide +kernel
theorem dX8_findReason_5 : decode cX8_findReason 5 = .ok (.astore 5, 2) := by decide +kernel
theorem dX8_findReason_7 : decode cX8_findReason 7 = .ok (.aload 5, 2) := by decide +kernel
theorem dX8_findReason_9 : decode cX8_findReason 9 = .ok (.iload_n 2, 1) := by decide +kernel
theorem dX8_findReason_10 : decode cX8_findReason 10 = .ok (.iload_n 3, 1) := by decide +kernel
theorem dX8_findReason_11 : decode cX8_findReason 11 = .ok (.iload 4, 2) := by decide +kernel
theorem dX8_findReason_13 : decode cX8_findReason 13 = .ok (.invokestatic 156, 3) := by decide +kernel
theorem dX8_findReason_16 : decode cX8_findReason 16 = .ok (.aload_n 0, 1) := by decide +kernel
theorem dX8_findReason_17 : decode cX8_findReason 17 = .ok (.aload 5, 2) := by decide +kernel
theorem dX8_findReason_19 : decode cX8_findReason 19 = .ok (.iload_n 2, 1) := by decide +kernel
theorem dX8_findReason_20 : decode cX8_findReason 20 = .ok (.iload_n 3, 1) := by decide +kernel
theorem dX8_findReason_21 : decode cX8_findReason 21 = .ok (.invokevirtual 160, 3) := by decide +kernel
theorem dX8_findReason_24 : decode cX8_findReason 24 = .ok (.astore 6, 2) := by decide +kernel
theorem dX8_findReason_26 : decode cX8_findReason 26 = .ok (.aload 6, 2) := by decide +kernel
theorem dX8_findReason_28 : decode cX8_findReason 28 = .ok (.iload 4, 2) := by decide +kernel
theorem dX8_findReason_30 : decode cX8_findReason 30 = .ok (.invokestatic 183, 3) := by decide +kernel
theorem dX8_findReason_33 : decode cX8_findReason 33 = .ok (.aload_n 0, 1) := by decide +kernel
theorem dX8_findReason_34 : decode cX8_findReason 34 = .ok (.getfield 35, 3) := by decide +kernel
theorem dX8_findReason_37 : decode cX8_findReason 37 = .ok (.aload_n 0, 1) := by decide +kernel
theorem dX8_findReason_38 : decode cX8_findReason 38 = .ok (.getfield 28, 3) := by decide +kernel
theorem dX8_findReason_41 : decode cX8_findReason 41 = .ok (.aload 6, 2) := by decide +kernel
theorem dX8_findReason_43 : decode cX8_findReason 43 = .ok (.invokevirtual 323, 3) := by decide +kernel
theorem dX8_findReason_46 : decode cX8_findReason 46 = .ok (.return_, 1) := by decide +kernel
theorem dX8_inform_0 : decode cX8_inform 0 = .ok (.iconst 0, 1) := by decide +kernel
theorem dX8_inform_1 : decode cX8_inform 1 = .ok (.istore_n 2, 1) := by decide +kernel
theorem dX8_inform_2 : decode cX8_inform 2 = .ok (.iload_n 2, 1) := by decide +kernel
theorem dX8_inform_3 : decode cX8_inform 3 = .ok (.aload_n 0, 1) := by decide +kernel
theorem dX8_inform_4 : decode cX8_inform 4 = .ok (.getfield 50, 3) := by decide +kernel
theorem dX8_inform_7 : decode cX8_inform 7 = .ok (.if_icmp .ge 51, 3) := by decide +kernel
theorem dX8_inform_10 : decode cX8_inform 10 = .ok (.aload_n 0, 1) := by decide +kernel
theorem dX8_inform_11 : decode cX8_inform 11 = .ok (.getfield 17, 3) := by decide +kernel
theorem dX8_inform_14 : decode cX8_inform 14 = .ok (.iload_n 2, 1) := by decide +kernel
theorem dX8_inform_15 : decode cX8_inform 15 = .ok (.aaload, 1) := by decide +kernel
theorem dX8_inform_16 : decode cX8_inform 16 = .ok (.astore_n 3, 1) := by decide +kernel
theorem dX8_inform_17 : decode cX8_inform 17 = .ok (.aload_n 3, 1) := by decide +kernel
theorem dX8_inform_18 : decode cX8_inform 18 = .ok (.getfield 377, 3) := by decide +kernel
theorem dX8_inform_21 : decode cX8_inform 21 = .ok (.iload_n 1, 1) := by decide +kernel
theorem dX8_inform_22 : decode cX8_inform 22 = .ok (.if_icmp .ne 30, 3) := by decide +kernel
theorem dX8_inform_25 : decode cX8_inform 25 = .ok (.aload_n 0, 1) := by decide +kernel
theorem dX8_inform_26 : decode cX8_inform 26 = .ok (.getfield 11, 3) := by decide +kernel
theorem dX8_inform_29 : decode cX8_inform 29 = .ok (.iload_n 1, 1) := by decide +kernel
theorem dX8_inform_30 : decode cX8_inform 30 = .ok (.aaload, 1) := by decide +kernel
theorem dX8_inform_31 : decode cX8_inform 31 = .ok (.astore 4, 2) := by decide +kernel
theorem dX8_inform_33 : decode cX8_inform 33 = .ok (.aload_n 3, 1) := by decide +kernel
theorem dX8_inform_34 : decode cX8_inform 34 = .ok (.aload_n 0, 1) := by decide +kernel
theorem dX8_inform_35 : decode cX8_inform 35 = .ok (.aload 4, 2) := by decide +kernel
theorem dX8_inform_37 : decode cX8_inform 37 = .ok (.aload 4, 2) := by decide +kernel
theorem dX8_inform_39 : decode cX8_inform 39 = .ok (.getfield 92, 3) := by decide +kernel
theorem dX8_inform_42 : decode cX8_inform 42 = .ok (.aload_n 3, 1) := by decide +kernel
theorem dX8_inform_43 : decode cX8_inform 43 = .ok (.getfield 380, 3) := by decide +kernel
theorem dX8_inform_46 : decode cX8_inform 46 = .ok (.invokevirtual 160, 3) := by decide +kernel
theorem dX8_inform_49 : decode cX8_inform 49 = .ok (.invokevirtual 383, 3) := by decide +kernel
theorem dX8_inform_52 : decode cX8_inform 52 = .ok (.iinc 2 1, 3) := by decide +kernel
theorem dX8_inform_55 : decode cX8_inform 55 = .ok (.goto (-53), 3) := by decide +kernel
theorem dX8_inform_58 : decode cX8_inform 58 = .ok (.return_, 1) := by decide +kernel
theorem dX8_agreesWithAnew_0 : decode cX8_agreesWithAnew 0 = .ok (.iconst 0, 1) := by decide +kernel
theorem dX8_agreesWithAnew_1 : decode cX8_agreesWithAnew 1 = .ok (.istore_n 2, 1) := by decide +kernel
theorem dX8_agreesWithAnew_2 : decode cX8_agreesWithAnew 2 = .ok (.iload_n 2, 1) := by decide +kernel
theorem dX8_agreesWithAnew_3 : decode cX8_agreesWithAnew 3 = .ok (.bipush 24, 2) := by decide +kernel
theorem dX8_agreesWithAnew_5 : decode cX8_agreesWithAnew 5 = .ok (.if_icmp .ge 69, 3) := by decide +kernel
theorem dX8_agreesWithAnew_8 : decode cX8_agreesWithAnew 8 = .ok (.aload_n 0, 1) := by decide +kernel
theorem dX8_agreesWithAnew_9 : decode cX8_agreesWithAnew 9 = .ok (.aload_n 1, 1) := by decide +kernel
theorem dX8_agreesWithAnew_10 : decode cX8_agreesWithAnew 10 = .ok (.aload_n 1, 1) := by decide +kernel
theorem dX8_agreesWithAnew_11 : decode cX8_agreesWithAnew 11 = .ok (.getfield 92, 3) := by decide +kernel
theorem dX8_agreesWithAnew_14 : decode cX8_agreesWithAnew 14 = .ok (.iload_n 2, 1) := by decide +kernel
theorem dX8_agreesWithAnew_15 : decode cX8_agreesWithAnew 15 = .ok (.invokevirtual 160, 3) := by decide +kernel
theorem dX8_agreesWithAnew_18 : decode cX8_agreesWithAnew 18 = .ok (.astore_n 3, 1) := by decide +kernel
theorem dX8_agreesWithAnew_19 : decode cX8_agreesWithAnew 19 = .ok (.aload_n 0, 1) := by decide +kernel
theorem dX8_agreesWithAnew_20 : decode cX8_agreesWithAnew 20 = .ok (.aload_n 1, 1) := by decide +kernel
theorem dX8_agreesWithAnew_21 : decode cX8_agreesWithAnew 21 = .ok (.aload_n 1, 1) := by decide +kernel
theorem dX8_agreesWithAnew_22 : decode cX8_agreesWithAnew 22 = .ok (.getfield 92, 3) := by decide +kernel
theorem dX8_agreesWithAnew_25 : decode cX8_agreesWithAnew 25 = .ok (.iload_n 2, 1) := by decide +kernel
theorem dX8_agreesWithAnew_26 : decode cX8_agreesWithAnew 26 = .ok (.invokevirtual 167, 3) := by decide +kernel
theorem dX8_agreesWithAnew_29 : decode cX8_agreesWithAnew 29 = .ok (.astore 4, 2) := by decide +kernel
theorem dX8_agreesWithAnew_31 : decode cX8_agreesWithAnew 31 = .ok (.iconst 0, 1) := by decide +kernel
theorem dX8_agreesWithAnew_32 : decode cX8_agreesWithAnew 32 = .ok (.istore 5, 2) := by decide +kernel
theorem dX8_agreesWithAnew_34 : decode cX8_agreesWithAnew 34 = .ok (.iload 5, 2) := by decide +kernel
theorem dX8_agreesWithAnew_36 : decode cX8_agreesWithAnew 36 = .ok (.bipush 6, 2) := by decide +kernel
theorem dX8_agreesWithAnew_38 : decode cX8_agreesWithAnew 38 = .ok (.if_icmp .ge 30, 3) := by decide +kernel
theorem dX8_agreesWithAnew_41 : decode cX8_agreesWithAnew 41 = .ok (.aload_n 3, 1) := by decide +kernel
theorem dX8_agreesWithAnew_42 : decode cX8_agreesWithAnew 42 = .ok (.getfield 173, 3) := by decide +kernel
theorem dX8_agreesWithAnew_45 : decode cX8_agreesWithAnew 45 = .ok (.iload 5, 2) := by decide +kernel
theorem dX8_agreesWithAnew_47 : decode cX8_agreesWithAnew 47 = .ok (.laload, 1) := by decide +kernel
theorem dX8_agreesWithAnew_48 : decode cX8_agreesWithAnew 48 = .ok (.aload 4, 2) := by decide +kernel
theorem dX8_agreesWithAnew_50 : decode cX8_agreesWithAnew 50 = .ok (.getfield 173, 3) := by decide +kernel
theorem dX8_agreesWithAnew_53 : decode cX8_agreesWithAnew 53 = .ok (.iload 5, 2) := by decide +kernel
theorem dX8_agreesWithAnew_55 : decode cX8_agreesWithAnew 55 = .ok (.laload, 1) := by decide +kernel
theorem dX8_agreesWithAnew_56 : decode cX8_agreesWithAnew 56 = .ok (.lcmp, 1) := by decide +kernel
theorem dX8_agreesWithAnew_57 : decode cX8_agreesWithAnew 57 = .ok (.ifCond .eq 5, 3) := by decide +kernel
theorem dX8_agreesWithAnew_60 : decode cX8_agreesWithAnew 60 = .ok (.iconst 0, 1) := by decide +kernel
theorem dX8_agreesWithAnew_61 : decode cX8_agreesWithAnew 61 = .ok (.ireturn, 1) := by decide +kernel
theorem dX8_agreesWithAnew_62 : decode cX8_agreesWithAnew 62 = .ok (.iinc 5 1, 3) := by decide +kernel
theorem dX8_agreesWithAnew_65 : decode cX8_agreesWithAnew 65 = .ok (.goto (-31), 3) := by decide +kernel
theorem dX8_agreesWithAnew_68 : decode cX8_agreesWithAnew 68 = .ok (.iinc 2 6, 3) := by decide +kernel
theorem dX8_agreesWithAnew_71 : decode cX8_agreesWithAnew 71 = .ok (.goto (-69), 3) := by decide +kernel
theorem dX8_agreesWithAnew_74 : decode cX8_agreesWithAnew 74 = .ok (.iconst 1, 1) := by decide +kernel
theorem dX8_agreesWithAnew_75 : decode cX8_agreesWithAnew 75 = .ok (.ireturn, 1) := by decide +kernel
theorem dJx00060_init_a7421_0 : decode cJx00060_init_a7421 0 = .ok (.aload_n 0, 1) := by decide +kernel
theorem dJx00060_init_a7421_1 : decode cJx00060_init_a7421 1 = .ok (.aload_n 1, 1) := by decide +kernel
theorem dJx00060_init_a7421_2 : decode cJx00060_init_a7421 2 = .ok (.invokespecial 7, 3) := by decide +kernel
theorem dJx00060_init_a7421_5 : decode cJx00060_init_a7421 5 = .ok (.return_, 1) := by decide +kernel
theorem dJ13_bitCount_95d88_0 : decode cJ13_bitCount_95d88 0 = .ok (.lload_n 0, 1) := by decide +kernel
theorem dJ13_bitCount_95d88_1 : decode cJ13_bitCount_95d88 1 = .ok (.lload_n 0, 1) := by decide +kernel
theorem dJ13_bitCount_95d88_2 : decode cJ13_bitCount_95d88 2 = .ok (.iconst 1, 1) := by decide +kernel
theorem dJ13_bitCount_95d88_3 : decode cJ13_bitCount_95d88 3 = .ok (.lushr, 1) := by decide +kernel
theorem dJ13_bitCount_95d88_4 : decode cJ13_bitCount_95d88 4 = .ok (.ldc2_w 314, 3) := by decide +kernel
theorem dJ13_bitCount_95d88_7 : decode cJ13_bitCount_95d88 7 = .ok (.land, 1) := by decide +kernel
theorem dJ13_bitCount_95d88_8 : decode cJ13_bitCount_95d88 8 = .ok (.lsub, 1) := by decide +kernel
theorem dJ13_bitCount_95d88_9 : decode cJ13_bitCount_95d88 9 = .ok (.lstore_n 0, 1) := by decide +kernel
theorem dJ13_bitCount_95d88_10 : decode cJ13_bitCount_95d88 10 = .ok (.lload_n 0, 1) := by decide +kernel
theorem dJ13_bitCount_95d88_11 : decode cJ13_bitCount_95d88 11 = .ok (.ldc2_w 316, 3) := by decide +kernel
theorem dJ13_bitCount_95d88_14 : decode cJ13_bitCount_95d88 14 = .ok (.land, 1) := by decide +kernel
theorem dJ13_bitCount_95d88_15 : decode cJ13_bitCount_95d88 15 = .ok (.lload_n 0, 1) := by decide +kernel
theorem dJ13_bitCount_95d88_16 : decode cJ13_bitCount_95d88 16 = .ok (.iconst 2, 1) := by decide +kernel
theorem dJ13_bitCount_95d88_17 : decode cJ13_bitCount_95d88 17 = .ok (.lushr, 1) := by decide +kernel
theorem dJ13_bitCount_95d88_18 : decode cJ13_bitCount_95d88 18 = .ok (.ldc2_w 316, 3) := by decide +kernel
theorem dJ13_bitCount_95d88_21 : decode cJ13_bitCount_95d88 21 = .ok (.land, 1) := by decide +kernel
theorem dJ13_bitCount_95d88_22 : decode cJ13_bitCount_95d88 22 = .ok (.ladd, 1) := by decide +kernel
theorem dJ13_bitCount_95d88_23 : decode cJ13_bitCount_95d88 23 = .ok (.lstore_n 0, 1) := by decide +kernel
theorem dJ13_bitCount_95d88_24 : decode cJ13_bitCount_95d88 24 = .ok (.lload_n 0, 1) := by decide +kernel
theorem dJ13_bitCount_95d88_25 : decode cJ13_bitCount_95d88 25 = .ok (.lload_n 0, 1) := by decide +kernel
theorem dJ13_bitCount_95d88_26 : decode cJ13_bitCount_95d88 26 = .ok (.iconst 4, 1) := by decide +kernel
theorem dJ13_bitCount_95d88_27 : decode cJ13_bitCount_95d88 27 = .ok (.lushr, 1) := by decide +kernel
theorem dJ13_bitCount_95d88_28 : decode cJ13_bitCount_95d88 28 = .ok (.ladd, 1) := by decide +kernel
theorem dJ13_bitCount_95d88_29 : decode cJ13_bitCount_95d88 29 = .ok (.ldc2_w 318, 3) := by decide +kernel
theorem dJ13_bitCount_95d88_32 : decode cJ13_bitCount_95d88 32 = .ok (.land, 1) := by decide +kernel
theorem dJ13_bitCount_95d88_33 : decode cJ13_bitCount_95d88 33 = .ok (.lstore_n 0, 1) := by decide +kernel
theorem dJ13_bitCount_95d88_34 : decode cJ13_bitCount_95d88 34 = .ok (.lload_n 0, 1) := by decide +kernel
theorem dJ13_bitCount_95d88_35 : decode cJ13_bitCount_95d88 35 = .ok (.lload_n 0, 1) := by decide +kernel
theorem dJ13_bitCount_95d88_36 : decode cJ13_bitCount_95d88 36 = .ok (.bipush 8, 2) := by decide +kernel
theorem dJ13_bitCount_95d88_38 : decode cJ13_bitCount_95d88 38 = .ok (.lushr, 1) := by decide +kernel
theorem dJ13_bitCount_95d88_39 : decode cJ13_bitCount_95d88 39 = .ok (.ladd, 1) := by decide +kernel
theorem dJ13_bitCount_95d88_40 : decode cJ13_bitCount_95d88 40 = .ok (.lstore_n 0, 1) := by decide +kernel
theorem dJ13_bitCount_95d88_41 : decode cJ13_bitCount_95d88 41 = .ok (.lload_n 0, 1) := by decide +kernel
theorem dJ13_bitCount_95d88_42 : decode cJ13_bitCount_95d88 42 = .ok (.lload_n 0, 1) := by decide +kernel
theorem dJ13_bitCount_95d88_43 : decode cJ13_bitCount_95d88 43 = .ok (.bipush 16, 2) := by decide +kernel
theorem dJ13_bitCount_95d88_45 : decode cJ13_bitCount_95d88 45 = .ok (.lushr, 1) := by decide +kernel
theorem dJ13_bitCount_95d88_46 : decode cJ13_bitCount_95d88 46 = .ok (.ladd, 1) := by decide +kernel
theorem dJ13_bitCount_95d88_47 : decode cJ13_bitCount_95d88 47 = .ok (.lstore_n 0, 1) := by decide +kernel
theorem dJ13_bitCount_95d88_48 : decode cJ13_bitCount_95d88 48 = .ok (.lload_n 0, 1) := by decide +kernel
theorem dJ13_bitCount_95d88_49 : decode cJ13_bitCount_95d88 49 = .ok (.lload_n 0, 1) := by decide +kernel
theorem dJ13_bitCount_95d88_50 : decode cJ13_bitCount_95d88 50 = .ok (.bipush 32, 2) := by decide +kernel
theorem dJ13_bitCount_95d88_52 : decode cJ13_bitCount_95d88 52 = .ok (.lushr, 1) := by decide +kernel
theorem dJ13_bitCount_95d88_53 : decode cJ13_bitCount_95d88 53 = .ok (.ladd, 1) := by decide +kernel
theorem dJ13_bitCount_95d88_54 : decode cJ13_bitCount_95d88 54 = .ok (.lstore_n 0, 1) := by decide +kernel
theorem dJ13_bitCount_95d88_55 : decode cJ13_bitCount_95d88 55 = .ok (.lload_n 0, 1) := by decide +kernel
theorem dJ13_bitCount_95d88_56 : decode cJ13_bitCount_95d88 56 = .ok (.l2i, 1) := by decide +kernel
theorem dJ13_bitCount_95d88_57 : decode cJ13_bitCount_95d88 57 = .ok (.bipush 127, 2) := by decide +kernel
theorem dJ13_bitCount_95d88_59 : decode cJ13_bitCount_95d88 59 = .ok (.iand, 1) := by decide +kernel
theorem dJ13_bitCount_95d88_60 : decode cJ13_bitCount_95d88 60 = .ok (.ireturn, 1) := by decide +kernel
theorem dJ9_max_7cf53_0 : decode cJ9_max_7cf53 0 = .ok (.iload_n 0, 1) := by decide +kernel
theorem dJ9_max_7cf53_1 : decode cJ9_max_7cf53 1 = .ok (.iload_n 1, 1) := by decide +kernel
theorem dJ9_max_7cf53_2 : decode cJ9_max_7cf53 2 = .ok (.if_icmp .lt 7, 3) := by decide +kernel
theorem dJ9_max_7cf53_5 : decode cJ9_max_7cf53 5 = .ok (.iload_n 0, 1) := by decide +kernel
theorem dJ9_max_7cf53_6 : decode cJ9_max_7cf53 6 = .ok (.goto 4, 3) := by decide +kernel
theorem dJ9_max_7cf53_9 : decode cJ9_max_7cf53 9 = .ok (.iload_n 1, 1) := by decide +kernel
theorem dJ9_max_7cf53_10 : decode cJ9_max_7cf53 10 = .ok (.ireturn, 1) := by decide +kernel
theorem dJ7_fill_d0a16_0 : decode cJ7_fill_d0a16 0 = .ok (.iconst 0, 1) := by decide +kernel
theorem dJ7_fill_d0a16_1 : decode cJ7_fill_d0a16 1 = .ok (.istore_n 3, 1) := by decide +kernel
theorem dJ7_fill_d0a16_2 : decode cJ7_fill_d0a16 2 = .ok (.aload_n 0, 1) := by decide +kernel
theorem dJ7_fill_d0a16_3 : decode cJ7_fill_d0a16 3 = .ok (.arraylength, 1) := by decide +kernel
theorem dJ7_fill_d0a16_4 : decode cJ7_fill_d0a16 4 = .ok (.istore 4, 2) := by decide +kernel
theorem dJ7_fill_d0a16_6 : decode cJ7_fill_d0a16 6 = .ok (.iload_n 3, 1) := by decide +kernel
theorem dJ7_fill_d0a16_7 : decode cJ7_fill_d0a16 7 = .ok (.iload 4, 2) := by decide +kernel
theorem dJ7_fill_d0a16_9 : decode cJ7_fill_d0a16 9 = .ok (.if_icmp .ge 13, 3) := by decide +kernel
theorem dJ7_fill_d0a16_12 : decode cJ7_fill_d0a16 12 = .ok (.aload_n 0, 1) := by decide +kernel
theorem dJ7_fill_d0a16_13 : decode cJ7_fill_d0a16 13 = .ok (.iload_n 3, 1) := by decide +kernel
theorem dJ7_fill_d0a16_14 : decode cJ7_fill_d0a16 14 = .ok (.lload_n 1, 1) := by decide +kernel
theorem dJ7_fill_d0a16_15 : decode cJ7_fill_d0a16 15 = .ok (.lastore, 1) := by decide +kernel
theorem dJ7_fill_d0a16_16 : decode cJ7_fill_d0a16 16 = .ok (.iinc 3 1, 3) := by decide +kernel
theorem dJ7_fill_d0a16_19 : decode cJ7_fill_d0a16 19 = .ok (.goto (-13), 3) := by decide +kernel
theorem dJ7_fill_d0a16_22 : decode cJ7_fill_d0a16 22 = .ok (.return_, 1) := by decide +kernel
theorem dJ7_fill_53178_0 : decode cJ7_fill_53178 0 = .ok (.iconst 0, 1) := by decide +kernel
theorem dJ7_fill_53178_1 : decode cJ7_fill_53178 1 = .ok (.istore_n 2, 1) := by decide +kernel
theorem dJ7_fill_53178_2 : decode cJ7_fill_53178 2 = .ok (.aload_n 0, 1) := by decide +kernel
theorem dJ7_fill_53178_3 : decode cJ7_fill_53178 3 = .ok (.arraylength, 1) := by decide +kernel
theorem dJ7_fill_53178_4 : decode cJ7_fill_53178 4 = .ok (.istore_n 3, 1) := by decide +kernel
theorem dJ7_fill_53178_5 : decode cJ7_fill_53178 5 = .ok (.iload_n 2, 1) := by decide +kernel
theorem dJ7_fill_53178_6 : decode cJ7_fill_53178 6 = .ok (.iload_n 3, 1) := by decide +kernel
theorem dJ7_fill_53178_7 : decode cJ7_fill_53178 7 = .ok (.if_icmp .ge 13, 3) := by decide +kernel
theorem dJ7_fill_53178_10 : decode cJ7_fill_53178 10 = .ok (.aload_n 0, 1) := by decide +kernel
theorem dJ7_fill_53178_11 : decode cJ7_fill_53178 11 = .ok (.iload_n 2, 1) := by decide +kernel
theorem dJ7_fill_53178_12 : decode cJ7_fill_53178 12 = .ok (.iload_n 1, 1) := by decide +kernel
theorem dJ7_fill_53178_13 : decode cJ7_fill_53178 13 = .ok (.iastore, 1) := by decide +kernel
theorem dJ7_fill_53178_14 : decode cJ7_fill_53178 14 = .ok (.iinc 2 1, 3) := by decide +kernel
theorem dJ7_fill_53178_17 : decode cJ7_fill_53178 17 = .ok (.goto (-12), 3) := by decide +kernel
theorem dJ7_fill_53178_20 : decode cJ7_fill_53178 20 = .ok (.return_, 1) := by decide +kernel
theorem dL_cell_0 : decode cL_cell 0 = .ok (.ldc 7, 2) := by decide +kernel
theorem dL_cell_2 : decode cL_cell 2 = .ok (.iload_n 1, 1) := by decide +kernel
theorem dL_cell_3 : decode cL_cell 3 = .ok (.aload_n 0, 1) := by decide +kernel
theorem dL_cell_4 : decode cL_cell 4 = .ok (.arraylength, 1) := by decide +kernel
theorem dL_cell_5 : decode cL_cell 5 = .ok (.if_icmp .ge 9, 3) := by decide +kernel
theorem dL_cell_8 : decode cL_cell 8 = .ok (.aload_n 0, 1) := by decide +kernel
theorem dL_cell_9 : decode cL_cell 9 = .ok (.iload_n 1, 1) := by decide +kernel
theorem dL_cell_10 : decode cL_cell 10 = .ok (.iaload, 1) := by decide +kernel
theorem dL_cell_11 : decode cL_cell 11 = .ok (.goto 4, 3) := by decide +kernel
theorem dL_cell_14 : decode cL_cell 14 = .ok (.iconst 0, 1) := by decide +kernel
theorem dL_cell_15 : decode cL_cell 15 = .ok (.sipush 1009, 3) := by decide +kernel
theorem dL_cell_18 : decode cL_cell 18 = .ok (.iload_n 1, 1) := by decide +kernel
theorem dL_cell_19 : decode cL_cell 19 = .ok (.imul, 1) := by decide +kernel
theorem dL_cell_20 : decode cL_cell 20 = .ok (.iadd, 1) := by decide +kernel
theorem dL_cell_21 : decode cL_cell 21 = .ok (.imul, 1) := by decide +kernel
theorem dL_cell_22 : decode cL_cell 22 = .ok (.sipush 12345, 3) := by decide +kernel
theorem dL_cell_25 : decode cL_cell 25 = .ok (.iadd, 1) := by decide +kernel
theorem dL_cell_26 : decode cL_cell 26 = .ok (.istore_n 2, 1) := by decide +kernel
theorem dL_cell_27 : decode cL_cell 27 = .ok (.iload_n 2, 1) := by decide +kernel
theorem dL_cell_28 : decode cL_cell 28 = .ok (.iload_n 2, 1) := by decide +kernel
theorem dL_cell_29 : decode cL_cell 29 = .ok (.bipush 13, 2) := by decide +kernel
theorem dL_cell_31 : decode cL_cell 31 = .ok (.iushr, 1) := by decide +kernel
theorem dL_cell_32 : decode cL_cell 32 = .ok (.ixor, 1) := by decide +kernel
theorem dL_cell_33 : decode cL_cell 33 = .ok (.ldc 8, 2) := by decide +kernel
theorem dL_cell_35 : decode cL_cell 35 = .ok (.imul, 1) := by decide +kernel
theorem dL_cell_36 : decode cL_cell 36 = .ok (.istore_n 2, 1) := by decide +kernel
theorem dL_cell_37 : decode cL_cell 37 = .ok (.iload_n 2, 1) := by decide +kernel
theorem dL_cell_38 : decode cL_cell 38 = .ok (.iload_n 2, 1) := by decide +kernel
theorem dL_cell_39 : decode cL_cell 39 = .ok (.bipush 16, 2) := by decide +kernel
theorem dL_cell_41 : decode cL_cell 41 = .ok (.iushr, 1) := by decide +kernel
theorem dL_cell_42 : decode cL_cell 42 = .ok (.ixor, 1) := by decide +kernel
theorem dL_cell_43 : decode cL_cell 43 = .ok (.ireturn, 1) := by decide +kernel
theorem dL_tell_0 : decode cL_tell 0 = .ok (.aload_n 0, 1) := by decide +kernel
theorem dL_tell_1 : decode cL_tell 1 = .ok (.iload_n 1, 1) := by decide +kernel
theorem dL_tell_2 : decode cL_tell 2 = .ok (.iload_n 2, 1) := by decide +kernel
theorem dL_tell_3 : decode cL_tell 3 = .ok (.iload_n 3, 1) := by decide +kernel
theorem dL_tell_4 : decode cL_tell 4 = .ok (.iload 4, 2) := by decide +kernel
theorem dL_tell_6 : decode cL_tell 6 = .ok (.invokevirtual 9, 3) := by decide +kernel
theorem dL_tell_9 : decode cL_tell 9 = .ok (.ireturn, 1) := by decide +kernel
theorem dL_tell_10 : decode cL_tell 10 = .ok (.astore 5, 2) := by decide +kernel
theorem dL_tell_12 : decode cL_tell 12 = .ok (.ldc 17, 2) := by decide +kernel
theorem dL_tell_14 : decode cL_tell 14 = .ok (.ireturn, 1) := by decide +kernel
theorem dL_tell_15 : decode cL_tell 15 = .ok (.astore 5, 2) := by decide +kernel
theorem dL_tell_17 : decode cL_tell 17 = .ok (.ldc 20, 2) := by decide +kernel
theorem dL_tell_19 : decode cL_tell 19 = .ok (.ireturn, 1) := by decide +kernel
theorem dL_tell_20 : decode cL_tell 20 = .ok (.astore 5, 2) := by decide +kernel
theorem dL_tell_22 : decode cL_tell 22 = .ok (.ldc 23, 2) := by decide +kernel
theorem dL_tell_24 : decode cL_tell 24 = .ok (.ireturn, 1) := by decide +kernel
theorem dL_tell_25 : decode cL_tell 25 = .ok (.astore 5, 2) := by decide +kernel
theorem dL_tell_27 : decode cL_tell 27 = .ok (.ldc 26, 2) := by decide +kernel
theorem dL_tell_29 : decode cL_tell 29 = .ok (.ireturn, 1) := by decide +kernel
theorem dL_untell_0 : decode cL_untell 0 = .ok (.aload_n 0, 1) := by decide +kernel
theorem dL_untell_1 : decode cL_untell 1 = .ok (.iload_n 1, 1) := by decide +kernel
theorem dL_untell_2 : decode cL_untell 2 = .ok (.iload_n 2, 1) := by decide +kernel
theorem dL_untell_3 : decode cL_untell 3 = .ok (.iload_n 3, 1) := by decide +kernel
theorem dL_untell_4 : decode cL_untell 4 = .ok (.iload 4, 2) := by decide +kernel
theorem dL_untell_6 : decode cL_untell 6 = .ok (.invokevirtual 27, 3) := by decide +kernel
theorem dL_untell_9 : decode cL_untell 9 = .ok (.ireturn, 1) := by decide +kernel
theorem dL_untell_10 : decode cL_untell 10 = .ok (.astore 5, 2) := by decide +kernel
theorem dL_untell_12 : decode cL_untell 12 = .ok (.ldc 17, 2) := by decide +kernel
theorem dL_untell_14 : decode cL_untell 14 = .ok (.ireturn, 1) := by decide +kernel
theorem dL_untell_15 : decode cL_untell 15 = .ok (.astore 5, 2) := by decide +kernel
theorem dL_untell_17 : decode cL_untell 17 = .ok (.ldc 20, 2) := by decide +kernel
theorem dL_untell_19 : decode cL_untell 19 = .ok (.ireturn, 1) := by decide +kernel
theorem dL_untell_20 : decode cL_untell 20 = .ok (.astore 5, 2) := by decide +kernel
theorem dL_untell_22 : decode cL_untell 22 = .ok (.ldc 23, 2) := by decide +kernel
theorem dL_untell_24 : decode cL_untell 24 = .ok (.ireturn, 1) := by decide +kernel
theorem dL_addRule_0 : decode cL_addRule 0 = .ok (.aload_n 0, 1) := by decide +kernel
theorem dL_addRule_1 : decode cL_addRule 1 = .ok (.iload_n 1, 1) := by decide +kernel
theorem dL_addRule_2 : decode cL_addRule 2 = .ok (.iload_n 2, 1) := by decide +kernel
theorem dL_addRule_3 : decode cL_addRule 3 = .ok (.iload_n 3, 1) := by decide +kernel
theorem dL_addRule_4 : decode cL_addRule 4 = .ok (.iload 4, 2) := by decide +kernel
theorem dL_addRule_6 : decode cL_addRule 6 = .ok (.iload 5, 2) := by decide +kernel
theorem dL_addRule_8 : decode cL_addRule 8 = .ok (.iload 6, 2) := by decide +kernel
theorem dL_addRule_10 : decode cL_addRule 10 = .ok (.invokevirtual 30, 3) := by decide +kernel
theorem dL_addRule_13 : decode cL_addRule 13 = .ok (.ireturn, 1) := by decide +kernel
theorem dL_addRule_14 : decode cL_addRule 14 = .ok (.astore 7, 2) := by decide +kernel
theorem dL_addRule_16 : decode cL_addRule 16 = .ok (.ldc 17, 2) := by decide +kernel
theorem dL_addRule_18 : decode cL_addRule 18 = .ok (.ireturn, 1) := by decide +kernel
theorem dL_addRule_19 : decode cL_addRule 19 = .ok (.astore 7, 2) := by decide +kernel
theorem dL_addRule_21 : decode cL_addRule 21 = .ok (.ldc 20, 2) := by decide +kernel
theorem dL_addRule_23 : decode cL_addRule 23 = .ok (.ireturn, 1) := by decide +kernel
theorem dL_addCondition_0 : decode cL_addCondition 0 = .ok (.aload_n 0, 1) := by decide +kernel
theorem dL_addCondition_1 : decode cL_addCondition 1 = .ok (.iload_n 1, 1) := by decide +kernel
theorem dL_addCondition_2 : decode cL_addCondition 2 = .ok (.iload_n 2, 1) := by decide +kernel
theorem dL_addCondition_3 : decode cL_addCondition 3 = .ok (.iload_n 3, 1) := by decide +kernel
theorem dL_addCondition_4 : decode cL_addCondition 4 = .ok (.iload 4, 2) := by decide +kernel
theorem dL_addCondition_6 : decode cL_addCondition 6 = .ok (.iload 5, 2) := by decide +kernel
theorem dL_addCondition_8 : decode cL_addCondition 8 = .ok (.invokevirtual 34, 3) := by decide +kernel
theorem dL_addCondition_11 : decode cL_addCondition 11 = .ok (.ireturn, 1) := by decide +kernel
theorem dL_addCondition_12 : decode cL_addCondition 12 = .ok (.astore 6, 2) := by decide +kernel
theorem dL_addCondition_14 : decode cL_addCondition 14 = .ok (.ldc 17, 2) := by decide +kernel
theorem dL_addCondition_16 : decode cL_addCondition 16 = .ok (.ireturn, 1) := by decide +kernel
theorem dL_addCondition_17 : decode cL_addCondition 17 = .ok (.astore 6, 2) := by decide +kernel
theorem dL_addCondition_19 : decode cL_addCondition 19 = .ok (.ldc 20, 2) := by decide +kernel
theorem dL_addCondition_21 : decode cL_addCondition 21 = .ok (.ireturn, 1) := by decide +kernel
theorem dL_addCondition_22 : decode cL_addCondition 22 = .ok (.astore 6, 2) := by decide +kernel
theorem dL_addCondition_24 : decode cL_addCondition 24 = .ok (.ldc 23, 2) := by decide +kernel
theorem dL_addCondition_26 : decode cL_addCondition 26 = .ok (.ireturn, 1) := by decide +kernel
theorem dL_turn_0 : decode cL_turn 0 = .ok (.aload_n 0, 1) := by decide +kernel
theorem dL_turn_1 : decode cL_turn 1 = .ok (.iload_n 1, 1) := by decide +kernel
theorem dL_turn_2 : decode cL_turn 2 = .ok (.iload_n 2, 1) := by decide +kernel
theorem dL_turn_3 : decode cL_turn 3 = .ok (.iload_n 3, 1) := by decide +kernel
theorem dL_turn_4 : decode cL_turn 4 = .ok (.invokevirtual 38, 3) := by decide +kernel
theorem dL_turn_7 : decode cL_turn 7 = .ok (.ireturn, 1) := by decide +kernel
theorem dL_turn_8 : decode cL_turn 8 = .ok (.astore 4, 2) := by decide +kernel
theorem dL_turn_10 : decode cL_turn 10 = .ok (.ldc 17, 2) := by decide +kernel
theorem dL_turn_12 : decode cL_turn 12 = .ok (.ireturn, 1) := by decide +kernel
theorem dL_turn_13 : decode cL_turn 13 = .ok (.astore 4, 2) := by decide +kernel
theorem dL_turn_15 : decode cL_turn 15 = .ok (.ldc 20, 2) := by decide +kernel
theorem dL_turn_17 : decode cL_turn 17 = .ok (.ireturn, 1) := by decide +kernel
theorem dL_turn_18 : decode cL_turn 18 = .ok (.astore 4, 2) := by decide +kernel
theorem dL_turn_20 : decode cL_turn 20 = .ok (.ldc 23, 2) := by decide +kernel
theorem dL_turn_22 : decode cL_turn 22 = .ok (.ireturn, 1) := by decide +kernel
theorem dL_layer_0 : decode cL_layer 0 = .ok (.aload_n 0, 1) := by decide +kernel
theorem dL_layer_1 : decode cL_layer 1 = .ok (.iload_n 1, 1) := by decide +kernel
theorem dL_layer_2 : decode cL_layer 2 = .ok (.iload_n 2, 1) := by decide +kernel
theorem dL_layer_3 : decode cL_layer 3 = .ok (.invokevirtual 42, 3) := by decide +kernel
theorem dL_layer_6 : decode cL_layer 6 = .ok (.ireturn, 1) := by decide +kernel
theorem dL_layer_7 : decode cL_layer 7 = .ok (.astore_n 3, 1) := by decide +kernel
theorem dL_layer_8 : decode cL_layer 8 = .ok (.ldc 17, 2) := by decide +kernel
theorem dL_layer_10 : decode cL_layer 10 = .ok (.ireturn, 1) := by decide +kernel
theorem dL_layer_11 : decode cL_layer 11 = .ok (.astore_n 3, 1) := by decide +kernel
theorem dL_layer_12 : decode cL_layer 12 = .ok (.ldc 20, 2) := by decide +kernel
theorem dL_layer_14 : decode cL_layer 14 = .ok (.ireturn, 1) := by decide +kernel
theorem dL_knowing_0 : decode cL_knowing 0 = .ok (.aload_n 0, 1) := by decide +kernel
theorem dL_knowing_1 : decode cL_knowing 1 = .ok (.iload_n 1, 1) := by decide +kernel
theorem dL_knowing_2 : decode cL_knowing 2 = .ok (.invokevirtual 46, 3) := by decide +kernel
theorem dL_knowing_5 : decode cL_knowing 5 = .ok (.ireturn, 1) := by decide +kernel
theorem dL_knowing_6 : decode cL_knowing 6 = .ok (.astore_n 2, 1) := by decide +kernel
theorem dL_knowing_7 : decode cL_knowing 7 = .ok (.ldc 17, 2) := by decide +kernel
theorem dL_knowing_9 : decode cL_knowing 9 = .ok (.ireturn, 1) := by decide +kernel
theorem dL_count_0 : decode cL_count 0 = .ok (.aload_n 0, 1) := by decide +kernel
theorem dL_count_1 : decode cL_count 1 = .ok (.iload_n 1, 1) := by decide +kernel
theorem dL_count_2 : decode cL_count 2 = .ok (.iload_n 2, 1) := by decide +kernel
theorem dL_count_3 : decode cL_count 3 = .ok (.iload_n 3, 1) := by decide +kernel
theorem dL_count_4 : decode cL_count 4 = .ok (.iload 4, 2) := by decide +kernel
theorem dL_count_6 : decode cL_count 6 = .ok (.invokevirtual 50, 3) := by decide +kernel
theorem dL_count_9 : decode cL_count 9 = .ok (.ireturn, 1) := by decide +kernel
theorem dL_count_10 : decode cL_count 10 = .ok (.astore 5, 2) := by decide +kernel
theorem dL_count_12 : decode cL_count 12 = .ok (.ldc 17, 2) := by decide +kernel
theorem dL_count_14 : decode cL_count 14 = .ok (.ireturn, 1) := by decide +kernel
theorem dL_count_15 : decode cL_count 15 = .ok (.astore 5, 2) := by decide +kernel
theorem dL_count_17 : decode cL_count 17 = .ok (.ldc 20, 2) := by decide +kernel
theorem dL_count_19 : decode cL_count 19 = .ok (.ireturn, 1) := by decide +kernel
theorem dL_rank_0 : decode cL_rank 0 = .ok (.aload_n 0, 1) := by decide +kernel
theorem dL_rank_1 : decode cL_rank 1 = .ok (.iload_n 1, 1) := by decide +kernel
theorem dL_rank_2 : decode cL_rank 2 = .ok (.iload_n 2, 1) := by decide +kernel
theorem dL_rank_3 : decode cL_rank 3 = .ok (.iload_n 3, 1) := by decide +kernel
theorem dL_rank_4 : decode cL_rank 4 = .ok (.iload 4, 2) := by decide +kernel
theorem dL_rank_6 : decode cL_rank 6 = .ok (.invokevirtual 53, 3) := by decide +kernel
theorem dL_rank_9 : decode cL_rank 9 = .ok (.ireturn, 1) := by decide +kernel
theorem dL_rank_10 : decode cL_rank 10 = .ok (.astore 5, 2) := by decide +kernel
theorem dL_rank_12 : decode cL_rank 12 = .ok (.ldc 17, 2) := by decide +kernel
theorem dL_rank_14 : decode cL_rank 14 = .ok (.ireturn, 1) := by decide +kernel
theorem dL_rank_15 : decode cL_rank 15 = .ok (.astore 5, 2) := by decide +kernel
theorem dL_rank_17 : decode cL_rank 17 = .ok (.ldc 20, 2) := by decide +kernel
theorem dL_rank_19 : decode cL_rank 19 = .ok (.ireturn, 1) := by decide +kernel
theorem dL_rank_20 : decode cL_rank 20 = .ok (.astore 5, 2) := by decide +kernel
theorem dL_rank_22 : decode cL_rank 22 = .ok (.ldc 23, 2) := by decide +kernel
theorem dL_rank_24 : decode cL_rank 24 = .ok (.ireturn, 1) := by decide +kernel
theorem dL_derivedShare_0 : decode cL_derivedShare 0 = .ok (.aload_n 0, 1) := by decide +kernel
theorem dL_derivedShare_1 : decode cL_derivedShare 1 = .ok (.iload_n 1, 1) := by decide +kernel
theorem dL_derivedShare_2 : decode cL_derivedShare 2 = .ok (.iload_n 2, 1) := by decide +kernel
theorem dL_derivedShare_3 : decode cL_derivedShare 3 = .ok (.invokevirtual 58, 3) := by decide +kernel
theorem dL_derivedShare_6 : decode cL_derivedShare 6 = .ok (.freturn, 1) := by decide +kernel
theorem dL_derivedShare_7 : decode cL_derivedShare 7 = .ok (.astore_n 3, 1) := by decide +kernel
theorem dL_derivedShare_8 : decode cL_derivedShare 8 = .ok (.ldc 62, 2) := by decide +kernel
theorem dL_derivedShare_10 : decode cL_derivedShare 10 = .ok (.freturn, 1) := by decide +kernel
theorem dL_derivedShare_11 : decode cL_derivedShare 11 = .ok (.astore_n 3, 1) := by decide +kernel
theorem dL_derivedShare_12 : decode cL_derivedShare 12 = .ok (.ldc 63, 2) := by decide +kernel
theorem dL_derivedShare_14 : decode cL_derivedShare 14 = .ok (.freturn, 1) := by decide +kernel
theorem dL_derivedShare_15 : decode cL_derivedShare 15 = .ok (.astore_n 3, 1) := by decide +kernel
theorem dL_derivedShare_16 : decode cL_derivedShare 16 = .ok (.ldc 66, 2) := by decide +kernel
theorem dL_derivedShare_18 : decode cL_derivedShare 18 = .ok (.freturn, 1) := by decide +kernel
theorem dL_meanRank_0 : decode cL_meanRank 0 = .ok (.aload_n 0, 1) := by decide +kernel
theorem dL_meanRank_1 : decode cL_meanRank 1 = .ok (.iload_n 1, 1) := by decide +kernel
theorem dL_meanRank_2 : decode cL_meanRank 2 = .ok (.iload_n 2, 1) := by decide +kernel
theorem dL_meanRank_3 : decode cL_meanRank 3 = .ok (.invokevirtual 67, 3) := by decide +kernel
theorem dL_meanRank_6 : decode cL_meanRank 6 = .ok (.dreturn, 1) := by decide +kernel
theorem dL_meanRank_7 : decode cL_meanRank 7 = .ok (.astore_n 3, 1) := by decide +kernel
theorem dL_meanRank_8 : decode cL_meanRank 8 = .ok (.ldc2_w 71, 3) := by decide +kernel
theorem dL_meanRank_11 : decode cL_meanRank 11 = .ok (.dreturn, 1) := by decide +kernel
theorem dL_meanRank_12 : decode cL_meanRank 12 = .ok (.astore_n 3, 1) := by decide +kernel
theorem dL_meanRank_13 : decode cL_meanRank 13 = .ok (.ldc2_w 73, 3) := by decide +kernel
theorem dL_meanRank_16 : decode cL_meanRank 16 = .ok (.dreturn, 1) := by decide +kernel
theorem dL_meanRank_17 : decode cL_meanRank 17 = .ok (.astore_n 3, 1) := by decide +kernel
theorem dL_meanRank_18 : decode cL_meanRank 18 = .ok (.ldc2_w 75, 3) := by decide +kernel
theorem dL_meanRank_21 : decode cL_meanRank 21 = .ok (.dreturn, 1) := by decide +kernel
theorem dL_holds_0 : decode cL_holds 0 = .ok (.aload_n 0, 1) := by decide +kernel
theorem dL_holds_1 : decode cL_holds 1 = .ok (.iload_n 1, 1) := by decide +kernel
theorem dL_holds_2 : decode cL_holds 2 = .ok (.iload_n 2, 1) := by decide +kernel
theorem dL_holds_3 : decode cL_holds 3 = .ok (.iload_n 3, 1) := by decide +kernel
theorem dL_holds_4 : decode cL_holds 4 = .ok (.iload 4, 2) := by decide +kernel
theorem dL_holds_6 : decode cL_holds 6 = .ok (.invokevirtual 77, 3) := by decide +kernel
theorem dL_holds_9 : decode cL_holds 9 = .ok (.ifCond .eq 7, 3) := by decide +kernel
theorem dL_holds_12 : decode cL_holds 12 = .ok (.iconst 1, 1) := by decide +kernel
theorem dL_holds_13 : decode cL_holds 13 = .ok (.goto 4, 3) := by decide +kernel
theorem dL_holds_16 : decode cL_holds 16 = .ok (.iconst 0, 1) := by decide +kernel
theorem dL_holds_17 : decode cL_holds 17 = .ok (.ireturn, 1) := by decide +kernel
theorem dL_holds_18 : decode cL_holds 18 = .ok (.astore 5, 2) := by decide +kernel
theorem dL_holds_20 : decode cL_holds 20 = .ok (.ldc 17, 2) := by decide +kernel
theorem dL_holds_22 : decode cL_holds 22 = .ok (.ireturn, 1) := by decide +kernel
theorem dL_holds_23 : decode cL_holds 23 = .ok (.astore 5, 2) := by decide +kernel
theorem dL_holds_25 : decode cL_holds 25 = .ok (.ldc 20, 2) := by decide +kernel
theorem dL_holds_27 : decode cL_holds 27 = .ok (.ireturn, 1) := by decide +kernel
theorem dL_holdsAnew_0 : decode cL_holdsAnew 0 = .ok (.aload_n 0, 1) := by decide +kernel
theorem dL_holdsAnew_1 : decode cL_holdsAnew 1 = .ok (.iload_n 1, 1) := by decide +kernel
theorem dL_holdsAnew_2 : decode cL_holdsAnew 2 = .ok (.iload_n 2, 1) := by decide +kernel
theorem dL_holdsAnew_3 : decode cL_holdsAnew 3 = .ok (.iload_n 3, 1) := by decide +kernel
theorem dL_holdsAnew_4 : decode cL_holdsAnew 4 = .ok (.iload 4, 2) := by decide +kernel
theorem dL_holdsAnew_6 : decode cL_holdsAnew 6 = .ok (.invokevirtual 81, 3) := by decide +kernel
theorem dL_holdsAnew_9 : decode cL_holdsAnew 9 = .ok (.ifCond .eq 7, 3) := by decide +kernel
theorem dL_holdsAnew_12 : decode cL_holdsAnew 12 = .ok (.iconst 1, 1) := by decide +kernel
theorem dL_holdsAnew_13 : decode cL_holdsAnew 13 = .ok (.goto 4, 3) := by decide +kernel
theorem dL_holdsAnew_16 : decode cL_holdsAnew 16 = .ok (.iconst 0, 1) := by decide +kernel
theorem dL_holdsAnew_17 : decode cL_holdsAnew 17 = .ok (.ireturn, 1) := by decide +kernel
theorem dL_holdsAnew_18 : decode cL_holdsAnew 18 = .ok (.astore 5, 2) := by decide +kernel
theorem dL_holdsAnew_20 : decode cL_holdsAnew 20 = .ok (.ldc 17, 2) := by decide +kernel
theorem dL_holdsAnew_22 : decode cL_holdsAnew 22 = .ok (.ireturn, 1) := by decide +kernel
theorem dL_holdsAnew_23 : decode cL_holdsAnew 23 = .ok (.astore 5, 2) := by decide +kernel
theorem dL_holdsAnew_25 : decode cL_holdsAnew 25 = .ok (.ldc 20, 2) := by decide +kernel
theorem dL_holdsAnew_27 : decode cL_holdsAnew 27 = .ok (.ireturn, 1) := by decide +kernel
theorem dL_isOn_0 : decode cL_isOn 0 = .ok (.aload_n 0, 1) := by decide +kernel
theorem dL_isOn_1 : decode cL_isOn 1 = .ok (.iload_n 1, 1) := by decide +kernel
theorem dL_isOn_2 : decode cL_isOn 2 = .ok (.iload_n 2, 1) := by decide +kernel
theorem dL_isOn_3 : decode cL_isOn 3 = .ok (.iload_n 3, 1) := by decide +kernel
theorem dL_isOn_4 : decode cL_isOn 4 = .ok (.invokevirtual 84, 3) := by decide +kernel
theorem dL_isOn_7 : decode cL_isOn 7 = .ok (.ifCond .eq 7, 3) := by decide +kernel
theorem dL_isOn_10 : decode cL_isOn 10 = .ok (.iconst 1, 1) := by decide +kernel
theorem dL_isOn_11 : decode cL_isOn 11 = .ok (.goto 4, 3) := by decide +kernel
theorem dL_isOn_14 : decode cL_isOn 14 = .ok (.iconst 0, 1) := by decide +kernel
theorem dL_isOn_15 : decode cL_isOn 15 = .ok (.ireturn, 1) := by decide +kernel
theorem dL_isOn_16 : decode cL_isOn 16 = .ok (.astore 4, 2) := by decide +kernel
theorem dL_isOn_18 : decode cL_isOn 18 = .ok (.ldc 17, 2) := by decide +kernel
theorem dL_isOn_20 : decode cL_isOn 20 = .ok (.ireturn, 1) := by decide +kernel
theorem dL_setUnique_0 : decode cL_setUnique 0 = .ok (.aload_n 0, 1) := by decide +kernel
theorem dL_setUnique_1 : decode cL_setUnique 1 = .ok (.iload_n 1, 1) := by decide +kernel
theorem dL_setUnique_2 : decode cL_setUnique 2 = .ok (.iload_n 2, 1) := by decide +kernel
theorem dL_setUnique_3 : decode cL_setUnique 3 = .ok (.invokevirtual 88, 3) := by decide +kernel
theorem dL_setUnique_6 : decode cL_setUnique 6 = .ok (.ifCond .eq 7, 3) := by decide +kernel
theorem dL_setUnique_9 : decode cL_setUnique 9 = .ok (.iconst 1, 1) := by decide +kernel
theorem dL_setUnique_10 : decode cL_setUnique 10 = .ok (.goto 4, 3) := by decide +kernel
theorem dL_setUnique_13 : decode cL_setUnique 13 = .ok (.iconst 0, 1) := by decide +kernel
theorem dL_setUnique_14 : decode cL_setUnique 14 = .ok (.ireturn, 1) := by decide +kernel
theorem dL_setUnique_15 : decode cL_setUnique 15 = .ok (.astore_n 3, 1) := by decide +kernel
theorem dL_setUnique_16 : decode cL_setUnique 16 = .ok (.ldc 17, 2) := by decide +kernel
theorem dL_setUnique_18 : decode cL_setUnique 18 = .ok (.ireturn, 1) := by decide +kernel
theorem dL_in_0 : decode cL_in 0 = .ok (.aload_n 0, 1) := by decide +kernel
theorem dL_in_1 : decode cL_in 1 = .ok (.iload_n 1, 1) := by decide +kernel
theorem dL_in_2 : decode cL_in 2 = .ok (.invokestatic 92, 3) := by decide +kernel
theorem dL_in_5 : decode cL_in 5 = .ok (.ldc 98, 2) := by decide +kernel
theorem dL_in_7 : decode cL_in 7 = .ok (.iand, 1) := by decide +kernel
theorem dL_in_8 : decode cL_in 8 = .ok (.iload_n 2, 1) := by decide +kernel
theorem dL_in_9 : decode cL_in 9 = .ok (.irem, 1) := by decide +kernel
theorem dL_in_10 : decode cL_in 10 = .ok (.ireturn, 1) := by decide +kernel
theorem dL_at_0 : decode cL_at 0 = .ok (.bipush 100, 2) := by decide +kernel
theorem dL_at_2 : decode cL_at 2 = .ok (.bipush 6, 2) := by decide +kernel
theorem dL_at_4 : decode cL_at 4 = .ok (.bipush 60, 2) := by decide +kernel
theorem dL_at_6 : decode cL_at 6 = .ok (.iload_n 0, 1) := by decide +kernel
theorem dL_at_7 : decode cL_at 7 = .ok (.imul, 1) := by decide +kernel
theorem dL_at_8 : decode cL_at 8 = .ok (.iload_n 1, 1) := by decide +kernel
theorem dL_at_9 : decode cL_at 9 = .ok (.iadd, 1) := by decide +kernel
theorem dL_at_10 : decode cL_at 10 = .ok (.imul, 1) := by decide +kernel
theorem dL_at_11 : decode cL_at 11 = .ok (.iadd, 1) := by decide +kernel
theorem dL_at_12 : decode cL_at 12 = .ok (.ireturn, 1) := by decide +kernel
theorem dL_tells_0 : decode cL_tells 0 = .ok (.iload_n 1, 1) := by decide +kernel
theorem dL_tells_1 : decode cL_tells 1 = .ok (.aload_n 0, 1) := by decide +kernel
theorem dL_tells_2 : decode cL_tells 2 = .ok (.iload_n 1, 1) := by decide +kernel
theorem dL_tells_3 : decode cL_tells 3 = .ok (.iaload, 1) := by decide +kernel
theorem dL_tells_4 : decode cL_tells 4 = .ok (.invokestatic 99, 3) := by decide +kernel
theorem dL_tells_7 : decode cL_tells 7 = .ok (.istore 7, 2) := by decide +kernel
theorem dL_tells_9 : decode cL_tells 9 = .ok (.aload_n 0, 1) := by decide +kernel
theorem dL_tells_10 : decode cL_tells 10 = .ok (.iload 7, 2) := by decide +kernel
theorem dL_tells_12 : decode cL_tells 12 = .ok (.iload_n 2, 1) := by decide +kernel
theorem dL_tells_13 : decode cL_tells 13 = .ok (.iastore, 1) := by decide +kernel
theorem dL_tells_14 : decode cL_tells 14 = .ok (.aload_n 0, 1) := by decide +kernel
theorem dL_tells_15 : decode cL_tells 15 = .ok (.iload 7, 2) := by decide +kernel
theorem dL_tells_17 : decode cL_tells 17 = .ok (.iconst 1, 1) := by decide +kernel
theorem dL_tells_18 : decode cL_tells 18 = .ok (.iadd, 1) := by decide +kernel
theorem dL_tells_19 : decode cL_tells 19 = .ok (.iload_n 3, 1) := by decide +kernel
theorem dL_tells_20 : decode cL_tells 20 = .ok (.iastore, 1) := by decide +kernel
theorem dL_tells_21 : decode cL_tells 21 = .ok (.aload_n 0, 1) := by decide +kernel
theorem dL_tells_22 : decode cL_tells 22 = .ok (.iload 7, 2) := by decide +kernel
theorem dL_tells_24 : decode cL_tells 24 = .ok (.iconst 2, 1) := by decide +kernel
theorem dL_tells_25 : decode cL_tells 25 = .ok (.iadd, 1) := by decide +kernel
theorem dL_tells_26 : decode cL_tells 26 = .ok (.iload 4, 2) := by decide +kernel
theorem dL_tells_28 : decode cL_tells 28 = .ok (.iastore, 1) := by decide +kernel
theorem dL_tells_29 : decode cL_tells 29 = .ok (.aload_n 0, 1) := by decide +kernel
theorem dL_tells_30 : decode cL_tells 30 = .ok (.iload 7, 2) := by decide +kernel
theorem dL_tells_32 : decode cL_tells 32 = .ok (.iconst 3, 1) := by decide +kernel
theorem dL_tells_33 : decode cL_tells 33 = .ok (.iadd, 1) := by decide +kernel
theorem dL_tells_34 : decode cL_tells 34 = .ok (.iload 5, 2) := by decide +kernel
theorem dL_tells_36 : decode cL_tells 36 = .ok (.iastore, 1) := by decide +kernel
theorem dL_tells_37 : decode cL_tells 37 = .ok (.aload_n 0, 1) := by decide +kernel
theorem dL_tells_38 : decode cL_tells 38 = .ok (.iload 7, 2) := by decide +kernel
theorem dL_tells_40 : decode cL_tells 40 = .ok (.iconst 4, 1) := by decide +kernel
theorem dL_tells_41 : decode cL_tells 41 = .ok (.iadd, 1) := by decide +kernel
theorem dL_tells_42 : decode cL_tells 42 = .ok (.iconst 0, 1) := by decide +kernel
theorem dL_tells_43 : decode cL_tells 43 = .ok (.iastore, 1) := by decide +kernel
theorem dL_tells_44 : decode cL_tells 44 = .ok (.aload_n 0, 1) := by decide +kernel
theorem dL_tells_45 : decode cL_tells 45 = .ok (.iload 7, 2) := by decide +kernel
theorem dL_tells_47 : decode cL_tells 47 = .ok (.iconst 5, 1) := by decide +kernel
theorem dL_tells_48 : decode cL_tells 48 = .ok (.iadd, 1) := by decide +kernel
theorem dL_tells_49 : decode cL_tells 49 = .ok (.iload 6, 2) := by decide +kernel
theorem dL_tells_51 : decode cL_tells 51 = .ok (.iastore, 1) := by decide +kernel
theorem dL_tells_52 : decode cL_tells 52 = .ok (.aload_n 0, 1) := by decide +kernel
theorem dL_tells_53 : decode cL_tells 53 = .ok (.iload_n 1, 1) := by decide +kernel
theorem dL_tells_54 : decode cL_tells 54 = .ok (.dup2, 1) := by decide +kernel
theorem dL_tells_55 : decode cL_tells 55 = .ok (.iaload, 1) := by decide +kernel
theorem dL_tells_56 : decode cL_tells 56 = .ok (.iconst 1, 1) := by decide +kernel
theorem dL_tells_57 : decode cL_tells 57 = .ok (.iadd, 1) := by decide +kernel
theorem dL_tells_58 : decode cL_tells 58 = .ok (.iastore, 1) := by decide +kernel
theorem dL_tells_59 : decode cL_tells 59 = .ok (.return_, 1) := by decide +kernel
theorem dL_isTold_0 : decode cL_isTold 0 = .ok (.iload_n 2, 1) := by decide +kernel
theorem dL_isTold_1 : decode cL_isTold 1 = .ok (.iconst 1, 1) := by decide +kernel
theorem dL_isTold_2 : decode cL_isTold 2 = .ok (.isub, 1) := by decide +kernel
theorem dL_isTold_3 : decode cL_isTold 3 = .ok (.istore 5, 2) := by decide +kernel
theorem dL_isTold_5 : decode cL_isTold 5 = .ok (.iload 5, 2) := by decide +kernel
theorem dL_isTold_7 : decode cL_isTold 7 = .ok (.ifCond .lt 79, 3) := by decide +kernel
theorem dL_isTold_10 : decode cL_isTold 10 = .ok (.iload_n 1, 1) := by decide +kernel
theorem dL_isTold_11 : decode cL_isTold 11 = .ok (.iload 5, 2) := by decide +kernel
theorem dL_isTold_13 : decode cL_isTold 13 = .ok (.invokestatic 99, 3) := by decide +kernel
theorem dL_isTold_16 : decode cL_isTold 16 = .ok (.istore 6, 2) := by decide +kernel
theorem dL_isTold_18 : decode cL_isTold 18 = .ok (.aload_n 0, 1) := by decide +kernel
theorem dL_isTold_19 : decode cL_isTold 19 = .ok (.iload 6, 2) := by decide +kernel
theorem dL_isTold_21 : decode cL_isTold 21 = .ok (.iaload, 1) := by decide +kernel
theorem dL_isTold_22 : decode cL_isTold 22 = .ok (.iconst 2, 1) := by decide +kernel
theorem dL_isTold_23 : decode cL_isTold 23 = .ok (.if_icmp .ge 57, 3) := by decide +kernel
theorem dL_isTold_26 : decode cL_isTold 26 = .ok (.aload_n 0, 1) := by decide +kernel
theorem dL_isTold_27 : decode cL_isTold 27 = .ok (.iload 6, 2) := by decide +kernel
theorem dL_isTold_29 : decode cL_isTold 29 = .ok (.iconst 1, 1) := by decide +kernel
theorem dL_isTold_30 : decode cL_isTold 30 = .ok (.iadd, 1) := by decide +kernel
theorem dL_isTold_31 : decode cL_isTold 31 = .ok (.iaload, 1) := by decide +kernel
theorem dL_isTold_32 : decode cL_isTold 32 = .ok (.iload 4, 2) := by decide +kernel
theorem dL_isTold_34 : decode cL_isTold 34 = .ok (.if_icmp .ne 46, 3) := by decide +kernel
theorem dL_isTold_37 : decode cL_isTold 37 = .ok (.aload_n 0, 1) := by decide +kernel
theorem dL_isTold_38 : decode cL_isTold 38 = .ok (.iload 6, 2) := by decide +kernel
theorem dL_isTold_40 : decode cL_isTold 40 = .ok (.iconst 2, 1) := by decide +kernel
theorem dL_isTold_41 : decode cL_isTold 41 = .ok (.iadd, 1) := by decide +kernel
theorem dL_isTold_42 : decode cL_isTold 42 = .ok (.iaload, 1) := by decide +kernel
theorem dL_isTold_43 : decode cL_isTold 43 = .ok (.iload_n 3, 1) := by decide +kernel
theorem dL_isTold_44 : decode cL_isTold 44 = .ok (.if_icmp .gt 36, 3) := by decide +kernel
theorem dL_isTold_47 : decode cL_isTold 47 = .ok (.iload_n 3, 1) := by decide +kernel
theorem dL_isTold_48 : decode cL_isTold 48 = .ok (.aload_n 0, 1) := by decide +kernel
theorem dL_isTold_49 : decode cL_isTold 49 = .ok (.iload 6, 2) := by decide +kernel
theorem dL_isTold_51 : decode cL_isTold 51 = .ok (.iconst 3, 1) := by decide +kernel
theorem dL_isTold_52 : decode cL_isTold 52 = .ok (.iadd, 1) := by decide +kernel
theorem dL_isTold_53 : decode cL_isTold 53 = .ok (.iaload, 1) := by decide +kernel
theorem dL_isTold_54 : decode cL_isTold 54 = .ok (.if_icmp .gt 26, 3) := by decide +kernel
theorem dL_isTold_57 : decode cL_isTold 57 = .ok (.aload_n 0, 1) := by decide +kernel
theorem dL_isTold_58 : decode cL_isTold 58 = .ok (.iload 6, 2) := by decide +kernel
theorem dL_isTold_60 : decode cL_isTold 60 = .ok (.iconst 4, 1) := by decide +kernel
theorem dL_isTold_61 : decode cL_isTold 61 = .ok (.iadd, 1) := by decide +kernel
theorem dL_isTold_62 : decode cL_isTold 62 = .ok (.iaload, 1) := by decide +kernel
theorem dL_isTold_63 : decode cL_isTold 63 = .ok (.ifCond .ne 17, 3) := by decide +kernel
theorem dL_isTold_66 : decode cL_isTold 66 = .ok (.aload_n 0, 1) := by decide +kernel
theorem dL_isTold_67 : decode cL_isTold 67 = .ok (.iload 6, 2) := by decide +kernel
theorem dL_isTold_69 : decode cL_isTold 69 = .ok (.iaload, 1) := by decide +kernel
theorem dL_isTold_70 : decode cL_isTold 70 = .ok (.iconst 1, 1) := by decide +kernel
theorem dL_isTold_71 : decode cL_isTold 71 = .ok (.if_icmp .ne 7, 3) := by decide +kernel
theorem dL_isTold_74 : decode cL_isTold 74 = .ok (.iconst 1, 1) := by decide +kernel
theorem dL_isTold_75 : decode cL_isTold 75 = .ok (.goto 4, 3) := by decide +kernel
theorem dL_isTold_78 : decode cL_isTold 78 = .ok (.iconst 0, 1) := by decide +kernel
theorem dL_isTold_79 : decode cL_isTold 79 = .ok (.ireturn, 1) := by decide +kernel
theorem dL_isTold_80 : decode cL_isTold 80 = .ok (.iinc 5 (-1), 3) := by decide +kernel
theorem dL_isTold_83 : decode cL_isTold 83 = .ok (.goto (-78), 3) := by decide +kernel
theorem dL_isTold_86 : decode cL_isTold 86 = .ok (.iconst 0, 1) := by decide +kernel
theorem dL_isTold_87 : decode cL_isTold 87 = .ok (.ireturn, 1) := by decide +kernel
theorem dL_isRuled_0 : decode cL_isRuled 0 = .ok (.iload_n 2, 1) := by decide +kernel
theorem dL_isRuled_1 : decode cL_isRuled 1 = .ok (.iconst 1, 1) := by decide +kernel
theorem dL_isRuled_2 : decode cL_isRuled 2 = .ok (.isub, 1) := by decide +kernel
theorem dL_isRuled_3 : decode cL_isRuled 3 = .ok (.istore 4, 2) := by decide +kernel
theorem dL_isRuled_5 : decode cL_isRuled 5 = .ok (.iload 4, 2) := by decide +kernel
theorem dL_isRuled_7 : decode cL_isRuled 7 = .ok (.ifCond .lt 49, 3) := by decide +kernel
theorem dL_isRuled_10 : decode cL_isRuled 10 = .ok (.iload_n 1, 1) := by decide +kernel
theorem dL_isRuled_11 : decode cL_isRuled 11 = .ok (.iload 4, 2) := by decide +kernel
theorem dL_isRuled_13 : decode cL_isRuled 13 = .ok (.invokestatic 99, 3) := by decide +kernel
theorem dL_isRuled_16 : decode cL_isRuled 16 = .ok (.istore 5, 2) := by decide +kernel
theorem dL_isRuled_18 : decode cL_isRuled 18 = .ok (.aload_n 0, 1) := by decide +kernel
theorem dL_isRuled_19 : decode cL_isRuled 19 = .ok (.iload 5, 2) := by decide +kernel
theorem dL_isRuled_21 : decode cL_isRuled 21 = .ok (.iaload, 1) := by decide +kernel
theorem dL_isRuled_22 : decode cL_isRuled 22 = .ok (.iconst 1, 1) := by decide +kernel
theorem dL_isRuled_23 : decode cL_isRuled 23 = .ok (.if_icmp .le 27, 3) := by decide +kernel
theorem dL_isRuled_26 : decode cL_isRuled 26 = .ok (.aload_n 0, 1) := by decide +kernel
theorem dL_isRuled_27 : decode cL_isRuled 27 = .ok (.iload 5, 2) := by decide +kernel
theorem dL_isRuled_29 : decode cL_isRuled 29 = .ok (.iconst 1, 1) := by decide +kernel
theorem dL_isRuled_30 : decode cL_isRuled 30 = .ok (.iadd, 1) := by decide +kernel
theorem dL_isRuled_31 : decode cL_isRuled 31 = .ok (.iaload, 1) := by decide +kernel
theorem dL_isRuled_32 : decode cL_isRuled 32 = .ok (.iload_n 3, 1) := by decide +kernel
theorem dL_isRuled_33 : decode cL_isRuled 33 = .ok (.if_icmp .ne 17, 3) := by decide +kernel
theorem dL_isRuled_36 : decode cL_isRuled 36 = .ok (.aload_n 0, 1) := by decide +kernel
theorem dL_isRuled_37 : decode cL_isRuled 37 = .ok (.iload 5, 2) := by decide +kernel
theorem dL_isRuled_39 : decode cL_isRuled 39 = .ok (.iaload, 1) := by decide +kernel
theorem dL_isRuled_40 : decode cL_isRuled 40 = .ok (.iconst 3, 1) := by decide +kernel
theorem dL_isRuled_41 : decode cL_isRuled 41 = .ok (.if_icmp .ne 7, 3) := by decide +kernel
theorem dL_isRuled_44 : decode cL_isRuled 44 = .ok (.iconst 1, 1) := by decide +kernel
theorem dL_isRuled_45 : decode cL_isRuled 45 = .ok (.goto 4, 3) := by decide +kernel
theorem dL_isRuled_48 : decode cL_isRuled 48 = .ok (.iconst 0, 1) := by decide +kernel
theorem dL_isRuled_49 : decode cL_isRuled 49 = .ok (.ireturn, 1) := by decide +kernel
theorem dL_isRuled_50 : decode cL_isRuled 50 = .ok (.iinc 4 (-1), 3) := by decide +kernel
theorem dL_isRuled_53 : decode cL_isRuled 53 = .ok (.goto (-48), 3) := by decide +kernel
theorem dL_isRuled_56 : decode cL_isRuled 56 = .ok (.iconst 0, 1) := by decide +kernel
theorem dL_isRuled_57 : decode cL_isRuled 57 = .ok (.ireturn, 1) := by decide +kernel
theorem dL_layers_0 : decode cL_layers 0 = .ok (.bipush 7, 2) := by decide +kernel
theorem dL_layers_2 : decode cL_layers 2 = .ok (.newarray .int, 2) := by decide +kernel
theorem dL_layers_4 : decode cL_layers 4 = .ok (.astore_n 2, 1) := by decide +kernel
theorem dL_layers_5 : decode cL_layers 5 = .ok (.iconst 0, 1) := by decide +kernel
theorem dL_layers_6 : decode cL_layers 6 = .ok (.istore_n 3, 1) := by decide +kernel
theorem dL_layers_7 : decode cL_layers 7 = .ok (.iload_n 3, 1) := by decide +kernel
theorem dL_layers_8 : decode cL_layers 8 = .ok (.bipush 60, 2) := by decide +kernel
theorem dL_layers_10 : decode cL_layers 10 = .ok (.if_icmp .ge 111, 3) := by decide +kernel
theorem dL_layers_13 : decode cL_layers 13 = .ok (.iconst 0, 1) := by decide +kernel
theorem dL_layers_14 : decode cL_layers 14 = .ok (.istore 4, 2) := by decide +kernel
theorem dL_layers_16 : decode cL_layers 16 = .ok (.iload 4, 2) := by decide +kernel
theorem dL_layers_18 : decode cL_layers 18 = .ok (.aload_n 0, 1) := by decide +kernel
theorem dL_layers_19 : decode cL_layers 19 = .ok (.iconst 5, 1) := by decide +kernel
theorem dL_layers_20 : decode cL_layers 20 = .ok (.iaload, 1) := by decide +kernel
theorem dL_layers_21 : decode cL_layers 21 = .ok (.if_icmp .ge 94, 3) := by decide +kernel
theorem dL_layers_24 : decode cL_layers 24 = .ok (.sipush 1600, 3) := by decide +kernel
theorem dL_layers_27 : decode cL_layers 27 = .ok (.bipush 16, 2) := by decide +kernel
theorem dL_layers_29 : decode cL_layers 29 = .ok (.iload 4, 2) := by decide +kernel
theorem dL_layers_31 : decode cL_layers 31 = .ok (.imul, 1) := by decide +kernel
theorem dL_layers_32 : decode cL_layers 32 = .ok (.iadd, 1) := by decide +kernel
theorem dL_layers_33 : decode cL_layers 33 = .ok (.istore 5, 2) := by decide +kernel
theorem dL_layers_35 : decode cL_layers 35 = .ok (.iconst 0, 1) := by decide +kernel
theorem dL_layers_36 : decode cL_layers 36 = .ok (.istore 6, 2) := by decide +kernel
theorem dL_layers_38 : decode cL_layers 38 = .ok (.iload 6, 2) := by decide +kernel
theorem dL_layers_40 : decode cL_layers 40 = .ok (.aload_n 0, 1) := by decide +kernel
theorem dL_layers_41 : decode cL_layers 41 = .ok (.iload 5, 2) := by decide +kernel
theorem dL_layers_43 : decode cL_layers 43 = .ok (.iaload, 1) := by decide +kernel
theorem dL_layers_44 : decode cL_layers 44 = .ok (.if_icmp .ge 65, 3) := by decide +kernel
theorem dL_layers_47 : decode cL_layers 47 = .ok (.aload_n 1, 1) := by decide +kernel
theorem dL_layers_48 : decode cL_layers 48 = .ok (.iload 4, 2) := by decide +kernel
theorem dL_layers_50 : decode cL_layers 50 = .ok (.baload, 1) := by decide +kernel
theorem dL_layers_51 : decode cL_layers 51 = .ok (.ifCond .eq 58, 3) := by decide +kernel
theorem dL_layers_54 : decode cL_layers 54 = .ok (.aload_n 2, 1) := by decide +kernel
theorem dL_layers_55 : decode cL_layers 55 = .ok (.aload_n 0, 1) := by decide +kernel
theorem dL_layers_56 : decode cL_layers 56 = .ok (.iload 5, 2) := by decide +kernel
theorem dL_layers_58 : decode cL_layers 58 = .ok (.iconst 4, 1) := by decide +kernel
theorem dL_layers_59 : decode cL_layers 59 = .ok (.iadd, 1) := by decide +kernel
theorem dL_layers_60 : decode cL_layers 60 = .ok (.iconst 4, 1) := by decide +kernel
theorem dL_layers_61 : decode cL_layers 61 = .ok (.iload 6, 2) := by decide +kernel
theorem dL_layers_63 : decode cL_layers 63 = .ok (.imul, 1) := by decide +kernel
theorem dL_layers_64 : decode cL_layers 64 = .ok (.iadd, 1) := by decide +kernel
theorem dL_layers_65 : decode cL_layers 65 = .ok (.iaload, 1) := by decide +kernel
theorem dL_layers_66 : decode cL_layers 66 = .ok (.iaload, 1) := by decide +kernel
theorem dL_layers_67 : decode cL_layers 67 = .ok (.aload_n 0, 1) := by decide +kernel
theorem dL_layers_68 : decode cL_layers 68 = .ok (.iload 5, 2) := by decide +kernel
theorem dL_layers_70 : decode cL_layers 70 = .ok (.bipush 7, 2) := by decide +kernel
theorem dL_layers_72 : decode cL_layers 72 = .ok (.iadd, 1) := by decide +kernel
theorem dL_layers_73 : decode cL_layers 73 = .ok (.iconst 4, 1) := by decide +kernel
theorem dL_layers_74 : decode cL_layers 74 = .ok (.iload 6, 2) := by decide +kernel
theorem dL_layers_76 : decode cL_layers 76 = .ok (.imul, 1) := by decide +kernel
theorem dL_layers_77 : decode cL_layers 77 = .ok (.iadd, 1) := by decide +kernel
theorem dL_layers_78 : decode cL_layers 78 = .ok (.iaload, 1) := by decide +kernel
theorem dL_layers_79 : decode cL_layers 79 = .ok (.iadd, 1) := by decide +kernel
theorem dL_layers_80 : decode cL_layers 80 = .ok (.istore 7, 2) := by decide +kernel
theorem dL_layers_82 : decode cL_layers 82 = .ok (.aload_n 2, 1) := by decide +kernel
theorem dL_layers_83 : decode cL_layers 83 = .ok (.aload_n 0, 1) := by decide +kernel
theorem dL_layers_84 : decode cL_layers 84 = .ok (.iload 5, 2) := by decide +kernel
theorem dL_layers_86 : decode cL_layers 86 = .ok (.iconst 1, 1) := by decide +kernel
theorem dL_layers_87 : decode cL_layers 87 = .ok (.iadd, 1) := by decide +kernel
theorem dL_layers_88 : decode cL_layers 88 = .ok (.iaload, 1) := by decide +kernel
theorem dL_layers_89 : decode cL_layers 89 = .ok (.aload_n 2, 1) := by decide +kernel
theorem dL_layers_90 : decode cL_layers 90 = .ok (.aload_n 0, 1) := by decide +kernel
theorem dL_layers_91 : decode cL_layers 91 = .ok (.iload 5, 2) := by decide +kernel
theorem dL_layers_93 : decode cL_layers 93 = .ok (.iconst 1, 1) := by decide +kernel
theorem dL_layers_94 : decode cL_layers 94 = .ok (.iadd, 1) := by decide +kernel
theorem dL_layers_95 : decode cL_layers 95 = .ok (.iaload, 1) := by decide +kernel
theorem dL_layers_96 : decode cL_layers 96 = .ok (.iaload, 1) := by decide +kernel
theorem dL_layers_97 : decode cL_layers 97 = .ok (.iload 7, 2) := by decide +kernel
theorem dL_layers_99 : decode cL_layers 99 = .ok (.invokestatic 102, 3) := by decide +kernel
theorem dL_layers_102 : decode cL_layers 102 = .ok (.iastore, 1) := by decide +kernel
theorem dL_layers_103 : decode cL_layers 103 = .ok (.iinc 6 1, 3) := by decide +kernel
theorem dL_layers_106 : decode cL_layers 106 = .ok (.goto (-68), 3) := by decide +kernel
theorem dL_layers_109 : decode cL_layers 109 = .ok (.iinc 4 1, 3) := by decide +kernel
theorem dL_layers_112 : decode cL_layers 112 = .ok (.goto (-96), 3) := by decide +kernel
theorem dL_layers_115 : decode cL_layers 115 = .ok (.iinc 3 1, 3) := by decide +kernel
theorem dL_layers_118 : decode cL_layers 118 = .ok (.goto (-111), 3) := by decide +kernel
theorem dL_layers_121 : decode cL_layers 121 = .ok (.iconst 0, 1) := by decide +kernel
theorem dL_layers_122 : decode cL_layers 122 = .ok (.istore_n 3, 1) := by decide +kernel
theorem dL_layers_123 : decode cL_layers 123 = .ok (.iload_n 3, 1) := by decide +kernel
theorem dL_layers_124 : decode cL_layers 124 = .ok (.bipush 6, 2) := by decide +kernel
theorem dL_layers_126 : decode cL_layers 126 = .ok (.if_icmp .ge 29, 3) := by decide +kernel
theorem dL_layers_129 : decode cL_layers 129 = .ok (.aload_n 2, 1) := by decide +kernel
theorem dL_layers_130 : decode cL_layers 130 = .ok (.bipush 6, 2) := by decide +kernel
theorem dL_layers_132 : decode cL_layers 132 = .ok (.aload_n 2, 1) := by decide +kernel
theorem dL_layers_133 : decode cL_layers 133 = .ok (.iload_n 3, 1) := by decide +kernel
theorem dL_layers_134 : decode cL_layers 134 = .ok (.iaload, 1) := by decide +kernel
theorem dL_layers_135 : decode cL_layers 135 = .ok (.bipush 6, 2) := by decide +kernel
theorem dL_layers_137 : decode cL_layers 137 = .ok (.if_icmp .le 7, 3) := by decide +kernel
theorem dL_layers_140 : decode cL_layers 140 = .ok (.iconst 1, 1) := by decide +kernel
theorem dL_layers_141 : decode cL_layers 141 = .ok (.goto 7, 3) := by decide +kernel
theorem dL_layers_144 : decode cL_layers 144 = .ok (.aload_n 2, 1) := by decide +kernel
theorem dL_layers_145 : decode cL_layers 145 = .ok (.bipush 6, 2) := by decide +kernel
theorem dL_layers_147 : decode cL_layers 147 = .ok (.iaload, 1) := by decide +kernel
theorem dL_layers_148 : decode cL_layers 148 = .ok (.iastore, 1) := by decide +kernel
theorem dL_layers_149 : decode cL_layers 149 = .ok (.iinc 3 1, 3) := by decide +kernel
theorem dL_layers_152 : decode cL_layers 152 = .ok (.goto (-29), 3) := by decide +kernel
theorem dL_layers_155 : decode cL_layers 155 = .ok (.aload_n 2, 1) := by decide +kernel
theorem dL_layers_156 : decode cL_layers 156 = .ok (.areturn, 1) := by decide +kernel
theorem dL_rules_0 : decode cL_rules 0 = .ok (.bipush 10, 2) := by decide +kernel
theorem dL_rules_2 : decode cL_rules 2 = .ok (.newarray .boolean, 2) := by decide +kernel
theorem dL_rules_4 : decode cL_rules 4 = .ok (.astore_n 3, 1) := by decide +kernel
theorem dL_rules_5 : decode cL_rules 5 = .ok (.iconst 0, 1) := by decide +kernel
theorem dL_rules_6 : decode cL_rules 6 = .ok (.istore 4, 2) := by decide +kernel
theorem dL_rules_8 : decode cL_rules 8 = .ok (.iload 4, 2) := by decide +kernel
theorem dL_rules_10 : decode cL_rules 10 = .ok (.aload_n 0, 1) := by decide +kernel
theorem dL_rules_11 : decode cL_rules 11 = .ok (.iconst 5, 1) := by decide +kernel
theorem dL_rules_12 : decode cL_rules 12 = .ok (.iaload, 1) := by decide +kernel
theorem dL_rules_13 : decode cL_rules 13 = .ok (.if_icmp .ge 21, 3) := by decide +kernel
theorem dL_rules_16 : decode cL_rules 16 = .ok (.aload_n 3, 1) := by decide +kernel
theorem dL_rules_17 : decode cL_rules 17 = .ok (.iload 4, 2) := by decide +kernel
theorem dL_rules_19 : decode cL_rules 19 = .ok (.aload_n 0, 1) := by decide +kernel
theorem dL_rules_20 : decode cL_rules 20 = .ok (.iload_n 1, 1) := by decide +kernel
theorem dL_rules_21 : decode cL_rules 21 = .ok (.iload_n 2, 1) := by decide +kernel
theorem dL_rules_22 : decode cL_rules 22 = .ok (.iload 4, 2) := by decide +kernel
theorem dL_rules_24 : decode cL_rules 24 = .ok (.invokestatic 107, 3) := by decide +kernel
theorem dL_rules_27 : decode cL_rules 27 = .ok (.bastore, 1) := by decide +kernel
theorem dL_rules_28 : decode cL_rules 28 = .ok (.iinc 4 1, 3) := by decide +kernel
theorem dL_rules_31 : decode cL_rules 31 = .ok (.goto (-23), 3) := by decide +kernel
theorem dL_rules_34 : decode cL_rules 34 = .ok (.aload_n 3, 1) := by decide +kernel
theorem dL_rules_35 : decode cL_rules 35 = .ok (.areturn, 1) := by decide +kernel
theorem dL_fact_0 : decode cL_fact 0 = .ok (.bipush 64, 2) := by decide +kernel
theorem dL_fact_2 : decode cL_fact 2 = .ok (.aload_n 0, 1) := by decide +kernel
theorem dL_fact_3 : decode cL_fact 3 = .ok (.iload_n 1, 1) := by decide +kernel
theorem dL_fact_4 : decode cL_fact 4 = .ok (.iaload, 1) := by decide +kernel
theorem dL_fact_5 : decode cL_fact 5 = .ok (.imul, 1) := by decide +kernel
theorem dL_fact_6 : decode cL_fact 6 = .ok (.bipush 8, 2) := by decide +kernel
theorem dL_fact_8 : decode cL_fact 8 = .ok (.aload_n 2, 1) := by decide +kernel
theorem dL_fact_9 : decode cL_fact 9 = .ok (.aload_n 0, 1) := by decide +kernel
theorem dL_fact_10 : decode cL_fact 10 = .ok (.iload_n 1, 1) := by decide +kernel
theorem dL_fact_11 : decode cL_fact 11 = .ok (.iconst 1, 1) := by decide +kernel
theorem dL_fact_12 : decode cL_fact 12 = .ok (.iadd, 1) := by decide +kernel
theorem dL_fact_13 : decode cL_fact 13 = .ok (.iaload, 1) := by decide +kernel
theorem dL_fact_14 : decode cL_fact 14 = .ok (.iaload, 1) := by decide +kernel
theorem dL_fact_15 : decode cL_fact 15 = .ok (.imul, 1) := by decide +kernel
theorem dL_fact_16 : decode cL_fact 16 = .ok (.iadd, 1) := by decide +kernel
theorem dL_fact_17 : decode cL_fact 17 = .ok (.aload_n 2, 1) := by decide +kernel
theorem dL_fact_18 : decode cL_fact 18 = .ok (.aload_n 0, 1) := by decide +kernel
theorem dL_fact_19 : decode cL_fact 19 = .ok (.iload_n 1, 1) := by decide +kernel
theorem dL_fact_20 : decode cL_fact 20 = .ok (.iconst 2, 1) := by decide +kernel
theorem dL_fact_21 : decode cL_fact 21 = .ok (.iadd, 1) := by decide +kernel
theorem dL_fact_22 : decode cL_fact 22 = .ok (.iaload, 1) := by decide +kernel
theorem dL_fact_23 : decode cL_fact 23 = .ok (.iaload, 1) := by decide +kernel
theorem dL_fact_24 : decode cL_fact 24 = .ok (.iadd, 1) := by decide +kernel
theorem dL_fact_25 : decode cL_fact 25 = .ok (.ireturn, 1) := by decide +kernel
theorem dL_ranks_0 : decode cL_ranks 0 = .ok (.sipush 384, 3) := by decide +kernel
theorem dL_ranks_3 : decode cL_ranks 3 = .ok (.newarray .int, 2) := by decide +kernel
theorem dL_ranks_5 : decode cL_ranks 5 = .ok (.astore 4, 2) := by decide +kernel
theorem dL_ranks_7 : decode cL_ranks 7 = .ok (.iconst 0, 1) := by decide +kernel
theorem dL_ranks_8 : decode cL_ranks 8 = .ok (.istore 5, 2) := by decide +kernel
theorem dL_ranks_10 : decode cL_ranks 10 = .ok (.iload 5, 2) := by decide +kernel
theorem dL_ranks_12 : decode cL_ranks 12 = .ok (.sipush 384, 3) := by decide +kernel
theorem dL_ranks_15 : decode cL_ranks 15 = .ok (.if_icmp .ge 17, 3) := by decide +kernel
theorem dL_ranks_18 : decode cL_ranks 18 = .ok (.aload 4, 2) := by decide +kernel
theorem dL_ranks_20 : decode cL_ranks 20 = .ok (.iload 5, 2) := by decide +kernel
theorem dL_ranks_22 : decode cL_ranks 22 = .ok (.sipush 999, 3) := by decide +kernel
theorem dL_ranks_25 : decode cL_ranks 25 = .ok (.iastore, 1) := by decide +kernel
theorem dL_ranks_26 : decode cL_ranks 26 = .ok (.iinc 5 1, 3) := by decide +kernel
theorem dL_ranks_29 : decode cL_ranks 29 = .ok (.goto (-19), 3) := by decide +kernel
theorem dL_ranks_32 : decode cL_ranks 32 = .ok (.iconst 0, 1) := by decide +kernel
theorem dL_ranks_33 : decode cL_ranks 33 = .ok (.istore 5, 2) := by decide +kernel
theorem dL_ranks_35 : decode cL_ranks 35 = .ok (.iload 5, 2) := by decide +kernel
theorem dL_ranks_37 : decode cL_ranks 37 = .ok (.iload_n 2, 1) := by decide +kernel
theorem dL_ranks_38 : decode cL_ranks 38 = .ok (.if_icmp .ge 78, 3) := by decide +kernel
theorem dL_ranks_41 : decode cL_ranks 41 = .ok (.iload_n 1, 1) := by decide +kernel
theorem dL_ranks_42 : decode cL_ranks 42 = .ok (.iload 5, 2) := by decide +kernel
theorem dL_ranks_44 : decode cL_ranks 44 = .ok (.invokestatic 99, 3) := by decide +kernel
theorem dL_ranks_47 : decode cL_ranks 47 = .ok (.istore 6, 2) := by decide +kernel
theorem dL_ranks_49 : decode cL_ranks 49 = .ok (.aload_n 0, 1) := by decide +kernel
theorem dL_ranks_50 : decode cL_ranks 50 = .ok (.iload 6, 2) := by decide +kernel
theorem dL_ranks_52 : decode cL_ranks 52 = .ok (.iaload, 1) := by decide +kernel
theorem dL_ranks_53 : decode cL_ranks 53 = .ok (.iconst 2, 1) := by decide +kernel
theorem dL_ranks_54 : decode cL_ranks 54 = .ok (.if_icmp .ge 56, 3) := by decide +kernel
theorem dL_ranks_57 : decode cL_ranks 57 = .ok (.aload_n 0, 1) := by decide +kernel
theorem dL_ranks_58 : decode cL_ranks 58 = .ok (.iload 6, 2) := by decide +kernel
theorem dL_ranks_60 : decode cL_ranks 60 = .ok (.iconst 2, 1) := by decide +kernel
theorem dL_ranks_61 : decode cL_ranks 61 = .ok (.iadd, 1) := by decide +kernel
theorem dL_ranks_62 : decode cL_ranks 62 = .ok (.iaload, 1) := by decide +kernel
theorem dL_ranks_63 : decode cL_ranks 63 = .ok (.iload_n 3, 1) := by decide +kernel
theorem dL_ranks_64 : decode cL_ranks 64 = .ok (.if_icmp .gt 46, 3) := by decide +kernel
theorem dL_ranks_67 : decode cL_ranks 67 = .ok (.iload_n 3, 1) := by decide +kernel
theorem dL_ranks_68 : decode cL_ranks 68 = .ok (.aload_n 0, 1) := by decide +kernel
theorem dL_ranks_69 : decode cL_ranks 69 = .ok (.iload 6, 2) := by decide +kernel
theorem dL_ranks_71 : decode cL_ranks 71 = .ok (.iconst 3, 1) := by decide +kernel
theorem dL_ranks_72 : decode cL_ranks 72 = .ok (.iadd, 1) := by decide +kernel
theorem dL_ranks_73 : decode cL_ranks 73 = .ok (.iaload, 1) := by decide +kernel
theorem dL_ranks_74 : decode cL_ranks 74 = .ok (.if_icmp .gt 36, 3) := by decide +kernel
theorem dL_ranks_77 : decode cL_ranks 77 = .ok (.aload_n 0, 1) := by decide +kernel
theorem dL_ranks_78 : decode cL_ranks 78 = .ok (.iload 6, 2) := by decide +kernel
theorem dL_ranks_80 : decode cL_ranks 80 = .ok (.iconst 4, 1) := by decide +kernel
theorem dL_ranks_81 : decode cL_ranks 81 = .ok (.iadd, 1) := by decide +kernel
theorem dL_ranks_82 : decode cL_ranks 82 = .ok (.iaload, 1) := by decide +kernel
theorem dL_ranks_83 : decode cL_ranks 83 = .ok (.ifCond .ne 27, 3) := by decide +kernel
theorem dL_ranks_86 : decode cL_ranks 86 = .ok (.aload 4, 2) := by decide +kernel
theorem dL_ranks_88 : decode cL_ranks 88 = .ok (.aload_n 0, 1) := by decide +kernel
theorem dL_ranks_89 : decode cL_ranks 89 = .ok (.iload 6, 2) := by decide +kernel
theorem dL_ranks_91 : decode cL_ranks 91 = .ok (.iconst 1, 1) := by decide +kernel
theorem dL_ranks_92 : decode cL_ranks 92 = .ok (.iadd, 1) := by decide +kernel
theorem dL_ranks_93 : decode cL_ranks 93 = .ok (.iaload, 1) := by decide +kernel
theorem dL_ranks_94 : decode cL_ranks 94 = .ok (.aload_n 0, 1) := by decide +kernel
theorem dL_ranks_95 : decode cL_ranks 95 = .ok (.iload 6, 2) := by decide +kernel
theorem dL_ranks_97 : decode cL_ranks 97 = .ok (.iaload, 1) := by decide +kernel
theorem dL_ranks_98 : decode cL_ranks 98 = .ok (.iconst 1, 1) := by decide +kernel
theorem dL_ranks_99 : decode cL_ranks 99 = .ok (.if_icmp .ne 7, 3) := by decide +kernel
theorem dL_ranks_102 : decode cL_ranks 102 = .ok (.iconst 0, 1) := by decide +kernel
theorem dL_ranks_103 : decode cL_ranks 103 = .ok (.goto 6, 3) := by decide +kernel
theorem dL_ranks_106 : decode cL_ranks 106 = .ok (.sipush 999, 3) := by decide +kernel
theorem dL_ranks_109 : decode cL_ranks 109 = .ok (.iastore, 1) := by decide +kernel
theorem dL_ranks_110 : decode cL_ranks 110 = .ok (.iinc 5 1, 3) := by decide +kernel
theorem dL_ranks_113 : decode cL_ranks 113 = .ok (.goto (-78), 3) := by decide +kernel
theorem dL_ranks_116 : decode cL_ranks 116 = .ok (.aload_n 0, 1) := by decide +kernel
theorem dL_ranks_117 : decode cL_ranks 117 = .ok (.iload_n 1, 1) := by decide +kernel
theorem dL_ranks_118 : decode cL_ranks 118 = .ok (.iload_n 2, 1) := by decide +kernel
theorem dL_ranks_119 : decode cL_ranks 119 = .ok (.invokestatic 111, 3) := by decide +kernel
theorem dL_ranks_122 : decode cL_ranks 122 = .ok (.astore 5, 2) := by decide +kernel
theorem dL_ranks_124 : decode cL_ranks 124 = .ok (.aload_n 0, 1) := by decide +kernel
theorem dL_ranks_125 : decode cL_ranks 125 = .ok (.aload 5, 2) := by decide +kernel
theorem dL_ranks_127 : decode cL_ranks 127 = .ok (.invokestatic 115, 3) := by decide +kernel
theorem dL_ranks_130 : decode cL_ranks 130 = .ok (.astore 6, 2) := by decide +kernel
theorem dL_ranks_132 : decode cL_ranks 132 = .ok (.iconst 0, 1) := by decide +kernel
theorem dL_ranks_133 : decode cL_ranks 133 = .ok (.istore 7, 2) := by decide +kernel
theorem dL_ranks_135 : decode cL_ranks 135 = .ok (.iload 7, 2) := by decide +kernel
theorem dL_ranks_137 : decode cL_ranks 137 = .ok (.bipush 7, 2) := by decide +kernel
theorem dL_ranks_139 : decode cL_ranks 139 = .ok (.if_icmp .ge 88, 3) := by decide +kernel
theorem dL_ranks_142 : decode cL_ranks 142 = .ok (.iconst 1, 1) := by decide +kernel
theorem dL_ranks_143 : decode cL_ranks 143 = .ok (.istore 8, 2) := by decide +kernel
theorem dL_ranks_145 : decode cL_ranks 145 = .ok (.iload 8, 2) := by decide +kernel
theorem dL_ranks_147 : decode cL_ranks 147 = .ok (.ifCond .eq 74, 3) := by decide +kernel
theorem dL_ranks_150 : decode cL_ranks 150 = .ok (.iconst 0, 1) := by decide +kernel
theorem dL_ranks_151 : decode cL_ranks 151 = .ok (.istore 8, 2) := by decide +kernel
theorem dL_ranks_153 : decode cL_ranks 153 = .ok (.iconst 0, 1) := by decide +kernel
theorem dL_ranks_154 : decode cL_ranks 154 = .ok (.istore 9, 2) := by decide +kernel
theorem dL_ranks_156 : decode cL_ranks 156 = .ok (.iload 9, 2) := by decide +kernel
theorem dL_ranks_158 : decode cL_ranks 158 = .ok (.aload_n 0, 1) := by decide +kernel
theorem dL_ranks_159 : decode cL_ranks 159 = .ok (.iconst 5, 1) := by decide +kernel
theorem dL_ranks_160 : decode cL_ranks 160 = .ok (.iaload, 1) := by decide +kernel
theorem dL_ranks_161 : decode cL_ranks 161 = .ok (.if_icmp .ge 57, 3) := by decide +kernel
theorem dL_ranks_164 : decode cL_ranks 164 = .ok (.iload 8, 2) := by decide +kernel
theorem dL_ranks_166 : decode cL_ranks 166 = .ok (.aload 5, 2) := by decide +kernel
theorem dL_ranks_168 : decode cL_ranks 168 = .ok (.iload 9, 2) := by decide +kernel
theorem dL_ranks_170 : decode cL_ranks 170 = .ok (.baload, 1) := by decide +kernel
theorem dL_ranks_171 : decode cL_ranks 171 = .ok (.ifCond .eq 37, 3) := by decide +kernel
theorem dL_ranks_174 : decode cL_ranks 174 = .ok (.aload 6, 2) := by decide +kernel
theorem dL_ranks_176 : decode cL_ranks 176 = .ok (.aload_n 0, 1) := by decide +kernel
theorem dL_ranks_177 : decode cL_ranks 177 = .ok (.sipush 1601, 3) := by decide +kernel
theorem dL_ranks_180 : decode cL_ranks 180 = .ok (.bipush 16, 2) := by decide +kernel
theorem dL_ranks_182 : decode cL_ranks 182 = .ok (.iload 9, 2) := by decide +kernel
theorem dL_ranks_184 : decode cL_ranks 184 = .ok (.imul, 1) := by decide +kernel
theorem dL_ranks_185 : decode cL_ranks 185 = .ok (.iadd, 1) := by decide +kernel
theorem dL_ranks_186 : decode cL_ranks 186 = .ok (.iaload, 1) := by decide +kernel
theorem dL_ranks_187 : decode cL_ranks 187 = .ok (.iaload, 1) := by decide +kernel
theorem dL_ranks_188 : decode cL_ranks 188 = .ok (.iload 7, 2) := by decide +kernel
theorem dL_ranks_190 : decode cL_ranks 190 = .ok (.if_icmp .ne 18, 3) := by decide +kernel
theorem dL_ranks_193 : decode cL_ranks 193 = .ok (.aload_n 0, 1) := by decide +kernel
theorem dL_ranks_194 : decode cL_ranks 194 = .ok (.iload 9, 2) := by decide +kernel
theorem dL_ranks_196 : decode cL_ranks 196 = .ok (.aload 4, 2) := by decide +kernel
theorem dL_ranks_198 : decode cL_ranks 198 = .ok (.invokestatic 119, 3) := by decide +kernel
theorem dL_ranks_201 : decode cL_ranks 201 = .ok (.ifCond .eq 7, 3) := by decide +kernel
theorem dL_ranks_204 : decode cL_ranks 204 = .ok (.iconst 1, 1) := by decide +kernel
theorem dL_ranks_205 : decode cL_ranks 205 = .ok (.goto 4, 3) := by decide +kernel
theorem dL_ranks_208 : decode cL_ranks 208 = .ok (.iconst 0, 1) := by decide +kernel
theorem dL_ranks_209 : decode cL_ranks 209 = .ok (.ior, 1) := by decide +kernel
theorem dL_ranks_210 : decode cL_ranks 210 = .ok (.istore 8, 2) := by decide +kernel
theorem dL_ranks_212 : decode cL_ranks 212 = .ok (.iinc 9 1, 3) := by decide +kernel
theorem dL_ranks_215 : decode cL_ranks 215 = .ok (.goto (-59), 3) := by decide +kernel
theorem dL_ranks_218 : decode cL_ranks 218 = .ok (.goto (-73), 3) := by decide +kernel
theorem dL_ranks_221 : decode cL_ranks 221 = .ok (.iinc 7 1, 3) := by decide +kernel
theorem dL_ranks_224 : decode cL_ranks 224 = .ok (.goto (-89), 3) := by decide +kernel
theorem dL_ranks_227 : decode cL_ranks 227 = .ok (.aload 4, 2) := by decide +kernel
theorem dL_ranks_229 : decode cL_ranks 229 = .ok (.areturn, 1) := by decide +kernel
theorem dL_isUsed_0 : decode cL_isUsed 0 = .ok (.iconst 0, 1) := by decide +kernel
theorem dL_isUsed_1 : decode cL_isUsed 1 = .ok (.istore_n 3, 1) := by decide +kernel
theorem dL_isUsed_2 : decode cL_isUsed 2 = .ok (.sipush 1600, 3) := by decide +kernel
theorem dL_isUsed_5 : decode cL_isUsed 5 = .ok (.bipush 16, 2) := by decide +kernel
theorem dL_isUsed_7 : decode cL_isUsed 7 = .ok (.iload_n 1, 1) := by decide +kernel
theorem dL_isUsed_8 : decode cL_isUsed 8 = .ok (.imul, 1) := by decide +kernel
theorem dL_isUsed_9 : decode cL_isUsed 9 = .ok (.iadd, 1) := by decide +kernel
theorem dL_isUsed_10 : decode cL_isUsed 10 = .ok (.istore 4, 2) := by decide +kernel
theorem dL_isUsed_12 : decode cL_isUsed 12 = .ok (.iconst 3, 1) := by decide +kernel
theorem dL_isUsed_13 : decode cL_isUsed 13 = .ok (.newarray .int, 2) := by decide +kernel
theorem dL_isUsed_15 : decode cL_isUsed 15 = .ok (.astore 5, 2) := by decide +kernel
theorem dL_isUsed_17 : decode cL_isUsed 17 = .ok (.iconst 0, 1) := by decide +kernel
theorem dL_isUsed_18 : decode cL_isUsed 18 = .ok (.istore 6, 2) := by decide +kernel
theorem dL_isUsed_20 : decode cL_isUsed 20 = .ok (.iload 6, 2) := by decide +kernel
theorem dL_isUsed_22 : decode cL_isUsed 22 = .ok (.sipush 512, 3) := by decide +kernel
theorem dL_isUsed_25 : decode cL_isUsed 25 = .ok (.if_icmp .ge 176, 3) := by decide +kernel
theorem dL_isUsed_28 : decode cL_isUsed 28 = .ok (.aload 5, 2) := by decide +kernel
theorem dL_isUsed_30 : decode cL_isUsed 30 = .ok (.iconst 0, 1) := by decide +kernel
theorem dL_isUsed_31 : decode cL_isUsed 31 = .ok (.iload 6, 2) := by decide +kernel
theorem dL_isUsed_33 : decode cL_isUsed 33 = .ok (.bipush 64, 2) := by decide +kernel
theorem dL_isUsed_35 : decode cL_isUsed 35 = .ok (.idiv, 1) := by decide +kernel
theorem dL_isUsed_36 : decode cL_isUsed 36 = .ok (.iastore, 1) := by decide +kernel
theorem dL_isUsed_37 : decode cL_isUsed 37 = .ok (.aload 5, 2) := by decide +kernel
theorem dL_isUsed_39 : decode cL_isUsed 39 = .ok (.iconst 1, 1) := by decide +kernel
theorem dL_isUsed_40 : decode cL_isUsed 40 = .ok (.iload 6, 2) := by decide +kernel
theorem dL_isUsed_42 : decode cL_isUsed 42 = .ok (.bipush 8, 2) := by decide +kernel
theorem dL_isUsed_44 : decode cL_isUsed 44 = .ok (.idiv, 1) := by decide +kernel
theorem dL_isUsed_45 : decode cL_isUsed 45 = .ok (.bipush 8, 2) := by decide +kernel
theorem dL_isUsed_47 : decode cL_isUsed 47 = .ok (.irem, 1) := by decide +kernel
theorem dL_isUsed_48 : decode cL_isUsed 48 = .ok (.iastore, 1) := by decide +kernel
theorem dL_isUsed_49 : decode cL_isUsed 49 = .ok (.aload 5, 2) := by decide +kernel
theorem dL_isUsed_51 : decode cL_isUsed 51 = .ok (.iconst 2, 1) := by decide +kernel
theorem dL_isUsed_52 : decode cL_isUsed 52 = .ok (.iload 6, 2) := by decide +kernel
theorem dL_isUsed_54 : decode cL_isUsed 54 = .ok (.bipush 8, 2) := by decide +kernel
theorem dL_isUsed_56 : decode cL_isUsed 56 = .ok (.irem, 1) := by decide +kernel
theorem dL_isUsed_57 : decode cL_isUsed 57 = .ok (.iastore, 1) := by decide +kernel
theorem dL_isUsed_58 : decode cL_isUsed 58 = .ok (.iconst 0, 1) := by decide +kernel
theorem dL_isUsed_59 : decode cL_isUsed 59 = .ok (.istore 7, 2) := by decide +kernel
theorem dL_isUsed_61 : decode cL_isUsed 61 = .ok (.iconst 0, 1) := by decide +kernel
theorem dL_isUsed_62 : decode cL_isUsed 62 = .ok (.istore 8, 2) := by decide +kernel
theorem dL_isUsed_64 : decode cL_isUsed 64 = .ok (.iload 8, 2) := by decide +kernel
theorem dL_isUsed_66 : decode cL_isUsed 66 = .ok (.aload_n 0, 1) := by decide +kernel
theorem dL_isUsed_67 : decode cL_isUsed 67 = .ok (.iload 4, 2) := by decide +kernel
theorem dL_isUsed_69 : decode cL_isUsed 69 = .ok (.iaload, 1) := by decide +kernel
theorem dL_isUsed_70 : decode cL_isUsed 70 = .ok (.if_icmp .ge 84, 3) := by decide +kernel
theorem dL_isUsed_73 : decode cL_isUsed 73 = .ok (.aload_n 2, 1) := by decide +kernel
theorem dL_isUsed_74 : decode cL_isUsed 74 = .ok (.aload_n 0, 1) := by decide +kernel
theorem dL_isUsed_75 : decode cL_isUsed 75 = .ok (.iload 4, 2) := by decide +kernel
theorem dL_isUsed_77 : decode cL_isUsed 77 = .ok (.iconst 4, 1) := by decide +kernel
theorem dL_isUsed_78 : decode cL_isUsed 78 = .ok (.iadd, 1) := by decide +kernel
theorem dL_isUsed_79 : decode cL_isUsed 79 = .ok (.iconst 4, 1) := by decide +kernel
theorem dL_isUsed_80 : decode cL_isUsed 80 = .ok (.iload 8, 2) := by decide +kernel
theorem dL_isUsed_82 : decode cL_isUsed 82 = .ok (.imul, 1) := by decide +kernel
theorem dL_isUsed_83 : decode cL_isUsed 83 = .ok (.iadd, 1) := by decide +kernel
theorem dL_isUsed_84 : decode cL_isUsed 84 = .ok (.aload 5, 2) := by decide +kernel
theorem dL_isUsed_86 : decode cL_isUsed 86 = .ok (.invokestatic 123, 3) := by decide +kernel
theorem dL_isUsed_89 : decode cL_isUsed 89 = .ok (.iaload, 1) := by decide +kernel
theorem dL_isUsed_90 : decode cL_isUsed 90 = .ok (.istore 9, 2) := by decide +kernel
theorem dL_isUsed_92 : decode cL_isUsed 92 = .ok (.aload_n 0, 1) := by decide +kernel
theorem dL_isUsed_93 : decode cL_isUsed 93 = .ok (.iload 4, 2) := by decide +kernel
theorem dL_isUsed_95 : decode cL_isUsed 95 = .ok (.bipush 7, 2) := by decide +kernel
theorem dL_isUsed_97 : decode cL_isUsed 97 = .ok (.iadd, 1) := by decide +kernel
theorem dL_isUsed_98 : decode cL_isUsed 98 = .ok (.iconst 4, 1) := by decide +kernel
theorem dL_isUsed_99 : decode cL_isUsed 99 = .ok (.iload 8, 2) := by decide +kernel
theorem dL_isUsed_101 : decode cL_isUsed 101 = .ok (.imul, 1) := by decide +kernel
theorem dL_isUsed_102 : decode cL_isUsed 102 = .ok (.iadd, 1) := by decide +kernel
theorem dL_isUsed_103 : decode cL_isUsed 103 = .ok (.iaload, 1) := by decide +kernel
theorem dL_isUsed_104 : decode cL_isUsed 104 = .ok (.iconst 1, 1) := by decide +kernel
theorem dL_isUsed_105 : decode cL_isUsed 105 = .ok (.if_icmp .ne 7, 3) := by decide +kernel
theorem dL_isUsed_108 : decode cL_isUsed 108 = .ok (.iconst 1, 1) := by decide +kernel
theorem dL_isUsed_109 : decode cL_isUsed 109 = .ok (.goto 4, 3) := by decide +kernel
theorem dL_isUsed_112 : decode cL_isUsed 112 = .ok (.iconst 0, 1) := by decide +kernel
theorem dL_isUsed_113 : decode cL_isUsed 113 = .ok (.istore 10, 2) := by decide +kernel
theorem dL_isUsed_115 : decode cL_isUsed 115 = .ok (.iload 10, 2) := by decide +kernel
theorem dL_isUsed_117 : decode cL_isUsed 117 = .ok (.ifCond .eq 22, 3) := by decide +kernel
theorem dL_isUsed_120 : decode cL_isUsed 120 = .ok (.iload 9, 2) := by decide +kernel
theorem dL_isUsed_122 : decode cL_isUsed 122 = .ok (.sipush 999, 3) := by decide +kernel
theorem dL_isUsed_125 : decode cL_isUsed 125 = .ok (.if_icmp .ge 9, 3) := by decide +kernel
theorem dL_isUsed_128 : decode cL_isUsed 128 = .ok (.sipush 999, 3) := by decide +kernel
theorem dL_isUsed_131 : decode cL_isUsed 131 = .ok (.goto 15, 3) := by decide +kernel
theorem dL_isUsed_134 : decode cL_isUsed 134 = .ok (.iload 7, 2) := by decide +kernel
theorem dL_isUsed_136 : decode cL_isUsed 136 = .ok (.goto 10, 3) := by decide +kernel
theorem dL_isUsed_139 : decode cL_isUsed 139 = .ok (.iload 7, 2) := by decide +kernel
theorem dL_isUsed_141 : decode cL_isUsed 141 = .ok (.iload 9, 2) := by decide +kernel
theorem dL_isUsed_143 : decode cL_isUsed 143 = .ok (.invokestatic 102, 3) := by decide +kernel
theorem dL_isUsed_146 : decode cL_isUsed 146 = .ok (.istore 7, 2) := by decide +kernel
theorem dL_isUsed_148 : decode cL_isUsed 148 = .ok (.iinc 8 1, 3) := by decide +kernel
theorem dL_isUsed_151 : decode cL_isUsed 151 = .ok (.goto (-87), 3) := by decide +kernel
theorem dL_isUsed_154 : decode cL_isUsed 154 = .ok (.aload_n 0, 1) := by decide +kernel
theorem dL_isUsed_155 : decode cL_isUsed 155 = .ok (.iload 4, 2) := by decide +kernel
theorem dL_isUsed_157 : decode cL_isUsed 157 = .ok (.iconst 1, 1) := by decide +kernel
theorem dL_isUsed_158 : decode cL_isUsed 158 = .ok (.iadd, 1) := by decide +kernel
theorem dL_isUsed_159 : decode cL_isUsed 159 = .ok (.aload 5, 2) := by decide +kernel
theorem dL_isUsed_161 : decode cL_isUsed 161 = .ok (.invokestatic 123, 3) := by decide +kernel
theorem dL_isUsed_164 : decode cL_isUsed 164 = .ok (.istore 8, 2) := by decide +kernel
theorem dL_isUsed_166 : decode cL_isUsed 166 = .ok (.iload 7, 2) := by decide +kernel
theorem dL_isUsed_168 : decode cL_isUsed 168 = .ok (.sipush 999, 3) := by decide +kernel
theorem dL_isUsed_171 : decode cL_isUsed 171 = .ok (.if_icmp .ge 24, 3) := by decide +kernel
theorem dL_isUsed_174 : decode cL_isUsed 174 = .ok (.iload 7, 2) := by decide +kernel
theorem dL_isUsed_176 : decode cL_isUsed 176 = .ok (.iconst 1, 1) := by decide +kernel
theorem dL_isUsed_177 : decode cL_isUsed 177 = .ok (.iadd, 1) := by decide +kernel
theorem dL_isUsed_178 : decode cL_isUsed 178 = .ok (.aload_n 2, 1) := by decide +kernel
theorem dL_isUsed_179 : decode cL_isUsed 179 = .ok (.iload 8, 2) := by decide +kernel
theorem dL_isUsed_181 : decode cL_isUsed 181 = .ok (.iaload, 1) := by decide +kernel
theorem dL_isUsed_182 : decode cL_isUsed 182 = .ok (.if_icmp .ge 13, 3) := by decide +kernel
theorem dL_isUsed_185 : decode cL_isUsed 185 = .ok (.aload_n 2, 1) := by decide +kernel
theorem dL_isUsed_186 : decode cL_isUsed 186 = .ok (.iload 8, 2) := by decide +kernel
theorem dL_isUsed_188 : decode cL_isUsed 188 = .ok (.iload 7, 2) := by decide +kernel
theorem dL_isUsed_190 : decode cL_isUsed 190 = .ok (.iconst 1, 1) := by decide +kernel
theorem dL_isUsed_191 : decode cL_isUsed 191 = .ok (.iadd, 1) := by decide +kernel
theorem dL_isUsed_192 : decode cL_isUsed 192 = .ok (.iastore, 1) := by decide +kernel
theorem dL_isUsed_193 : decode cL_isUsed 193 = .ok (.iconst 1, 1) := by decide +kernel
theorem dL_isUsed_194 : decode cL_isUsed 194 = .ok (.istore_n 3, 1) := by decide +kernel
theorem dL_isUsed_195 : decode cL_isUsed 195 = .ok (.iinc 6 1, 3) := by decide +kernel
theorem dL_isUsed_198 : decode cL_isUsed 198 = .ok (.goto (-178), 3) := by decide +kernel
theorem dL_isUsed_201 : decode cL_isUsed 201 = .ok (.iload_n 3, 1) := by decide +kernel
theorem dL_isUsed_202 : decode cL_isUsed 202 = .ok (.ireturn, 1) := by decide +kernel
theorem dL_anyFact_0 : decode cL_anyFact 0 = .ok (.bipush 64, 2) := by decide +kernel
theorem dL_anyFact_2 : decode cL_anyFact 2 = .ok (.aload_n 0, 1) := by decide +kernel
theorem dL_anyFact_3 : decode cL_anyFact 3 = .ok (.iload_n 1, 1) := by decide +kernel
theorem dL_anyFact_4 : decode cL_anyFact 4 = .ok (.iconst 4, 1) := by decide +kernel
theorem dL_anyFact_5 : decode cL_anyFact 5 = .ok (.invokestatic 127, 3) := by decide +kernel
theorem dL_anyFact_8 : decode cL_anyFact 8 = .ok (.imul, 1) := by decide +kernel
theorem dL_anyFact_9 : decode cL_anyFact 9 = .ok (.bipush 8, 2) := by decide +kernel
theorem dL_anyFact_11 : decode cL_anyFact 11 = .ok (.aload_n 0, 1) := by decide +kernel
theorem dL_anyFact_12 : decode cL_anyFact 12 = .ok (.iload_n 1, 1) := by decide +kernel
theorem dL_anyFact_13 : decode cL_anyFact 13 = .ok (.iconst 1, 1) := by decide +kernel
theorem dL_anyFact_14 : decode cL_anyFact 14 = .ok (.iadd, 1) := by decide +kernel
theorem dL_anyFact_15 : decode cL_anyFact 15 = .ok (.iconst 4, 1) := by decide +kernel
theorem dL_anyFact_16 : decode cL_anyFact 16 = .ok (.invokestatic 127, 3) := by decide +kernel
theorem dL_anyFact_19 : decode cL_anyFact 19 = .ok (.imul, 1) := by decide +kernel
theorem dL_anyFact_20 : decode cL_anyFact 20 = .ok (.iadd, 1) := by decide +kernel
theorem dL_anyFact_21 : decode cL_anyFact 21 = .ok (.aload_n 0, 1) := by decide +kernel
theorem dL_anyFact_22 : decode cL_anyFact 22 = .ok (.iload_n 1, 1) := by decide +kernel
theorem dL_anyFact_23 : decode cL_anyFact 23 = .ok (.iconst 2, 1) := by decide +kernel
theorem dL_anyFact_24 : decode cL_anyFact 24 = .ok (.iadd, 1) := by decide +kernel
theorem dL_anyFact_25 : decode cL_anyFact 25 = .ok (.iconst 4, 1) := by decide +kernel
theorem dL_anyFact_26 : decode cL_anyFact 26 = .ok (.invokestatic 127, 3) := by decide +kernel
theorem dL_anyFact_29 : decode cL_anyFact 29 = .ok (.iadd, 1) := by decide +kernel
theorem dL_anyFact_30 : decode cL_anyFact 30 = .ok (.ireturn, 1) := by decide +kernel
theorem dL_isBound_0 : decode cL_isBound 0 = .ok (.sipush 1600, 3) := by decide +kernel
theorem dL_isBound_3 : decode cL_isBound 3 = .ok (.bipush 16, 2) := by decide +kernel
theorem dL_isBound_5 : decode cL_isBound 5 = .ok (.iload_n 1, 1) := by decide +kernel
theorem dL_isBound_6 : decode cL_isBound 6 = .ok (.imul, 1) := by decide +kernel
theorem dL_isBound_7 : decode cL_isBound 7 = .ok (.iadd, 1) := by decide +kernel
theorem dL_isBound_8 : decode cL_isBound 8 = .ok (.istore_n 3, 1) := by decide +kernel
theorem dL_isBound_9 : decode cL_isBound 9 = .ok (.iconst 0, 1) := by decide +kernel
theorem dL_isBound_10 : decode cL_isBound 10 = .ok (.istore 4, 2) := by decide +kernel
theorem dL_isBound_12 : decode cL_isBound 12 = .ok (.iload 4, 2) := by decide +kernel
theorem dL_isBound_14 : decode cL_isBound 14 = .ok (.aload_n 0, 1) := by decide +kernel
theorem dL_isBound_15 : decode cL_isBound 15 = .ok (.iload_n 3, 1) := by decide +kernel
theorem dL_isBound_16 : decode cL_isBound 16 = .ok (.iaload, 1) := by decide +kernel
theorem dL_isBound_17 : decode cL_isBound 17 = .ok (.if_icmp .ge 54, 3) := by decide +kernel
theorem dL_isBound_20 : decode cL_isBound 20 = .ok (.aload_n 0, 1) := by decide +kernel
theorem dL_isBound_21 : decode cL_isBound 21 = .ok (.iload_n 3, 1) := by decide +kernel
theorem dL_isBound_22 : decode cL_isBound 22 = .ok (.bipush 7, 2) := by decide +kernel
theorem dL_isBound_24 : decode cL_isBound 24 = .ok (.iadd, 1) := by decide +kernel
theorem dL_isBound_25 : decode cL_isBound 25 = .ok (.iconst 4, 1) := by decide +kernel
theorem dL_isBound_26 : decode cL_isBound 26 = .ok (.iload 4, 2) := by decide +kernel
theorem dL_isBound_28 : decode cL_isBound 28 = .ok (.imul, 1) := by decide +kernel
theorem dL_isBound_29 : decode cL_isBound 29 = .ok (.iadd, 1) := by decide +kernel
theorem dL_isBound_30 : decode cL_isBound 30 = .ok (.iaload, 1) := by decide +kernel
theorem dL_isBound_31 : decode cL_isBound 31 = .ok (.ifCond .ne 34, 3) := by decide +kernel
theorem dL_isBound_34 : decode cL_isBound 34 = .ok (.aload_n 0, 1) := by decide +kernel
theorem dL_isBound_35 : decode cL_isBound 35 = .ok (.iload_n 3, 1) := by decide +kernel
theorem dL_isBound_36 : decode cL_isBound 36 = .ok (.iconst 5, 1) := by decide +kernel
theorem dL_isBound_37 : decode cL_isBound 37 = .ok (.iadd, 1) := by decide +kernel
theorem dL_isBound_38 : decode cL_isBound 38 = .ok (.iconst 4, 1) := by decide +kernel
theorem dL_isBound_39 : decode cL_isBound 39 = .ok (.iload 4, 2) := by decide +kernel
theorem dL_isBound_41 : decode cL_isBound 41 = .ok (.imul, 1) := by decide +kernel
theorem dL_isBound_42 : decode cL_isBound 42 = .ok (.iadd, 1) := by decide +kernel
theorem dL_isBound_43 : decode cL_isBound 43 = .ok (.iaload, 1) := by decide +kernel
theorem dL_isBound_44 : decode cL_isBound 44 = .ok (.iload_n 2, 1) := by decide +kernel
theorem dL_isBound_45 : decode cL_isBound 45 = .ok (.if_icmp .eq 18, 3) := by decide +kernel
theorem dL_isBound_48 : decode cL_isBound 48 = .ok (.aload_n 0, 1) := by decide +kernel
theorem dL_isBound_49 : decode cL_isBound 49 = .ok (.iload_n 3, 1) := by decide +kernel
theorem dL_isBound_50 : decode cL_isBound 50 = .ok (.bipush 6, 2) := by decide +kernel
theorem dL_isBound_52 : decode cL_isBound 52 = .ok (.iadd, 1) := by decide +kernel
theorem dL_isBound_53 : decode cL_isBound 53 = .ok (.iconst 4, 1) := by decide +kernel
theorem dL_isBound_54 : decode cL_isBound 54 = .ok (.iload 4, 2) := by decide +kernel
theorem dL_isBound_56 : decode cL_isBound 56 = .ok (.imul, 1) := by decide +kernel
theorem dL_isBound_57 : decode cL_isBound 57 = .ok (.iadd, 1) := by decide +kernel
theorem dL_isBound_58 : decode cL_isBound 58 = .ok (.iaload, 1) := by decide +kernel
theorem dL_isBound_59 : decode cL_isBound 59 = .ok (.iload_n 2, 1) := by decide +kernel
theorem dL_isBound_60 : decode cL_isBound 60 = .ok (.if_icmp .ne 5, 3) := by decide +kernel
theorem dL_isBound_63 : decode cL_isBound 63 = .ok (.iconst 1, 1) := by decide +kernel
theorem dL_isBound_64 : decode cL_isBound 64 = .ok (.ireturn, 1) := by decide +kernel
theorem dL_isBound_65 : decode cL_isBound 65 = .ok (.iinc 4 1, 3) := by decide +kernel
theorem dL_isBound_68 : decode cL_isBound 68 = .ok (.goto (-56), 3) := by decide +kernel
theorem dL_isBound_71 : decode cL_isBound 71 = .ok (.iconst 0, 1) := by decide +kernel
theorem dL_isBound_72 : decode cL_isBound 72 = .ok (.ireturn, 1) := by decide +kernel
theorem dL_canTurn_0 : decode cL_canTurn 0 = .ok (.sipush 1600, 3) := by decide +kernel
theorem dL_canTurn_3 : decode cL_canTurn 3 = .ok (.bipush 16, 2) := by decide +kernel
theorem dL_canTurn_5 : decode cL_canTurn 5 = .ok (.iload_n 2, 1) := by decide +kernel
theorem dL_canTurn_6 : decode cL_canTurn 6 = .ok (.imul, 1) := by decide +kernel
theorem dL_canTurn_7 : decode cL_canTurn 7 = .ok (.iadd, 1) := by decide +kernel
theorem dL_canTurn_8 : decode cL_canTurn 8 = .ok (.istore_n 3, 1) := by decide +kernel
theorem dL_canTurn_9 : decode cL_canTurn 9 = .ok (.aload_n 0, 1) := by decide +kernel
theorem dL_canTurn_10 : decode cL_canTurn 10 = .ok (.iload_n 2, 1) := by decide +kernel
theorem dL_canTurn_11 : decode cL_canTurn 11 = .ok (.aload_n 0, 1) := by decide +kernel
theorem dL_canTurn_12 : decode cL_canTurn 12 = .ok (.iload_n 3, 1) := by decide +kernel
theorem dL_canTurn_13 : decode cL_canTurn 13 = .ok (.iconst 2, 1) := by decide +kernel
theorem dL_canTurn_14 : decode cL_canTurn 14 = .ok (.iadd, 1) := by decide +kernel
theorem dL_canTurn_15 : decode cL_canTurn 15 = .ok (.iaload, 1) := by decide +kernel
theorem dL_canTurn_16 : decode cL_canTurn 16 = .ok (.invokestatic 131, 3) := by decide +kernel
theorem dL_canTurn_19 : decode cL_canTurn 19 = .ok (.ifCond .eq 20, 3) := by decide +kernel
theorem dL_canTurn_22 : decode cL_canTurn 22 = .ok (.aload_n 0, 1) := by decide +kernel
theorem dL_canTurn_23 : decode cL_canTurn 23 = .ok (.iload_n 2, 1) := by decide +kernel
theorem dL_canTurn_24 : decode cL_canTurn 24 = .ok (.aload_n 0, 1) := by decide +kernel
theorem dL_canTurn_25 : decode cL_canTurn 25 = .ok (.iload_n 3, 1) := by decide +kernel
theorem dL_canTurn_26 : decode cL_canTurn 26 = .ok (.iconst 3, 1) := by decide +kernel
theorem dL_canTurn_27 : decode cL_canTurn 27 = .ok (.iadd, 1) := by decide +kernel
theorem dL_canTurn_28 : decode cL_canTurn 28 = .ok (.iaload, 1) := by decide +kernel
theorem dL_canTurn_29 : decode cL_canTurn 29 = .ok (.invokestatic 131, 3) := by decide +kernel
theorem dL_canTurn_32 : decode cL_canTurn 32 = .ok (.ifCond .eq 7, 3) := by decide +kernel
theorem dL_canTurn_35 : decode cL_canTurn 35 = .ok (.iconst 1, 1) := by decide +kernel
theorem dL_canTurn_36 : decode cL_canTurn 36 = .ok (.goto 4, 3) := by decide +kernel
theorem dL_canTurn_39 : decode cL_canTurn 39 = .ok (.iconst 0, 1) := by decide +kernel
theorem dL_canTurn_40 : decode cL_canTurn 40 = .ok (.istore 4, 2) := by decide +kernel
theorem dL_canTurn_42 : decode cL_canTurn 42 = .ok (.iconst 0, 1) := by decide +kernel
theorem dL_canTurn_43 : decode cL_canTurn 43 = .ok (.istore 5, 2) := by decide +kernel
theorem dL_canTurn_45 : decode cL_canTurn 45 = .ok (.iload 5, 2) := by decide +kernel
theorem dL_canTurn_47 : decode cL_canTurn 47 = .ok (.aload_n 0, 1) := by decide +kernel
theorem dL_canTurn_48 : decode cL_canTurn 48 = .ok (.iload_n 3, 1) := by decide +kernel
theorem dL_canTurn_49 : decode cL_canTurn 49 = .ok (.iaload, 1) := by decide +kernel
theorem dL_canTurn_50 : decode cL_canTurn 50 = .ok (.if_icmp .ge 70, 3) := by decide +kernel
theorem dL_canTurn_53 : decode cL_canTurn 53 = .ok (.iload 4, 2) := by decide +kernel
theorem dL_canTurn_55 : decode cL_canTurn 55 = .ok (.aload_n 0, 1) := by decide +kernel
theorem dL_canTurn_56 : decode cL_canTurn 56 = .ok (.iload_n 3, 1) := by decide +kernel
theorem dL_canTurn_57 : decode cL_canTurn 57 = .ok (.bipush 7, 2) := by decide +kernel
theorem dL_canTurn_59 : decode cL_canTurn 59 = .ok (.iadd, 1) := by decide +kernel
theorem dL_canTurn_60 : decode cL_canTurn 60 = .ok (.iconst 4, 1) := by decide +kernel
theorem dL_canTurn_61 : decode cL_canTurn 61 = .ok (.iload 5, 2) := by decide +kernel
theorem dL_canTurn_63 : decode cL_canTurn 63 = .ok (.imul, 1) := by decide +kernel
theorem dL_canTurn_64 : decode cL_canTurn 64 = .ok (.iadd, 1) := by decide +kernel
theorem dL_canTurn_65 : decode cL_canTurn 65 = .ok (.iaload, 1) := by decide +kernel
theorem dL_canTurn_66 : decode cL_canTurn 66 = .ok (.ifCond .eq 40, 3) := by decide +kernel
theorem dL_canTurn_69 : decode cL_canTurn 69 = .ok (.aload_n 0, 1) := by decide +kernel
theorem dL_canTurn_70 : decode cL_canTurn 70 = .ok (.iload_n 2, 1) := by decide +kernel
theorem dL_canTurn_71 : decode cL_canTurn 71 = .ok (.aload_n 0, 1) := by decide +kernel
theorem dL_canTurn_72 : decode cL_canTurn 72 = .ok (.iload_n 3, 1) := by decide +kernel
theorem dL_canTurn_73 : decode cL_canTurn 73 = .ok (.iconst 5, 1) := by decide +kernel
theorem dL_canTurn_74 : decode cL_canTurn 74 = .ok (.iadd, 1) := by decide +kernel
theorem dL_canTurn_75 : decode cL_canTurn 75 = .ok (.iconst 4, 1) := by decide +kernel
theorem dL_canTurn_76 : decode cL_canTurn 76 = .ok (.iload 5, 2) := by decide +kernel
theorem dL_canTurn_78 : decode cL_canTurn 78 = .ok (.imul, 1) := by decide +kernel
theorem dL_canTurn_79 : decode cL_canTurn 79 = .ok (.iadd, 1) := by decide +kernel
theorem dL_canTurn_80 : decode cL_canTurn 80 = .ok (.iaload, 1) := by decide +kernel
theorem dL_canTurn_81 : decode cL_canTurn 81 = .ok (.invokestatic 131, 3) := by decide +kernel
theorem dL_canTurn_84 : decode cL_canTurn 84 = .ok (.ifCond .eq 26, 3) := by decide +kernel
theorem dL_canTurn_87 : decode cL_canTurn 87 = .ok (.aload_n 0, 1) := by decide +kernel
theorem dL_canTurn_88 : decode cL_canTurn 88 = .ok (.iload_n 2, 1) := by decide +kernel
theorem dL_canTurn_89 : decode cL_canTurn 89 = .ok (.aload_n 0, 1) := by decide +kernel
theorem dL_canTurn_90 : decode cL_canTurn 90 = .ok (.iload_n 3, 1) := by decide +kernel
theorem dL_canTurn_91 : decode cL_canTurn 91 = .ok (.bipush 6, 2) := by decide +kernel
theorem dL_canTurn_93 : decode cL_canTurn 93 = .ok (.iadd, 1) := by decide +kernel
theorem dL_canTurn_94 : decode cL_canTurn 94 = .ok (.iconst 4, 1) := by decide +kernel
theorem dL_canTurn_95 : decode cL_canTurn 95 = .ok (.iload 5, 2) := by decide +kernel
theorem dL_canTurn_97 : decode cL_canTurn 97 = .ok (.imul, 1) := by decide +kernel
theorem dL_canTurn_98 : decode cL_canTurn 98 = .ok (.iadd, 1) := by decide +kernel
theorem dL_canTurn_99 : decode cL_canTurn 99 = .ok (.iaload, 1) := by decide +kernel
theorem dL_canTurn_100 : decode cL_canTurn 100 = .ok (.invokestatic 131, 3) := by decide +kernel
theorem dL_canTurn_103 : decode cL_canTurn 103 = .ok (.ifCond .eq 7, 3) := by decide +kernel
theorem dL_canTurn_106 : decode cL_canTurn 106 = .ok (.iconst 1, 1) := by decide +kernel
theorem dL_canTurn_107 : decode cL_canTurn 107 = .ok (.goto 4, 3) := by decide +kernel
theorem dL_canTurn_110 : decode cL_canTurn 110 = .ok (.iconst 0, 1) := by decide +kernel
theorem dL_canTurn_111 : decode cL_canTurn 111 = .ok (.iand, 1) := by decide +kernel
theorem dL_canTurn_112 : decode cL_canTurn 112 = .ok (.istore 4, 2) := by decide +kernel
theorem dL_canTurn_114 : decode cL_canTurn 114 = .ok (.iinc 5 1, 3) := by decide +kernel
theorem dL_canTurn_117 : decode cL_canTurn 117 = .ok (.goto (-72), 3) := by decide +kernel
theorem dL_canTurn_120 : decode cL_canTurn 120 = .ok (.aload_n 0, 1) := by decide +kernel
theorem dL_canTurn_121 : decode cL_canTurn 121 = .ok (.iload_n 1, 1) := by decide +kernel
theorem dL_canTurn_122 : decode cL_canTurn 122 = .ok (.aload_n 0, 1) := by decide +kernel
theorem dL_canTurn_123 : decode cL_canTurn 123 = .ok (.iload_n 1, 1) := by decide +kernel
theorem dL_canTurn_124 : decode cL_canTurn 124 = .ok (.iaload, 1) := by decide +kernel
theorem dL_canTurn_125 : decode cL_canTurn 125 = .ok (.invokestatic 111, 3) := by decide +kernel
theorem dL_canTurn_128 : decode cL_canTurn 128 = .ok (.astore 5, 2) := by decide +kernel
theorem dL_canTurn_130 : decode cL_canTurn 130 = .ok (.aload 5, 2) := by decide +kernel
theorem dL_canTurn_132 : decode cL_canTurn 132 = .ok (.iload_n 2, 1) := by decide +kernel
theorem dL_canTurn_133 : decode cL_canTurn 133 = .ok (.iconst 1, 1) := by decide +kernel
theorem dL_canTurn_134 : decode cL_canTurn 134 = .ok (.bastore, 1) := by decide +kernel
theorem dL_canTurn_135 : decode cL_canTurn 135 = .ok (.iload 4, 2) := by decide +kernel
theorem dL_canTurn_137 : decode cL_canTurn 137 = .ok (.ifCond .eq 19, 3) := by decide +kernel
theorem dL_canTurn_140 : decode cL_canTurn 140 = .ok (.aload_n 0, 1) := by decide +kernel
theorem dL_canTurn_141 : decode cL_canTurn 141 = .ok (.aload 5, 2) := by decide +kernel
theorem dL_canTurn_143 : decode cL_canTurn 143 = .ok (.invokestatic 115, 3) := by decide +kernel
theorem dL_canTurn_146 : decode cL_canTurn 146 = .ok (.bipush 6, 2) := by decide +kernel
theorem dL_canTurn_148 : decode cL_canTurn 148 = .ok (.iaload, 1) := by decide +kernel
theorem dL_canTurn_149 : decode cL_canTurn 149 = .ok (.ifCond .ne 7, 3) := by decide +kernel
theorem dL_canTurn_152 : decode cL_canTurn 152 = .ok (.iconst 1, 1) := by decide +kernel
theorem dL_canTurn_153 : decode cL_canTurn 153 = .ok (.goto 4, 3) := by decide +kernel
theorem dL_canTurn_156 : decode cL_canTurn 156 = .ok (.iconst 0, 1) := by decide +kernel
theorem dL_canTurn_157 : decode cL_canTurn 157 = .ok (.ireturn, 1) := by decide +kernel
theorem dL_isRule_0 : decode cL_isRule 0 = .ok (.aload_n 1, 1) := by decide +kernel
theorem dL_isRule_1 : decode cL_isRule 1 = .ok (.iconst 5, 1) := by decide +kernel
theorem dL_isRule_2 : decode cL_isRule 2 = .ok (.iaload, 1) := by decide +kernel
theorem dL_isRule_3 : decode cL_isRule 3 = .ok (.istore 4, 2) := by decide +kernel
theorem dL_isRule_5 : decode cL_isRule 5 = .ok (.sipush 1600, 3) := by decide +kernel
theorem dL_isRule_8 : decode cL_isRule 8 = .ok (.bipush 16, 2) := by decide +kernel
theorem dL_isRule_10 : decode cL_isRule 10 = .ok (.iload 4, 2) := by decide +kernel
theorem dL_isRule_12 : decode cL_isRule 12 = .ok (.imul, 1) := by decide +kernel
theorem dL_isRule_13 : decode cL_isRule 13 = .ok (.iadd, 1) := by decide +kernel
theorem dL_isRule_14 : decode cL_isRule 14 = .ok (.istore 5, 2) := by decide +kernel
theorem dL_isRule_16 : decode cL_isRule 16 = .ok (.iconst 1, 1) := by decide +kernel
theorem dL_isRule_17 : decode cL_isRule 17 = .ok (.aload_n 2, 1) := by decide +kernel
theorem dL_isRule_18 : decode cL_isRule 18 = .ok (.iload_n 3, 1) := by decide +kernel
theorem dL_isRule_19 : decode cL_isRule 19 = .ok (.iconst 3, 1) := by decide +kernel
theorem dL_isRule_20 : decode cL_isRule 20 = .ok (.invokestatic 127, 3) := by decide +kernel
theorem dL_isRule_23 : decode cL_isRule 23 = .ok (.iadd, 1) := by decide +kernel
theorem dL_isRule_24 : decode cL_isRule 24 = .ok (.istore 6, 2) := by decide +kernel
theorem dL_isRule_26 : decode cL_isRule 26 = .ok (.aload_n 1, 1) := by decide +kernel
theorem dL_isRule_27 : decode cL_isRule 27 = .ok (.iload 5, 2) := by decide +kernel
theorem dL_isRule_29 : decode cL_isRule 29 = .ok (.iconst 1, 1) := by decide +kernel
theorem dL_isRule_30 : decode cL_isRule 30 = .ok (.iadd, 1) := by decide +kernel
theorem dL_isRule_31 : decode cL_isRule 31 = .ok (.aload_n 2, 1) := by decide +kernel
theorem dL_isRule_32 : decode cL_isRule 32 = .ok (.iload_n 3, 1) := by decide +kernel
theorem dL_isRule_33 : decode cL_isRule 33 = .ok (.iconst 1, 1) := by decide +kernel
theorem dL_isRule_34 : decode cL_isRule 34 = .ok (.iadd, 1) := by decide +kernel
theorem dL_isRule_35 : decode cL_isRule 35 = .ok (.bipush 6, 2) := by decide +kernel
theorem dL_isRule_37 : decode cL_isRule 37 = .ok (.invokestatic 127, 3) := by decide +kernel
theorem dL_isRule_40 : decode cL_isRule 40 = .ok (.iastore, 1) := by decide +kernel
theorem dL_isRule_41 : decode cL_isRule 41 = .ok (.aload_n 1, 1) := by decide +kernel
theorem dL_isRule_42 : decode cL_isRule 42 = .ok (.iload 5, 2) := by decide +kernel
theorem dL_isRule_44 : decode cL_isRule 44 = .ok (.iconst 2, 1) := by decide +kernel
theorem dL_isRule_45 : decode cL_isRule 45 = .ok (.iadd, 1) := by decide +kernel
theorem dL_isRule_46 : decode cL_isRule 46 = .ok (.aload_n 2, 1) := by decide +kernel
theorem dL_isRule_47 : decode cL_isRule 47 = .ok (.iload_n 3, 1) := by decide +kernel
theorem dL_isRule_48 : decode cL_isRule 48 = .ok (.iconst 2, 1) := by decide +kernel
theorem dL_isRule_49 : decode cL_isRule 49 = .ok (.iadd, 1) := by decide +kernel
theorem dL_isRule_50 : decode cL_isRule 50 = .ok (.iconst 2, 1) := by decide +kernel
theorem dL_isRule_51 : decode cL_isRule 51 = .ok (.invokestatic 127, 3) := by decide +kernel
theorem dL_isRule_54 : decode cL_isRule 54 = .ok (.iastore, 1) := by decide +kernel
theorem dL_isRule_55 : decode cL_isRule 55 = .ok (.aload_n 1, 1) := by decide +kernel
theorem dL_isRule_56 : decode cL_isRule 56 = .ok (.iload 5, 2) := by decide +kernel
theorem dL_isRule_58 : decode cL_isRule 58 = .ok (.iconst 3, 1) := by decide +kernel
theorem dL_isRule_59 : decode cL_isRule 59 = .ok (.iadd, 1) := by decide +kernel
theorem dL_isRule_60 : decode cL_isRule 60 = .ok (.aload_n 2, 1) := by decide +kernel
theorem dL_isRule_61 : decode cL_isRule 61 = .ok (.iload_n 3, 1) := by decide +kernel
theorem dL_isRule_62 : decode cL_isRule 62 = .ok (.iconst 3, 1) := by decide +kernel
theorem dL_isRule_63 : decode cL_isRule 63 = .ok (.iadd, 1) := by decide +kernel
theorem dL_isRule_64 : decode cL_isRule 64 = .ok (.iconst 3, 1) := by decide +kernel
theorem dL_isRule_65 : decode cL_isRule 65 = .ok (.invokestatic 127, 3) := by decide +kernel
theorem dL_isRule_68 : decode cL_isRule 68 = .ok (.iastore, 1) := by decide +kernel
theorem dL_isRule_69 : decode cL_isRule 69 = .ok (.iconst 0, 1) := by decide +kernel
theorem dL_isRule_70 : decode cL_isRule 70 = .ok (.istore 7, 2) := by decide +kernel
theorem dL_isRule_72 : decode cL_isRule 72 = .ok (.iload 7, 2) := by decide +kernel
theorem dL_isRule_74 : decode cL_isRule 74 = .ok (.iload 6, 2) := by decide +kernel
theorem dL_isRule_76 : decode cL_isRule 76 = .ok (.if_icmp .ge 291, 3) := by decide +kernel
theorem dL_isRule_79 : decode cL_isRule 79 = .ok (.aload_n 1, 1) := by decide +kernel
theorem dL_isRule_80 : decode cL_isRule 80 = .ok (.iload 5, 2) := by decide +kernel
theorem dL_isRule_82 : decode cL_isRule 82 = .ok (.iconst 4, 1) := by decide +kernel
theorem dL_isRule_83 : decode cL_isRule 83 = .ok (.iadd, 1) := by decide +kernel
theorem dL_isRule_84 : decode cL_isRule 84 = .ok (.iconst 4, 1) := by decide +kernel
theorem dL_isRule_85 : decode cL_isRule 85 = .ok (.iload 7, 2) := by decide +kernel
theorem dL_isRule_87 : decode cL_isRule 87 = .ok (.imul, 1) := by decide +kernel
theorem dL_isRule_88 : decode cL_isRule 88 = .ok (.iadd, 1) := by decide +kernel
theorem dL_isRule_89 : decode cL_isRule 89 = .ok (.aload_n 2, 1) := by decide +kernel
theorem dL_isRule_90 : decode cL_isRule 90 = .ok (.iload_n 3, 1) := by decide +kernel
theorem dL_isRule_91 : decode cL_isRule 91 = .ok (.iconst 4, 1) := by decide +kernel
theorem dL_isRule_92 : decode cL_isRule 92 = .ok (.iadd, 1) := by decide +kernel
theorem dL_isRule_93 : decode cL_isRule 93 = .ok (.iconst 4, 1) := by decide +kernel
theorem dL_isRule_94 : decode cL_isRule 94 = .ok (.iload 7, 2) := by decide +kernel
theorem dL_isRule_96 : decode cL_isRule 96 = .ok (.imul, 1) := by decide +kernel
theorem dL_isRule_97 : decode cL_isRule 97 = .ok (.iadd, 1) := by decide +kernel
theorem dL_isRule_98 : decode cL_isRule 98 = .ok (.iconst 5, 1) := by decide +kernel
theorem dL_isRule_99 : decode cL_isRule 99 = .ok (.invokestatic 127, 3) := by decide +kernel
theorem dL_isRule_102 : decode cL_isRule 102 = .ok (.iastore, 1) := by decide +kernel
theorem dL_isRule_103 : decode cL_isRule 103 = .ok (.aload_n 1, 1) := by decide +kernel
theorem dL_isRule_104 : decode cL_isRule 104 = .ok (.iload 5, 2) := by decide +kernel
theorem dL_isRule_106 : decode cL_isRule 106 = .ok (.iconst 5, 1) := by decide +kernel
theorem dL_isRule_107 : decode cL_isRule 107 = .ok (.iadd, 1) := by decide +kernel
theorem dL_isRule_108 : decode cL_isRule 108 = .ok (.iconst 4, 1) := by decide +kernel
theorem dL_isRule_109 : decode cL_isRule 109 = .ok (.iload 7, 2) := by decide +kernel
theorem dL_isRule_111 : decode cL_isRule 111 = .ok (.imul, 1) := by decide +kernel
theorem dL_isRule_112 : decode cL_isRule 112 = .ok (.iadd, 1) := by decide +kernel
theorem dL_isRule_113 : decode cL_isRule 113 = .ok (.iload 7, 2) := by decide +kernel
theorem dL_isRule_115 : decode cL_isRule 115 = .ok (.ifCond .ne 7, 3) := by decide +kernel
theorem dL_isRule_118 : decode cL_isRule 118 = .ok (.iconst 0, 1) := by decide +kernel
theorem dL_isRule_119 : decode cL_isRule 119 = .ok (.goto 16, 3) := by decide +kernel
theorem dL_isRule_122 : decode cL_isRule 122 = .ok (.aload_n 2, 1) := by decide +kernel
theorem dL_isRule_123 : decode cL_isRule 123 = .ok (.iload_n 3, 1) := by decide +kernel
theorem dL_isRule_124 : decode cL_isRule 124 = .ok (.iconst 5, 1) := by decide +kernel
theorem dL_isRule_125 : decode cL_isRule 125 = .ok (.iadd, 1) := by decide +kernel
theorem dL_isRule_126 : decode cL_isRule 126 = .ok (.iconst 4, 1) := by decide +kernel
theorem dL_isRule_127 : decode cL_isRule 127 = .ok (.iload 7, 2) := by decide +kernel
theorem dL_isRule_129 : decode cL_isRule 129 = .ok (.imul, 1) := by decide +kernel
theorem dL_isRule_130 : decode cL_isRule 130 = .ok (.iadd, 1) := by decide +kernel
theorem dL_isRule_131 : decode cL_isRule 131 = .ok (.iconst 3, 1) := by decide +kernel
theorem dL_isRule_132 : decode cL_isRule 132 = .ok (.invokestatic 127, 3) := by decide +kernel
theorem dL_isRule_135 : decode cL_isRule 135 = .ok (.iastore, 1) := by decide +kernel
theorem dL_isRule_136 : decode cL_isRule 136 = .ok (.aload_n 1, 1) := by decide +kernel
theorem dL_isRule_137 : decode cL_isRule 137 = .ok (.iload 5, 2) := by decide +kernel
theorem dL_isRule_139 : decode cL_isRule 139 = .ok (.bipush 6, 2) := by decide +kernel
theorem dL_isRule_141 : decode cL_isRule 141 = .ok (.iadd, 1) := by decide +kernel
theorem dL_isRule_142 : decode cL_isRule 142 = .ok (.iconst 4, 1) := by decide +kernel
theorem dL_isRule_143 : decode cL_isRule 143 = .ok (.iload 7, 2) := by decide +kernel
theorem dL_isRule_145 : decode cL_isRule 145 = .ok (.imul, 1) := by decide +kernel
theorem dL_isRule_146 : decode cL_isRule 146 = .ok (.iadd, 1) := by decide +kernel
theorem dL_isRule_147 : decode cL_isRule 147 = .ok (.iload 7, 2) := by decide +kernel
theorem dL_isRule_149 : decode cL_isRule 149 = .ok (.ifCond .ne 17, 3) := by decide +kernel
theorem dL_isRule_152 : decode cL_isRule 152 = .ok (.iconst 1, 1) := by decide +kernel
theorem dL_isRule_153 : decode cL_isRule 153 = .ok (.aload_n 2, 1) := by decide +kernel
theorem dL_isRule_154 : decode cL_isRule 154 = .ok (.iload_n 3, 1) := by decide +kernel
theorem dL_isRule_155 : decode cL_isRule 155 = .ok (.bipush 6, 2) := by decide +kernel
theorem dL_isRule_157 : decode cL_isRule 157 = .ok (.iadd, 1) := by decide +kernel
theorem dL_isRule_158 : decode cL_isRule 158 = .ok (.iconst 2, 1) := by decide +kernel
theorem dL_isRule_159 : decode cL_isRule 159 = .ok (.invokestatic 127, 3) := by decide +kernel
theorem dL_isRule_162 : decode cL_isRule 162 = .ok (.iadd, 1) := by decide +kernel
theorem dL_isRule_163 : decode cL_isRule 163 = .ok (.goto 17, 3) := by decide +kernel
theorem dL_isRule_166 : decode cL_isRule 166 = .ok (.aload_n 2, 1) := by decide +kernel
theorem dL_isRule_167 : decode cL_isRule 167 = .ok (.iload_n 3, 1) := by decide +kernel
theorem dL_isRule_168 : decode cL_isRule 168 = .ok (.bipush 6, 2) := by decide +kernel
theorem dL_isRule_170 : decode cL_isRule 170 = .ok (.iadd, 1) := by decide +kernel
theorem dL_isRule_171 : decode cL_isRule 171 = .ok (.iconst 4, 1) := by decide +kernel
theorem dL_isRule_172 : decode cL_isRule 172 = .ok (.iload 7, 2) := by decide +kernel
theorem dL_isRule_174 : decode cL_isRule 174 = .ok (.imul, 1) := by decide +kernel
theorem dL_isRule_175 : decode cL_isRule 175 = .ok (.iadd, 1) := by decide +kernel
theorem dL_isRule_176 : decode cL_isRule 176 = .ok (.iconst 3, 1) := by decide +kernel
theorem dL_isRule_177 : decode cL_isRule 177 = .ok (.invokestatic 127, 3) := by decide +kernel
theorem dL_isRule_180 : decode cL_isRule 180 = .ok (.iastore, 1) := by decide +kernel
theorem dL_isRule_181 : decode cL_isRule 181 = .ok (.aload_n 1, 1) := by decide +kernel
theorem dL_isRule_182 : decode cL_isRule 182 = .ok (.iload 5, 2) := by decide +kernel
theorem dL_isRule_184 : decode cL_isRule 184 = .ok (.bipush 7, 2) := by decide +kernel
theorem dL_isRule_186 : decode cL_isRule 186 = .ok (.iadd, 1) := by decide +kernel
theorem dL_isRule_187 : decode cL_isRule 187 = .ok (.iconst 4, 1) := by decide +kernel
theorem dL_isRule_188 : decode cL_isRule 188 = .ok (.iload 7, 2) := by decide +kernel
theorem dL_isRule_190 : decode cL_isRule 190 = .ok (.imul, 1) := by decide +kernel
theorem dL_isRule_191 : decode cL_isRule 191 = .ok (.iadd, 1) := by decide +kernel
theorem dL_isRule_192 : decode cL_isRule 192 = .ok (.iload 7, 2) := by decide +kernel
theorem dL_isRule_194 : decode cL_isRule 194 = .ok (.ifCond .eq 20, 3) := by decide +kernel
theorem dL_isRule_197 : decode cL_isRule 197 = .ok (.aload_n 2, 1) := by decide +kernel
theorem dL_isRule_198 : decode cL_isRule 198 = .ok (.iload_n 3, 1) := by decide +kernel
theorem dL_isRule_199 : decode cL_isRule 199 = .ok (.bipush 7, 2) := by decide +kernel
theorem dL_isRule_201 : decode cL_isRule 201 = .ok (.iadd, 1) := by decide +kernel
theorem dL_isRule_202 : decode cL_isRule 202 = .ok (.iconst 4, 1) := by decide +kernel
theorem dL_isRule_203 : decode cL_isRule 203 = .ok (.iload 7, 2) := by decide +kernel
theorem dL_isRule_205 : decode cL_isRule 205 = .ok (.imul, 1) := by decide +kernel
theorem dL_isRule_206 : decode cL_isRule 206 = .ok (.iadd, 1) := by decide +kernel
theorem dL_isRule_207 : decode cL_isRule 207 = .ok (.iconst 3, 1) := by decide +kernel
theorem dL_isRule_208 : decode cL_isRule 208 = .ok (.invokestatic 127, 3) := by decide +kernel
theorem dL_isRule_211 : decode cL_isRule 211 = .ok (.ifCond .le 7, 3) := by decide +kernel
theorem dL_isRule_214 : decode cL_isRule 214 = .ok (.iconst 0, 1) := by decide +kernel
theorem dL_isRule_215 : decode cL_isRule 215 = .ok (.goto 4, 3) := by decide +kernel
theorem dL_isRule_218 : decode cL_isRule 218 = .ok (.iconst 1, 1) := by decide +kernel
theorem dL_isRule_219 : decode cL_isRule 219 = .ok (.iastore, 1) := by decide +kernel
theorem dL_isRule_220 : decode cL_isRule 220 = .ok (.iload 7, 2) := by decide +kernel
theorem dL_isRule_222 : decode cL_isRule 222 = .ok (.ifCond .ne 47, 3) := by decide +kernel
theorem dL_isRule_225 : decode cL_isRule 225 = .ok (.aload_n 0, 1) := by decide +kernel
theorem dL_isRule_226 : decode cL_isRule 226 = .ok (.aload_n 1, 1) := by decide +kernel
theorem dL_isRule_227 : decode cL_isRule 227 = .ok (.iload 5, 2) := by decide +kernel
theorem dL_isRule_229 : decode cL_isRule 229 = .ok (.iconst 1, 1) := by decide +kernel
theorem dL_isRule_230 : decode cL_isRule 230 = .ok (.iadd, 1) := by decide +kernel
theorem dL_isRule_231 : decode cL_isRule 231 = .ok (.iaload, 1) := by decide +kernel
theorem dL_isRule_232 : decode cL_isRule 232 = .ok (.aload_n 1, 1) := by decide +kernel
theorem dL_isRule_233 : decode cL_isRule 233 = .ok (.iload 5, 2) := by decide +kernel
theorem dL_isRule_235 : decode cL_isRule 235 = .ok (.iconst 2, 1) := by decide +kernel
theorem dL_isRule_236 : decode cL_isRule 236 = .ok (.iadd, 1) := by decide +kernel
theorem dL_isRule_237 : decode cL_isRule 237 = .ok (.iaload, 1) := by decide +kernel
theorem dL_isRule_238 : decode cL_isRule 238 = .ok (.aload_n 1, 1) := by decide +kernel
theorem dL_isRule_239 : decode cL_isRule 239 = .ok (.iload 5, 2) := by decide +kernel
theorem dL_isRule_241 : decode cL_isRule 241 = .ok (.iconst 3, 1) := by decide +kernel
theorem dL_isRule_242 : decode cL_isRule 242 = .ok (.iadd, 1) := by decide +kernel
theorem dL_isRule_243 : decode cL_isRule 243 = .ok (.iaload, 1) := by decide +kernel
theorem dL_isRule_244 : decode cL_isRule 244 = .ok (.aload_n 1, 1) := by decide +kernel
theorem dL_isRule_245 : decode cL_isRule 245 = .ok (.iload 5, 2) := by decide +kernel
theorem dL_isRule_247 : decode cL_isRule 247 = .ok (.iconst 4, 1) := by decide +kernel
theorem dL_isRule_248 : decode cL_isRule 248 = .ok (.iadd, 1) := by decide +kernel
theorem dL_isRule_249 : decode cL_isRule 249 = .ok (.iaload, 1) := by decide +kernel
theorem dL_isRule_250 : decode cL_isRule 250 = .ok (.aload_n 1, 1) := by decide +kernel
theorem dL_isRule_251 : decode cL_isRule 251 = .ok (.iload 5, 2) := by decide +kernel
theorem dL_isRule_253 : decode cL_isRule 253 = .ok (.iconst 5, 1) := by decide +kernel
theorem dL_isRule_254 : decode cL_isRule 254 = .ok (.iadd, 1) := by decide +kernel
theorem dL_isRule_255 : decode cL_isRule 255 = .ok (.iaload, 1) := by decide +kernel
theorem dL_isRule_256 : decode cL_isRule 256 = .ok (.aload_n 1, 1) := by decide +kernel
theorem dL_isRule_257 : decode cL_isRule 257 = .ok (.iload 5, 2) := by decide +kernel
theorem dL_isRule_259 : decode cL_isRule 259 = .ok (.bipush 6, 2) := by decide +kernel
theorem dL_isRule_261 : decode cL_isRule 261 = .ok (.iadd, 1) := by decide +kernel
theorem dL_isRule_262 : decode cL_isRule 262 = .ok (.iaload, 1) := by decide +kernel
theorem dL_isRule_263 : decode cL_isRule 263 = .ok (.invokestatic 135, 3) := by decide +kernel
theorem dL_isRule_266 : decode cL_isRule 266 = .ok (.goto 64, 3) := by decide +kernel
theorem dL_isRule_269 : decode cL_isRule 269 = .ok (.aload_n 0, 1) := by decide +kernel
theorem dL_isRule_270 : decode cL_isRule 270 = .ok (.iload 4, 2) := by decide +kernel
theorem dL_isRule_272 : decode cL_isRule 272 = .ok (.aload_n 1, 1) := by decide +kernel
theorem dL_isRule_273 : decode cL_isRule 273 = .ok (.iload 5, 2) := by decide +kernel
theorem dL_isRule_275 : decode cL_isRule 275 = .ok (.iconst 4, 1) := by decide +kernel
theorem dL_isRule_276 : decode cL_isRule 276 = .ok (.iadd, 1) := by decide +kernel
theorem dL_isRule_277 : decode cL_isRule 277 = .ok (.iconst 4, 1) := by decide +kernel
theorem dL_isRule_278 : decode cL_isRule 278 = .ok (.iload 7, 2) := by decide +kernel
theorem dL_isRule_280 : decode cL_isRule 280 = .ok (.imul, 1) := by decide +kernel
theorem dL_isRule_281 : decode cL_isRule 281 = .ok (.iadd, 1) := by decide +kernel
theorem dL_isRule_282 : decode cL_isRule 282 = .ok (.iaload, 1) := by decide +kernel
theorem dL_isRule_283 : decode cL_isRule 283 = .ok (.aload_n 1, 1) := by decide +kernel
theorem dL_isRule_284 : decode cL_isRule 284 = .ok (.iload 5, 2) := by decide +kernel
theorem dL_isRule_286 : decode cL_isRule 286 = .ok (.iconst 5, 1) := by decide +kernel
theorem dL_isRule_287 : decode cL_isRule 287 = .ok (.iadd, 1) := by decide +kernel
theorem dL_isRule_288 : decode cL_isRule 288 = .ok (.iconst 4, 1) := by decide +kernel
theorem dL_isRule_289 : decode cL_isRule 289 = .ok (.iload 7, 2) := by decide +kernel
theorem dL_isRule_291 : decode cL_isRule 291 = .ok (.imul, 1) := by decide +kernel
theorem dL_isRule_292 : decode cL_isRule 292 = .ok (.iadd, 1) := by decide +kernel
theorem dL_isRule_293 : decode cL_isRule 293 = .ok (.iaload, 1) := by decide +kernel
theorem dL_isRule_294 : decode cL_isRule 294 = .ok (.aload_n 1, 1) := by decide +kernel
theorem dL_isRule_295 : decode cL_isRule 295 = .ok (.iload 5, 2) := by decide +kernel
theorem dL_isRule_297 : decode cL_isRule 297 = .ok (.bipush 6, 2) := by decide +kernel
theorem dL_isRule_299 : decode cL_isRule 299 = .ok (.iadd, 1) := by decide +kernel
theorem dL_isRule_300 : decode cL_isRule 300 = .ok (.iconst 4, 1) := by decide +kernel
theorem dL_isRule_301 : decode cL_isRule 301 = .ok (.iload 7, 2) := by decide +kernel
theorem dL_isRule_303 : decode cL_isRule 303 = .ok (.imul, 1) := by decide +kernel
theorem dL_isRule_304 : decode cL_isRule 304 = .ok (.iadd, 1) := by decide +kernel
theorem dL_isRule_305 : decode cL_isRule 305 = .ok (.iaload, 1) := by decide +kernel
theorem dL_isRule_306 : decode cL_isRule 306 = .ok (.aload_n 1, 1) := by decide +kernel
theorem dL_isRule_307 : decode cL_isRule 307 = .ok (.iload 5, 2) := by decide +kernel
theorem dL_isRule_309 : decode cL_isRule 309 = .ok (.bipush 7, 2) := by decide +kernel
theorem dL_isRule_311 : decode cL_isRule 311 = .ok (.iadd, 1) := by decide +kernel
theorem dL_isRule_312 : decode cL_isRule 312 = .ok (.iconst 4, 1) := by decide +kernel
theorem dL_isRule_313 : decode cL_isRule 313 = .ok (.iload 7, 2) := by decide +kernel
theorem dL_isRule_315 : decode cL_isRule 315 = .ok (.imul, 1) := by decide +kernel
theorem dL_isRule_316 : decode cL_isRule 316 = .ok (.iadd, 1) := by decide +kernel
theorem dL_isRule_317 : decode cL_isRule 317 = .ok (.iaload, 1) := by decide +kernel
theorem dL_isRule_318 : decode cL_isRule 318 = .ok (.iconst 1, 1) := by decide +kernel
theorem dL_isRule_319 : decode cL_isRule 319 = .ok (.if_icmp .ne 7, 3) := by decide +kernel
theorem dL_isRule_322 : decode cL_isRule 322 = .ok (.iconst 1, 1) := by decide +kernel
theorem dL_isRule_323 : decode cL_isRule 323 = .ok (.goto 4, 3) := by decide +kernel
theorem dL_isRule_326 : decode cL_isRule 326 = .ok (.iconst 0, 1) := by decide +kernel
theorem dL_isRule_327 : decode cL_isRule 327 = .ok (.invokestatic 138, 3) := by decide +kernel
theorem dL_isRule_330 : decode cL_isRule 330 = .ok (.istore 8, 2) := by decide +kernel
theorem dL_isRule_332 : decode cL_isRule 332 = .ok (.aload_n 1, 1) := by decide +kernel
theorem dL_isRule_333 : decode cL_isRule 333 = .ok (.iload 5, 2) := by decide +kernel
theorem dL_isRule_335 : decode cL_isRule 335 = .ok (.iload 7, 2) := by decide +kernel
theorem dL_isRule_337 : decode cL_isRule 337 = .ok (.iconst 1, 1) := by decide +kernel
theorem dL_isRule_338 : decode cL_isRule 338 = .ok (.iadd, 1) := by decide +kernel
theorem dL_isRule_339 : decode cL_isRule 339 = .ok (.iastore, 1) := by decide +kernel
theorem dL_isRule_340 : decode cL_isRule 340 = .ok (.iload 8, 2) := by decide +kernel
theorem dL_isRule_342 : decode cL_isRule 342 = .ok (.iload 7, 2) := by decide +kernel
theorem dL_isRule_344 : decode cL_isRule 344 = .ok (.ifCond .ne 8, 3) := by decide +kernel
theorem dL_isRule_347 : decode cL_isRule 347 = .ok (.iload 4, 2) := by decide +kernel
theorem dL_isRule_349 : decode cL_isRule 349 = .ok (.goto 7, 3) := by decide +kernel
theorem dL_isRule_352 : decode cL_isRule 352 = .ok (.iload 7, 2) := by decide +kernel
theorem dL_isRule_354 : decode cL_isRule 354 = .ok (.iconst 1, 1) := by decide +kernel
theorem dL_isRule_355 : decode cL_isRule 355 = .ok (.iadd, 1) := by decide +kernel
theorem dL_isRule_356 : decode cL_isRule 356 = .ok (.if_icmp .eq 5, 3) := by decide +kernel
theorem dL_isRule_359 : decode cL_isRule 359 = .ok (.iconst 0, 1) := by decide +kernel
theorem dL_isRule_360 : decode cL_isRule 360 = .ok (.ireturn, 1) := by decide +kernel
theorem dL_isRule_361 : decode cL_isRule 361 = .ok (.iinc 7 1, 3) := by decide +kernel
theorem dL_isRule_364 : decode cL_isRule 364 = .ok (.goto (-292), 3) := by decide +kernel
theorem dL_isRule_367 : decode cL_isRule 367 = .ok (.aload_n 1, 1) := by decide +kernel
theorem dL_isRule_368 : decode cL_isRule 368 = .ok (.iconst 5, 1) := by decide +kernel
theorem dL_isRule_369 : decode cL_isRule 369 = .ok (.dup2, 1) := by decide +kernel
theorem dL_isRule_370 : decode cL_isRule 370 = .ok (.iaload, 1) := by decide +kernel
theorem dL_isRule_371 : decode cL_isRule 371 = .ok (.iconst 1, 1) := by decide +kernel
theorem dL_isRule_372 : decode cL_isRule 372 = .ok (.iadd, 1) := by decide +kernel
theorem dL_isRule_373 : decode cL_isRule 373 = .ok (.iastore, 1) := by decide +kernel
theorem dL_isRule_374 : decode cL_isRule 374 = .ok (.iconst 1, 1) := by decide +kernel
theorem dL_isRule_375 : decode cL_isRule 375 = .ok (.ireturn, 1) := by decide +kernel
theorem dL_isTelling_0 : decode cL_isTelling 0 = .ok (.aload_n 2, 1) := by decide +kernel
theorem dL_isTelling_1 : decode cL_isTelling 1 = .ok (.iload_n 3, 1) := by decide +kernel
theorem dL_isTelling_2 : decode cL_isTelling 2 = .ok (.bipush 6, 2) := by decide +kernel
theorem dL_isTelling_4 : decode cL_isTelling 4 = .ok (.invokestatic 127, 3) := by decide +kernel
theorem dL_isTelling_7 : decode cL_isTelling 7 = .ok (.istore 5, 2) := by decide +kernel
theorem dL_isTelling_9 : decode cL_isTelling 9 = .ok (.aload_n 2, 1) := by decide +kernel
theorem dL_isTelling_10 : decode cL_isTelling 10 = .ok (.iload_n 3, 1) := by decide +kernel
theorem dL_isTelling_11 : decode cL_isTelling 11 = .ok (.iconst 1, 1) := by decide +kernel
theorem dL_isTelling_12 : decode cL_isTelling 12 = .ok (.iadd, 1) := by decide +kernel
theorem dL_isTelling_13 : decode cL_isTelling 13 = .ok (.invokestatic 141, 3) := by decide +kernel
theorem dL_isTelling_16 : decode cL_isTelling 16 = .ok (.istore 6, 2) := by decide +kernel
theorem dL_isTelling_18 : decode cL_isTelling 18 = .ok (.aload_n 2, 1) := by decide +kernel
theorem dL_isTelling_19 : decode cL_isTelling 19 = .ok (.iload_n 3, 1) := by decide +kernel
theorem dL_isTelling_20 : decode cL_isTelling 20 = .ok (.iconst 4, 1) := by decide +kernel
theorem dL_isTelling_21 : decode cL_isTelling 21 = .ok (.iadd, 1) := by decide +kernel
theorem dL_isTelling_22 : decode cL_isTelling 22 = .ok (.bipush 24, 2) := by decide +kernel
theorem dL_isTelling_24 : decode cL_isTelling 24 = .ok (.invokestatic 127, 3) := by decide +kernel
theorem dL_isTelling_27 : decode cL_isTelling 27 = .ok (.istore 7, 2) := by decide +kernel
theorem dL_isTelling_29 : decode cL_isTelling 29 = .ok (.iload 7, 2) := by decide +kernel
theorem dL_isTelling_31 : decode cL_isTelling 31 = .ok (.aload_n 2, 1) := by decide +kernel
theorem dL_isTelling_32 : decode cL_isTelling 32 = .ok (.iload_n 3, 1) := by decide +kernel
theorem dL_isTelling_33 : decode cL_isTelling 33 = .ok (.iconst 5, 1) := by decide +kernel
theorem dL_isTelling_34 : decode cL_isTelling 34 = .ok (.iadd, 1) := by decide +kernel
theorem dL_isTelling_35 : decode cL_isTelling 35 = .ok (.bipush 24, 2) := by decide +kernel
theorem dL_isTelling_37 : decode cL_isTelling 37 = .ok (.iload 7, 2) := by decide +kernel
theorem dL_isTelling_39 : decode cL_isTelling 39 = .ok (.isub, 1) := by decide +kernel
theorem dL_isTelling_40 : decode cL_isTelling 40 = .ok (.invokestatic 127, 3) := by decide +kernel
theorem dL_isTelling_43 : decode cL_isTelling 43 = .ok (.iadd, 1) := by decide +kernel
theorem dL_isTelling_44 : decode cL_isTelling 44 = .ok (.istore 8, 2) := by decide +kernel
theorem dL_isTelling_46 : decode cL_isTelling 46 = .ok (.aload_n 1, 1) := by decide +kernel
theorem dL_isTelling_47 : decode cL_isTelling 47 = .ok (.iload 4, 2) := by decide +kernel
theorem dL_isTelling_49 : decode cL_isTelling 49 = .ok (.iaload, 1) := by decide +kernel
theorem dL_isTelling_50 : decode cL_isTelling 50 = .ok (.bipush 60, 2) := by decide +kernel
theorem dL_isTelling_52 : decode cL_isTelling 52 = .ok (.if_icmp .ne 7, 3) := by decide +kernel
theorem dL_isTelling_55 : decode cL_isTelling 55 = .ok (.iconst 1, 1) := by decide +kernel
theorem dL_isTelling_56 : decode cL_isTelling 56 = .ok (.goto 4, 3) := by decide +kernel
theorem dL_isTelling_59 : decode cL_isTelling 59 = .ok (.iconst 0, 1) := by decide +kernel
theorem dL_isTelling_60 : decode cL_isTelling 60 = .ok (.istore 9, 2) := by decide +kernel
theorem dL_isTelling_62 : decode cL_isTelling 62 = .ok (.iload 5, 2) := by decide +kernel
theorem dL_isTelling_64 : decode cL_isTelling 64 = .ok (.iconst 3, 1) := by decide +kernel
theorem dL_isTelling_65 : decode cL_isTelling 65 = .ok (.if_icmp .ge 61, 3) := by decide +kernel
theorem dL_isTelling_68 : decode cL_isTelling 68 = .ok (.aload_n 0, 1) := by decide +kernel
theorem dL_isTelling_69 : decode cL_isTelling 69 = .ok (.iload 4, 2) := by decide +kernel
theorem dL_isTelling_71 : decode cL_isTelling 71 = .ok (.iload 6, 2) := by decide +kernel
theorem dL_isTelling_73 : decode cL_isTelling 73 = .ok (.iload 7, 2) := by decide +kernel
theorem dL_isTelling_75 : decode cL_isTelling 75 = .ok (.iload 8, 2) := by decide +kernel
theorem dL_isTelling_77 : decode cL_isTelling 77 = .ok (.invokestatic 144, 3) := by decide +kernel
theorem dL_isTelling_80 : decode cL_isTelling 80 = .ok (.istore 10, 2) := by decide +kernel
theorem dL_isTelling_82 : decode cL_isTelling 82 = .ok (.iload 9, 2) := by decide +kernel
theorem dL_isTelling_84 : decode cL_isTelling 84 = .ok (.ifCond .ne 17, 3) := by decide +kernel
theorem dL_isTelling_87 : decode cL_isTelling 87 = .ok (.aload_n 1, 1) := by decide +kernel
theorem dL_isTelling_88 : decode cL_isTelling 88 = .ok (.iload 4, 2) := by decide +kernel
theorem dL_isTelling_90 : decode cL_isTelling 90 = .ok (.iconst 1, 1) := by decide +kernel
theorem dL_isTelling_91 : decode cL_isTelling 91 = .ok (.iload 6, 2) := by decide +kernel
theorem dL_isTelling_93 : decode cL_isTelling 93 = .ok (.iload 7, 2) := by decide +kernel
theorem dL_isTelling_95 : decode cL_isTelling 95 = .ok (.iload 8, 2) := by decide +kernel
theorem dL_isTelling_97 : decode cL_isTelling 97 = .ok (.iconst 0, 1) := by decide +kernel
theorem dL_isTelling_98 : decode cL_isTelling 98 = .ok (.invokestatic 147, 3) := by decide +kernel
theorem dL_isTelling_101 : decode cL_isTelling 101 = .ok (.iload 10, 2) := by decide +kernel
