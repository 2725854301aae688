theorem dX0_isBid_0 : decode cX0_isBid 0 = .ok (.iload_n 0, 1) := by decide +kernel
theorem dX0_isBid_1 : decode cX0_isBid 1 = .ok (.invokestatic 7, 3) := by decide +kernel
theorem dX0_isBid_4 : decode cX0_isBid 4 = .ok (.ifCond .ne 58, 3) := by decide +kernel
theorem dX0_isBid_7 : decode cX0_isBid 7 = .ok (.iload_n 0, 1) := by decide +kernel
theorem dX0_isBid_8 : decode cX0_isBid 8 = .ok (.bipush 9, 2) := by decide +kernel
theorem dX0_isBid_10 : decode cX0_isBid 10 = .ok (.bipush 18, 2) := by decide +kernel
theorem dX0_isBid_12 : decode cX0_isBid 12 = .ok (.invokestatic 13, 3) := by decide +kernel
theorem dX0_isBid_15 : decode cX0_isBid 15 = .ok (.ifCond .ne 47, 3) := by decide +kernel
theorem dX0_isBid_18 : decode cX0_isBid 18 = .ok (.iload_n 0, 1) := by decide +kernel
theorem dX0_isBid_19 : decode cX0_isBid 19 = .ok (.bipush 10, 2) := by decide +kernel
theorem dX0_isBid_21 : decode cX0_isBid 21 = .ok (.bipush 18, 2) := by decide +kernel
theorem dX0_isBid_23 : decode cX0_isBid 23 = .ok (.invokestatic 13, 3) := by decide +kernel
theorem dX0_isBid_26 : decode cX0_isBid 26 = .ok (.ifCond .ne 36, 3) := by decide +kernel
theorem dX0_isBid_29 : decode cX0_isBid 29 = .ok (.iload_n 0, 1) := by decide +kernel
theorem dX0_isBid_30 : decode cX0_isBid 30 = .ok (.bipush 11, 2) := by decide +kernel
theorem dX0_isBid_32 : decode cX0_isBid 32 = .ok (.bipush 18, 2) := by decide +kernel
theorem dX0_isBid_34 : decode cX0_isBid 34 = .ok (.invokestatic 13, 3) := by decide +kernel
theorem dX0_isBid_37 : decode cX0_isBid 37 = .ok (.ifCond .ne 25, 3) := by decide +kernel
theorem dX0_isBid_40 : decode cX0_isBid 40 = .ok (.iload_n 0, 1) := by decide +kernel
theorem dX0_isBid_41 : decode cX0_isBid 41 = .ok (.bipush 12, 2) := by decide +kernel
theorem dX0_isBid_43 : decode cX0_isBid 43 = .ok (.bipush 18, 2) := by decide +kernel
theorem dX0_isBid_45 : decode cX0_isBid 45 = .ok (.invokestatic 13, 3) := by decide +kernel
theorem dX0_isBid_48 : decode cX0_isBid 48 = .ok (.ifCond .ne 14, 3) := by decide +kernel
theorem dX0_isBid_51 : decode cX0_isBid 51 = .ok (.iload_n 0, 1) := by decide +kernel
theorem dX0_isBid_52 : decode cX0_isBid 52 = .ok (.bipush 24, 2) := by decide +kernel
theorem dX0_isBid_54 : decode cX0_isBid 54 = .ok (.bipush 11, 2) := by decide +kernel
theorem dX0_isBid_56 : decode cX0_isBid 56 = .ok (.invokestatic 13, 3) := by decide +kernel
theorem dX0_isBid_59 : decode cX0_isBid 59 = .ok (.ifCond .eq 7, 3) := by decide +kernel
theorem dX0_isBid_62 : decode cX0_isBid 62 = .ok (.iconst 1, 1) := by decide +kernel
theorem dX0_isBid_63 : decode cX0_isBid 63 = .ok (.goto 4, 3) := by decide +kernel
theorem dX0_isBid_66 : decode cX0_isBid 66 = .ok (.iconst 0, 1) := by decide +kernel
theorem dX0_isBid_67 : decode cX0_isBid 67 = .ok (.ireturn, 1) := by decide +kernel
theorem dX0_isNullValue_0 : decode cX0_isNullValue 0 = .ok (.iload_n 0, 1) := by decide +kernel
theorem dX0_isNullValue_1 : decode cX0_isNullValue 1 = .ok (.bipush 23, 2) := by decide +kernel
theorem dX0_isNullValue_3 : decode cX0_isNullValue 3 = .ok (.if_icmp .eq 21, 3) := by decide +kernel
theorem dX0_isNullValue_6 : decode cX0_isNullValue 6 = .ok (.iload_n 0, 1) := by decide +kernel
theorem dX0_isNullValue_7 : decode cX0_isNullValue 7 = .ok (.bipush 35, 2) := by decide +kernel
theorem dX0_isNullValue_9 : decode cX0_isNullValue 9 = .ok (.if_icmp .eq 15, 3) := by decide +kernel
theorem dX0_isNullValue_12 : decode cX0_isNullValue 12 = .ok (.iload_n 0, 1) := by decide +kernel
theorem dX0_isNullValue_13 : decode cX0_isNullValue 13 = .ok (.bipush 46, 2) := by decide +kernel
theorem dX0_isNullValue_15 : decode cX0_isNullValue 15 = .ok (.if_icmp .eq 9, 3) := by decide +kernel
theorem dX0_isNullValue_18 : decode cX0_isNullValue 18 = .ok (.iload_n 0, 1) := by decide +kernel
theorem dX0_isNullValue_19 : decode cX0_isNullValue 19 = .ok (.bipush 59, 2) := by decide +kernel
theorem dX0_isNullValue_21 : decode cX0_isNullValue 21 = .ok (.if_icmp .ne 7, 3) := by decide +kernel
theorem dX0_isNullValue_24 : decode cX0_isNullValue 24 = .ok (.iconst 1, 1) := by decide +kernel
theorem dX0_isNullValue_25 : decode cX0_isNullValue 25 = .ok (.goto 4, 3) := by decide +kernel
theorem dX0_isNullValue_28 : decode cX0_isNullValue 28 = .ok (.iconst 0, 1) := by decide +kernel
theorem dX0_isNullValue_29 : decode cX0_isNullValue 29 = .ok (.ireturn, 1) := by decide +kernel
theorem dX0_isProduct_0 : decode cX0_isProduct 0 = .ok (.iconst 2, 1) := by decide +kernel
theorem dX0_isProduct_1 : decode cX0_isProduct 1 = .ok (.istore_n 3, 1) := by decide +kernel
theorem dX0_isProduct_2 : decode cX0_isProduct 2 = .ok (.iload_n 3, 1) := by decide +kernel
theorem dX0_isProduct_3 : decode cX0_isProduct 3 = .ok (.iload_n 2, 1) := by decide +kernel
theorem dX0_isProduct_4 : decode cX0_isProduct 4 = .ok (.if_icmp .gt 18, 3) := by decide +kernel
theorem dX0_isProduct_7 : decode cX0_isProduct 7 = .ok (.iload_n 0, 1) := by decide +kernel
theorem dX0_isProduct_8 : decode cX0_isProduct 8 = .ok (.iload_n 1, 1) := by decide +kernel
theorem dX0_isProduct_9 : decode cX0_isProduct 9 = .ok (.iload_n 3, 1) := by decide +kernel
theorem dX0_isProduct_10 : decode cX0_isProduct 10 = .ok (.imul, 1) := by decide +kernel
theorem dX0_isProduct_11 : decode cX0_isProduct 11 = .ok (.if_icmp .ne 5, 3) := by decide +kernel
theorem dX0_isProduct_14 : decode cX0_isProduct 14 = .ok (.iconst 1, 1) := by decide +kernel
theorem dX0_isProduct_15 : decode cX0_isProduct 15 = .ok (.ireturn, 1) := by decide +kernel
theorem dX0_isProduct_16 : decode cX0_isProduct 16 = .ok (.iinc 3 1, 3) := by decide +kernel
theorem dX0_isProduct_19 : decode cX0_isProduct 19 = .ok (.goto (-17), 3) := by decide +kernel
theorem dX0_isProduct_22 : decode cX0_isProduct 22 = .ok (.iconst 0, 1) := by decide +kernel
theorem dX0_isProduct_23 : decode cX0_isProduct 23 = .ok (.ireturn, 1) := by decide +kernel
theorem dX0_leastAbove_0 : decode cX0_leastAbove 0 = .ok (.iload_n 0, 1) := by decide +kernel
theorem dX0_leastAbove_1 : decode cX0_leastAbove 1 = .ok (.iconst 1, 1) := by decide +kernel
theorem dX0_leastAbove_2 : decode cX0_leastAbove 2 = .ok (.iadd, 1) := by decide +kernel
theorem dX0_leastAbove_3 : decode cX0_leastAbove 3 = .ok (.istore_n 1, 1) := by decide +kernel
theorem dX0_leastAbove_4 : decode cX0_leastAbove 4 = .ok (.iload_n 1, 1) := by decide +kernel
theorem dX0_leastAbove_5 : decode cX0_leastAbove 5 = .ok (.sipush 264, 3) := by decide +kernel
theorem dX0_leastAbove_8 : decode cX0_leastAbove 8 = .ok (.if_icmp .ge 18, 3) := by decide +kernel
theorem dX0_leastAbove_11 : decode cX0_leastAbove 11 = .ok (.iload_n 1, 1) := by decide +kernel
theorem dX0_leastAbove_12 : decode cX0_leastAbove 12 = .ok (.invokestatic 17, 3) := by decide +kernel
theorem dX0_leastAbove_15 : decode cX0_leastAbove 15 = .ok (.ifCond .eq 5, 3) := by decide +kernel
theorem dX0_leastAbove_18 : decode cX0_leastAbove 18 = .ok (.iload_n 1, 1) := by decide +kernel
theorem dX0_leastAbove_19 : decode cX0_leastAbove 19 = .ok (.ireturn, 1) := by decide +kernel
theorem dX0_leastAbove_20 : decode cX0_leastAbove 20 = .ok (.iinc 1 1, 3) := by decide +kernel
theorem dX0_leastAbove_23 : decode cX0_leastAbove 23 = .ok (.goto (-19), 3) := by decide +kernel
theorem dX0_leastAbove_26 : decode cX0_leastAbove 26 = .ok (.sipush 264, 3) := by decide +kernel
theorem dX0_leastAbove_29 : decode cX0_leastAbove 29 = .ok (.ireturn, 1) := by decide +kernel
theorem dX1_setOf_0 : decode cX1_setOf 0 = .ok (.lconst 1, 1) := by decide +kernel
theorem dX1_setOf_1 : decode cX1_setOf 1 = .ok (.iload_n 0, 1) := by decide +kernel
theorem dX1_setOf_2 : decode cX1_setOf 2 = .ok (.lshl, 1) := by decide +kernel
theorem dX1_setOf_3 : decode cX1_setOf 3 = .ok (.lreturn, 1) := by decide +kernel
theorem dX1_rankOf_0 : decode cX1_rankOf 0 = .ok (.iload_n 0, 1) := by decide +kernel
theorem dX1_rankOf_1 : decode cX1_rankOf 1 = .ok (.bipush 7, 2) := by decide +kernel
theorem dX1_rankOf_3 : decode cX1_rankOf 3 = .ok (.iand, 1) := by decide +kernel
theorem dX1_rankOf_4 : decode cX1_rankOf 4 = .ok (.ireturn, 1) := by decide +kernel
theorem dX1_suit_0 : decode cX1_suit 0 = .ok (.ldc2_w 11, 3) := by decide +kernel
theorem dX1_suit_3 : decode cX1_suit 3 = .ok (.iload_n 0, 1) := by decide +kernel
theorem dX1_suit_4 : decode cX1_suit 4 = .ok (.bipush 8, 2) := by decide +kernel
theorem dX1_suit_6 : decode cX1_suit 6 = .ok (.imul, 1) := by decide +kernel
theorem dX1_suit_7 : decode cX1_suit 7 = .ok (.lshl, 1) := by decide +kernel
theorem dX1_suit_8 : decode cX1_suit 8 = .ok (.lreturn, 1) := by decide +kernel
theorem dX1_ofRank_0 : decode cX1_ofRank 0 = .ok (.iload_n 1, 1) := by decide +kernel
theorem dX1_ofRank_1 : decode cX1_ofRank 1 = .ok (.ifCond .lt 15, 3) := by decide +kernel
theorem dX1_ofRank_4 : decode cX1_ofRank 4 = .ok (.iload_n 1, 1) := by decide +kernel
theorem dX1_ofRank_5 : decode cX1_ofRank 5 = .ok (.aload_n 0, 1) := by decide +kernel
theorem dX1_ofRank_6 : decode cX1_ofRank 6 = .ok (.arraylength, 1) := by decide +kernel
theorem dX1_ofRank_7 : decode cX1_ofRank 7 = .ok (.if_icmp .ge 9, 3) := by decide +kernel
theorem dX1_ofRank_10 : decode cX1_ofRank 10 = .ok (.aload_n 0, 1) := by decide +kernel
theorem dX1_ofRank_11 : decode cX1_ofRank 11 = .ok (.iload_n 1, 1) := by decide +kernel
theorem dX1_ofRank_12 : decode cX1_ofRank 12 = .ok (.iaload, 1) := by decide +kernel
theorem dX1_ofRank_13 : decode cX1_ofRank 13 = .ok (.goto 4, 3) := by decide +kernel
theorem dX1_ofRank_16 : decode cX1_ofRank 16 = .ok (.iconst 0, 1) := by decide +kernel
theorem dX1_ofRank_17 : decode cX1_ofRank 17 = .ok (.ireturn, 1) := by decide +kernel
theorem dX1_pointsOf_0 : decode cX1_pointsOf 0 = .ok (.getstatic 13, 3) := by decide +kernel
theorem dX1_pointsOf_3 : decode cX1_pointsOf 3 = .ok (.iload_n 0, 1) := by decide +kernel
theorem dX1_pointsOf_4 : decode cX1_pointsOf 4 = .ok (.invokestatic 17, 3) := by decide +kernel
theorem dX1_pointsOf_7 : decode cX1_pointsOf 7 = .ok (.invokestatic 21, 3) := by decide +kernel
theorem dX1_pointsOf_10 : decode cX1_pointsOf 10 = .ok (.ireturn, 1) := by decide +kernel
theorem dX1_pointsIn_0 : decode cX1_pointsIn 0 = .ok (.iconst 0, 1) := by decide +kernel
theorem dX1_pointsIn_1 : decode cX1_pointsIn 1 = .ok (.istore_n 2, 1) := by decide +kernel
theorem dX1_pointsIn_2 : decode cX1_pointsIn 2 = .ok (.iconst 0, 1) := by decide +kernel
theorem dX1_pointsIn_3 : decode cX1_pointsIn 3 = .ok (.istore_n 3, 1) := by decide +kernel
theorem dX1_pointsIn_4 : decode cX1_pointsIn 4 = .ok (.iload_n 3, 1) := by decide +kernel
theorem dX1_pointsIn_5 : decode cX1_pointsIn 5 = .ok (.bipush 32, 2) := by decide +kernel
theorem dX1_pointsIn_7 : decode cX1_pointsIn 7 = .ok (.if_icmp .ge 27, 3) := by decide +kernel
theorem dX1_pointsIn_10 : decode cX1_pointsIn 10 = .ok (.lload_n 0, 1) := by decide +kernel
theorem dX1_pointsIn_11 : decode cX1_pointsIn 11 = .ok (.iload_n 3, 1) := by decide +kernel
theorem dX1_pointsIn_12 : decode cX1_pointsIn 12 = .ok (.invokestatic 25, 3) := by decide +kernel
theorem dX1_pointsIn_15 : decode cX1_pointsIn 15 = .ok (.land, 1) := by decide +kernel
theorem dX1_pointsIn_16 : decode cX1_pointsIn 16 = .ok (.lconst 0, 1) := by decide +kernel
theorem dX1_pointsIn_17 : decode cX1_pointsIn 17 = .ok (.lcmp, 1) := by decide +kernel
theorem dX1_pointsIn_18 : decode cX1_pointsIn 18 = .ok (.ifCond .eq 10, 3) := by decide +kernel
theorem dX1_pointsIn_21 : decode cX1_pointsIn 21 = .ok (.iload_n 2, 1) := by decide +kernel
theorem dX1_pointsIn_22 : decode cX1_pointsIn 22 = .ok (.iload_n 3, 1) := by decide +kernel
theorem dX1_pointsIn_23 : decode cX1_pointsIn 23 = .ok (.invokestatic 29, 3) := by decide +kernel
theorem dX1_pointsIn_26 : decode cX1_pointsIn 26 = .ok (.iadd, 1) := by decide +kernel
theorem dX1_pointsIn_27 : decode cX1_pointsIn 27 = .ok (.istore_n 2, 1) := by decide +kernel
theorem dX1_pointsIn_28 : decode cX1_pointsIn 28 = .ok (.iinc 3 1, 3) := by decide +kernel
theorem dX1_pointsIn_31 : decode cX1_pointsIn 31 = .ok (.goto (-27), 3) := by decide +kernel
theorem dX1_pointsIn_34 : decode cX1_pointsIn 34 = .ok (.iload_n 2, 1) := by decide +kernel
theorem dX1_pointsIn_35 : decode cX1_pointsIn 35 = .ok (.ireturn, 1) := by decide +kernel
theorem dX1_trumps_0 : decode cX1_trumps 0 = .ok (.iload_n 0, 1) := by decide +kernel
theorem dX1_trumps_1 : decode cX1_trumps 1 = .ok (.iconst 5, 1) := by decide +kernel
theorem dX1_trumps_2 : decode cX1_trumps 2 = .ok (.if_icmp .ne 5, 3) := by decide +kernel
theorem dX1_trumps_5 : decode cX1_trumps 5 = .ok (.lconst 0, 1) := by decide +kernel
theorem dX1_trumps_6 : decode cX1_trumps 6 = .ok (.lreturn, 1) := by decide +kernel
theorem dX1_trumps_7 : decode cX1_trumps 7 = .ok (.iload_n 0, 1) := by decide +kernel
theorem dX1_trumps_8 : decode cX1_trumps 8 = .ok (.ifCond .lt 19, 3) := by decide +kernel
theorem dX1_trumps_11 : decode cX1_trumps 11 = .ok (.iload_n 0, 1) := by decide +kernel
theorem dX1_trumps_12 : decode cX1_trumps 12 = .ok (.iconst 4, 1) := by decide +kernel
theorem dX1_trumps_13 : decode cX1_trumps 13 = .ok (.if_icmp .ge 14, 3) := by decide +kernel
theorem dX1_trumps_16 : decode cX1_trumps 16 = .ok (.ldc2_w 32, 3) := by decide +kernel
theorem dX1_trumps_19 : decode cX1_trumps 19 = .ok (.iload_n 0, 1) := by decide +kernel
theorem dX1_trumps_20 : decode cX1_trumps 20 = .ok (.invokestatic 34, 3) := by decide +kernel
theorem dX1_trumps_23 : decode cX1_trumps 23 = .ok (.lor, 1) := by decide +kernel
theorem dX1_trumps_24 : decode cX1_trumps 24 = .ok (.goto 6, 3) := by decide +kernel
theorem dX1_trumps_27 : decode cX1_trumps 27 = .ok (.ldc2_w 32, 3) := by decide +kernel
theorem dX1_trumps_30 : decode cX1_trumps 30 = .ok (.lreturn, 1) := by decide +kernel
theorem dX1_colourOf_0 : decode cX1_colourOf 0 = .ok (.iload_n 1, 1) := by decide +kernel
theorem dX1_colourOf_1 : decode cX1_colourOf 1 = .ok (.invokestatic 37, 3) := by decide +kernel
theorem dX1_colourOf_4 : decode cX1_colourOf 4 = .ok (.lstore_n 2, 1) := by decide +kernel
theorem dX1_colourOf_5 : decode cX1_colourOf 5 = .ok (.lload_n 2, 1) := by decide +kernel
theorem dX1_colourOf_6 : decode cX1_colourOf 6 = .ok (.iload_n 0, 1) := by decide +kernel
theorem dX1_colourOf_7 : decode cX1_colourOf 7 = .ok (.invokestatic 25, 3) := by decide +kernel
theorem dX1_colourOf_10 : decode cX1_colourOf 10 = .ok (.land, 1) := by decide +kernel
theorem dX1_colourOf_11 : decode cX1_colourOf 11 = .ok (.lconst 0, 1) := by decide +kernel
theorem dX1_colourOf_12 : decode cX1_colourOf 12 = .ok (.lcmp, 1) := by decide +kernel
theorem dX1_colourOf_13 : decode cX1_colourOf 13 = .ok (.ifCond .eq 7, 3) := by decide +kernel
theorem dX1_colourOf_16 : decode cX1_colourOf 16 = .ok (.lload_n 2, 1) := by decide +kernel
theorem dX1_colourOf_17 : decode cX1_colourOf 17 = .ok (.goto 16, 3) := by decide +kernel
theorem dX1_colourOf_20 : decode cX1_colourOf 20 = .ok (.iload_n 0, 1) := by decide +kernel
theorem dX1_colourOf_21 : decode cX1_colourOf 21 = .ok (.bipush 8, 2) := by decide +kernel
theorem dX1_colourOf_23 : decode cX1_colourOf 23 = .ok (.idiv, 1) := by decide +kernel
theorem dX1_colourOf_24 : decode cX1_colourOf 24 = .ok (.invokestatic 34, 3) := by decide +kernel
theorem dX1_colourOf_27 : decode cX1_colourOf 27 = .ok (.lload_n 2, 1) := by decide +kernel
theorem dX1_colourOf_28 : decode cX1_colourOf 28 = .ok (.ldc2_w 40, 3) := by decide +kernel
theorem dX1_colourOf_31 : decode cX1_colourOf 31 = .ok (.lxor, 1) := by decide +kernel
theorem dX1_colourOf_32 : decode cX1_colourOf 32 = .ok (.land, 1) := by decide +kernel
theorem dX1_colourOf_33 : decode cX1_colourOf 33 = .ok (.lreturn, 1) := by decide +kernel
theorem dX1_strength_0 : decode cX1_strength 0 = .ok (.iload_n 2, 1) := by decide +kernel
theorem dX1_strength_1 : decode cX1_strength 1 = .ok (.invokestatic 37, 3) := by decide +kernel
theorem dX1_strength_4 : decode cX1_strength 4 = .ok (.iload_n 0, 1) := by decide +kernel
theorem dX1_strength_5 : decode cX1_strength 5 = .ok (.invokestatic 25, 3) := by decide +kernel
theorem dX1_strength_8 : decode cX1_strength 8 = .ok (.land, 1) := by decide +kernel
theorem dX1_strength_9 : decode cX1_strength 9 = .ok (.lconst 0, 1) := by decide +kernel
theorem dX1_strength_10 : decode cX1_strength 10 = .ok (.lcmp, 1) := by decide +kernel
theorem dX1_strength_11 : decode cX1_strength 11 = .ok (.ifCond .eq 31, 3) := by decide +kernel
theorem dX1_strength_14 : decode cX1_strength 14 = .ok (.iload_n 0, 1) := by decide +kernel
theorem dX1_strength_15 : decode cX1_strength 15 = .ok (.invokestatic 17, 3) := by decide +kernel
theorem dX1_strength_18 : decode cX1_strength 18 = .ok (.bipush 7, 2) := by decide +kernel
theorem dX1_strength_20 : decode cX1_strength 20 = .ok (.if_icmp .ne 14, 3) := by decide +kernel
theorem dX1_strength_23 : decode cX1_strength 23 = .ok (.sipush 200, 3) := by decide +kernel
theorem dX1_strength_26 : decode cX1_strength 26 = .ok (.iload_n 0, 1) := by decide +kernel
theorem dX1_strength_27 : decode cX1_strength 27 = .ok (.bipush 8, 2) := by decide +kernel
theorem dX1_strength_29 : decode cX1_strength 29 = .ok (.idiv, 1) := by decide +kernel
theorem dX1_strength_30 : decode cX1_strength 30 = .ok (.iadd, 1) := by decide +kernel
theorem dX1_strength_31 : decode cX1_strength 31 = .ok (.goto 10, 3) := by decide +kernel
theorem dX1_strength_34 : decode cX1_strength 34 = .ok (.bipush 100, 2) := by decide +kernel
theorem dX1_strength_36 : decode cX1_strength 36 = .ok (.iload_n 0, 1) := by decide +kernel
theorem dX1_strength_37 : decode cX1_strength 37 = .ok (.invokestatic 17, 3) := by decide +kernel
theorem dX1_strength_40 : decode cX1_strength 40 = .ok (.iadd, 1) := by decide +kernel
theorem dX1_strength_41 : decode cX1_strength 41 = .ok (.ireturn, 1) := by decide +kernel
theorem dX1_strength_42 : decode cX1_strength 42 = .ok (.iload_n 1, 1) := by decide +kernel
theorem dX1_strength_43 : decode cX1_strength 43 = .ok (.iload_n 2, 1) := by decide +kernel
theorem dX1_strength_44 : decode cX1_strength 44 = .ok (.invokestatic 42, 3) := by decide +kernel
theorem dX1_strength_47 : decode cX1_strength 47 = .ok (.iload_n 0, 1) := by decide +kernel
theorem dX1_strength_48 : decode cX1_strength 48 = .ok (.invokestatic 25, 3) := by decide +kernel
theorem dX1_strength_51 : decode cX1_strength 51 = .ok (.land, 1) := by decide +kernel
theorem dX1_strength_52 : decode cX1_strength 52 = .ok (.lconst 0, 1) := by decide +kernel
theorem dX1_strength_53 : decode cX1_strength 53 = .ok (.lcmp, 1) := by decide +kernel
theorem dX1_strength_54 : decode cX1_strength 54 = .ok (.ifCond .ne 5, 3) := by decide +kernel
theorem dX1_strength_57 : decode cX1_strength 57 = .ok (.iconst 0, 1) := by decide +kernel
theorem dX1_strength_58 : decode cX1_strength 58 = .ok (.ireturn, 1) := by decide +kernel
theorem dX1_strength_59 : decode cX1_strength 59 = .ok (.iconst 1, 1) := by decide +kernel
theorem dX1_strength_60 : decode cX1_strength 60 = .ok (.iload_n 2, 1) := by decide +kernel
theorem dX1_strength_61 : decode cX1_strength 61 = .ok (.iconst 5, 1) := by decide +kernel
theorem dX1_strength_62 : decode cX1_strength 62 = .ok (.if_icmp .ne 16, 3) := by decide +kernel
theorem dX1_strength_65 : decode cX1_strength 65 = .ok (.getstatic 46, 3) := by decide +kernel
theorem dX1_strength_68 : decode cX1_strength 68 = .ok (.iload_n 0, 1) := by decide +kernel
theorem dX1_strength_69 : decode cX1_strength 69 = .ok (.invokestatic 17, 3) := by decide +kernel
theorem dX1_strength_72 : decode cX1_strength 72 = .ok (.invokestatic 21, 3) := by decide +kernel
theorem dX1_strength_75 : decode cX1_strength 75 = .ok (.goto 7, 3) := by decide +kernel
theorem dX1_strength_78 : decode cX1_strength 78 = .ok (.iload_n 0, 1) := by decide +kernel
theorem dX1_strength_79 : decode cX1_strength 79 = .ok (.invokestatic 17, 3) := by decide +kernel
theorem dX1_strength_82 : decode cX1_strength 82 = .ok (.iadd, 1) := by decide +kernel
theorem dX1_strength_83 : decode cX1_strength 83 = .ok (.ireturn, 1) := by decide +kernel
theorem dX1_runOfTrumps_0 : decode cX1_runOfTrumps 0 = .ok (.iload_n 2, 1) := by decide +kernel
theorem dX1_runOfTrumps_1 : decode cX1_runOfTrumps 1 = .ok (.iconst 4, 1) := by decide +kernel
theorem dX1_runOfTrumps_2 : decode cX1_runOfTrumps 2 = .ok (.if_icmp .ne 7, 3) := by decide +kernel
theorem dX1_runOfTrumps_5 : decode cX1_runOfTrumps 5 = .ok (.iconst 4, 1) := by decide +kernel
theorem dX1_runOfTrumps_6 : decode cX1_runOfTrumps 6 = .ok (.goto 5, 3) := by decide +kernel
theorem dX1_runOfTrumps_9 : decode cX1_runOfTrumps 9 = .ok (.bipush 11, 2) := by decide +kernel
theorem dX1_runOfTrumps_11 : decode cX1_runOfTrumps 11 = .ok (.istore_n 3, 1) := by decide +kernel
theorem dX1_runOfTrumps_12 : decode cX1_runOfTrumps 12 = .ok (.lload_n 0, 1) := by decide +kernel
theorem dX1_runOfTrumps_13 : decode cX1_runOfTrumps 13 = .ok (.iconst 0, 1) := by decide +kernel
theorem dX1_runOfTrumps_14 : decode cX1_runOfTrumps 14 = .ok (.iload_n 2, 1) := by decide +kernel
theorem dX1_runOfTrumps_15 : decode cX1_runOfTrumps 15 = .ok (.invokestatic 49, 3) := by decide +kernel
theorem dX1_runOfTrumps_18 : decode cX1_runOfTrumps 18 = .ok (.invokestatic 25, 3) := by decide +kernel
theorem dX1_runOfTrumps_21 : decode cX1_runOfTrumps 21 = .ok (.land, 1) := by decide +kernel
theorem dX1_runOfTrumps_22 : decode cX1_runOfTrumps 22 = .ok (.lconst 0, 1) := by decide +kernel
theorem dX1_runOfTrumps_23 : decode cX1_runOfTrumps 23 = .ok (.lcmp, 1) := by decide +kernel
theorem dX1_runOfTrumps_24 : decode cX1_runOfTrumps 24 = .ok (.ifCond .eq 7, 3) := by decide +kernel
theorem dX1_runOfTrumps_27 : decode cX1_runOfTrumps 27 = .ok (.iconst 1, 1) := by decide +kernel
theorem dX1_runOfTrumps_28 : decode cX1_runOfTrumps 28 = .ok (.goto 4, 3) := by decide +kernel
theorem dX1_runOfTrumps_31 : decode cX1_runOfTrumps 31 = .ok (.iconst 0, 1) := by decide +kernel
theorem dX1_runOfTrumps_32 : decode cX1_runOfTrumps 32 = .ok (.istore 4, 2) := by decide +kernel
theorem dX1_runOfTrumps_34 : decode cX1_runOfTrumps 34 = .ok (.iconst 1, 1) := by decide +kernel
theorem dX1_runOfTrumps_35 : decode cX1_runOfTrumps 35 = .ok (.istore 5, 2) := by decide +kernel
theorem dX1_runOfTrumps_37 : decode cX1_runOfTrumps 37 = .ok (.iload 5, 2) := by decide +kernel
theorem dX1_runOfTrumps_39 : decode cX1_runOfTrumps 39 = .ok (.iload_n 3, 1) := by decide +kernel
theorem dX1_runOfTrumps_40 : decode cX1_runOfTrumps 40 = .ok (.if_icmp .ge 35, 3) := by decide +kernel
theorem dX1_runOfTrumps_43 : decode cX1_runOfTrumps 43 = .ok (.iload 4, 2) := by decide +kernel
theorem dX1_runOfTrumps_45 : decode cX1_runOfTrumps 45 = .ok (.lload_n 0, 1) := by decide +kernel
theorem dX1_runOfTrumps_46 : decode cX1_runOfTrumps 46 = .ok (.iload 5, 2) := by decide +kernel
theorem dX1_runOfTrumps_48 : decode cX1_runOfTrumps 48 = .ok (.iload_n 2, 1) := by decide +kernel
theorem dX1_runOfTrumps_49 : decode cX1_runOfTrumps 49 = .ok (.invokestatic 49, 3) := by decide +kernel
theorem dX1_runOfTrumps_52 : decode cX1_runOfTrumps 52 = .ok (.invokestatic 25, 3) := by decide +kernel
theorem dX1_runOfTrumps_55 : decode cX1_runOfTrumps 55 = .ok (.land, 1) := by decide +kernel
theorem dX1_runOfTrumps_56 : decode cX1_runOfTrumps 56 = .ok (.lconst 0, 1) := by decide +kernel
theorem dX1_runOfTrumps_57 : decode cX1_runOfTrumps 57 = .ok (.lcmp, 1) := by decide +kernel
theorem dX1_runOfTrumps_58 : decode cX1_runOfTrumps 58 = .ok (.ifCond .eq 7, 3) := by decide +kernel
theorem dX1_runOfTrumps_61 : decode cX1_runOfTrumps 61 = .ok (.iconst 1, 1) := by decide +kernel
theorem dX1_runOfTrumps_62 : decode cX1_runOfTrumps 62 = .ok (.goto 4, 3) := by decide +kernel
theorem dX1_runOfTrumps_65 : decode cX1_runOfTrumps 65 = .ok (.iconst 0, 1) := by decide +kernel
theorem dX1_runOfTrumps_66 : decode cX1_runOfTrumps 66 = .ok (.if_icmp .ne 9, 3) := by decide +kernel
theorem dX1_runOfTrumps_69 : decode cX1_runOfTrumps 69 = .ok (.iinc 5 1, 3) := by decide +kernel
theorem dX1_runOfTrumps_72 : decode cX1_runOfTrumps 72 = .ok (.goto (-35), 3) := by decide +kernel
theorem dX1_runOfTrumps_75 : decode cX1_runOfTrumps 75 = .ok (.iload 4, 2) := by decide +kernel
theorem dX1_runOfTrumps_77 : decode cX1_runOfTrumps 77 = .ok (.ifCond .eq 8, 3) := by decide +kernel
theorem dX1_runOfTrumps_80 : decode cX1_runOfTrumps 80 = .ok (.iload 5, 2) := by decide +kernel
theorem dX1_runOfTrumps_82 : decode cX1_runOfTrumps 82 = .ok (.goto 6, 3) := by decide +kernel
theorem dX1_runOfTrumps_85 : decode cX1_runOfTrumps 85 = .ok (.iload 5, 2) := by decide +kernel
theorem dX1_runOfTrumps_87 : decode cX1_runOfTrumps 87 = .ok (.ineg, 1) := by decide +kernel
theorem dX1_runOfTrumps_88 : decode cX1_runOfTrumps 88 = .ok (.ireturn, 1) := by decide +kernel
theorem dX1_trumpFromTop_0 : decode cX1_trumpFromTop 0 = .ok (.iload_n 0, 1) := by decide +kernel
theorem dX1_trumpFromTop_1 : decode cX1_trumpFromTop 1 = .ok (.iconst 4, 1) := by decide +kernel
theorem dX1_trumpFromTop_2 : decode cX1_trumpFromTop 2 = .ok (.if_icmp .ge 15, 3) := by decide +kernel
theorem dX1_trumpFromTop_5 : decode cX1_trumpFromTop 5 = .ok (.iconst 3, 1) := by decide +kernel
theorem dX1_trumpFromTop_6 : decode cX1_trumpFromTop 6 = .ok (.iload_n 0, 1) := by decide +kernel
theorem dX1_trumpFromTop_7 : decode cX1_trumpFromTop 7 = .ok (.isub, 1) := by decide +kernel
theorem dX1_trumpFromTop_8 : decode cX1_trumpFromTop 8 = .ok (.bipush 8, 2) := by decide +kernel
theorem dX1_trumpFromTop_10 : decode cX1_trumpFromTop 10 = .ok (.imul, 1) := by decide +kernel
theorem dX1_trumpFromTop_11 : decode cX1_trumpFromTop 11 = .ok (.bipush 7, 2) := by decide +kernel
theorem dX1_trumpFromTop_13 : decode cX1_trumpFromTop 13 = .ok (.iadd, 1) := by decide +kernel
theorem dX1_trumpFromTop_14 : decode cX1_trumpFromTop 14 = .ok (.goto 12, 3) := by decide +kernel
theorem dX1_trumpFromTop_17 : decode cX1_trumpFromTop 17 = .ok (.iload_n 1, 1) := by decide +kernel
theorem dX1_trumpFromTop_18 : decode cX1_trumpFromTop 18 = .ok (.bipush 8, 2) := by decide +kernel
theorem dX1_trumpFromTop_20 : decode cX1_trumpFromTop 20 = .ok (.imul, 1) := by decide +kernel
theorem dX1_trumpFromTop_21 : decode cX1_trumpFromTop 21 = .ok (.bipush 10, 2) := by decide +kernel
theorem dX1_trumpFromTop_23 : decode cX1_trumpFromTop 23 = .ok (.iadd, 1) := by decide +kernel
theorem dX1_trumpFromTop_24 : decode cX1_trumpFromTop 24 = .ok (.iload_n 0, 1) := by decide +kernel
theorem dX1_trumpFromTop_25 : decode cX1_trumpFromTop 25 = .ok (.isub, 1) := by decide +kernel
theorem dX1_trumpFromTop_26 : decode cX1_trumpFromTop 26 = .ok (.ireturn, 1) := by decide +kernel
theorem dX2_init_0 : decode cX2_init 0 = .ok (.aload_n 0, 1) := by decide +kernel
theorem dX2_init_1 : decode cX2_init 1 = .ok (.invokespecial 1, 3) := by decide +kernel
theorem dX2_init_4 : decode cX2_init 4 = .ok (.return_, 1) := by decide +kernel
theorem dX2_startDeal_0 : decode cX2_startDeal 0 = .ok (.aload_n 0, 1) := by decide +kernel
theorem dX2_startDeal_1 : decode cX2_startDeal 1 = .ok (.lconst 0, 1) := by decide +kernel
theorem dX2_startDeal_2 : decode cX2_startDeal 2 = .ok (.putfield 7, 3) := by decide +kernel
theorem dX2_startDeal_5 : decode cX2_startDeal 5 = .ok (.aload_n 0, 1) := by decide +kernel
theorem dX2_startDeal_6 : decode cX2_startDeal 6 = .ok (.lconst 0, 1) := by decide +kernel
theorem dX2_startDeal_7 : decode cX2_startDeal 7 = .ok (.putfield 13, 3) := by decide +kernel
theorem dX2_startDeal_10 : decode cX2_startDeal 10 = .ok (.aload_n 0, 1) := by decide +kernel
theorem dX2_startDeal_11 : decode cX2_startDeal 11 = .ok (.iconst 0, 1) := by decide +kernel
theorem dX2_startDeal_12 : decode cX2_startDeal 12 = .ok (.putfield 16, 3) := by decide +kernel
theorem dX2_startDeal_15 : decode cX2_startDeal 15 = .ok (.aload_n 0, 1) := by decide +kernel
theorem dX2_startDeal_16 : decode cX2_startDeal 16 = .ok (.iconst 0, 1) := by decide +kernel
theorem dX2_startDeal_17 : decode cX2_startDeal 17 = .ok (.putfield 20, 3) := by decide +kernel
theorem dX2_startDeal_20 : decode cX2_startDeal 20 = .ok (.return_, 1) := by decide +kernel
theorem dX2_lay_0 : decode cX2_lay 0 = .ok (.aload_n 0, 1) := by decide +kernel
theorem dX2_lay_1 : decode cX2_lay 1 = .ok (.dup, 1) := by decide +kernel
theorem dX2_lay_2 : decode cX2_lay 2 = .ok (.getfield 7, 3) := by decide +kernel
theorem dX2_lay_5 : decode cX2_lay 5 = .ok (.iload_n 1, 1) := by decide +kernel
theorem dX2_lay_6 : decode cX2_lay 6 = .ok (.invokestatic 23, 3) := by decide +kernel
theorem dX2_lay_9 : decode cX2_lay 9 = .ok (.ldc2_w 29, 3) := by decide +kernel
theorem dX2_lay_12 : decode cX2_lay 12 = .ok (.lxor, 1) := by decide +kernel
theorem dX2_lay_13 : decode cX2_lay 13 = .ok (.land, 1) := by decide +kernel
theorem dX2_lay_14 : decode cX2_lay 14 = .ok (.putfield 7, 3) := by decide +kernel
theorem dX2_lay_17 : decode cX2_lay 17 = .ok (.aload_n 0, 1) := by decide +kernel
theorem dX2_lay_18 : decode cX2_lay 18 = .ok (.dup, 1) := by decide +kernel
theorem dX2_lay_19 : decode cX2_lay 19 = .ok (.getfield 13, 3) := by decide +kernel
theorem dX2_lay_22 : decode cX2_lay 22 = .ok (.iload_n 1, 1) := by decide +kernel
theorem dX2_lay_23 : decode cX2_lay 23 = .ok (.invokestatic 23, 3) := by decide +kernel
theorem dX2_lay_26 : decode cX2_lay 26 = .ok (.lor, 1) := by decide +kernel
theorem dX2_lay_27 : decode cX2_lay 27 = .ok (.putfield 13, 3) := by decide +kernel
theorem dX2_lay_30 : decode cX2_lay 30 = .ok (.return_, 1) := by decide +kernel
theorem dX2_win_0 : decode cX2_win 0 = .ok (.aload_n 0, 1) := by decide +kernel
theorem dX2_win_1 : decode cX2_win 1 = .ok (.dup, 1) := by decide +kernel
theorem dX2_win_2 : decode cX2_win 2 = .ok (.getfield 16, 3) := by decide +kernel
theorem dX2_win_5 : decode cX2_win 5 = .ok (.iload_n 1, 1) := by decide +kernel
theorem dX2_win_6 : decode cX2_win 6 = .ok (.iadd, 1) := by decide +kernel
theorem dX2_win_7 : decode cX2_win 7 = .ok (.putfield 16, 3) := by decide +kernel
theorem dX2_win_10 : decode cX2_win 10 = .ok (.aload_n 0, 1) := by decide +kernel
theorem dX2_win_11 : decode cX2_win 11 = .ok (.dup, 1) := by decide +kernel
theorem dX2_win_12 : decode cX2_win 12 = .ok (.getfield 20, 3) := by decide +kernel
theorem dX2_win_15 : decode cX2_win 15 = .ok (.iconst 1, 1) := by decide +kernel
theorem dX2_win_16 : decode cX2_win 16 = .ok (.iadd, 1) := by decide +kernel
theorem dX2_win_17 : decode cX2_win 17 = .ok (.putfield 20, 3) := by decide +kernel
theorem dX2_win_20 : decode cX2_win 20 = .ok (.return_, 1) := by decide +kernel
theorem dX2_loseRamschWith_0 : decode cX2_loseRamschWith 0 = .ok (.aload_n 0, 1) := by decide +kernel
theorem dX2_loseRamschWith_1 : decode cX2_loseRamschWith 1 = .ok (.getfield 16, 3) := by decide +kernel
theorem dX2_loseRamschWith_4 : decode cX2_loseRamschWith 4 = .ok (.iload_n 1, 1) := by decide +kernel
theorem dX2_loseRamschWith_5 : decode cX2_loseRamschWith 5 = .ok (.if_icmp .ne 13, 3) := by decide +kernel
theorem dX2_loseRamschWith_8 : decode cX2_loseRamschWith 8 = .ok (.aload_n 0, 1) := by decide +kernel
theorem dX2_loseRamschWith_9 : decode cX2_loseRamschWith 9 = .ok (.dup, 1) := by decide +kernel
theorem dX2_loseRamschWith_10 : decode cX2_loseRamschWith 10 = .ok (.getfield 31, 3) := by decide +kernel
theorem dX2_loseRamschWith_13 : decode cX2_loseRamschWith 13 = .ok (.iload_n 1, 1) := by decide +kernel
theorem dX2_loseRamschWith_14 : decode cX2_loseRamschWith 14 = .ok (.isub, 1) := by decide +kernel
theorem dX2_loseRamschWith_15 : decode cX2_loseRamschWith 15 = .ok (.putfield 31, 3) := by decide +kernel
theorem dX2_loseRamschWith_18 : decode cX2_loseRamschWith 18 = .ok (.return_, 1) := by decide +kernel
theorem dX3_init_0 : decode cX3_init 0 = .ok (.aload_n 0, 1) := by decide +kernel
theorem dX3_init_1 : decode cX3_init 1 = .ok (.invokespecial 3, 3) := by decide +kernel
theorem dX3_init_4 : decode cX3_init 4 = .ok (.aload_n 0, 1) := by decide +kernel
theorem dX3_init_5 : decode cX3_init 5 = .ok (.iconst 3, 1) := by decide +kernel
theorem dX3_init_6 : decode cX3_init 6 = .ok (.newarray .int, 2) := by decide +kernel
theorem dX3_init_8 : decode cX3_init 8 = .ok (.putfield 9, 3) := by decide +kernel
theorem dX3_init_11 : decode cX3_init 11 = .ok (.return_, 1) := by decide +kernel
theorem dX3_clear_0 : decode cX3_clear 0 = .ok (.aload_n 0, 1) := by decide +kernel
theorem dX3_clear_1 : decode cX3_clear 1 = .ok (.iconst 0, 1) := by decide +kernel
theorem dX3_clear_2 : decode cX3_clear 2 = .ok (.putfield 15, 3) := by decide +kernel
theorem dX3_clear_5 : decode cX3_clear 5 = .ok (.return_, 1) := by decide +kernel
theorem dX3_add_0 : decode cX3_add 0 = .ok (.aload_n 0, 1) := by decide +kernel
theorem dX3_add_1 : decode cX3_add 1 = .ok (.getfield 15, 3) := by decide +kernel
theorem dX3_add_4 : decode cX3_add 4 = .ok (.ifCond .lt 35, 3) := by decide +kernel
theorem dX3_add_7 : decode cX3_add 7 = .ok (.aload_n 0, 1) := by decide +kernel
theorem dX3_add_8 : decode cX3_add 8 = .ok (.getfield 15, 3) := by decide +kernel
theorem dX3_add_11 : decode cX3_add 11 = .ok (.aload_n 0, 1) := by decide +kernel
theorem dX3_add_12 : decode cX3_add 12 = .ok (.getfield 9, 3) := by decide +kernel
theorem dX3_add_15 : decode cX3_add 15 = .ok (.arraylength, 1) := by decide +kernel
theorem dX3_add_16 : decode cX3_add 16 = .ok (.if_icmp .ge 23, 3) := by decide +kernel
theorem dX3_add_19 : decode cX3_add 19 = .ok (.aload_n 0, 1) := by decide +kernel
theorem dX3_add_20 : decode cX3_add 20 = .ok (.getfield 9, 3) := by decide +kernel
theorem dX3_add_23 : decode cX3_add 23 = .ok (.aload_n 0, 1) := by decide +kernel
theorem dX3_add_24 : decode cX3_add 24 = .ok (.getfield 15, 3) := by decide +kernel
theorem dX3_add_27 : decode cX3_add 27 = .ok (.iload_n 1, 1) := by decide +kernel
theorem dX3_add_28 : decode cX3_add 28 = .ok (.iastore, 1) := by decide +kernel
theorem dX3_add_29 : decode cX3_add 29 = .ok (.aload_n 0, 1) := by decide +kernel
theorem dX3_add_30 : decode cX3_add 30 = .ok (.dup, 1) := by decide +kernel
theorem dX3_add_31 : decode cX3_add 31 = .ok (.getfield 15, 3) := by decide +kernel
theorem dX3_add_34 : decode cX3_add 34 = .ok (.iconst 1, 1) := by decide +kernel
theorem dX3_add_35 : decode cX3_add 35 = .ok (.iadd, 1) := by decide +kernel
theorem dX3_add_36 : decode cX3_add 36 = .ok (.putfield 15, 3) := by decide +kernel
theorem dX3_add_39 : decode cX3_add 39 = .ok (.return_, 1) := by decide +kernel
theorem dX3_isEmpty_0 : decode cX3_isEmpty 0 = .ok (.aload_n 0, 1) := by decide +kernel
theorem dX3_isEmpty_1 : decode cX3_isEmpty 1 = .ok (.getfield 15, 3) := by decide +kernel
theorem dX3_isEmpty_4 : decode cX3_isEmpty 4 = .ok (.ifCond .ne 7, 3) := by decide +kernel
theorem dX3_isEmpty_7 : decode cX3_isEmpty 7 = .ok (.iconst 1, 1) := by decide +kernel
theorem dX3_isEmpty_8 : decode cX3_isEmpty 8 = .ok (.goto 4, 3) := by decide +kernel
theorem dX3_isEmpty_11 : decode cX3_isEmpty 11 = .ok (.iconst 0, 1) := by decide +kernel
theorem dX3_isEmpty_12 : decode cX3_isEmpty 12 = .ok (.ireturn, 1) := by decide +kernel
theorem dX3_isComplete_0 : decode cX3_isComplete 0 = .ok (.aload_n 0, 1) := by decide +kernel
theorem dX3_isComplete_1 : decode cX3_isComplete 1 = .ok (.getfield 15, 3) := by decide +kernel
theorem dX3_isComplete_4 : decode cX3_isComplete 4 = .ok (.aload_n 0, 1) := by decide +kernel
theorem dX3_isComplete_5 : decode cX3_isComplete 5 = .ok (.getfield 9, 3) := by decide +kernel
theorem dX3_isComplete_8 : decode cX3_isComplete 8 = .ok (.arraylength, 1) := by decide +kernel
theorem dX3_isComplete_9 : decode cX3_isComplete 9 = .ok (.if_icmp .ne 7, 3) := by decide +kernel
theorem dX3_isComplete_12 : decode cX3_isComplete 12 = .ok (.iconst 1, 1) := by decide +kernel
theorem dX3_isComplete_13 : decode cX3_isComplete 13 = .ok (.goto 4, 3) := by decide +kernel
theorem dX3_isComplete_16 : decode cX3_isComplete 16 = .ok (.iconst 0, 1) := by decide +kernel
theorem dX3_isComplete_17 : decode cX3_isComplete 17 = .ok (.ireturn, 1) := by decide +kernel
theorem dX3_cardAt_0 : decode cX3_cardAt 0 = .ok (.iload_n 1, 1) := by decide +kernel
theorem dX3_cardAt_1 : decode cX3_cardAt 1 = .ok (.ifCond .lt 29, 3) := by decide +kernel
theorem dX3_cardAt_4 : decode cX3_cardAt 4 = .ok (.iload_n 1, 1) := by decide +kernel
theorem dX3_cardAt_5 : decode cX3_cardAt 5 = .ok (.aload_n 0, 1) := by decide +kernel
theorem dX3_cardAt_6 : decode cX3_cardAt 6 = .ok (.getfield 15, 3) := by decide +kernel
theorem dX3_cardAt_9 : decode cX3_cardAt 9 = .ok (.if_icmp .ge 21, 3) := by decide +kernel
theorem dX3_cardAt_12 : decode cX3_cardAt 12 = .ok (.iload_n 1, 1) := by decide +kernel
theorem dX3_cardAt_13 : decode cX3_cardAt 13 = .ok (.aload_n 0, 1) := by decide +kernel
theorem dX3_cardAt_14 : decode cX3_cardAt 14 = .ok (.getfield 9, 3) := by decide +kernel
theorem dX3_cardAt_17 : decode cX3_cardAt 17 = .ok (.arraylength, 1) := by decide +kernel
theorem dX3_cardAt_18 : decode cX3_cardAt 18 = .ok (.if_icmp .ge 12, 3) := by decide +kernel
theorem dX3_cardAt_21 : decode cX3_cardAt 21 = .ok (.aload_n 0, 1) := by decide +kernel
theorem dX3_cardAt_22 : decode cX3_cardAt 22 = .ok (.getfield 9, 3) := by decide +kernel
theorem dX3_cardAt_25 : decode cX3_cardAt 25 = .ok (.iload_n 1, 1) := by decide +kernel
theorem dX3_cardAt_26 : decode cX3_cardAt 26 = .ok (.iaload, 1) := by decide +kernel
theorem dX3_cardAt_27 : decode cX3_cardAt 27 = .ok (.goto 4, 3) := by decide +kernel
theorem dX3_cardAt_30 : decode cX3_cardAt 30 = .ok (.iconst (-1), 1) := by decide +kernel
theorem dX3_cardAt_31 : decode cX3_cardAt 31 = .ok (.ireturn, 1) := by decide +kernel
theorem dX3_sumOfPoints_0 : decode cX3_sumOfPoints 0 = .ok (.iconst 0, 1) := by decide +kernel
theorem dX3_sumOfPoints_1 : decode cX3_sumOfPoints 1 = .ok (.istore_n 1, 1) := by decide +kernel
theorem dX3_sumOfPoints_2 : decode cX3_sumOfPoints 2 = .ok (.iconst 0, 1) := by decide +kernel
theorem dX3_sumOfPoints_3 : decode cX3_sumOfPoints 3 = .ok (.istore_n 2, 1) := by decide +kernel
theorem dX3_sumOfPoints_4 : decode cX3_sumOfPoints 4 = .ok (.iload_n 2, 1) := by decide +kernel
theorem dX3_sumOfPoints_5 : decode cX3_sumOfPoints 5 = .ok (.aload_n 0, 1) := by decide +kernel
theorem dX3_sumOfPoints_6 : decode cX3_sumOfPoints 6 = .ok (.getfield 15, 3) := by decide +kernel
theorem dX3_sumOfPoints_9 : decode cX3_sumOfPoints 9 = .ok (.if_icmp .ge 20, 3) := by decide +kernel
theorem dX3_sumOfPoints_12 : decode cX3_sumOfPoints 12 = .ok (.iload_n 1, 1) := by decide +kernel
theorem dX3_sumOfPoints_13 : decode cX3_sumOfPoints 13 = .ok (.aload_n 0, 1) := by decide +kernel
theorem dX3_sumOfPoints_14 : decode cX3_sumOfPoints 14 = .ok (.iload_n 2, 1) := by decide +kernel
theorem dX3_sumOfPoints_15 : decode cX3_sumOfPoints 15 = .ok (.invokevirtual 19, 3) := by decide +kernel
theorem dX3_sumOfPoints_18 : decode cX3_sumOfPoints 18 = .ok (.invokestatic 23, 3) := by decide +kernel
theorem dX3_sumOfPoints_21 : decode cX3_sumOfPoints 21 = .ok (.iadd, 1) := by decide +kernel
theorem dX3_sumOfPoints_22 : decode cX3_sumOfPoints 22 = .ok (.istore_n 1, 1) := by decide +kernel
theorem dX3_sumOfPoints_23 : decode cX3_sumOfPoints 23 = .ok (.iinc 2 1, 3) := by decide +kernel
theorem dX3_sumOfPoints_26 : decode cX3_sumOfPoints 26 = .ok (.goto (-22), 3) := by decide +kernel
theorem dX3_sumOfPoints_29 : decode cX3_sumOfPoints 29 = .ok (.iload_n 1, 1) := by decide +kernel
theorem dX3_sumOfPoints_30 : decode cX3_sumOfPoints 30 = .ok (.ireturn, 1) := by decide +kernel
theorem dX3_winningPlace_0 : decode cX3_winningPlace 0 = .ok (.aload_n 0, 1) := by decide +kernel
theorem dX3_winningPlace_1 : decode cX3_winningPlace 1 = .ok (.iconst 0, 1) := by decide +kernel
theorem dX3_winningPlace_2 : decode cX3_winningPlace 2 = .ok (.invokevirtual 19, 3) := by decide +kernel
theorem dX3_winningPlace_5 : decode cX3_winningPlace 5 = .ok (.istore_n 2, 1) := by decide +kernel
theorem dX3_winningPlace_6 : decode cX3_winningPlace 6 = .ok (.iconst 0, 1) := by decide +kernel
theorem dX3_winningPlace_7 : decode cX3_winningPlace 7 = .ok (.istore_n 3, 1) := by decide +kernel
theorem dX3_winningPlace_8 : decode cX3_winningPlace 8 = .ok (.iconst 1, 1) := by decide +kernel
theorem dX3_winningPlace_9 : decode cX3_winningPlace 9 = .ok (.istore 4, 2) := by decide +kernel
theorem dX3_winningPlace_11 : decode cX3_winningPlace 11 = .ok (.iload 4, 2) := by decide +kernel
theorem dX3_winningPlace_13 : decode cX3_winningPlace 13 = .ok (.aload_n 0, 1) := by decide +kernel
theorem dX3_winningPlace_14 : decode cX3_winningPlace 14 = .ok (.getfield 15, 3) := by decide +kernel
theorem dX3_winningPlace_17 : decode cX3_winningPlace 17 = .ok (.if_icmp .ge 36, 3) := by decide +kernel
theorem dX3_winningPlace_20 : decode cX3_winningPlace 20 = .ok (.aload_n 0, 1) := by decide +kernel
theorem dX3_winningPlace_21 : decode cX3_winningPlace 21 = .ok (.iload 4, 2) := by decide +kernel
theorem dX3_winningPlace_23 : decode cX3_winningPlace 23 = .ok (.invokevirtual 19, 3) := by decide +kernel
theorem dX3_winningPlace_26 : decode cX3_winningPlace 26 = .ok (.iload_n 2, 1) := by decide +kernel
theorem dX3_winningPlace_27 : decode cX3_winningPlace 27 = .ok (.iload_n 1, 1) := by decide +kernel
theorem dX3_winningPlace_28 : decode cX3_winningPlace 28 = .ok (.invokestatic 28, 3) := by decide +kernel
theorem dX3_winningPlace_31 : decode cX3_winningPlace 31 = .ok (.aload_n 0, 1) := by decide +kernel
theorem dX3_winningPlace_32 : decode cX3_winningPlace 32 = .ok (.iload_n 3, 1) := by decide +kernel
theorem dX3_winningPlace_33 : decode cX3_winningPlace 33 = .ok (.invokevirtual 19, 3) := by decide +kernel
theorem dX3_winningPlace_36 : decode cX3_winningPlace 36 = .ok (.iload_n 2, 1) := by decide +kernel
theorem dX3_winningPlace_37 : decode cX3_winningPlace 37 = .ok (.iload_n 1, 1) := by decide +kernel
theorem dX3_winningPlace_38 : decode cX3_winningPlace 38 = .ok (.invokestatic 28, 3) := by decide +kernel
theorem dX3_winningPlace_41 : decode cX3_winningPlace 41 = .ok (.if_icmp .le 6, 3) := by decide +kernel
theorem dX3_winningPlace_44 : decode cX3_winningPlace 44 = .ok (.iload 4, 2) := by decide +kernel
theorem dX3_winningPlace_46 : decode cX3_winningPlace 46 = .ok (.istore_n 3, 1) := by decide +kernel
theorem dX3_winningPlace_47 : decode cX3_winningPlace 47 = .ok (.iinc 4 1, 3) := by decide +kernel
theorem dX3_winningPlace_50 : decode cX3_winningPlace 50 = .ok (.goto (-39), 3) := by decide +kernel
theorem dX3_winningPlace_53 : decode cX3_winningPlace 53 = .ok (.iload_n 3, 1) := by decide +kernel
theorem dX3_winningPlace_54 : decode cX3_winningPlace 54 = .ok (.ireturn, 1) := by decide +kernel
theorem dX4_init_0 : decode cX4_init 0 = .ok (.aload_n 0, 1) := by decide +kernel
theorem dX4_init_1 : decode cX4_init 1 = .ok (.invokespecial 1, 3) := by decide +kernel
theorem dX4_init_4 : decode cX4_init 4 = .ok (.aload_n 0, 1) := by decide +kernel
theorem dX4_init_5 : decode cX4_init 5 = .ok (.new 7, 3) := by decide +kernel
theorem dX4_init_8 : decode cX4_init 8 = .ok (.dup, 1) := by decide +kernel
theorem dX4_init_9 : decode cX4_init 9 = .ok (.invokespecial 9, 3) := by decide +kernel
theorem dX4_init_12 : decode cX4_init 12 = .ok (.putfield 10, 3) := by decide +kernel
theorem dX4_init_15 : decode cX4_init 15 = .ok (.aload_n 0, 1) := by decide +kernel
theorem dX4_init_16 : decode cX4_init 16 = .ok (.new 7, 3) := by decide +kernel
theorem dX4_init_19 : decode cX4_init 19 = .ok (.dup, 1) := by decide +kernel
theorem dX4_init_20 : decode cX4_init 20 = .ok (.invokespecial 9, 3) := by decide +kernel
theorem dX4_init_23 : decode cX4_init 23 = .ok (.putfield 16, 3) := by decide +kernel
theorem dX4_init_26 : decode cX4_init 26 = .ok (.aload_n 0, 1) := by decide +kernel
theorem dX4_init_27 : decode cX4_init 27 = .ok (.new 7, 3) := by decide +kernel
theorem dX4_init_30 : decode cX4_init 30 = .ok (.dup, 1) := by decide +kernel
theorem dX4_init_31 : decode cX4_init 31 = .ok (.invokespecial 9, 3) := by decide +kernel
theorem dX4_init_34 : decode cX4_init 34 = .ok (.putfield 19, 3) := by decide +kernel
theorem dX4_init_37 : decode cX4_init 37 = .ok (.aload_n 0, 1) := by decide +kernel
theorem dX4_init_38 : decode cX4_init 38 = .ok (.new 22, 3) := by decide +kernel
theorem dX4_init_41 : decode cX4_init 41 = .ok (.dup, 1) := by decide +kernel
theorem dX4_init_42 : decode cX4_init 42 = .ok (.invokespecial 24, 3) := by decide +kernel
theorem dX4_init_45 : decode cX4_init 45 = .ok (.putfield 25, 3) := by decide +kernel
theorem dX4_init_48 : decode cX4_init 48 = .ok (.aload_n 0, 1) := by decide +kernel
theorem dX4_init_49 : decode cX4_init 49 = .ok (.bipush 32, 2) := by decide +kernel
theorem dX4_init_51 : decode cX4_init 51 = .ok (.newarray .int, 2) := by decide +kernel
theorem dX4_init_53 : decode cX4_init 53 = .ok (.putfield 29, 3) := by decide +kernel
theorem dX4_init_56 : decode cX4_init 56 = .ok (.aload_n 0, 1) := by decide +kernel
theorem dX4_init_57 : decode cX4_init 57 = .ok (.iconst 0, 1) := by decide +kernel
theorem dX4_init_58 : decode cX4_init 58 = .ok (.putfield 33, 3) := by decide +kernel
theorem dX4_init_61 : decode cX4_init 61 = .ok (.aload_n 0, 1) := by decide +kernel
theorem dX4_init_62 : decode cX4_init 62 = .ok (.iconst 0, 1) := by decide +kernel
theorem dX4_init_63 : decode cX4_init 63 = .ok (.invokevirtual 37, 3) := by decide +kernel
theorem dX4_init_66 : decode cX4_init 66 = .ok (.return_, 1) := by decide +kernel
theorem dX4_deal_0 : decode cX4_deal 0 = .ok (.iload_n 1, 1) := by decide +kernel
theorem dX4_deal_1 : decode cX4_deal 1 = .ok (.ifCond .ge 13, 3) := by decide +kernel
theorem dX4_deal_4 : decode cX4_deal 4 = .ok (.new 41, 3) := by decide +kernel
theorem dX4_deal_7 : decode cX4_deal 7 = .ok (.dup, 1) := by decide +kernel
theorem dX4_deal_8 : decode cX4_deal 8 = .ok (.ldc 43, 2) := by decide +kernel
theorem dX4_deal_10 : decode cX4_deal 10 = .ok (.invokespecial 45, 3) := by decide +kernel
theorem dX4_deal_13 : decode cX4_deal 13 = .ok (.athrow, 1) := by decide +kernel
theorem dX4_deal_14 : decode cX4_deal 14 = .ok (.aload_n 0, 1) := by decide +kernel
theorem dX4_deal_15 : decode cX4_deal 15 = .ok (.aload_n 0, 1) := by decide +kernel
theorem dX4_deal_16 : decode cX4_deal 16 = .ok (.getfield 33, 3) := by decide +kernel
theorem dX4_deal_19 : decode cX4_deal 19 = .ok (.invokestatic 48, 3) := by decide +kernel
theorem dX4_deal_22 : decode cX4_deal 22 = .ok (.putfield 33, 3) := by decide +kernel
theorem dX4_deal_25 : decode cX4_deal 25 = .ok (.aload_n 0, 1) := by decide +kernel
theorem dX4_deal_26 : decode cX4_deal 26 = .ok (.iload_n 1, 1) := by decide +kernel
theorem dX4_deal_27 : decode cX4_deal 27 = .ok (.invokevirtual 37, 3) := by decide +kernel
theorem dX4_deal_30 : decode cX4_deal 30 = .ok (.aload_n 0, 1) := by decide +kernel
theorem dX4_deal_31 : decode cX4_deal 31 = .ok (.getfield 33, 3) := by decide +kernel
theorem dX4_deal_34 : decode cX4_deal 34 = .ok (.ireturn, 1) := by decide +kernel
theorem dX4_phase_0 : decode cX4_phase 0 = .ok (.aload_n 0, 1) := by decide +kernel
theorem dX4_phase_1 : decode cX4_phase 1 = .ok (.getfield 52, 3) := by decide +kernel
theorem dX4_phase_4 : decode cX4_phase 4 = .ok (.ireturn, 1) := by decide +kernel
theorem dX4_onTurn_0 : decode cX4_onTurn 0 = .ok (.aload_n 0, 1) := by decide +kernel
theorem dX4_onTurn_1 : decode cX4_onTurn 1 = .ok (.getfield 55, 3) := by decide +kernel
theorem dX4_onTurn_4 : decode cX4_onTurn 4 = .ok (.ireturn, 1) := by decide +kernel
theorem dX4_bid_0 : decode cX4_bid 0 = .ok (.iload_n 1, 1) := by decide +kernel
theorem dX4_bid_1 : decode cX4_bid 1 = .ok (.invokestatic 58, 3) := by decide +kernel
theorem dX4_bid_4 : decode cX4_bid 4 = .ok (.ifCond .ne 13, 3) := by decide +kernel
theorem dX4_bid_7 : decode cX4_bid 7 = .ok (.new 41, 3) := by decide +kernel
theorem dX4_bid_10 : decode cX4_bid 10 = .ok (.dup, 1) := by decide +kernel
theorem dX4_bid_11 : decode cX4_bid 11 = .ok (.ldc 64, 2) := by decide +kernel
theorem dX4_bid_13 : decode cX4_bid 13 = .ok (.invokespecial 45, 3) := by decide +kernel
theorem dX4_bid_16 : decode cX4_bid 16 = .ok (.athrow, 1) := by decide +kernel
theorem dX4_bid_17 : decode cX4_bid 17 = .ok (.aload_n 0, 1) := by decide +kernel
theorem dX4_bid_18 : decode cX4_bid 18 = .ok (.getfield 52, 3) := by decide +kernel
theorem dX4_bid_21 : decode cX4_bid 21 = .ok (.ifCond .ne 11, 3) := by decide +kernel
theorem dX4_bid_24 : decode cX4_bid 24 = .ok (.iload_n 1, 1) := by decide +kernel
theorem dX4_bid_25 : decode cX4_bid 25 = .ok (.aload_n 0, 1) := by decide +kernel
theorem dX4_bid_26 : decode cX4_bid 26 = .ok (.getfield 66, 3) := by decide +kernel
theorem dX4_bid_29 : decode cX4_bid 29 = .ok (.if_icmp .gt 13, 3) := by decide +kernel
theorem dX4_bid_32 : decode cX4_bid 32 = .ok (.new 69, 3) := by decide +kernel
theorem dX4_bid_35 : decode cX4_bid 35 = .ok (.dup, 1) := by decide +kernel
theorem dX4_bid_36 : decode cX4_bid 36 = .ok (.ldc 71, 2) := by decide +kernel
theorem dX4_bid_38 : decode cX4_bid 38 = .ok (.invokespecial 73, 3) := by decide +kernel
theorem dX4_bid_41 : decode cX4_bid 41 = .ok (.athrow, 1) := by decide +kernel
theorem dX4_bid_42 : decode cX4_bid 42 = .ok (.aload_n 0, 1) := by decide +kernel
theorem dX4_bid_43 : decode cX4_bid 43 = .ok (.iload_n 1, 1) := by decide +kernel
theorem dX4_bid_44 : decode cX4_bid 44 = .ok (.putfield 66, 3) := by decide +kernel
theorem dX4_bid_47 : decode cX4_bid 47 = .ok (.aload_n 0, 1) := by decide +kernel
theorem dX4_bid_48 : decode cX4_bid 48 = .ok (.getfield 74, 3) := by decide +kernel
theorem dX4_bid_51 : decode cX4_bid 51 = .ok (.iconst (-1), 1) := by decide +kernel
theorem dX4_bid_52 : decode cX4_bid 52 = .ok (.if_icmp .ne 14, 3) := by decide +kernel
theorem dX4_bid_55 : decode cX4_bid 55 = .ok (.aload_n 0, 1) := by decide +kernel
theorem dX4_bid_56 : decode cX4_bid 56 = .ok (.aload_n 0, 1) := by decide +kernel
theorem dX4_bid_57 : decode cX4_bid 57 = .ok (.getfield 77, 3) := by decide +kernel
theorem dX4_bid_60 : decode cX4_bid 60 = .ok (.invokevirtual 80, 3) := by decide +kernel
theorem dX4_bid_63 : decode cX4_bid 63 = .ok (.goto 16, 3) := by decide +kernel
theorem dX4_bid_66 : decode cX4_bid 66 = .ok (.aload_n 0, 1) := by decide +kernel
theorem dX4_bid_67 : decode cX4_bid 67 = .ok (.iconst 1, 1) := by decide +kernel
theorem dX4_bid_68 : decode cX4_bid 68 = .ok (.putfield 52, 3) := by decide +kernel
theorem dX4_bid_71 : decode cX4_bid 71 = .ok (.aload_n 0, 1) := by decide +kernel
theorem dX4_bid_72 : decode cX4_bid 72 = .ok (.aload_n 0, 1) := by decide +kernel
theorem dX4_bid_73 : decode cX4_bid 73 = .ok (.getfield 74, 3) := by decide +kernel
theorem dX4_bid_76 : decode cX4_bid 76 = .ok (.putfield 55, 3) := by decide +kernel
theorem dX4_bid_79 : decode cX4_bid 79 = .ok (.aload_n 0, 1) := by decide +kernel
theorem dX4_bid_80 : decode cX4_bid 80 = .ok (.getfield 55, 3) := by decide +kernel
theorem dX4_bid_83 : decode cX4_bid 83 = .ok (.ireturn, 1) := by decide +kernel
theorem dX4_hold_0 : decode cX4_hold 0 = .ok (.aload_n 0, 1) := by decide +kernel
theorem dX4_hold_1 : decode cX4_hold 1 = .ok (.getfield 52, 3) := by decide +kernel
theorem dX4_hold_4 : decode cX4_hold 4 = .ok (.iconst 1, 1) := by decide +kernel
theorem dX4_hold_5 : decode cX4_hold 5 = .ok (.if_icmp .eq 13, 3) := by decide +kernel
theorem dX4_hold_8 : decode cX4_hold 8 = .ok (.new 69, 3) := by decide +kernel
theorem dX4_hold_11 : decode cX4_hold 11 = .ok (.dup, 1) := by decide +kernel
theorem dX4_hold_12 : decode cX4_hold 12 = .ok (.ldc 83, 2) := by decide +kernel
theorem dX4_hold_14 : decode cX4_hold 14 = .ok (.invokespecial 73, 3) := by decide +kernel
theorem dX4_hold_17 : decode cX4_hold 17 = .ok (.athrow, 1) := by decide +kernel
theorem dX4_hold_18 : decode cX4_hold 18 = .ok (.aload_n 0, 1) := by decide +kernel
theorem dX4_hold_19 : decode cX4_hold 19 = .ok (.iconst 0, 1) := by decide +kernel
theorem dX4_hold_20 : decode cX4_hold 20 = .ok (.putfield 52, 3) := by decide +kernel
theorem dX4_hold_23 : decode cX4_hold 23 = .ok (.aload_n 0, 1) := by decide +kernel
theorem dX4_hold_24 : decode cX4_hold 24 = .ok (.aload_n 0, 1) := by decide +kernel
theorem dX4_hold_25 : decode cX4_hold 25 = .ok (.getfield 77, 3) := by decide +kernel
theorem dX4_hold_28 : decode cX4_hold 28 = .ok (.putfield 55, 3) := by decide +kernel
theorem dX4_hold_31 : decode cX4_hold 31 = .ok (.aload_n 0, 1) := by decide +kernel
theorem dX4_hold_32 : decode cX4_hold 32 = .ok (.getfield 55, 3) := by decide +kernel
theorem dX4_hold_35 : decode cX4_hold 35 = .ok (.ireturn, 1) := by decide +kernel
theorem dX4_pass_0 : decode cX4_pass 0 = .ok (.aload_n 0, 1) := by decide +kernel
theorem dX4_pass_1 : decode cX4_pass 1 = .ok (.getfield 52, 3) := by decide +kernel
theorem dX4_pass_4 : decode cX4_pass 4 = .ok (.ifCond .eq 21, 3) := by decide +kernel
theorem dX4_pass_7 : decode cX4_pass 7 = .ok (.aload_n 0, 1) := by decide +kernel
theorem dX4_pass_8 : decode cX4_pass 8 = .ok (.getfield 52, 3) := by decide +kernel
theorem dX4_pass_11 : decode cX4_pass 11 = .ok (.iconst 1, 1) := by decide +kernel
theorem dX4_pass_12 : decode cX4_pass 12 = .ok (.if_icmp .eq 13, 3) := by decide +kernel
theorem dX4_pass_15 : decode cX4_pass 15 = .ok (.new 69, 3) := by decide +kernel
theorem dX4_pass_18 : decode cX4_pass 18 = .ok (.dup, 1) := by decide +kernel
theorem dX4_pass_19 : decode cX4_pass 19 = .ok (.ldc 85, 2) := by decide +kernel
theorem dX4_pass_21 : decode cX4_pass 21 = .ok (.invokespecial 73, 3) := by decide +kernel
theorem dX4_pass_24 : decode cX4_pass 24 = .ok (.athrow, 1) := by decide +kernel
theorem dX4_pass_25 : decode cX4_pass 25 = .ok (.aload_n 0, 1) := by decide +kernel
theorem dX4_pass_26 : decode cX4_pass 26 = .ok (.getfield 74, 3) := by decide +kernel
theorem dX4_pass_29 : decode cX4_pass 29 = .ok (.iconst (-1), 1) := by decide +kernel
theorem dX4_pass_30 : decode cX4_pass 30 = .ok (.if_icmp .ne 12, 3) := by decide +kernel
theorem dX4_pass_33 : decode cX4_pass 33 = .ok (.aload_n 0, 1) := by decide +kernel
theorem dX4_pass_34 : decode cX4_pass 34 = .ok (.bipush 6, 2) := by decide +kernel
theorem dX4_pass_36 : decode cX4_pass 36 = .ok (.invokevirtual 87, 3) := by decide +kernel
theorem dX4_pass_39 : decode cX4_pass 39 = .ok (.goto 25, 3) := by decide +kernel
theorem dX4_pass_42 : decode cX4_pass 42 = .ok (.aload_n 0, 1) := by decide +kernel
theorem dX4_pass_43 : decode cX4_pass 43 = .ok (.aload_n 0, 1) := by decide +kernel
theorem dX4_pass_44 : decode cX4_pass 44 = .ok (.getfield 52, 3) := by decide +kernel
theorem dX4_pass_47 : decode cX4_pass 47 = .ok (.ifCond .ne 10, 3) := by decide +kernel
theorem dX4_pass_50 : decode cX4_pass 50 = .ok (.aload_n 0, 1) := by decide +kernel
theorem dX4_pass_51 : decode cX4_pass 51 = .ok (.getfield 74, 3) := by decide +kernel
theorem dX4_pass_54 : decode cX4_pass 54 = .ok (.goto 7, 3) := by decide +kernel
theorem dX4_pass_57 : decode cX4_pass 57 = .ok (.aload_n 0, 1) := by decide +kernel
theorem dX4_pass_58 : decode cX4_pass 58 = .ok (.getfield 77, 3) := by decide +kernel
theorem dX4_pass_61 : decode cX4_pass 61 = .ok (.invokevirtual 90, 3) := by decide +kernel
theorem dX4_pass_64 : decode cX4_pass 64 = .ok (.aload_n 0, 1) := by decide +kernel
theorem dX4_pass_65 : decode cX4_pass 65 = .ok (.getfield 55, 3) := by decide +kernel
theorem dX4_pass_68 : decode cX4_pass 68 = .ok (.ireturn, 1) := by decide +kernel
theorem dX4_latestBid_0 : decode cX4_latestBid 0 = .ok (.aload_n 0, 1) := by decide +kernel
theorem dX4_latestBid_1 : decode cX4_latestBid 1 = .ok (.getfield 66, 3) := by decide +kernel
theorem dX4_latestBid_4 : decode cX4_latestBid 4 = .ok (.ireturn, 1) := by decide +kernel
theorem dX4_nextBid_0 : decode cX4_nextBid 0 = .ok (.iload_n 1, 1) := by decide +kernel
theorem dX4_nextBid_1 : decode cX4_nextBid 1 = .ok (.ifCond .lt 10, 3) := by decide +kernel
theorem dX4_nextBid_4 : decode cX4_nextBid 4 = .ok (.iload_n 1, 1) := by decide +kernel
theorem dX4_nextBid_5 : decode cX4_nextBid 5 = .ok (.sipush 264, 3) := by decide +kernel
theorem dX4_nextBid_8 : decode cX4_nextBid 8 = .ok (.if_icmp .lt 13, 3) := by decide +kernel
theorem dX4_nextBid_11 : decode cX4_nextBid 11 = .ok (.new 41, 3) := by decide +kernel
theorem dX4_nextBid_14 : decode cX4_nextBid 14 = .ok (.dup, 1) := by decide +kernel
theorem dX4_nextBid_15 : decode cX4_nextBid 15 = .ok (.ldc 93, 2) := by decide +kernel
theorem dX4_nextBid_17 : decode cX4_nextBid 17 = .ok (.invokespecial 45, 3) := by decide +kernel
theorem dX4_nextBid_20 : decode cX4_nextBid 20 = .ok (.athrow, 1) := by decide +kernel
theorem dX4_nextBid_21 : decode cX4_nextBid 21 = .ok (.iload_n 1, 1) := by decide +kernel
theorem dX4_nextBid_22 : decode cX4_nextBid 22 = .ok (.invokestatic 95, 3) := by decide +kernel
theorem dX4_nextBid_25 : decode cX4_nextBid 25 = .ok (.ireturn, 1) := by decide +kernel
theorem dX4_declarer_0 : decode cX4_declarer 0 = .ok (.aload_n 0, 1) := by decide +kernel
theorem dX4_declarer_1 : decode cX4_declarer 1 = .ok (.getfield 98, 3) := by decide +kernel
theorem dX4_declarer_4 : decode cX4_declarer 4 = .ok (.ireturn, 1) := by decide +kernel
theorem dX4_takeSkat_0 : decode cX4_takeSkat 0 = .ok (.aload_n 0, 1) := by decide +kernel
theorem dX4_takeSkat_1 : decode cX4_takeSkat 1 = .ok (.getfield 52, 3) := by decide +kernel
theorem dX4_takeSkat_4 : decode cX4_takeSkat 4 = .ok (.iconst 2, 1) := by decide +kernel
theorem dX4_takeSkat_5 : decode cX4_takeSkat 5 = .ok (.if_icmp .eq 13, 3) := by decide +kernel
theorem dX4_takeSkat_8 : decode cX4_takeSkat 8 = .ok (.new 69, 3) := by decide +kernel
theorem dX4_takeSkat_11 : decode cX4_takeSkat 11 = .ok (.dup, 1) := by decide +kernel
theorem dX4_takeSkat_12 : decode cX4_takeSkat 12 = .ok (.ldc 101, 2) := by decide +kernel
theorem dX4_takeSkat_14 : decode cX4_takeSkat 14 = .ok (.invokespecial 73, 3) := by decide +kernel
theorem dX4_takeSkat_17 : decode cX4_takeSkat 17 = .ok (.athrow, 1) := by decide +kernel
theorem dX4_takeSkat_18 : decode cX4_takeSkat 18 = .ok (.aload_n 0, 1) := by decide +kernel
theorem dX4_takeSkat_19 : decode cX4_takeSkat 19 = .ok (.getfield 103, 3) := by decide +kernel
theorem dX4_takeSkat_22 : decode cX4_takeSkat 22 = .ok (.lstore_n 1, 1) := by decide +kernel
theorem dX4_takeSkat_23 : decode cX4_takeSkat 23 = .ok (.aload_n 0, 1) := by decide +kernel
theorem dX4_takeSkat_24 : decode cX4_takeSkat 24 = .ok (.aload_n 0, 1) := by decide +kernel
theorem dX4_takeSkat_25 : decode cX4_takeSkat 25 = .ok (.getfield 98, 3) := by decide +kernel
theorem dX4_takeSkat_28 : decode cX4_takeSkat 28 = .ok (.invokevirtual 107, 3) := by decide +kernel
theorem dX4_takeSkat_31 : decode cX4_takeSkat 31 = .ok (.dup, 1) := by decide +kernel
theorem dX4_takeSkat_32 : decode cX4_takeSkat 32 = .ok (.getfield 111, 3) := by decide +kernel
theorem dX4_takeSkat_35 : decode cX4_takeSkat 35 = .ok (.lload_n 1, 1) := by decide +kernel
theorem dX4_takeSkat_36 : decode cX4_takeSkat 36 = .ok (.lor, 1) := by decide +kernel
theorem dX4_takeSkat_37 : decode cX4_takeSkat 37 = .ok (.putfield 111, 3) := by decide +kernel
theorem dX4_takeSkat_40 : decode cX4_takeSkat 40 = .ok (.aload_n 0, 1) := by decide +kernel
theorem dX4_takeSkat_41 : decode cX4_takeSkat 41 = .ok (.lconst 0, 1) := by decide +kernel
theorem dX4_takeSkat_42 : decode cX4_takeSkat 42 = .ok (.putfield 103, 3) := by decide +kernel
theorem dX4_takeSkat_45 : decode cX4_takeSkat 45 = .ok (.aload_n 0, 1) := by decide +kernel
theorem dX4_takeSkat_46 : decode cX4_takeSkat 46 = .ok (.iconst 3, 1) := by decide +kernel
theorem dX4_takeSkat_47 : decode cX4_takeSkat 47 = .ok (.putfield 52, 3) := by decide +kernel
theorem dX4_takeSkat_50 : decode cX4_takeSkat 50 = .ok (.lload_n 1, 1) := by decide +kernel
theorem dX4_takeSkat_51 : decode cX4_takeSkat 51 = .ok (.lreturn, 1) := by decide +kernel
theorem dX4_putAway_0 : decode cX4_putAway 0 = .ok (.iload_n 1, 1) := by decide +kernel
theorem dX4_putAway_1 : decode cX4_putAway 1 = .ok (.invokestatic 114, 3) := by decide +kernel
theorem dX4_putAway_4 : decode cX4_putAway 4 = .ok (.ifCond .eq 10, 3) := by decide +kernel
theorem dX4_putAway_7 : decode cX4_putAway 7 = .ok (.iload_n 2, 1) := by decide +kernel
theorem dX4_putAway_8 : decode cX4_putAway 8 = .ok (.invokestatic 114, 3) := by decide +kernel
theorem dX4_putAway_11 : decode cX4_putAway 11 = .ok (.ifCond .ne 13, 3) := by decide +kernel
theorem dX4_putAway_14 : decode cX4_putAway 14 = .ok (.new 117, 3) := by decide +kernel
theorem dX4_putAway_17 : decode cX4_putAway 17 = .ok (.dup, 1) := by decide +kernel
theorem dX4_putAway_18 : decode cX4_putAway 18 = .ok (.ldc 119, 2) := by decide +kernel
theorem dX4_putAway_20 : decode cX4_putAway 20 = .ok (.invokespecial 121, 3) := by decide +kernel
theorem dX4_putAway_23 : decode cX4_putAway 23 = .ok (.athrow, 1) := by decide +kernel
theorem dX4_putAway_24 : decode cX4_putAway 24 = .ok (.iload_n 1, 1) := by decide +kernel
theorem dX4_putAway_25 : decode cX4_putAway 25 = .ok (.iload_n 2, 1) := by decide +kernel
theorem dX4_putAway_26 : decode cX4_putAway 26 = .ok (.if_icmp .ne 13, 3) := by decide +kernel
theorem dX4_putAway_29 : decode cX4_putAway 29 = .ok (.new 41, 3) := by decide +kernel
theorem dX4_putAway_32 : decode cX4_putAway 32 = .ok (.dup, 1) := by decide +kernel
theorem dX4_putAway_33 : decode cX4_putAway 33 = .ok (.ldc 122, 2) := by decide +kernel
theorem dX4_putAway_35 : decode cX4_putAway 35 = .ok (.invokespecial 45, 3) := by decide +kernel
theorem dX4_putAway_38 : decode cX4_putAway 38 = .ok (.athrow, 1) := by decide +kernel
theorem dX4_putAway_39 : decode cX4_putAway 39 = .ok (.iload_n 1, 1) := by decide +kernel
theorem dX4_putAway_40 : decode cX4_putAway 40 = .ok (.invokestatic 124, 3) := by decide +kernel
theorem dX4_putAway_43 : decode cX4_putAway 43 = .ok (.iload_n 2, 1) := by decide +kernel
theorem dX4_putAway_44 : decode cX4_putAway 44 = .ok (.invokestatic 124, 3) := by decide +kernel
theorem dX4_putAway_47 : decode cX4_putAway 47 = .ok (.lor, 1) := by decide +kernel
theorem dX4_putAway_48 : decode cX4_putAway 48 = .ok (.lstore_n 3, 1) := by decide +kernel
theorem dX4_putAway_49 : decode cX4_putAway 49 = .ok (.aload_n 0, 1) := by decide +kernel
theorem dX4_putAway_50 : decode cX4_putAway 50 = .ok (.getfield 52, 3) := by decide +kernel
theorem dX4_putAway_53 : decode cX4_putAway 53 = .ok (.iconst 3, 1) := by decide +kernel
theorem dX4_putAway_54 : decode cX4_putAway 54 = .ok (.if_icmp .ne 21, 3) := by decide +kernel
theorem dX4_putAway_57 : decode cX4_putAway 57 = .ok (.aload_n 0, 1) := by decide +kernel
theorem dX4_putAway_58 : decode cX4_putAway 58 = .ok (.aload_n 0, 1) := by decide +kernel
theorem dX4_putAway_59 : decode cX4_putAway 59 = .ok (.getfield 98, 3) := by decide +kernel
theorem dX4_putAway_62 : decode cX4_putAway 62 = .ok (.invokevirtual 107, 3) := by decide +kernel
theorem dX4_putAway_65 : decode cX4_putAway 65 = .ok (.getfield 111, 3) := by decide +kernel
theorem dX4_putAway_68 : decode cX4_putAway 68 = .ok (.lload_n 3, 1) := by decide +kernel
theorem dX4_putAway_69 : decode cX4_putAway 69 = .ok (.land, 1) := by decide +kernel
theorem dX4_putAway_70 : decode cX4_putAway 70 = .ok (.lload_n 3, 1) := by decide +kernel
theorem dX4_putAway_71 : decode cX4_putAway 71 = .ok (.lcmp, 1) := by decide +kernel
theorem dX4_putAway_72 : decode cX4_putAway 72 = .ok (.ifCond .eq 13, 3) := by decide +kernel
theorem dX4_putAway_75 : decode cX4_putAway 75 = .ok (.new 69, 3) := by decide +kernel
theorem dX4_putAway_78 : decode cX4_putAway 78 = .ok (.dup, 1) := by decide +kernel
theorem dX4_putAway_79 : decode cX4_putAway 79 = .ok (.ldc 130, 2) := by decide +kernel
theorem dX4_putAway_81 : decode cX4_putAway 81 = .ok (.invokespecial 73, 3) := by decide +kernel
theorem dX4_putAway_84 : decode cX4_putAway 84 = .ok (.athrow, 1) := by decide +kernel
theorem dX4_putAway_85 : decode cX4_putAway 85 = .ok (.aload_n 0, 1) := by decide +kernel
theorem dX4_putAway_86 : decode cX4_putAway 86 = .ok (.aload_n 0, 1) := by decide +kernel
theorem dX4_putAway_87 : decode cX4_putAway 87 = .ok (.getfield 98, 3) := by decide +kernel
theorem dX4_putAway_90 : decode cX4_putAway 90 = .ok (.invokevirtual 107, 3) := by decide +kernel
theorem dX4_putAway_93 : decode cX4_putAway 93 = .ok (.dup, 1) := by decide +kernel
theorem dX4_putAway_94 : decode cX4_putAway 94 = .ok (.getfield 111, 3) := by decide +kernel
theorem dX4_putAway_97 : decode cX4_putAway 97 = .ok (.lload_n 3, 1) := by decide +kernel
theorem dX4_putAway_98 : decode cX4_putAway 98 = .ok (.ldc2_w 132, 3) := by decide +kernel
theorem dX4_putAway_101 : decode cX4_putAway 101 = .ok (.lxor, 1) := by decide +kernel
theorem dX4_putAway_102 : decode cX4_putAway 102 = .ok (.land, 1) := by decide +kernel
theorem dX4_putAway_103 : decode cX4_putAway 103 = .ok (.putfield 111, 3) := by decide +kernel
theorem dX4_putAway_106 : decode cX4_putAway 106 = .ok (.aload_n 0, 1) := by decide +kernel
theorem dX4_putAway_107 : decode cX4_putAway 107 = .ok (.lload_n 3, 1) := by decide +kernel
theorem dX4_putAway_108 : decode cX4_putAway 108 = .ok (.putfield 103, 3) := by decide +kernel
theorem dX4_putAway_111 : decode cX4_putAway 111 = .ok (.aload_n 0, 1) := by decide +kernel
theorem dX4_putAway_112 : decode cX4_putAway 112 = .ok (.iconst 4, 1) := by decide +kernel
theorem dX4_putAway_113 : decode cX4_putAway 113 = .ok (.putfield 52, 3) := by decide +kernel
theorem dX4_putAway_116 : decode cX4_putAway 116 = .ok (.lload_n 3, 1) := by decide +kernel
theorem dX4_putAway_117 : decode cX4_putAway 117 = .ok (.invokestatic 134, 3) := by decide +kernel
theorem dX4_putAway_120 : decode cX4_putAway 120 = .ok (.ireturn, 1) := by decide +kernel
theorem dX4_announce_0 : decode cX4_announce 0 = .ok (.iload_n 1, 1) := by decide +kernel
theorem dX4_announce_1 : decode cX4_announce 1 = .ok (.ifCond .lt 17, 3) := by decide +kernel
theorem dX4_announce_4 : decode cX4_announce 4 = .ok (.iload_n 1, 1) := by decide +kernel
theorem dX4_announce_5 : decode cX4_announce 5 = .ok (.iconst 5, 1) := by decide +kernel
theorem dX4_announce_6 : decode cX4_announce 6 = .ok (.if_icmp .gt 12, 3) := by decide +kernel
theorem dX4_announce_9 : decode cX4_announce 9 = .ok (.iload_n 2, 1) := by decide +kernel
theorem dX4_announce_10 : decode cX4_announce 10 = .ok (.ifCond .lt 8, 3) := by decide +kernel
theorem dX4_announce_13 : decode cX4_announce 13 = .ok (.iload_n 2, 1) := by decide +kernel
theorem dX4_announce_14 : decode cX4_announce 14 = .ok (.iconst 3, 1) := by decide +kernel
theorem dX4_announce_15 : decode cX4_announce 15 = .ok (.if_icmp .le 13, 3) := by decide +kernel
theorem dX4_announce_18 : decode cX4_announce 18 = .ok (.new 41, 3) := by decide +kernel
theorem dX4_announce_21 : decode cX4_announce 21 = .ok (.dup, 1) := by decide +kernel
theorem dX4_announce_22 : decode cX4_announce 22 = .ok (.ldc 138, 2) := by decide +kernel
theorem dX4_announce_24 : decode cX4_announce 24 = .ok (.invokespecial 45, 3) := by decide +kernel
theorem dX4_announce_27 : decode cX4_announce 27 = .ok (.athrow, 1) := by decide +kernel
theorem dX4_announce_28 : decode cX4_announce 28 = .ok (.aload_n 0, 1) := by decide +kernel
theorem dX4_announce_29 : decode cX4_announce 29 = .ok (.getfield 52, 3) := by decide +kernel
theorem dX4_announce_32 : decode cX4_announce 32 = .ok (.iconst 2, 1) := by decide +kernel
theorem dX4_announce_33 : decode cX4_announce 33 = .ok (.if_icmp .ne 7, 3) := by decide +kernel
theorem dX4_announce_36 : decode cX4_announce 36 = .ok (.iconst 1, 1) := by decide +kernel
theorem dX4_announce_37 : decode cX4_announce 37 = .ok (.goto 4, 3) := by decide +kernel
theorem dX4_announce_40 : decode cX4_announce 40 = .ok (.iconst 0, 1) := by decide +kernel
theorem dX4_announce_41 : decode cX4_announce 41 = .ok (.istore_n 3, 1) := by decide +kernel
theorem dX4_announce_42 : decode cX4_announce 42 = .ok (.iload_n 3, 1) := by decide +kernel
theorem dX4_announce_43 : decode cX4_announce 43 = .ok (.ifCond .ne 21, 3) := by decide +kernel
theorem dX4_announce_46 : decode cX4_announce 46 = .ok (.aload_n 0, 1) := by decide +kernel
theorem dX4_announce_47 : decode cX4_announce 47 = .ok (.getfield 52, 3) := by decide +kernel
theorem dX4_announce_50 : decode cX4_announce 50 = .ok (.iconst 4, 1) := by decide +kernel
theorem dX4_announce_51 : decode cX4_announce 51 = .ok (.if_icmp .eq 13, 3) := by decide +kernel
theorem dX4_announce_54 : decode cX4_announce 54 = .ok (.new 69, 3) := by decide +kernel
theorem dX4_announce_57 : decode cX4_announce 57 = .ok (.dup, 1) := by decide +kernel
theorem dX4_announce_58 : decode cX4_announce 58 = .ok (.ldc 140, 2) := by decide +kernel
theorem dX4_announce_60 : decode cX4_announce 60 = .ok (.invokespecial 73, 3) := by decide +kernel
theorem dX4_announce_63 : decode cX4_announce 63 = .ok (.athrow, 1) := by decide +kernel
theorem dX4_announce_64 : decode cX4_announce 64 = .ok (.iload_n 1, 1) := by decide +kernel
theorem dX4_announce_65 : decode cX4_announce 65 = .ok (.iload_n 2, 1) := by decide +kernel
theorem dX4_announce_66 : decode cX4_announce 66 = .ok (.iload_n 3, 1) := by decide +kernel
theorem dX4_announce_67 : decode cX4_announce 67 = .ok (.invokestatic 142, 3) := by decide +kernel
theorem dX4_announce_70 : decode cX4_announce 70 = .ok (.ifCond .ne 13, 3) := by decide +kernel
theorem dX4_announce_73 : decode cX4_announce 73 = .ok (.new 69, 3) := by decide +kernel
theorem dX4_announce_76 : decode cX4_announce 76 = .ok (.dup, 1) := by decide +kernel
theorem dX4_announce_77 : decode cX4_announce 77 = .ok (.ldc 146, 2) := by decide +kernel
theorem dX4_announce_79 : decode cX4_announce 79 = .ok (.invokespecial 73, 3) := by decide +kernel
theorem dX4_announce_82 : decode cX4_announce 82 = .ok (.athrow, 1) := by decide +kernel
theorem dX4_announce_83 : decode cX4_announce 83 = .ok (.aload_n 0, 1) := by decide +kernel
theorem dX4_announce_84 : decode cX4_announce 84 = .ok (.iload_n 2, 1) := by decide +kernel
theorem dX4_announce_85 : decode cX4_announce 85 = .ok (.putfield 148, 3) := by decide +kernel
theorem dX4_announce_88 : decode cX4_announce 88 = .ok (.aload_n 0, 1) := by decide +kernel
theorem dX4_announce_89 : decode cX4_announce 89 = .ok (.iload_n 3, 1) := by decide +kernel
theorem dX4_announce_90 : decode cX4_announce 90 = .ok (.putfield 151, 3) := by decide +kernel
theorem dX4_announce_93 : decode cX4_announce 93 = .ok (.aload_n 0, 1) := by decide +kernel
theorem dX4_announce_94 : decode cX4_announce 94 = .ok (.aload_n 0, 1) := by decide +kernel
theorem dX4_announce_95 : decode cX4_announce 95 = .ok (.getfield 98, 3) := by decide +kernel
theorem dX4_announce_98 : decode cX4_announce 98 = .ok (.invokevirtual 107, 3) := by decide +kernel
theorem dX4_announce_101 : decode cX4_announce 101 = .ok (.dup, 1) := by decide +kernel
theorem dX4_announce_102 : decode cX4_announce 102 = .ok (.getfield 155, 3) := by decide +kernel
theorem dX4_announce_105 : decode cX4_announce 105 = .ok (.aload_n 0, 1) := by decide +kernel
theorem dX4_announce_106 : decode cX4_announce 106 = .ok (.getfield 103, 3) := by decide +kernel
theorem dX4_announce_109 : decode cX4_announce 109 = .ok (.invokestatic 134, 3) := by decide +kernel
theorem dX4_announce_112 : decode cX4_announce 112 = .ok (.iadd, 1) := by decide +kernel
theorem dX4_announce_113 : decode cX4_announce 113 = .ok (.putfield 155, 3) := by decide +kernel
theorem dX4_announce_116 : decode cX4_announce 116 = .ok (.aload_n 0, 1) := by decide +kernel
theorem dX4_announce_117 : decode cX4_announce 117 = .ok (.iload_n 1, 1) := by decide +kernel
theorem dX4_announce_118 : decode cX4_announce 118 = .ok (.invokevirtual 87, 3) := by decide +kernel
theorem dX4_announce_121 : decode cX4_announce 121 = .ok (.aload_n 0, 1) := by decide +kernel
theorem dX4_announce_122 : decode cX4_announce 122 = .ok (.getfield 55, 3) := by decide +kernel
theorem dX4_announce_125 : decode cX4_announce 125 = .ok (.ireturn, 1) := by decide +kernel
theorem dX4_contract_0 : decode cX4_contract 0 = .ok (.aload_n 0, 1) := by decide +kernel
theorem dX4_contract_1 : decode cX4_contract 1 = .ok (.getfield 158, 3) := by decide +kernel
theorem dX4_contract_4 : decode cX4_contract 4 = .ok (.ireturn, 1) := by decide +kernel
theorem dX4_matadors_0 : decode cX4_matadors 0 = .ok (.iload_n 1, 1) := by decide +kernel
theorem dX4_matadors_1 : decode cX4_matadors 1 = .ok (.invokestatic 161, 3) := by decide +kernel
theorem dX4_matadors_4 : decode cX4_matadors 4 = .ok (.iload_n 2, 1) := by decide +kernel
theorem dX4_matadors_5 : decode cX4_matadors 5 = .ok (.ifCond .lt 8, 3) := by decide +kernel
theorem dX4_matadors_8 : decode cX4_matadors 8 = .ok (.iload_n 2, 1) := by decide +kernel
theorem dX4_matadors_9 : decode cX4_matadors 9 = .ok (.iconst 4, 1) := by decide +kernel
theorem dX4_matadors_10 : decode cX4_matadors 10 = .ok (.if_icmp .le 13, 3) := by decide +kernel
theorem dX4_matadors_13 : decode cX4_matadors 13 = .ok (.new 41, 3) := by decide +kernel
theorem dX4_matadors_16 : decode cX4_matadors 16 = .ok (.dup, 1) := by decide +kernel
theorem dX4_matadors_17 : decode cX4_matadors 17 = .ok (.ldc 164, 2) := by decide +kernel
theorem dX4_matadors_19 : decode cX4_matadors 19 = .ok (.invokespecial 45, 3) := by decide +kernel
theorem dX4_matadors_22 : decode cX4_matadors 22 = .ok (.athrow, 1) := by decide +kernel
theorem dX4_matadors_23 : decode cX4_matadors 23 = .ok (.aload_n 0, 1) := by decide +kernel
theorem dX4_matadors_24 : decode cX4_matadors 24 = .ok (.iload_n 1, 1) := by decide +kernel
theorem dX4_matadors_25 : decode cX4_matadors 25 = .ok (.invokevirtual 166, 3) := by decide +kernel
theorem dX4_matadors_28 : decode cX4_matadors 28 = .ok (.iload_n 2, 1) := by decide +kernel
theorem dX4_matadors_29 : decode cX4_matadors 29 = .ok (.invokestatic 169, 3) := by decide +kernel
theorem dX4_matadors_32 : decode cX4_matadors 32 = .ok (.ireturn, 1) := by decide +kernel
theorem dX4_playable_0 : decode cX4_playable 0 = .ok (.aload_n 0, 1) := by decide +kernel
theorem dX4_playable_1 : decode cX4_playable 1 = .ok (.getfield 52, 3) := by decide +kernel
theorem dX4_playable_4 : decode cX4_playable 4 = .ok (.iconst 5, 1) := by decide +kernel
theorem dX4_playable_5 : decode cX4_playable 5 = .ok (.if_icmp .eq 13, 3) := by decide +kernel
theorem dX4_playable_8 : decode cX4_playable 8 = .ok (.new 69, 3) := by decide +kernel
theorem dX4_playable_11 : decode cX4_playable 11 = .ok (.dup, 1) := by decide +kernel
theorem dX4_playable_12 : decode cX4_playable 12 = .ok (.ldc 173, 2) := by decide +kernel
theorem dX4_playable_14 : decode cX4_playable 14 = .ok (.invokespecial 73, 3) := by decide +kernel
theorem dX4_playable_17 : decode cX4_playable 17 = .ok (.athrow, 1) := by decide +kernel
theorem dX4_playable_18 : decode cX4_playable 18 = .ok (.aload_n 0, 1) := by decide +kernel
theorem dX4_playable_19 : decode cX4_playable 19 = .ok (.invokevirtual 175, 3) := by decide +kernel
theorem dX4_playable_22 : decode cX4_playable 22 = .ok (.lreturn, 1) := by decide +kernel
theorem dX4_play_0 : decode cX4_play 0 = .ok (.iload_n 1, 1) := by decide +kernel
theorem dX4_play_1 : decode cX4_play 1 = .ok (.invokestatic 114, 3) := by decide +kernel
theorem dX4_play_4 : decode cX4_play 4 = .ok (.ifCond .ne 13, 3) := by decide +kernel
theorem dX4_play_7 : decode cX4_play 7 = .ok (.new 117, 3) := by decide +kernel
theorem dX4_play_10 : decode cX4_play 10 = .ok (.dup, 1) := by decide +kernel
theorem dX4_play_11 : decode cX4_play 11 = .ok (.ldc 119, 2) := by decide +kernel
theorem dX4_play_13 : decode cX4_play 13 = .ok (.invokespecial 121, 3) := by decide +kernel
theorem dX4_play_16 : decode cX4_play 16 = .ok (.athrow, 1) := by decide +kernel
theorem dX4_play_17 : decode cX4_play 17 = .ok (.aload_n 0, 1) := by decide +kernel
theorem dX4_play_18 : decode cX4_play 18 = .ok (.getfield 52, 3) := by decide +kernel
theorem dX4_play_21 : decode cX4_play 21 = .ok (.iconst 5, 1) := by decide +kernel
theorem dX4_play_22 : decode cX4_play 22 = .ok (.if_icmp .ne 17, 3) := by decide +kernel
theorem dX4_play_25 : decode cX4_play 25 = .ok (.aload_n 0, 1) := by decide +kernel
theorem dX4_play_26 : decode cX4_play 26 = .ok (.invokevirtual 175, 3) := by decide +kernel
theorem dX4_play_29 : decode cX4_play 29 = .ok (.iload_n 1, 1) := by decide +kernel
theorem dX4_play_30 : decode cX4_play 30 = .ok (.invokestatic 124, 3) := by decide +kernel
theorem dX4_play_33 : decode cX4_play 33 = .ok (.land, 1) := by decide +kernel
theorem dX4_play_34 : decode cX4_play 34 = .ok (.lconst 0, 1) := by decide +kernel
theorem dX4_play_35 : decode cX4_play 35 = .ok (.lcmp, 1) := by decide +kernel
theorem dX4_play_36 : decode cX4_play 36 = .ok (.ifCond .ne 13, 3) := by decide +kernel
theorem dX4_play_39 : decode cX4_play 39 = .ok (.new 69, 3) := by decide +kernel
theorem dX4_play_42 : decode cX4_play 42 = .ok (.dup, 1) := by decide +kernel
theorem dX4_play_43 : decode cX4_play 43 = .ok (.ldc 179, 2) := by decide +kernel
theorem dX4_play_45 : decode cX4_play 45 = .ok (.invokespecial 73, 3) := by decide +kernel
theorem dX4_play_48 : decode cX4_play 48 = .ok (.athrow, 1) := by decide +kernel
theorem dX4_play_49 : decode cX4_play 49 = .ok (.aload_n 0, 1) := by decide +kernel
theorem dX4_play_50 : decode cX4_play 50 = .ok (.aload_n 0, 1) := by decide +kernel
theorem dX4_play_51 : decode cX4_play 51 = .ok (.getfield 55, 3) := by decide +kernel
theorem dX4_play_54 : decode cX4_play 54 = .ok (.invokevirtual 107, 3) := by decide +kernel
theorem dX4_play_57 : decode cX4_play 57 = .ok (.iload_n 1, 1) := by decide +kernel
theorem dX4_play_58 : decode cX4_play 58 = .ok (.invokevirtual 181, 3) := by decide +kernel
theorem dX4_play_61 : decode cX4_play 61 = .ok (.aload_n 0, 1) := by decide +kernel
theorem dX4_play_62 : decode cX4_play 62 = .ok (.getfield 25, 3) := by decide +kernel
theorem dX4_play_65 : decode cX4_play 65 = .ok (.iload_n 1, 1) := by decide +kernel
theorem dX4_play_66 : decode cX4_play 66 = .ok (.invokevirtual 184, 3) := by decide +kernel
theorem dX4_play_69 : decode cX4_play 69 = .ok (.aload_n 0, 1) := by decide +kernel
theorem dX4_play_70 : decode cX4_play 70 = .ok (.getfield 25, 3) := by decide +kernel
theorem dX4_play_73 : decode cX4_play 73 = .ok (.invokevirtual 187, 3) := by decide +kernel
theorem dX4_play_76 : decode cX4_play 76 = .ok (.ifCond .ne 16, 3) := by decide +kernel
theorem dX4_play_79 : decode cX4_play 79 = .ok (.aload_n 0, 1) := by decide +kernel
theorem dX4_play_80 : decode cX4_play 80 = .ok (.aload_n 0, 1) := by decide +kernel
theorem dX4_play_81 : decode cX4_play 81 = .ok (.getfield 55, 3) := by decide +kernel
theorem dX4_play_84 : decode cX4_play 84 = .ok (.invokestatic 48, 3) := by decide +kernel
theorem dX4_play_87 : decode cX4_play 87 = .ok (.putfield 55, 3) := by decide +kernel
theorem dX4_play_90 : decode cX4_play 90 = .ok (.iconst (-1), 1) := by decide +kernel
theorem dX4_play_91 : decode cX4_play 91 = .ok (.ireturn, 1) := by decide +kernel
theorem dX4_play_92 : decode cX4_play 92 = .ok (.aload_n 0, 1) := by decide +kernel
theorem dX4_play_93 : decode cX4_play 93 = .ok (.invokevirtual 191, 3) := by decide +kernel
theorem dX4_play_96 : decode cX4_play 96 = .ok (.istore_n 2, 1) := by decide +kernel
theorem dX4_play_97 : decode cX4_play 97 = .ok (.aload_n 0, 1) := by decide +kernel
theorem dX4_play_98 : decode cX4_play 98 = .ok (.iload_n 2, 1) := by decide +kernel
theorem dX4_play_99 : decode cX4_play 99 = .ok (.invokevirtual 107, 3) := by decide +kernel
theorem dX4_play_102 : decode cX4_play 102 = .ok (.aload_n 0, 1) := by decide +kernel
theorem dX4_play_103 : decode cX4_play 103 = .ok (.getfield 25, 3) := by decide +kernel
theorem dX4_play_106 : decode cX4_play 106 = .ok (.invokevirtual 195, 3) := by decide +kernel
theorem dX4_play_109 : decode cX4_play 109 = .ok (.invokevirtual 198, 3) := by decide +kernel
theorem dX4_play_112 : decode cX4_play 112 = .ok (.aload_n 0, 1) := by decide +kernel
theorem dX4_play_113 : decode cX4_play 113 = .ok (.getfield 25, 3) := by decide +kernel
theorem dX4_play_116 : decode cX4_play 116 = .ok (.invokevirtual 201, 3) := by decide +kernel
theorem dX4_play_119 : decode cX4_play 119 = .ok (.aload_n 0, 1) := by decide +kernel
theorem dX4_play_120 : decode cX4_play 120 = .ok (.iload_n 2, 1) := by decide +kernel
theorem dX4_play_121 : decode cX4_play 121 = .ok (.putfield 55, 3) := by decide +kernel
theorem dX4_play_124 : decode cX4_play 124 = .ok (.aload_n 0, 1) := by decide +kernel
theorem dX4_play_125 : decode cX4_play 125 = .ok (.invokevirtual 204, 3) := by decide +kernel
theorem dX4_play_128 : decode cX4_play 128 = .ok (.bipush 10, 2) := by decide +kernel
theorem dX4_play_130 : decode cX4_play 130 = .ok (.if_icmp .ne 8, 3) := by decide +kernel
theorem dX4_play_133 : decode cX4_play 133 = .ok (.aload_n 0, 1) := by decide +kernel
theorem dX4_play_134 : decode cX4_play 134 = .ok (.iload_n 2, 1) := by decide +kernel
theorem dX4_play_135 : decode cX4_play 135 = .ok (.invokevirtual 207, 3) := by decide +kernel
theorem dX4_play_138 : decode cX4_play 138 = .ok (.iload_n 2, 1) := by decide +kernel
theorem dX4_play_139 : decode cX4_play 139 = .ok (.ireturn, 1) := by decide +kernel
theorem dX4_hand_0 : decode cX4_hand 0 = .ok (.iload_n 1, 1) := by decide +kernel
theorem dX4_hand_1 : decode cX4_hand 1 = .ok (.invokestatic 161, 3) := by decide +kernel
theorem dX4_hand_4 : decode cX4_hand 4 = .ok (.aload_n 0, 1) := by decide +kernel
theorem dX4_hand_5 : decode cX4_hand 5 = .ok (.iload_n 1, 1) := by decide +kernel
theorem dX4_hand_6 : decode cX4_hand 6 = .ok (.invokevirtual 107, 3) := by decide +kernel
theorem dX4_hand_9 : decode cX4_hand 9 = .ok (.getfield 111, 3) := by decide +kernel
theorem dX4_hand_12 : decode cX4_hand 12 = .ok (.lreturn, 1) := by decide +kernel
theorem dX4_inTrick_0 : decode cX4_inTrick 0 = .ok (.iload_n 1, 1) := by decide +kernel
theorem dX4_inTrick_1 : decode cX4_inTrick 1 = .ok (.ifCond .lt 8, 3) := by decide +kernel
theorem dX4_inTrick_4 : decode cX4_inTrick 4 = .ok (.iload_n 1, 1) := by decide +kernel
theorem dX4_inTrick_5 : decode cX4_inTrick 5 = .ok (.iconst 3, 1) := by decide +kernel
theorem dX4_inTrick_6 : decode cX4_inTrick 6 = .ok (.if_icmp .lt 13, 3) := by decide +kernel
theorem dX4_inTrick_9 : decode cX4_inTrick 9 = .ok (.new 41, 3) := by decide +kernel
theorem dX4_inTrick_12 : decode cX4_inTrick 12 = .ok (.dup, 1) := by decide +kernel
theorem dX4_inTrick_13 : decode cX4_inTrick 13 = .ok (.ldc 210, 2) := by decide +kernel
theorem dX4_inTrick_15 : decode cX4_inTrick 15 = .ok (.invokespecial 45, 3) := by decide +kernel
theorem dX4_inTrick_18 : decode cX4_inTrick 18 = .ok (.athrow, 1) := by decide +kernel
theorem dX4_inTrick_19 : decode cX4_inTrick 19 = .ok (.aload_n 0, 1) := by decide +kernel
theorem dX4_inTrick_20 : decode cX4_inTrick 20 = .ok (.getfield 25, 3) := by decide +kernel
theorem dX4_inTrick_23 : decode cX4_inTrick 23 = .ok (.iload_n 1, 1) := by decide +kernel
theorem dX4_inTrick_24 : decode cX4_inTrick 24 = .ok (.invokevirtual 212, 3) := by decide +kernel
theorem dX4_inTrick_27 : decode cX4_inTrick 27 = .ok (.ireturn, 1) := by decide +kernel
theorem dX4_points_0 : decode cX4_points 0 = .ok (.iload_n 1, 1) := by decide +kernel
theorem dX4_points_1 : decode cX4_points 1 = .ok (.invokestatic 161, 3) := by decide +kernel
theorem dX4_points_4 : decode cX4_points 4 = .ok (.aload_n 0, 1) := by decide +kernel
theorem dX4_points_5 : decode cX4_points 5 = .ok (.iload_n 1, 1) := by decide +kernel
theorem dX4_points_6 : decode cX4_points 6 = .ok (.invokevirtual 107, 3) := by decide +kernel
theorem dX4_points_9 : decode cX4_points 9 = .ok (.getfield 155, 3) := by decide +kernel
theorem dX4_points_12 : decode cX4_points 12 = .ok (.ireturn, 1) := by decide +kernel
theorem dX4_tricks_0 : decode cX4_tricks 0 = .ok (.iload_n 1, 1) := by decide +kernel
theorem dX4_tricks_1 : decode cX4_tricks 1 = .ok (.invokestatic 161, 3) := by decide +kernel
theorem dX4_tricks_4 : decode cX4_tricks 4 = .ok (.aload_n 0, 1) := by decide +kernel
theorem dX4_tricks_5 : decode cX4_tricks 5 = .ok (.iload_n 1, 1) := by decide +kernel
theorem dX4_tricks_6 : decode cX4_tricks 6 = .ok (.invokevirtual 107, 3) := by decide +kernel
theorem dX4_tricks_9 : decode cX4_tricks 9 = .ok (.getfield 215, 3) := by decide +kernel
theorem dX4_tricks_12 : decode cX4_tricks 12 = .ok (.ireturn, 1) := by decide +kernel
theorem dX4_value_0 : decode cX4_value 0 = .ok (.aload_n 0, 1) := by decide +kernel
theorem dX4_value_1 : decode cX4_value 1 = .ok (.getfield 158, 3) := by decide +kernel
theorem dX4_value_4 : decode cX4_value 4 = .ok (.iconst (-1), 1) := by decide +kernel
theorem dX4_value_5 : decode cX4_value 5 = .ok (.if_icmp .ne 13, 3) := by decide +kernel
theorem dX4_value_8 : decode cX4_value 8 = .ok (.new 69, 3) := by decide +kernel
theorem dX4_value_11 : decode cX4_value 11 = .ok (.dup, 1) := by decide +kernel
theorem dX4_value_12 : decode cX4_value 12 = .ok (.ldc 218, 2) := by decide +kernel
theorem dX4_value_14 : decode cX4_value 14 = .ok (.invokespecial 73, 3) := by decide +kernel
theorem dX4_value_17 : decode cX4_value 17 = .ok (.athrow, 1) := by decide +kernel
theorem dX4_value_18 : decode cX4_value 18 = .ok (.aload_n 0, 1) := by decide +kernel
theorem dX4_value_19 : decode cX4_value 19 = .ok (.getfield 158, 3) := by decide +kernel
theorem dX4_value_22 : decode cX4_value 22 = .ok (.bipush 6, 2) := by decide +kernel
theorem dX4_value_24 : decode cX4_value 24 = .ok (.if_icmp .ne 8, 3) := by decide +kernel
theorem dX4_value_27 : decode cX4_value 27 = .ok (.aload_n 0, 1) := by decide +kernel
theorem dX4_value_28 : decode cX4_value 28 = .ok (.invokevirtual 220, 3) := by decide +kernel
theorem dX4_value_31 : decode cX4_value 31 = .ok (.ireturn, 1) := by decide +kernel
theorem dX4_value_32 : decode cX4_value 32 = .ok (.aload_n 0, 1) := by decide +kernel
theorem dX4_value_33 : decode cX4_value 33 = .ok (.aload_n 0, 1) := by decide +kernel
theorem dX4_value_34 : decode cX4_value 34 = .ok (.invokevirtual 223, 3) := by decide +kernel
theorem dX4_value_37 : decode cX4_value 37 = .ok (.invokevirtual 226, 3) := by decide +kernel
theorem dX4_value_40 : decode cX4_value 40 = .ok (.ireturn, 1) := by decide +kernel
theorem dX4_score_0 : decode cX4_score 0 = .ok (.iload_n 1, 1) := by decide +kernel
theorem dX4_score_1 : decode cX4_score 1 = .ok (.invokestatic 161, 3) := by decide +kernel
theorem dX4_score_4 : decode cX4_score 4 = .ok (.aload_n 0, 1) := by decide +kernel
theorem dX4_score_5 : decode cX4_score 5 = .ok (.iload_n 1, 1) := by decide +kernel
theorem dX4_score_6 : decode cX4_score 6 = .ok (.invokevirtual 107, 3) := by decide +kernel
theorem dX4_score_9 : decode cX4_score 9 = .ok (.getfield 229, 3) := by decide +kernel
theorem dX4_score_12 : decode cX4_score 12 = .ok (.ireturn, 1) := by decide +kernel
theorem dX4_refuseNoPlayer_0 : decode cX4_refuseNoPlayer 0 = .ok (.iload_n 0, 1) := by decide +kernel
theorem dX4_refuseNoPlayer_1 : decode cX4_refuseNoPlayer 1 = .ok (.ifCond .lt 8, 3) := by decide +kernel
theorem dX4_refuseNoPlayer_4 : decode cX4_refuseNoPlayer 4 = .ok (.iload_n 0, 1) := by decide +kernel
theorem dX4_refuseNoPlayer_5 : decode cX4_refuseNoPlayer 5 = .ok (.iconst 3, 1) := by decide +kernel
theorem dX4_refuseNoPlayer_6 : decode cX4_refuseNoPlayer 6 = .ok (.if_icmp .lt 13, 3) := by decide +kernel
theorem dX4_refuseNoPlayer_9 : decode cX4_refuseNoPlayer 9 = .ok (.new 117, 3) := by decide +kernel
theorem dX4_refuseNoPlayer_12 : decode cX4_refuseNoPlayer 12 = .ok (.dup, 1) := by decide +kernel
theorem dX4_refuseNoPlayer_13 : decode cX4_refuseNoPlayer 13 = .ok (.ldc 232, 2) := by decide +kernel
theorem dX4_refuseNoPlayer_15 : decode cX4_refuseNoPlayer 15 = .ok (.invokespecial 121, 3) := by decide +kernel
theorem dX4_refuseNoPlayer_18 : decode cX4_refuseNoPlayer 18 = .ok (.athrow, 1) := by decide +kernel
theorem dX4_refuseNoPlayer_19 : decode cX4_refuseNoPlayer 19 = .ok (.return_, 1) := by decide +kernel
theorem dX4_playerAfter_0 : decode cX4_playerAfter 0 = .ok (.iload_n 0, 1) := by decide +kernel
theorem dX4_playerAfter_1 : decode cX4_playerAfter 1 = .ok (.iconst 2, 1) := by decide +kernel
theorem dX4_playerAfter_2 : decode cX4_playerAfter 2 = .ok (.if_icmp .lt 7, 3) := by decide +kernel
theorem dX4_playerAfter_5 : decode cX4_playerAfter 5 = .ok (.iconst 0, 1) := by decide +kernel
theorem dX4_playerAfter_6 : decode cX4_playerAfter 6 = .ok (.goto 6, 3) := by decide +kernel
theorem dX4_playerAfter_9 : decode cX4_playerAfter 9 = .ok (.iload_n 0, 1) := by decide +kernel
theorem dX4_playerAfter_10 : decode cX4_playerAfter 10 = .ok (.iconst 1, 1) := by decide +kernel
theorem dX4_playerAfter_11 : decode cX4_playerAfter 11 = .ok (.iadd, 1) := by decide +kernel
theorem dX4_playerAfter_12 : decode cX4_playerAfter 12 = .ok (.ireturn, 1) := by decide +kernel
theorem dX4_seat_0 : decode cX4_seat 0 = .ok (.iload_n 1, 1) := by decide +kernel
theorem dX4_seat_1 : decode cX4_seat 1 = .ok (.ifCond .ne 8, 3) := by decide +kernel
theorem dX4_seat_4 : decode cX4_seat 4 = .ok (.aload_n 0, 1) := by decide +kernel
theorem dX4_seat_5 : decode cX4_seat 5 = .ok (.getfield 10, 3) := by decide +kernel
theorem dX4_seat_8 : decode cX4_seat 8 = .ok (.areturn, 1) := by decide +kernel
theorem dX4_seat_9 : decode cX4_seat 9 = .ok (.iload_n 1, 1) := by decide +kernel
theorem dX4_seat_10 : decode cX4_seat 10 = .ok (.iconst 1, 1) := by decide +kernel
theorem dX4_seat_11 : decode cX4_seat 11 = .ok (.if_icmp .ne 10, 3) := by decide +kernel
theorem dX4_seat_14 : decode cX4_seat 14 = .ok (.aload_n 0, 1) := by decide +kernel
theorem dX4_seat_15 : decode cX4_seat 15 = .ok (.getfield 16, 3) := by decide +kernel
theorem dX4_seat_18 : decode cX4_seat 18 = .ok (.goto 7, 3) := by decide +kernel
theorem dX4_seat_21 : decode cX4_seat 21 = .ok (.aload_n 0, 1) := by decide +kernel
theorem dX4_seat_22 : decode cX4_seat 22 = .ok (.getfield 19, 3) := by decide +kernel
theorem dX4_seat_25 : decode cX4_seat 25 = .ok (.areturn, 1) := by decide +kernel
theorem dX4_isCard_0 : decode cX4_isCard 0 = .ok (.iload_n 0, 1) := by decide +kernel
theorem dX4_isCard_1 : decode cX4_isCard 1 = .ok (.ifCond .lt 13, 3) := by decide +kernel
theorem dX4_isCard_4 : decode cX4_isCard 4 = .ok (.iload_n 0, 1) := by decide +kernel
theorem dX4_isCard_5 : decode cX4_isCard 5 = .ok (.bipush 32, 2) := by decide +kernel
theorem dX4_isCard_7 : decode cX4_isCard 7 = .ok (.if_icmp .ge 7, 3) := by decide +kernel
theorem dX4_isCard_10 : decode cX4_isCard 10 = .ok (.iconst 1, 1) := by decide +kernel
theorem dX4_isCard_11 : decode cX4_isCard 11 = .ok (.goto 4, 3) := by decide +kernel
theorem dX4_isCard_14 : decode cX4_isCard 14 = .ok (.iconst 0, 1) := by decide +kernel
theorem dX4_isCard_15 : decode cX4_isCard 15 = .ok (.ireturn, 1) := by decide +kernel
theorem dX4_startDeal_0 : decode cX4_startDeal 0 = .ok (.aload_n 0, 1) := by decide +kernel
theorem dX4_startDeal_1 : decode cX4_startDeal 1 = .ok (.getfield 10, 3) := by decide +kernel
theorem dX4_startDeal_4 : decode cX4_startDeal 4 = .ok (.invokevirtual 234, 3) := by decide +kernel
theorem dX4_startDeal_7 : decode cX4_startDeal 7 = .ok (.aload_n 0, 1) := by decide +kernel
theorem dX4_startDeal_8 : decode cX4_startDeal 8 = .ok (.getfield 16, 3) := by decide +kernel
theorem dX4_startDeal_11 : decode cX4_startDeal 11 = .ok (.invokevirtual 234, 3) := by decide +kernel
theorem dX4_startDeal_14 : decode cX4_startDeal 14 = .ok (.aload_n 0, 1) := by decide +kernel
theorem dX4_startDeal_15 : decode cX4_startDeal 15 = .ok (.getfield 19, 3) := by decide +kernel
theorem dX4_startDeal_18 : decode cX4_startDeal 18 = .ok (.invokevirtual 234, 3) := by decide +kernel
theorem dX4_startDeal_21 : decode cX4_startDeal 21 = .ok (.aload_n 0, 1) := by decide +kernel
theorem dX4_startDeal_22 : decode cX4_startDeal 22 = .ok (.getfield 25, 3) := by decide +kernel
theorem dX4_startDeal_25 : decode cX4_startDeal 25 = .ok (.invokevirtual 201, 3) := by decide +kernel
theorem dX4_startDeal_28 : decode cX4_startDeal 28 = .ok (.aload_n 0, 1) := by decide +kernel
theorem dX4_startDeal_29 : decode cX4_startDeal 29 = .ok (.iload_n 1, 1) := by decide +kernel
theorem dX4_startDeal_30 : decode cX4_startDeal 30 = .ok (.invokevirtual 236, 3) := by decide +kernel
theorem dX4_startDeal_33 : decode cX4_startDeal 33 = .ok (.aload_n 0, 1) := by decide +kernel
theorem dX4_startDeal_34 : decode cX4_startDeal 34 = .ok (.invokevirtual 239, 3) := by decide +kernel
theorem dX4_startDeal_37 : decode cX4_startDeal 37 = .ok (.aload_n 0, 1) := by decide +kernel
theorem dX4_startDeal_38 : decode cX4_startDeal 38 = .ok (.iconst 0, 1) := by decide +kernel
theorem dX4_startDeal_39 : decode cX4_startDeal 39 = .ok (.putfield 66, 3) := by decide +kernel
theorem dX4_startDeal_42 : decode cX4_startDeal 42 = .ok (.aload_n 0, 1) := by decide +kernel
theorem dX4_startDeal_43 : decode cX4_startDeal 43 = .ok (.iconst (-1), 1) := by decide +kernel
theorem dX4_startDeal_44 : decode cX4_startDeal 44 = .ok (.putfield 98, 3) := by decide +kernel
theorem dX4_startDeal_47 : decode cX4_startDeal 47 = .ok (.aload_n 0, 1) := by decide +kernel
theorem dX4_startDeal_48 : decode cX4_startDeal 48 = .ok (.iconst (-1), 1) := by decide +kernel
theorem dX4_startDeal_49 : decode cX4_startDeal 49 = .ok (.putfield 158, 3) := by decide +kernel
theorem dX4_startDeal_52 : decode cX4_startDeal 52 = .ok (.aload_n 0, 1) := by decide +kernel
theorem dX4_startDeal_53 : decode cX4_startDeal 53 = .ok (.iconst 0, 1) := by decide +kernel
theorem dX4_startDeal_54 : decode cX4_startDeal 54 = .ok (.putfield 148, 3) := by decide +kernel
theorem dX4_startDeal_57 : decode cX4_startDeal 57 = .ok (.aload_n 0, 1) := by decide +kernel
theorem dX4_startDeal_58 : decode cX4_startDeal 58 = .ok (.iconst 0, 1) := by decide +kernel
theorem dX4_startDeal_59 : decode cX4_startDeal 59 = .ok (.putfield 151, 3) := by decide +kernel
theorem dX4_startDeal_62 : decode cX4_startDeal 62 = .ok (.aload_n 0, 1) := by decide +kernel
theorem dX4_startDeal_63 : decode cX4_startDeal 63 = .ok (.aload_n 0, 1) := by decide +kernel
theorem dX4_startDeal_64 : decode cX4_startDeal 64 = .ok (.getfield 33, 3) := by decide +kernel
theorem dX4_startDeal_67 : decode cX4_startDeal 67 = .ok (.invokestatic 48, 3) := by decide +kernel
theorem dX4_startDeal_70 : decode cX4_startDeal 70 = .ok (.aload_n 0, 1) := by decide +kernel
theorem dX4_startDeal_71 : decode cX4_startDeal 71 = .ok (.getfield 33, 3) := by decide +kernel
theorem dX4_startDeal_74 : decode cX4_startDeal 74 = .ok (.invokevirtual 242, 3) := by decide +kernel
theorem dX4_startDeal_77 : decode cX4_startDeal 77 = .ok (.return_, 1) := by decide +kernel
theorem dX4_shuffle_0 : decode cX4_shuffle 0 = .ok (.iconst 0, 1) := by decide +kernel
theorem dX4_shuffle_1 : decode cX4_shuffle 1 = .ok (.istore_n 2, 1) := by decide +kernel
theorem dX4_shuffle_2 : decode cX4_shuffle 2 = .ok (.iload_n 2, 1) := by decide +kernel
theorem dX4_shuffle_3 : decode cX4_shuffle 3 = .ok (.aload_n 0, 1) := by decide +kernel
theorem dX4_shuffle_4 : decode cX4_shuffle 4 = .ok (.getfield 29, 3) := by decide +kernel
theorem dX4_shuffle_7 : decode cX4_shuffle 7 = .ok (.arraylength, 1) := by decide +kernel
theorem dX4_shuffle_8 : decode cX4_shuffle 8 = .ok (.if_icmp .ge 16, 3) := by decide +kernel
theorem dX4_shuffle_11 : decode cX4_shuffle 11 = .ok (.aload_n 0, 1) := by decide +kernel
theorem dX4_shuffle_12 : decode cX4_shuffle 12 = .ok (.getfield 29, 3) := by decide +kernel
theorem dX4_shuffle_15 : decode cX4_shuffle 15 = .ok (.iload_n 2, 1) := by decide +kernel
theorem dX4_shuffle_16 : decode cX4_shuffle 16 = .ok (.iload_n 2, 1) := by decide +kernel
theorem dX4_shuffle_17 : decode cX4_shuffle 17 = .ok (.iastore, 1) := by decide +kernel
theorem dX4_shuffle_18 : decode cX4_shuffle 18 = .ok (.iinc 2 1, 3) := by decide +kernel
theorem dX4_shuffle_21 : decode cX4_shuffle 21 = .ok (.goto (-19), 3) := by decide +kernel
theorem dX4_shuffle_24 : decode cX4_shuffle 24 = .ok (.iload_n 1, 1) := by decide +kernel
theorem dX4_shuffle_25 : decode cX4_shuffle 25 = .ok (.i2l, 1) := by decide +kernel
theorem dX4_shuffle_26 : decode cX4_shuffle 26 = .ok (.lstore_n 2, 1) := by decide +kernel
theorem dX4_shuffle_27 : decode cX4_shuffle 27 = .ok (.aload_n 0, 1) := by decide +kernel
theorem dX4_shuffle_28 : decode cX4_shuffle 28 = .ok (.getfield 29, 3) := by decide +kernel
theorem dX4_shuffle_31 : decode cX4_shuffle 31 = .ok (.arraylength, 1) := by decide +kernel
theorem dX4_shuffle_32 : decode cX4_shuffle 32 = .ok (.iconst 1, 1) := by decide +kernel
theorem dX4_shuffle_33 : decode cX4_shuffle 33 = .ok (.isub, 1) := by decide +kernel
theorem dX4_shuffle_34 : decode cX4_shuffle 34 = .ok (.istore 4, 2) := by decide +kernel
theorem dX4_shuffle_36 : decode cX4_shuffle 36 = .ok (.iload 4, 2) := by decide +kernel
theorem dX4_shuffle_38 : decode cX4_shuffle 38 = .ok (.iconst 1, 1) := by decide +kernel
theorem dX4_shuffle_39 : decode cX4_shuffle 39 = .ok (.if_icmp .lt 41, 3) := by decide +kernel
theorem dX4_shuffle_42 : decode cX4_shuffle 42 = .ok (.lload_n 2, 1) := by decide +kernel
theorem dX4_shuffle_43 : decode cX4_shuffle 43 = .ok (.ldc2_w 246, 3) := by decide +kernel
theorem dX4_shuffle_46 : decode cX4_shuffle 46 = .ok (.lmul, 1) := by decide +kernel
theorem dX4_shuffle_47 : decode cX4_shuffle 47 = .ok (.ldc2_w 248, 3) := by decide +kernel
theorem dX4_shuffle_50 : decode cX4_shuffle 50 = .ok (.ladd, 1) := by decide +kernel
theorem dX4_shuffle_51 : decode cX4_shuffle 51 = .ok (.ldc2_w 250, 3) := by decide +kernel
theorem dX4_shuffle_54 : decode cX4_shuffle 54 = .ok (.land, 1) := by decide +kernel
theorem dX4_shuffle_55 : decode cX4_shuffle 55 = .ok (.lstore_n 2, 1) := by decide +kernel
theorem dX4_shuffle_56 : decode cX4_shuffle 56 = .ok (.aload_n 0, 1) := by decide +kernel
theorem dX4_shuffle_57 : decode cX4_shuffle 57 = .ok (.iload 4, 2) := by decide +kernel
theorem dX4_shuffle_59 : decode cX4_shuffle 59 = .ok (.lload_n 2, 1) := by decide +kernel
theorem dX4_shuffle_60 : decode cX4_shuffle 60 = .ok (.ldc2_w 252, 3) := by decide +kernel
theorem dX4_shuffle_63 : decode cX4_shuffle 63 = .ok (.ldiv, 1) := by decide +kernel
theorem dX4_shuffle_64 : decode cX4_shuffle 64 = .ok (.iload 4, 2) := by decide +kernel
theorem dX4_shuffle_66 : decode cX4_shuffle 66 = .ok (.iconst 1, 1) := by decide +kernel
theorem dX4_shuffle_67 : decode cX4_shuffle 67 = .ok (.iadd, 1) := by decide +kernel
theorem dX4_shuffle_68 : decode cX4_shuffle 68 = .ok (.i2l, 1) := by decide +kernel
theorem dX4_shuffle_69 : decode cX4_shuffle 69 = .ok (.lrem, 1) := by decide +kernel
theorem dX4_shuffle_70 : decode cX4_shuffle 70 = .ok (.l2i, 1) := by decide +kernel
theorem dX4_shuffle_71 : decode cX4_shuffle 71 = .ok (.invokevirtual 254, 3) := by decide +kernel
theorem dX4_shuffle_74 : decode cX4_shuffle 74 = .ok (.iinc 4 (-1), 3) := by decide +kernel
theorem dX4_shuffle_77 : decode cX4_shuffle 77 = .ok (.goto (-41), 3) := by decide +kernel
theorem dX4_shuffle_80 : decode cX4_shuffle 80 = .ok (.return_, 1) := by decide +kernel
theorem dX4_exchange_0 : decode cX4_exchange 0 = .ok (.iload_n 1, 1) := by decide +kernel
theorem dX4_exchange_1 : decode cX4_exchange 1 = .ok (.ifCond .lt 25, 3) := by decide +kernel
theorem dX4_exchange_4 : decode cX4_exchange 4 = .ok (.iload_n 1, 1) := by decide +kernel
theorem dX4_exchange_5 : decode cX4_exchange 5 = .ok (.aload_n 0, 1) := by decide +kernel
theorem dX4_exchange_6 : decode cX4_exchange 6 = .ok (.getfield 29, 3) := by decide +kernel
theorem dX4_exchange_9 : decode cX4_exchange 9 = .ok (.arraylength, 1) := by decide +kernel
theorem dX4_exchange_10 : decode cX4_exchange 10 = .ok (.if_icmp .ge 16, 3) := by decide +kernel
theorem dX4_exchange_13 : decode cX4_exchange 13 = .ok (.iload_n 2, 1) := by decide +kernel
theorem dX4_exchange_14 : decode cX4_exchange 14 = .ok (.ifCond .lt 12, 3) := by decide +kernel
theorem dX4_exchange_17 : decode cX4_exchange 17 = .ok (.iload_n 2, 1) := by decide +kernel
theorem dX4_exchange_18 : decode cX4_exchange 18 = .ok (.aload_n 0, 1) := by decide +kernel
theorem dX4_exchange_19 : decode cX4_exchange 19 = .ok (.getfield 29, 3) := by decide +kernel
theorem dX4_exchange_22 : decode cX4_exchange 22 = .ok (.arraylength, 1) := by decide +kernel
theorem dX4_exchange_23 : decode cX4_exchange 23 = .ok (.if_icmp .lt 4, 3) := by decide +kernel
theorem dX4_exchange_26 : decode cX4_exchange 26 = .ok (.return_, 1) := by decide +kernel
theorem dX4_exchange_27 : decode cX4_exchange 27 = .ok (.aload_n 0, 1) := by decide +kernel
theorem dX4_exchange_28 : decode cX4_exchange 28 = .ok (.getfield 29, 3) := by decide +kernel
theorem dX4_exchange_31 : decode cX4_exchange 31 = .ok (.iload_n 1, 1) := by decide +kernel
theorem dX4_exchange_32 : decode cX4_exchange 32 = .ok (.iaload, 1) := by decide +kernel
theorem dX4_exchange_33 : decode cX4_exchange 33 = .ok (.istore_n 3, 1) := by decide +kernel
theorem dX4_exchange_34 : decode cX4_exchange 34 = .ok (.aload_n 0, 1) := by decide +kernel
theorem dX4_exchange_35 : decode cX4_exchange 35 = .ok (.getfield 29, 3) := by decide +kernel
theorem dX4_exchange_38 : decode cX4_exchange 38 = .ok (.iload_n 1, 1) := by decide +kernel
theorem dX4_exchange_39 : decode cX4_exchange 39 = .ok (.aload_n 0, 1) := by decide +kernel
theorem dX4_exchange_40 : decode cX4_exchange 40 = .ok (.getfield 29, 3) := by decide +kernel
theorem dX4_exchange_43 : decode cX4_exchange 43 = .ok (.iload_n 2, 1) := by decide +kernel
theorem dX4_exchange_44 : decode cX4_exchange 44 = .ok (.iaload, 1) := by decide +kernel
theorem dX4_exchange_45 : decode cX4_exchange 45 = .ok (.iastore, 1) := by decide +kernel
theorem dX4_exchange_46 : decode cX4_exchange 46 = .ok (.aload_n 0, 1) := by decide +kernel
theorem dX4_exchange_47 : decode cX4_exchange 47 = .ok (.getfield 29, 3) := by decide +kernel
theorem dX4_exchange_50 : decode cX4_exchange 50 = .ok (.iload_n 2, 1) := by decide +kernel
theorem dX4_exchange_51 : decode cX4_exchange 51 = .ok (.iload_n 3, 1) := by decide +kernel
theorem dX4_exchange_52 : decode cX4_exchange 52 = .ok (.iastore, 1) := by decide +kernel
theorem dX4_exchange_53 : decode cX4_exchange 53 = .ok (.return_, 1) := by decide +kernel
theorem dX4_giveCards_0 : decode cX4_giveCards 0 = .ok (.aload_n 0, 1) := by decide +kernel
theorem dX4_giveCards_1 : decode cX4_giveCards 1 = .ok (.lconst 0, 1) := by decide +kernel
theorem dX4_giveCards_2 : decode cX4_giveCards 2 = .ok (.putfield 103, 3) := by decide +kernel
theorem dX4_giveCards_5 : decode cX4_giveCards 5 = .ok (.iconst 0, 1) := by decide +kernel
theorem dX4_giveCards_6 : decode cX4_giveCards 6 = .ok (.istore_n 1, 1) := by decide +kernel
theorem dX4_giveCards_7 : decode cX4_giveCards 7 = .ok (.iload_n 1, 1) := by decide +kernel
theorem dX4_giveCards_8 : decode cX4_giveCards 8 = .ok (.aload_n 0, 1) := by decide +kernel
theorem dX4_giveCards_9 : decode cX4_giveCards 9 = .ok (.getfield 29, 3) := by decide +kernel
theorem dX4_giveCards_12 : decode cX4_giveCards 12 = .ok (.arraylength, 1) := by decide +kernel
theorem dX4_giveCards_13 : decode cX4_giveCards 13 = .ok (.if_icmp .ge 55, 3) := by decide +kernel
theorem dX4_giveCards_16 : decode cX4_giveCards 16 = .ok (.aload_n 0, 1) := by decide +kernel
theorem dX4_giveCards_17 : decode cX4_giveCards 17 = .ok (.getfield 29, 3) := by decide +kernel
theorem dX4_giveCards_20 : decode cX4_giveCards 20 = .ok (.iload_n 1, 1) := by decide +kernel
theorem dX4_giveCards_21 : decode cX4_giveCards 21 = .ok (.iaload, 1) := by decide +kernel
theorem dX4_giveCards_22 : decode cX4_giveCards 22 = .ok (.invokestatic 124, 3) := by decide +kernel
theorem dX4_giveCards_25 : decode cX4_giveCards 25 = .ok (.lstore_n 2, 1) := by decide +kernel
theorem dX4_giveCards_26 : decode cX4_giveCards 26 = .ok (.iload_n 1, 1) := by decide +kernel
theorem dX4_giveCards_27 : decode cX4_giveCards 27 = .ok (.bipush 30, 2) := by decide +kernel
theorem dX4_giveCards_29 : decode cX4_giveCards 29 = .ok (.if_icmp .ge 23, 3) := by decide +kernel
theorem dX4_giveCards_32 : decode cX4_giveCards 32 = .ok (.aload_n 0, 1) := by decide +kernel
theorem dX4_giveCards_33 : decode cX4_giveCards 33 = .ok (.iload_n 1, 1) := by decide +kernel
theorem dX4_giveCards_34 : decode cX4_giveCards 34 = .ok (.bipush 10, 2) := by decide +kernel
theorem dX4_giveCards_36 : decode cX4_giveCards 36 = .ok (.idiv, 1) := by decide +kernel
theorem dX4_giveCards_37 : decode cX4_giveCards 37 = .ok (.invokevirtual 107, 3) := by decide +kernel
theorem dX4_giveCards_40 : decode cX4_giveCards 40 = .ok (.dup, 1) := by decide +kernel
theorem dX4_giveCards_41 : decode cX4_giveCards 41 = .ok (.getfield 111, 3) := by decide +kernel
theorem dX4_giveCards_44 : decode cX4_giveCards 44 = .ok (.lload_n 2, 1) := by decide +kernel
theorem dX4_giveCards_45 : decode cX4_giveCards 45 = .ok (.lor, 1) := by decide +kernel
theorem dX4_giveCards_46 : decode cX4_giveCards 46 = .ok (.putfield 111, 3) := by decide +kernel
theorem dX4_giveCards_49 : decode cX4_giveCards 49 = .ok (.goto 13, 3) := by decide +kernel
theorem dX4_giveCards_52 : decode cX4_giveCards 52 = .ok (.aload_n 0, 1) := by decide +kernel
theorem dX4_giveCards_53 : decode cX4_giveCards 53 = .ok (.dup, 1) := by decide +kernel
theorem dX4_giveCards_54 : decode cX4_giveCards 54 = .ok (.getfield 103, 3) := by decide +kernel
theorem dX4_giveCards_57 : decode cX4_giveCards 57 = .ok (.lload_n 2, 1) := by decide +kernel
theorem dX4_giveCards_58 : decode cX4_giveCards 58 = .ok (.lor, 1) := by decide +kernel
theorem dX4_giveCards_59 : decode cX4_giveCards 59 = .ok (.putfield 103, 3) := by decide +kernel
theorem dX4_giveCards_62 : decode cX4_giveCards 62 = .ok (.iinc 1 1, 3) := by decide +kernel
theorem dX4_giveCards_65 : decode cX4_giveCards 65 = .ok (.goto (-58), 3) := by decide +kernel
theorem dX4_giveCards_68 : decode cX4_giveCards 68 = .ok (.return_, 1) := by decide +kernel
theorem dX4_startBidding_0 : decode cX4_startBidding 0 = .ok (.aload_n 0, 1) := by decide +kernel
theorem dX4_startBidding_1 : decode cX4_startBidding 1 = .ok (.iload_n 1, 1) := by decide +kernel
theorem dX4_startBidding_2 : decode cX4_startBidding 2 = .ok (.putfield 77, 3) := by decide +kernel
theorem dX4_startBidding_5 : decode cX4_startBidding 5 = .ok (.aload_n 0, 1) := by decide +kernel
theorem dX4_startBidding_6 : decode cX4_startBidding 6 = .ok (.iload_n 2, 1) := by decide +kernel
theorem dX4_startBidding_7 : decode cX4_startBidding 7 = .ok (.putfield 74, 3) := by decide +kernel
theorem dX4_startBidding_10 : decode cX4_startBidding 10 = .ok (.aload_n 0, 1) := by decide +kernel
theorem dX4_startBidding_11 : decode cX4_startBidding 11 = .ok (.iconst 0, 1) := by decide +kernel
theorem dX4_startBidding_12 : decode cX4_startBidding 12 = .ok (.putfield 52, 3) := by decide +kernel
theorem dX4_startBidding_15 : decode cX4_startBidding 15 = .ok (.aload_n 0, 1) := by decide +kernel
theorem dX4_startBidding_16 : decode cX4_startBidding 16 = .ok (.iload_n 1, 1) := by decide +kernel
theorem dX4_startBidding_17 : decode cX4_startBidding 17 = .ok (.putfield 55, 3) := by decide +kernel
theorem dX4_startBidding_20 : decode cX4_startBidding 20 = .ok (.return_, 1) := by decide +kernel
theorem dX4_goOnBidding_0 : decode cX4_goOnBidding 0 = .ok (.aload_n 0, 1) := by decide +kernel
theorem dX4_goOnBidding_1 : decode cX4_goOnBidding 1 = .ok (.getfield 33, 3) := by decide +kernel
theorem dX4_goOnBidding_4 : decode cX4_goOnBidding 4 = .ok (.invokestatic 48, 3) := by decide +kernel
theorem dX4_goOnBidding_7 : decode cX4_goOnBidding 7 = .ok (.invokestatic 48, 3) := by decide +kernel
theorem dX4_goOnBidding_10 : decode cX4_goOnBidding 10 = .ok (.istore_n 2, 1) := by decide +kernel
theorem dX4_goOnBidding_11 : decode cX4_goOnBidding 11 = .ok (.aload_n 0, 1) := by decide +kernel
theorem dX4_goOnBidding_12 : decode cX4_goOnBidding 12 = .ok (.getfield 77, 3) := by decide +kernel
theorem dX4_goOnBidding_15 : decode cX4_goOnBidding 15 = .ok (.iload_n 2, 1) := by decide +kernel
theorem dX4_goOnBidding_16 : decode cX4_goOnBidding 16 = .ok (.if_icmp .eq 12, 3) := by decide +kernel
theorem dX4_goOnBidding_19 : decode cX4_goOnBidding 19 = .ok (.aload_n 0, 1) := by decide +kernel
theorem dX4_goOnBidding_20 : decode cX4_goOnBidding 20 = .ok (.iload_n 2, 1) := by decide +kernel
theorem dX4_goOnBidding_21 : decode cX4_goOnBidding 21 = .ok (.iload_n 1, 1) := by decide +kernel
theorem dX4_goOnBidding_22 : decode cX4_goOnBidding 22 = .ok (.invokevirtual 242, 3) := by decide +kernel
theorem dX4_goOnBidding_25 : decode cX4_goOnBidding 25 = .ok (.goto 24, 3) := by decide +kernel
theorem dX4_goOnBidding_28 : decode cX4_goOnBidding 28 = .ok (.aload_n 0, 1) := by decide +kernel
theorem dX4_goOnBidding_29 : decode cX4_goOnBidding 29 = .ok (.getfield 66, 3) := by decide +kernel
theorem dX4_goOnBidding_32 : decode cX4_goOnBidding 32 = .ok (.ifCond .le 11, 3) := by decide +kernel
theorem dX4_goOnBidding_35 : decode cX4_goOnBidding 35 = .ok (.aload_n 0, 1) := by decide +kernel
theorem dX4_goOnBidding_36 : decode cX4_goOnBidding 36 = .ok (.iload_n 1, 1) := by decide +kernel
theorem dX4_goOnBidding_37 : decode cX4_goOnBidding 37 = .ok (.invokevirtual 80, 3) := by decide +kernel
theorem dX4_goOnBidding_40 : decode cX4_goOnBidding 40 = .ok (.goto 9, 3) := by decide +kernel
theorem dX4_goOnBidding_43 : decode cX4_goOnBidding 43 = .ok (.aload_n 0, 1) := by decide +kernel
theorem dX4_goOnBidding_44 : decode cX4_goOnBidding 44 = .ok (.iload_n 1, 1) := by decide +kernel
theorem dX4_goOnBidding_45 : decode cX4_goOnBidding 45 = .ok (.iconst (-1), 1) := by decide +kernel
theorem dX4_goOnBidding_46 : decode cX4_goOnBidding 46 = .ok (.invokevirtual 242, 3) := by decide +kernel
theorem dX4_goOnBidding_49 : decode cX4_goOnBidding 49 = .ok (.return_, 1) := by decide +kernel
theorem dX4_makeDeclarer_0 : decode cX4_makeDeclarer 0 = .ok (.aload_n 0, 1) := by decide +kernel
theorem dX4_makeDeclarer_1 : decode cX4_makeDeclarer 1 = .ok (.iload_n 1, 1) := by decide +kernel
theorem dX4_makeDeclarer_2 : decode cX4_makeDeclarer 2 = .ok (.putfield 98, 3) := by decide +kernel
theorem dX4_makeDeclarer_5 : decode cX4_makeDeclarer 5 = .ok (.aload_n 0, 1) := by decide +kernel
theorem dX4_makeDeclarer_6 : decode cX4_makeDeclarer 6 = .ok (.iconst 2, 1) := by decide +kernel
theorem dX4_makeDeclarer_7 : decode cX4_makeDeclarer 7 = .ok (.putfield 52, 3) := by decide +kernel
theorem dX4_makeDeclarer_10 : decode cX4_makeDeclarer 10 = .ok (.aload_n 0, 1) := by decide +kernel
theorem dX4_makeDeclarer_11 : decode cX4_makeDeclarer 11 = .ok (.iload_n 1, 1) := by decide +kernel
theorem dX4_makeDeclarer_12 : decode cX4_makeDeclarer 12 = .ok (.putfield 55, 3) := by decide +kernel
theorem dX4_makeDeclarer_15 : decode cX4_makeDeclarer 15 = .ok (.return_, 1) := by decide +kernel
theorem dX4_isExtraPossible_0 : decode cX4_isExtraPossible 0 = .ok (.iload_n 1, 1) := by decide +kernel
theorem dX4_isExtraPossible_1 : decode cX4_isExtraPossible 1 = .ok (.ifCond .ne 5, 3) := by decide +kernel
theorem dX4_isExtraPossible_4 : decode cX4_isExtraPossible 4 = .ok (.iconst 1, 1) := by decide +kernel
theorem dX4_isExtraPossible_5 : decode cX4_isExtraPossible 5 = .ok (.ireturn, 1) := by decide +kernel
theorem dX4_isExtraPossible_6 : decode cX4_isExtraPossible 6 = .ok (.iload_n 0, 1) := by decide +kernel
theorem dX4_isExtraPossible_7 : decode cX4_isExtraPossible 7 = .ok (.iconst 5, 1) := by decide +kernel
theorem dX4_isExtraPossible_8 : decode cX4_isExtraPossible 8 = .ok (.if_icmp .ne 16, 3) := by decide +kernel
theorem dX4_isExtraPossible_11 : decode cX4_isExtraPossible 11 = .ok (.iload_n 1, 1) := by decide +kernel
theorem dX4_isExtraPossible_12 : decode cX4_isExtraPossible 12 = .ok (.iconst 3, 1) := by decide +kernel
theorem dX4_isExtraPossible_13 : decode cX4_isExtraPossible 13 = .ok (.if_icmp .ne 7, 3) := by decide +kernel
theorem dX4_isExtraPossible_16 : decode cX4_isExtraPossible 16 = .ok (.iconst 1, 1) := by decide +kernel
theorem dX4_isExtraPossible_17 : decode cX4_isExtraPossible 17 = .ok (.goto 8, 3) := by decide +kernel
theorem dX4_isExtraPossible_20 : decode cX4_isExtraPossible 20 = .ok (.iconst 0, 1) := by decide +kernel
theorem dX4_isExtraPossible_21 : decode cX4_isExtraPossible 21 = .ok (.goto 4, 3) := by decide +kernel
theorem dX4_isExtraPossible_24 : decode cX4_isExtraPossible 24 = .ok (.iload_n 2, 1) := by decide +kernel
theorem dX4_isExtraPossible_25 : decode cX4_isExtraPossible 25 = .ok (.ireturn, 1) := by decide +kernel
theorem dX4_startPlay_0 : decode cX4_startPlay 0 = .ok (.aload_n 0, 1) := by decide +kernel
theorem dX4_startPlay_1 : decode cX4_startPlay 1 = .ok (.iload_n 1, 1) := by decide +kernel
theorem dX4_startPlay_2 : decode cX4_startPlay 2 = .ok (.putfield 158, 3) := by decide +kernel
theorem dX4_startPlay_5 : decode cX4_startPlay 5 = .ok (.aload_n 0, 1) := by decide +kernel
theorem dX4_startPlay_6 : decode cX4_startPlay 6 = .ok (.iconst 5, 1) := by decide +kernel
theorem dX4_startPlay_7 : decode cX4_startPlay 7 = .ok (.putfield 52, 3) := by decide +kernel
theorem dX4_startPlay_10 : decode cX4_startPlay 10 = .ok (.aload_n 0, 1) := by decide +kernel
theorem dX4_startPlay_11 : decode cX4_startPlay 11 = .ok (.aload_n 0, 1) := by decide +kernel
theorem dX4_startPlay_12 : decode cX4_startPlay 12 = .ok (.getfield 33, 3) := by decide +kernel
theorem dX4_startPlay_15 : decode cX4_startPlay 15 = .ok (.putfield 55, 3) := by decide +kernel
theorem dX4_startPlay_18 : decode cX4_startPlay 18 = .ok (.return_, 1) := by decide +kernel
theorem dX4_playableCards_0 : decode cX4_playableCards 0 = .ok (.aload_n 0, 1) := by decide +kernel
theorem dX4_playableCards_1 : decode cX4_playableCards 1 = .ok (.aload_n 0, 1) := by decide +kernel
theorem dX4_playableCards_2 : decode cX4_playableCards 2 = .ok (.getfield 55, 3) := by decide +kernel
theorem dX4_playableCards_5 : decode cX4_playableCards 5 = .ok (.invokevirtual 107, 3) := by decide +kernel
theorem dX4_playableCards_8 : decode cX4_playableCards 8 = .ok (.getfield 111, 3) := by decide +kernel
theorem dX4_playableCards_11 : decode cX4_playableCards 11 = .ok (.lstore_n 1, 1) := by decide +kernel
theorem dX4_playableCards_12 : decode cX4_playableCards 12 = .ok (.aload_n 0, 1) := by decide +kernel
theorem dX4_playableCards_13 : decode cX4_playableCards 13 = .ok (.getfield 25, 3) := by decide +kernel
theorem dX4_playableCards_16 : decode cX4_playableCards 16 = .ok (.invokevirtual 257, 3) := by decide +kernel
theorem dX4_playableCards_19 : decode cX4_playableCards 19 = .ok (.ifCond .eq 5, 3) := by decide +kernel
theorem dX4_playableCards_22 : decode cX4_playableCards 22 = .ok (.lload_n 1, 1) := by decide +kernel
theorem dX4_playableCards_23 : decode cX4_playableCards 23 = .ok (.lreturn, 1) := by decide +kernel
theorem dX4_playableCards_24 : decode cX4_playableCards 24 = .ok (.lload_n 1, 1) := by decide +kernel
theorem dX4_playableCards_25 : decode cX4_playableCards 25 = .ok (.aload_n 0, 1) := by decide +kernel
theorem dX4_playableCards_26 : decode cX4_playableCards 26 = .ok (.getfield 25, 3) := by decide +kernel
theorem dX4_playableCards_29 : decode cX4_playableCards 29 = .ok (.iconst 0, 1) := by decide +kernel
theorem dX4_playableCards_30 : decode cX4_playableCards 30 = .ok (.invokevirtual 212, 3) := by decide +kernel
theorem dX4_playableCards_33 : decode cX4_playableCards 33 = .ok (.aload_n 0, 1) := by decide +kernel
theorem dX4_playableCards_34 : decode cX4_playableCards 34 = .ok (.getfield 158, 3) := by decide +kernel
theorem dX4_playableCards_37 : decode cX4_playableCards 37 = .ok (.invokestatic 260, 3) := by decide +kernel
theorem dX4_playableCards_40 : decode cX4_playableCards 40 = .ok (.land, 1) := by decide +kernel
theorem dX4_playableCards_41 : decode cX4_playableCards 41 = .ok (.lstore_n 3, 1) := by decide +kernel
theorem dX4_playableCards_42 : decode cX4_playableCards 42 = .ok (.lload_n 3, 1) := by decide +kernel
theorem dX4_playableCards_43 : decode cX4_playableCards 43 = .ok (.lconst 0, 1) := by decide +kernel
theorem dX4_playableCards_44 : decode cX4_playableCards 44 = .ok (.lcmp, 1) := by decide +kernel
theorem dX4_playableCards_45 : decode cX4_playableCards 45 = .ok (.ifCond .eq 7, 3) := by decide +kernel
theorem dX4_playableCards_48 : decode cX4_playableCards 48 = .ok (.lload_n 3, 1) := by decide +kernel
theorem dX4_playableCards_49 : decode cX4_playableCards 49 = .ok (.goto 4, 3) := by decide +kernel
theorem dX4_playableCards_52 : decode cX4_playableCards 52 = .ok (.lload_n 1, 1) := by decide +kernel
theorem dX4_playableCards_53 : decode cX4_playableCards 53 = .ok (.lreturn, 1) := by decide +kernel
theorem dX4_trickWinner_0 : decode cX4_trickWinner 0 = .ok (.aload_n 0, 1) := by decide +kernel
theorem dX4_trickWinner_1 : decode cX4_trickWinner 1 = .ok (.getfield 55, 3) := by decide +kernel
theorem dX4_trickWinner_4 : decode cX4_trickWinner 4 = .ok (.invokestatic 48, 3) := by decide +kernel
theorem dX4_trickWinner_7 : decode cX4_trickWinner 7 = .ok (.istore_n 1, 1) := by decide +kernel
theorem dX4_trickWinner_8 : decode cX4_trickWinner 8 = .ok (.aload_n 0, 1) := by decide +kernel
theorem dX4_trickWinner_9 : decode cX4_trickWinner 9 = .ok (.getfield 25, 3) := by decide +kernel
theorem dX4_trickWinner_12 : decode cX4_trickWinner 12 = .ok (.aload_n 0, 1) := by decide +kernel
theorem dX4_trickWinner_13 : decode cX4_trickWinner 13 = .ok (.getfield 158, 3) := by decide +kernel
theorem dX4_trickWinner_16 : decode cX4_trickWinner 16 = .ok (.invokevirtual 264, 3) := by decide +kernel
theorem dX4_trickWinner_19 : decode cX4_trickWinner 19 = .ok (.istore_n 2, 1) := by decide +kernel
theorem dX4_trickWinner_20 : decode cX4_trickWinner 20 = .ok (.iload_n 2, 1) := by decide +kernel
theorem dX4_trickWinner_21 : decode cX4_trickWinner 21 = .ok (.ifCond .ne 5, 3) := by decide +kernel
theorem dX4_trickWinner_24 : decode cX4_trickWinner 24 = .ok (.iload_n 1, 1) := by decide +kernel
theorem dX4_trickWinner_25 : decode cX4_trickWinner 25 = .ok (.ireturn, 1) := by decide +kernel
theorem dX4_trickWinner_26 : decode cX4_trickWinner 26 = .ok (.iload_n 2, 1) := by decide +kernel
theorem dX4_trickWinner_27 : decode cX4_trickWinner 27 = .ok (.iconst 1, 1) := by decide +kernel
theorem dX4_trickWinner_28 : decode cX4_trickWinner 28 = .ok (.if_icmp .ne 10, 3) := by decide +kernel
theorem dX4_trickWinner_31 : decode cX4_trickWinner 31 = .ok (.iload_n 1, 1) := by decide +kernel
theorem dX4_trickWinner_32 : decode cX4_trickWinner 32 = .ok (.invokestatic 48, 3) := by decide +kernel
theorem dX4_trickWinner_35 : decode cX4_trickWinner 35 = .ok (.goto 7, 3) := by decide +kernel
theorem dX4_trickWinner_38 : decode cX4_trickWinner 38 = .ok (.aload_n 0, 1) := by decide +kernel
theorem dX4_trickWinner_39 : decode cX4_trickWinner 39 = .ok (.getfield 55, 3) := by decide +kernel
theorem dX4_trickWinner_42 : decode cX4_trickWinner 42 = .ok (.ireturn, 1) := by decide +kernel
theorem dX4_allTricksWon_0 : decode cX4_allTricksWon 0 = .ok (.aload_n 0, 1) := by decide +kernel
theorem dX4_allTricksWon_1 : decode cX4_allTricksWon 1 = .ok (.getfield 10, 3) := by decide +kernel
theorem dX4_allTricksWon_4 : decode cX4_allTricksWon 4 = .ok (.getfield 215, 3) := by decide +kernel
theorem dX4_allTricksWon_7 : decode cX4_allTricksWon 7 = .ok (.aload_n 0, 1) := by decide +kernel
theorem dX4_allTricksWon_8 : decode cX4_allTricksWon 8 = .ok (.getfield 16, 3) := by decide +kernel
theorem dX4_allTricksWon_11 : decode cX4_allTricksWon 11 = .ok (.getfield 215, 3) := by decide +kernel
theorem dX4_allTricksWon_14 : decode cX4_allTricksWon 14 = .ok (.iadd, 1) := by decide +kernel
theorem dX4_allTricksWon_15 : decode cX4_allTricksWon 15 = .ok (.aload_n 0, 1) := by decide +kernel
theorem dX4_allTricksWon_16 : decode cX4_allTricksWon 16 = .ok (.getfield 19, 3) := by decide +kernel
theorem dX4_allTricksWon_19 : decode cX4_allTricksWon 19 = .ok (.getfield 215, 3) := by decide +kernel
theorem dX4_allTricksWon_22 : decode cX4_allTricksWon 22 = .ok (.iadd, 1) := by decide +kernel
theorem dX4_allTricksWon_23 : decode cX4_allTricksWon 23 = .ok (.ireturn, 1) := by decide +kernel
theorem dX4_allPointsWon_0 : decode cX4_allPointsWon 0 = .ok (.aload_n 0, 1) := by decide +kernel
theorem dX4_allPointsWon_1 : decode cX4_allPointsWon 1 = .ok (.getfield 10, 3) := by decide +kernel
theorem dX4_allPointsWon_4 : decode cX4_allPointsWon 4 = .ok (.getfield 155, 3) := by decide +kernel
theorem dX4_allPointsWon_7 : decode cX4_allPointsWon 7 = .ok (.aload_n 0, 1) := by decide +kernel
theorem dX4_allPointsWon_8 : decode cX4_allPointsWon 8 = .ok (.getfield 16, 3) := by decide +kernel
theorem dX4_allPointsWon_11 : decode cX4_allPointsWon 11 = .ok (.getfield 155, 3) := by decide +kernel
theorem dX4_allPointsWon_14 : decode cX4_allPointsWon 14 = .ok (.iadd, 1) := by decide +kernel
theorem dX4_allPointsWon_15 : decode cX4_allPointsWon 15 = .ok (.aload_n 0, 1) := by decide +kernel
theorem dX4_allPointsWon_16 : decode cX4_allPointsWon 16 = .ok (.getfield 19, 3) := by decide +kernel
theorem dX4_allPointsWon_19 : decode cX4_allPointsWon 19 = .ok (.getfield 155, 3) := by decide +kernel
theorem dX4_allPointsWon_22 : decode cX4_allPointsWon 22 = .ok (.iadd, 1) := by decide +kernel
theorem dX4_allPointsWon_23 : decode cX4_allPointsWon 23 = .ok (.ireturn, 1) := by decide +kernel
theorem dX4_mostPoints_0 : decode cX4_mostPoints 0 = .ok (.aload_n 0, 1) := by decide +kernel
theorem dX4_mostPoints_1 : decode cX4_mostPoints 1 = .ok (.getfield 10, 3) := by decide +kernel
theorem dX4_mostPoints_4 : decode cX4_mostPoints 4 = .ok (.getfield 155, 3) := by decide +kernel
theorem dX4_mostPoints_7 : decode cX4_mostPoints 7 = .ok (.aload_n 0, 1) := by decide +kernel
theorem dX4_mostPoints_8 : decode cX4_mostPoints 8 = .ok (.getfield 16, 3) := by decide +kernel
theorem dX4_mostPoints_11 : decode cX4_mostPoints 11 = .ok (.getfield 155, 3) := by decide +kernel
theorem dX4_mostPoints_14 : decode cX4_mostPoints 14 = .ok (.aload_n 0, 1) := by decide +kernel
theorem dX4_mostPoints_15 : decode cX4_mostPoints 15 = .ok (.getfield 19, 3) := by decide +kernel
theorem dX4_mostPoints_18 : decode cX4_mostPoints 18 = .ok (.getfield 155, 3) := by decide +kernel
theorem dX4_mostPoints_21 : decode cX4_mostPoints 21 = .ok (.invokestatic 267, 3) := by decide +kernel
theorem dX4_mostPoints_24 : decode cX4_mostPoints 24 = .ok (.invokestatic 267, 3) := by decide +kernel
theorem dX4_mostPoints_27 : decode cX4_mostPoints 27 = .ok (.ireturn, 1) := by decide +kernel
theorem dX4_endDeal_0 : decode cX4_endDeal 0 = .ok (.aload_n 0, 1) := by decide +kernel
theorem dX4_endDeal_1 : decode cX4_endDeal 1 = .ok (.bipush 6, 2) := by decide +kernel
theorem dX4_endDeal_3 : decode cX4_endDeal 3 = .ok (.putfield 52, 3) := by decide +kernel
theorem dX4_endDeal_6 : decode cX4_endDeal 6 = .ok (.aload_n 0, 1) := by decide +kernel
theorem dX4_endDeal_7 : decode cX4_endDeal 7 = .ok (.iconst (-1), 1) := by decide +kernel
theorem dX4_endDeal_8 : decode cX4_endDeal 8 = .ok (.putfield 55, 3) := by decide +kernel
theorem dX4_endDeal_11 : decode cX4_endDeal 11 = .ok (.aload_n 0, 1) := by decide +kernel
theorem dX4_endDeal_12 : decode cX4_endDeal 12 = .ok (.getfield 158, 3) := by decide +kernel
theorem dX4_endDeal_15 : decode cX4_endDeal 15 = .ok (.bipush 6, 2) := by decide +kernel
theorem dX4_endDeal_17 : decode cX4_endDeal 17 = .ok (.if_icmp .ne 30, 3) := by decide +kernel
theorem dX4_endDeal_20 : decode cX4_endDeal 20 = .ok (.aload_n 0, 1) := by decide +kernel
theorem dX4_endDeal_21 : decode cX4_endDeal 21 = .ok (.iload_n 1, 1) := by decide +kernel
theorem dX4_endDeal_22 : decode cX4_endDeal 22 = .ok (.invokevirtual 107, 3) := by decide +kernel
theorem dX4_endDeal_25 : decode cX4_endDeal 25 = .ok (.dup, 1) := by decide +kernel
theorem dX4_endDeal_26 : decode cX4_endDeal 26 = .ok (.getfield 155, 3) := by decide +kernel
theorem dX4_endDeal_29 : decode cX4_endDeal 29 = .ok (.aload_n 0, 1) := by decide +kernel
theorem dX4_endDeal_30 : decode cX4_endDeal 30 = .ok (.getfield 103, 3) := by decide +kernel
theorem dX4_endDeal_33 : decode cX4_endDeal 33 = .ok (.invokestatic 134, 3) := by decide +kernel
theorem dX4_endDeal_36 : decode cX4_endDeal 36 = .ok (.iadd, 1) := by decide +kernel
theorem dX4_endDeal_37 : decode cX4_endDeal 37 = .ok (.putfield 155, 3) := by decide +kernel
theorem dX4_endDeal_40 : decode cX4_endDeal 40 = .ok (.aload_n 0, 1) := by decide +kernel
theorem dX4_endDeal_41 : decode cX4_endDeal 41 = .ok (.invokevirtual 273, 3) := by decide +kernel
theorem dX4_endDeal_44 : decode cX4_endDeal 44 = .ok (.goto 7, 3) := by decide +kernel
theorem dX4_endDeal_47 : decode cX4_endDeal 47 = .ok (.aload_n 0, 1) := by decide +kernel
theorem dX4_endDeal_48 : decode cX4_endDeal 48 = .ok (.invokevirtual 276, 3) := by decide +kernel
theorem dX4_endDeal_51 : decode cX4_endDeal 51 = .ok (.return_, 1) := by decide +kernel
theorem dX4_scoreRamsch_0 : decode cX4_scoreRamsch 0 = .ok (.aload_n 0, 1) := by decide +kernel
theorem dX4_scoreRamsch_1 : decode cX4_scoreRamsch 1 = .ok (.invokevirtual 220, 3) := by decide +kernel
theorem dX4_scoreRamsch_4 : decode cX4_scoreRamsch 4 = .ok (.istore_n 1, 1) := by decide +kernel
theorem dX4_scoreRamsch_5 : decode cX4_scoreRamsch 5 = .ok (.aload_n 0, 1) := by decide +kernel
theorem dX4_scoreRamsch_6 : decode cX4_scoreRamsch 6 = .ok (.getfield 10, 3) := by decide +kernel
theorem dX4_scoreRamsch_9 : decode cX4_scoreRamsch 9 = .ok (.iload_n 1, 1) := by decide +kernel
theorem dX4_scoreRamsch_10 : decode cX4_scoreRamsch 10 = .ok (.invokevirtual 279, 3) := by decide +kernel
theorem dX4_scoreRamsch_13 : decode cX4_scoreRamsch 13 = .ok (.aload_n 0, 1) := by decide +kernel
theorem dX4_scoreRamsch_14 : decode cX4_scoreRamsch 14 = .ok (.getfield 16, 3) := by decide +kernel
theorem dX4_scoreRamsch_17 : decode cX4_scoreRamsch 17 = .ok (.iload_n 1, 1) := by decide +kernel
theorem dX4_scoreRamsch_18 : decode cX4_scoreRamsch 18 = .ok (.invokevirtual 279, 3) := by decide +kernel
theorem dX4_scoreRamsch_21 : decode cX4_scoreRamsch 21 = .ok (.aload_n 0, 1) := by decide +kernel
theorem dX4_scoreRamsch_22 : decode cX4_scoreRamsch 22 = .ok (.getfield 19, 3) := by decide +kernel
theorem dX4_scoreRamsch_25 : decode cX4_scoreRamsch 25 = .ok (.iload_n 1, 1) := by decide +kernel
theorem dX4_scoreRamsch_26 : decode cX4_scoreRamsch 26 = .ok (.invokevirtual 279, 3) := by decide +kernel
theorem dX4_scoreRamsch_29 : decode cX4_scoreRamsch 29 = .ok (.return_, 1) := by decide +kernel
theorem dX4_scoreGame_0 : decode cX4_scoreGame 0 = .ok (.aload_n 0, 1) := by decide +kernel
theorem dX4_scoreGame_1 : decode cX4_scoreGame 1 = .ok (.invokevirtual 223, 3) := by decide +kernel
theorem dX4_scoreGame_4 : decode cX4_scoreGame 4 = .ok (.istore_n 1, 1) := by decide +kernel
theorem dX4_scoreGame_5 : decode cX4_scoreGame 5 = .ok (.aload_n 0, 1) := by decide +kernel
theorem dX4_scoreGame_6 : decode cX4_scoreGame 6 = .ok (.iload_n 1, 1) := by decide +kernel
theorem dX4_scoreGame_7 : decode cX4_scoreGame 7 = .ok (.invokevirtual 226, 3) := by decide +kernel
theorem dX4_scoreGame_10 : decode cX4_scoreGame 10 = .ok (.istore_n 2, 1) := by decide +kernel
theorem dX4_scoreGame_11 : decode cX4_scoreGame 11 = .ok (.iload_n 1, 1) := by decide +kernel
theorem dX4_scoreGame_12 : decode cX4_scoreGame 12 = .ok (.aload_n 0, 1) := by decide +kernel
theorem dX4_scoreGame_13 : decode cX4_scoreGame 13 = .ok (.getfield 66, 3) := by decide +kernel
theorem dX4_scoreGame_16 : decode cX4_scoreGame 16 = .ok (.if_icmp .lt 14, 3) := by decide +kernel
theorem dX4_scoreGame_19 : decode cX4_scoreGame 19 = .ok (.aload_n 0, 1) := by decide +kernel
theorem dX4_scoreGame_20 : decode cX4_scoreGame 20 = .ok (.invokevirtual 282, 3) := by decide +kernel
theorem dX4_scoreGame_23 : decode cX4_scoreGame 23 = .ok (.ifCond .eq 7, 3) := by decide +kernel
theorem dX4_scoreGame_26 : decode cX4_scoreGame 26 = .ok (.iconst 1, 1) := by decide +kernel
theorem dX4_scoreGame_27 : decode cX4_scoreGame 27 = .ok (.goto 4, 3) := by decide +kernel
theorem dX4_scoreGame_30 : decode cX4_scoreGame 30 = .ok (.iconst 0, 1) := by decide +kernel
theorem dX4_scoreGame_31 : decode cX4_scoreGame 31 = .ok (.istore_n 3, 1) := by decide +kernel
theorem dX4_scoreGame_32 : decode cX4_scoreGame 32 = .ok (.aload_n 0, 1) := by decide +kernel
theorem dX4_scoreGame_33 : decode cX4_scoreGame 33 = .ok (.aload_n 0, 1) := by decide +kernel
theorem dX4_scoreGame_34 : decode cX4_scoreGame 34 = .ok (.getfield 98, 3) := by decide +kernel
theorem dX4_scoreGame_37 : decode cX4_scoreGame 37 = .ok (.invokevirtual 107, 3) := by decide +kernel
theorem dX4_scoreGame_40 : decode cX4_scoreGame 40 = .ok (.dup, 1) := by decide +kernel
theorem dX4_scoreGame_41 : decode cX4_scoreGame 41 = .ok (.getfield 229, 3) := by decide +kernel
theorem dX4_scoreGame_44 : decode cX4_scoreGame 44 = .ok (.iload_n 3, 1) := by decide +kernel
theorem dX4_scoreGame_45 : decode cX4_scoreGame 45 = .ok (.ifCond .eq 7, 3) := by decide +kernel
theorem dX4_scoreGame_48 : decode cX4_scoreGame 48 = .ok (.iload_n 2, 1) := by decide +kernel
theorem dX4_scoreGame_49 : decode cX4_scoreGame 49 = .ok (.goto 7, 3) := by decide +kernel
theorem dX4_scoreGame_52 : decode cX4_scoreGame 52 = .ok (.bipush (-2), 2) := by decide +kernel
theorem dX4_scoreGame_54 : decode cX4_scoreGame 54 = .ok (.iload_n 2, 1) := by decide +kernel
theorem dX4_scoreGame_55 : decode cX4_scoreGame 55 = .ok (.imul, 1) := by decide +kernel
theorem dX4_scoreGame_56 : decode cX4_scoreGame 56 = .ok (.iadd, 1) := by decide +kernel
theorem dX4_scoreGame_57 : decode cX4_scoreGame 57 = .ok (.putfield 229, 3) := by decide +kernel
theorem dX4_scoreGame_60 : decode cX4_scoreGame 60 = .ok (.return_, 1) := by decide +kernel
theorem dX4_isAimReached_0 : decode cX4_isAimReached 0 = .ok (.aload_n 0, 1) := by decide +kernel
theorem dX4_isAimReached_1 : decode cX4_isAimReached 1 = .ok (.aload_n 0, 1) := by decide +kernel
theorem dX4_isAimReached_2 : decode cX4_isAimReached 2 = .ok (.getfield 98, 3) := by decide +kernel
theorem dX4_isAimReached_5 : decode cX4_isAimReached 5 = .ok (.invokevirtual 107, 3) := by decide +kernel
theorem dX4_isAimReached_8 : decode cX4_isAimReached 8 = .ok (.astore_n 1, 1) := by decide +kernel
theorem dX4_isAimReached_9 : decode cX4_isAimReached 9 = .ok (.aload_n 0, 1) := by decide +kernel
theorem dX4_isAimReached_10 : decode cX4_isAimReached 10 = .ok (.getfield 158, 3) := by decide +kernel
theorem dX4_isAimReached_13 : decode cX4_isAimReached 13 = .ok (.iconst 5, 1) := by decide +kernel
theorem dX4_isAimReached_14 : decode cX4_isAimReached 14 = .ok (.if_icmp .ne 16, 3) := by decide +kernel
theorem dX4_isAimReached_17 : decode cX4_isAimReached 17 = .ok (.aload_n 1, 1) := by decide +kernel
theorem dX4_isAimReached_18 : decode cX4_isAimReached 18 = .ok (.getfield 215, 3) := by decide +kernel
theorem dX4_isAimReached_21 : decode cX4_isAimReached 21 = .ok (.ifCond .ne 7, 3) := by decide +kernel
theorem dX4_isAimReached_24 : decode cX4_isAimReached 24 = .ok (.iconst 1, 1) := by decide +kernel
theorem dX4_isAimReached_25 : decode cX4_isAimReached 25 = .ok (.goto 4, 3) := by decide +kernel
theorem dX4_isAimReached_28 : decode cX4_isAimReached 28 = .ok (.iconst 0, 1) := by decide +kernel
theorem dX4_isAimReached_29 : decode cX4_isAimReached 29 = .ok (.ireturn, 1) := by decide +kernel
theorem dX4_isAimReached_30 : decode cX4_isAimReached 30 = .ok (.aload_n 0, 1) := by decide +kernel
theorem dX4_isAimReached_31 : decode cX4_isAimReached 31 = .ok (.getfield 148, 3) := by decide +kernel
theorem dX4_isAimReached_34 : decode cX4_isAimReached 34 = .ok (.iconst 2, 1) := by decide +kernel
theorem dX4_isAimReached_35 : decode cX4_isAimReached 35 = .ok (.if_icmp .lt 18, 3) := by decide +kernel
theorem dX4_isAimReached_38 : decode cX4_isAimReached 38 = .ok (.aload_n 1, 1) := by decide +kernel
theorem dX4_isAimReached_39 : decode cX4_isAimReached 39 = .ok (.getfield 215, 3) := by decide +kernel
theorem dX4_isAimReached_42 : decode cX4_isAimReached 42 = .ok (.bipush 10, 2) := by decide +kernel
theorem dX4_isAimReached_44 : decode cX4_isAimReached 44 = .ok (.if_icmp .ne 7, 3) := by decide +kernel
theorem dX4_isAimReached_47 : decode cX4_isAimReached 47 = .ok (.iconst 1, 1) := by decide +kernel
theorem dX4_isAimReached_48 : decode cX4_isAimReached 48 = .ok (.goto 4, 3) := by decide +kernel
theorem dX4_isAimReached_51 : decode cX4_isAimReached 51 = .ok (.iconst 0, 1) := by decide +kernel
theorem dX4_isAimReached_52 : decode cX4_isAimReached 52 = .ok (.ireturn, 1) := by decide +kernel
theorem dX4_isAimReached_53 : decode cX4_isAimReached 53 = .ok (.aload_n 1, 1) := by decide +kernel
theorem dX4_isAimReached_54 : decode cX4_isAimReached 54 = .ok (.getfield 155, 3) := by decide +kernel
theorem dX4_isAimReached_57 : decode cX4_isAimReached 57 = .ok (.aload_n 0, 1) := by decide +kernel
theorem dX4_isAimReached_58 : decode cX4_isAimReached 58 = .ok (.getfield 148, 3) := by decide +kernel
theorem dX4_isAimReached_61 : decode cX4_isAimReached 61 = .ok (.iconst 1, 1) := by decide +kernel
theorem dX4_isAimReached_62 : decode cX4_isAimReached 62 = .ok (.if_icmp .ne 8, 3) := by decide +kernel
theorem dX4_isAimReached_65 : decode cX4_isAimReached 65 = .ok (.bipush 90, 2) := by decide +kernel
theorem dX4_isAimReached_67 : decode cX4_isAimReached 67 = .ok (.goto 5, 3) := by decide +kernel
theorem dX4_isAimReached_70 : decode cX4_isAimReached 70 = .ok (.bipush 61, 2) := by decide +kernel
theorem dX4_isAimReached_72 : decode cX4_isAimReached 72 = .ok (.if_icmp .lt 7, 3) := by decide +kernel
theorem dX4_isAimReached_75 : decode cX4_isAimReached 75 = .ok (.iconst 1, 1) := by decide +kernel
theorem dX4_isAimReached_76 : decode cX4_isAimReached 76 = .ok (.goto 4, 3) := by decide +kernel
theorem dX4_isAimReached_79 : decode cX4_isAimReached 79 = .ok (.iconst 0, 1) := by decide +kernel
theorem dX4_isAimReached_80 : decode cX4_isAimReached 80 = .ok (.ireturn, 1) := by decide +kernel
theorem dX4_valueBeforeRaising_0 : decode cX4_valueBeforeRaising 0 = .ok (.aload_n 0, 1) := by decide +kernel
theorem dX4_valueBeforeRaising_1 : decode cX4_valueBeforeRaising 1 = .ok (.getfield 158, 3) := by decide +kernel
theorem dX4_valueBeforeRaising_4 : decode cX4_valueBeforeRaising 4 = .ok (.iconst 5, 1) := by decide +kernel
theorem dX4_valueBeforeRaising_5 : decode cX4_valueBeforeRaising 5 = .ok (.if_icmp .ne 10, 3) := by decide +kernel
theorem dX4_valueBeforeRaising_8 : decode cX4_valueBeforeRaising 8 = .ok (.aload_n 0, 1) := by decide +kernel
theorem dX4_valueBeforeRaising_9 : decode cX4_valueBeforeRaising 9 = .ok (.invokevirtual 285, 3) := by decide +kernel
theorem dX4_valueBeforeRaising_12 : decode cX4_valueBeforeRaising 12 = .ok (.goto 12, 3) := by decide +kernel
theorem dX4_valueBeforeRaising_15 : decode cX4_valueBeforeRaising 15 = .ok (.aload_n 0, 1) := by decide +kernel
theorem dX4_valueBeforeRaising_16 : decode cX4_valueBeforeRaising 16 = .ok (.invokevirtual 288, 3) := by decide +kernel
theorem dX4_valueBeforeRaising_19 : decode cX4_valueBeforeRaising 19 = .ok (.aload_n 0, 1) := by decide +kernel
theorem dX4_valueBeforeRaising_20 : decode cX4_valueBeforeRaising 20 = .ok (.invokevirtual 291, 3) := by decide +kernel
theorem dX4_valueBeforeRaising_23 : decode cX4_valueBeforeRaising 23 = .ok (.imul, 1) := by decide +kernel
theorem dX4_valueBeforeRaising_24 : decode cX4_valueBeforeRaising 24 = .ok (.ireturn, 1) := by decide +kernel
theorem dX4_nullValue_0 : decode cX4_nullValue 0 = .ok (.aload_n 0, 1) := by decide +kernel
theorem dX4_nullValue_1 : decode cX4_nullValue 1 = .ok (.getfield 148, 3) := by decide +kernel
theorem dX4_nullValue_4 : decode cX4_nullValue 4 = .ok (.iconst 3, 1) := by decide +kernel
theorem dX4_nullValue_5 : decode cX4_nullValue 5 = .ok (.if_icmp .ne 18, 3) := by decide +kernel
theorem dX4_nullValue_8 : decode cX4_nullValue 8 = .ok (.aload_n 0, 1) := by decide +kernel
theorem dX4_nullValue_9 : decode cX4_nullValue 9 = .ok (.getfield 151, 3) := by decide +kernel
theorem dX4_nullValue_12 : decode cX4_nullValue 12 = .ok (.ifCond .eq 8, 3) := by decide +kernel
theorem dX4_nullValue_15 : decode cX4_nullValue 15 = .ok (.bipush 59, 2) := by decide +kernel
theorem dX4_nullValue_17 : decode cX4_nullValue 17 = .ok (.goto 5, 3) := by decide +kernel
theorem dX4_nullValue_20 : decode cX4_nullValue 20 = .ok (.bipush 46, 2) := by decide +kernel
theorem dX4_nullValue_22 : decode cX4_nullValue 22 = .ok (.ireturn, 1) := by decide +kernel
theorem dX4_nullValue_23 : decode cX4_nullValue 23 = .ok (.aload_n 0, 1) := by decide +kernel
theorem dX4_nullValue_24 : decode cX4_nullValue 24 = .ok (.getfield 151, 3) := by decide +kernel
theorem dX4_nullValue_27 : decode cX4_nullValue 27 = .ok (.ifCond .eq 8, 3) := by decide +kernel
theorem dX4_nullValue_30 : decode cX4_nullValue 30 = .ok (.bipush 35, 2) := by decide +kernel
theorem dX4_nullValue_32 : decode cX4_nullValue 32 = .ok (.goto 5, 3) := by decide +kernel
theorem dX4_nullValue_35 : decode cX4_nullValue 35 = .ok (.bipush 23, 2) := by decide +kernel
theorem dX4_nullValue_37 : decode cX4_nullValue 37 = .ok (.ireturn, 1) := by decide +kernel
theorem dX4_baseValue_0 : decode cX4_baseValue 0 = .ok (.aload_n 0, 1) := by decide +kernel
theorem dX4_baseValue_1 : decode cX4_baseValue 1 = .ok (.getfield 158, 3) := by decide +kernel
theorem dX4_baseValue_4 : decode cX4_baseValue 4 = .ok (.iconst 4, 1) := by decide +kernel
theorem dX4_baseValue_5 : decode cX4_baseValue 5 = .ok (.if_icmp .ne 8, 3) := by decide +kernel
theorem dX4_baseValue_8 : decode cX4_baseValue 8 = .ok (.bipush 24, 2) := by decide +kernel
theorem dX4_baseValue_10 : decode cX4_baseValue 10 = .ok (.goto 10, 3) := by decide +kernel
theorem dX4_baseValue_13 : decode cX4_baseValue 13 = .ok (.bipush 9, 2) := by decide +kernel
theorem dX4_baseValue_15 : decode cX4_baseValue 15 = .ok (.aload_n 0, 1) := by decide +kernel
theorem dX4_baseValue_16 : decode cX4_baseValue 16 = .ok (.getfield 158, 3) := by decide +kernel
theorem dX4_baseValue_19 : decode cX4_baseValue 19 = .ok (.iadd, 1) := by decide +kernel
theorem dX4_baseValue_20 : decode cX4_baseValue 20 = .ok (.ireturn, 1) := by decide +kernel
theorem dX4_multiplier_0 : decode cX4_multiplier 0 = .ok (.aload_n 0, 1) := by decide +kernel
theorem dX4_multiplier_1 : decode cX4_multiplier 1 = .ok (.aload_n 0, 1) := by decide +kernel
theorem dX4_multiplier_2 : decode cX4_multiplier 2 = .ok (.getfield 98, 3) := by decide +kernel
theorem dX4_multiplier_5 : decode cX4_multiplier 5 = .ok (.invokevirtual 166, 3) := by decide +kernel
theorem dX4_multiplier_8 : decode cX4_multiplier 8 = .ok (.aload_n 0, 1) := by decide +kernel
theorem dX4_multiplier_9 : decode cX4_multiplier 9 = .ok (.getfield 158, 3) := by decide +kernel
theorem dX4_multiplier_12 : decode cX4_multiplier 12 = .ok (.invokestatic 169, 3) := by decide +kernel
theorem dX4_multiplier_15 : decode cX4_multiplier 15 = .ok (.invokestatic 294, 3) := by decide +kernel
theorem dX4_multiplier_18 : decode cX4_multiplier 18 = .ok (.iconst 1, 1) := by decide +kernel
theorem dX4_multiplier_19 : decode cX4_multiplier 19 = .ok (.iadd, 1) := by decide +kernel
theorem dX4_multiplier_20 : decode cX4_multiplier 20 = .ok (.istore_n 1, 1) := by decide +kernel
theorem dX4_multiplier_21 : decode cX4_multiplier 21 = .ok (.aload_n 0, 1) := by decide +kernel
theorem dX4_multiplier_22 : decode cX4_multiplier 22 = .ok (.getfield 151, 3) := by decide +kernel
theorem dX4_multiplier_25 : decode cX4_multiplier 25 = .ok (.ifCond .eq 6, 3) := by decide +kernel
theorem dX4_multiplier_28 : decode cX4_multiplier 28 = .ok (.iinc 1 1, 3) := by decide +kernel
theorem dX4_multiplier_31 : decode cX4_multiplier 31 = .ok (.aload_n 0, 1) := by decide +kernel
theorem dX4_multiplier_32 : decode cX4_multiplier 32 = .ok (.getfield 148, 3) := by decide +kernel
theorem dX4_multiplier_35 : decode cX4_multiplier 35 = .ok (.iconst 1, 1) := by decide +kernel
theorem dX4_multiplier_36 : decode cX4_multiplier 36 = .ok (.if_icmp .ge 12, 3) := by decide +kernel
theorem dX4_multiplier_39 : decode cX4_multiplier 39 = .ok (.aload_n 0, 1) := by decide +kernel
theorem dX4_multiplier_40 : decode cX4_multiplier 40 = .ok (.bipush 90, 2) := by decide +kernel
theorem dX4_multiplier_42 : decode cX4_multiplier 42 = .ok (.invokevirtual 297, 3) := by decide +kernel
theorem dX4_multiplier_45 : decode cX4_multiplier 45 = .ok (.ifCond .eq 6, 3) := by decide +kernel
theorem dX4_multiplier_48 : decode cX4_multiplier 48 = .ok (.iinc 1 1, 3) := by decide +kernel
theorem dX4_multiplier_51 : decode cX4_multiplier 51 = .ok (.aload_n 0, 1) := by decide +kernel
theorem dX4_multiplier_52 : decode cX4_multiplier 52 = .ok (.getfield 148, 3) := by decide +kernel
theorem dX4_multiplier_55 : decode cX4_multiplier 55 = .ok (.iconst 2, 1) := by decide +kernel
theorem dX4_multiplier_56 : decode cX4_multiplier 56 = .ok (.if_icmp .ge 10, 3) := by decide +kernel
theorem dX4_multiplier_59 : decode cX4_multiplier 59 = .ok (.aload_n 0, 1) := by decide +kernel
theorem dX4_multiplier_60 : decode cX4_multiplier 60 = .ok (.invokevirtual 300, 3) := by decide +kernel
theorem dX4_multiplier_63 : decode cX4_multiplier 63 = .ok (.ifCond .eq 6, 3) := by decide +kernel
theorem dX4_multiplier_66 : decode cX4_multiplier 66 = .ok (.iinc 1 1, 3) := by decide +kernel
theorem dX4_multiplier_69 : decode cX4_multiplier 69 = .ok (.iload_n 1, 1) := by decide +kernel
theorem dX4_multiplier_70 : decode cX4_multiplier 70 = .ok (.aload_n 0, 1) := by decide +kernel
theorem dX4_multiplier_71 : decode cX4_multiplier 71 = .ok (.getfield 148, 3) := by decide +kernel
theorem dX4_multiplier_74 : decode cX4_multiplier 74 = .ok (.iadd, 1) := by decide +kernel
theorem dX4_multiplier_75 : decode cX4_multiplier 75 = .ok (.ireturn, 1) := by decide +kernel
theorem dX4_hasOneSidePoints_0 : decode cX4_hasOneSidePoints 0 = .ok (.aload_n 0, 1) := by decide +kernel
theorem dX4_hasOneSidePoints_1 : decode cX4_hasOneSidePoints 1 = .ok (.aload_n 0, 1) := by decide +kernel
theorem dX4_hasOneSidePoints_2 : decode cX4_hasOneSidePoints 2 = .ok (.getfield 98, 3) := by decide +kernel
theorem dX4_hasOneSidePoints_5 : decode cX4_hasOneSidePoints 5 = .ok (.invokevirtual 107, 3) := by decide +kernel
theorem dX4_hasOneSidePoints_8 : decode cX4_hasOneSidePoints 8 = .ok (.getfield 155, 3) := by decide +kernel
theorem dX4_hasOneSidePoints_11 : decode cX4_hasOneSidePoints 11 = .ok (.istore_n 2, 1) := by decide +kernel
theorem dX4_hasOneSidePoints_12 : decode cX4_hasOneSidePoints 12 = .ok (.iload_n 2, 1) := by decide +kernel
theorem dX4_hasOneSidePoints_13 : decode cX4_hasOneSidePoints 13 = .ok (.iload_n 1, 1) := by decide +kernel
theorem dX4_hasOneSidePoints_14 : decode cX4_hasOneSidePoints 14 = .ok (.if_icmp .ge 13, 3) := by decide +kernel
theorem dX4_hasOneSidePoints_17 : decode cX4_hasOneSidePoints 17 = .ok (.aload_n 0, 1) := by decide +kernel
theorem dX4_hasOneSidePoints_18 : decode cX4_hasOneSidePoints 18 = .ok (.invokevirtual 303, 3) := by decide +kernel
theorem dX4_hasOneSidePoints_21 : decode cX4_hasOneSidePoints 21 = .ok (.iload_n 2, 1) := by decide +kernel
theorem dX4_hasOneSidePoints_22 : decode cX4_hasOneSidePoints 22 = .ok (.isub, 1) := by decide +kernel
theorem dX4_hasOneSidePoints_23 : decode cX4_hasOneSidePoints 23 = .ok (.iload_n 1, 1) := by decide +kernel
theorem dX4_hasOneSidePoints_24 : decode cX4_hasOneSidePoints 24 = .ok (.if_icmp .lt 7, 3) := by decide +kernel
theorem dX4_hasOneSidePoints_27 : decode cX4_hasOneSidePoints 27 = .ok (.iconst 1, 1) := by decide +kernel
theorem dX4_hasOneSidePoints_28 : decode cX4_hasOneSidePoints 28 = .ok (.goto 4, 3) := by decide +kernel
theorem dX4_hasOneSidePoints_31 : decode cX4_hasOneSidePoints 31 = .ok (.iconst 0, 1) := by decide +kernel
theorem dX4_hasOneSidePoints_32 : decode cX4_hasOneSidePoints 32 = .ok (.ireturn, 1) := by decide +kernel
theorem dX4_hasOneSideAllTricks_0 : decode cX4_hasOneSideAllTricks 0 = .ok (.aload_n 0, 1) := by decide +kernel
theorem dX4_hasOneSideAllTricks_1 : decode cX4_hasOneSideAllTricks 1 = .ok (.aload_n 0, 1) := by decide +kernel
theorem dX4_hasOneSideAllTricks_2 : decode cX4_hasOneSideAllTricks 2 = .ok (.getfield 98, 3) := by decide +kernel
theorem dX4_hasOneSideAllTricks_5 : decode cX4_hasOneSideAllTricks 5 = .ok (.invokevirtual 107, 3) := by decide +kernel
theorem dX4_hasOneSideAllTricks_8 : decode cX4_hasOneSideAllTricks 8 = .ok (.getfield 215, 3) := by decide +kernel
theorem dX4_hasOneSideAllTricks_11 : decode cX4_hasOneSideAllTricks 11 = .ok (.istore_n 1, 1) := by decide +kernel
theorem dX4_hasOneSideAllTricks_12 : decode cX4_hasOneSideAllTricks 12 = .ok (.iload_n 1, 1) := by decide +kernel
theorem dX4_hasOneSideAllTricks_13 : decode cX4_hasOneSideAllTricks 13 = .ok (.bipush 10, 2) := by decide +kernel
theorem dX4_hasOneSideAllTricks_15 : decode cX4_hasOneSideAllTricks 15 = .ok (.if_icmp .eq 14, 3) := by decide +kernel
theorem dX4_hasOneSideAllTricks_18 : decode cX4_hasOneSideAllTricks 18 = .ok (.aload_n 0, 1) := by decide +kernel
theorem dX4_hasOneSideAllTricks_19 : decode cX4_hasOneSideAllTricks 19 = .ok (.invokevirtual 204, 3) := by decide +kernel
theorem dX4_hasOneSideAllTricks_22 : decode cX4_hasOneSideAllTricks 22 = .ok (.iload_n 1, 1) := by decide +kernel
theorem dX4_hasOneSideAllTricks_23 : decode cX4_hasOneSideAllTricks 23 = .ok (.isub, 1) := by decide +kernel
theorem dX4_hasOneSideAllTricks_24 : decode cX4_hasOneSideAllTricks 24 = .ok (.bipush 10, 2) := by decide +kernel
theorem dX4_hasOneSideAllTricks_26 : decode cX4_hasOneSideAllTricks 26 = .ok (.if_icmp .ne 7, 3) := by decide +kernel
theorem dX4_hasOneSideAllTricks_29 : decode cX4_hasOneSideAllTricks 29 = .ok (.iconst 1, 1) := by decide +kernel
theorem dX4_hasOneSideAllTricks_30 : decode cX4_hasOneSideAllTricks 30 = .ok (.goto 4, 3) := by decide +kernel
theorem dX4_hasOneSideAllTricks_33 : decode cX4_hasOneSideAllTricks 33 = .ok (.iconst 0, 1) := by decide +kernel
theorem dX4_hasOneSideAllTricks_34 : decode cX4_hasOneSideAllTricks 34 = .ok (.ireturn, 1) := by decide +kernel
theorem dX4_raisedToBid_0 : decode cX4_raisedToBid 0 = .ok (.aload_n 0, 1) := by decide +kernel
theorem dX4_raisedToBid_1 : decode cX4_raisedToBid 1 = .ok (.invokevirtual 288, 3) := by decide +kernel
theorem dX4_raisedToBid_4 : decode cX4_raisedToBid 4 = .ok (.istore_n 2, 1) := by decide +kernel
theorem dX4_raisedToBid_5 : decode cX4_raisedToBid 5 = .ok (.iload_n 1, 1) := by decide +kernel
theorem dX4_raisedToBid_6 : decode cX4_raisedToBid 6 = .ok (.aload_n 0, 1) := by decide +kernel
theorem dX4_raisedToBid_7 : decode cX4_raisedToBid 7 = .ok (.getfield 66, 3) := by decide +kernel
theorem dX4_raisedToBid_10 : decode cX4_raisedToBid 10 = .ok (.if_icmp .ge 15, 3) := by decide +kernel
theorem dX4_raisedToBid_13 : decode cX4_raisedToBid 13 = .ok (.aload_n 0, 1) := by decide +kernel
theorem dX4_raisedToBid_14 : decode cX4_raisedToBid 14 = .ok (.getfield 158, 3) := by decide +kernel
theorem dX4_raisedToBid_17 : decode cX4_raisedToBid 17 = .ok (.iconst 5, 1) := by decide +kernel
theorem dX4_raisedToBid_18 : decode cX4_raisedToBid 18 = .ok (.if_icmp .eq 7, 3) := by decide +kernel
theorem dX4_raisedToBid_21 : decode cX4_raisedToBid 21 = .ok (.iload_n 2, 1) := by decide +kernel
theorem dX4_raisedToBid_22 : decode cX4_raisedToBid 22 = .ok (.ifCond .gt 5, 3) := by decide +kernel
theorem dX4_raisedToBid_25 : decode cX4_raisedToBid 25 = .ok (.iload_n 1, 1) := by decide +kernel
theorem dX4_raisedToBid_26 : decode cX4_raisedToBid 26 = .ok (.ireturn, 1) := by decide +kernel
theorem dX4_raisedToBid_27 : decode cX4_raisedToBid 27 = .ok (.aload_n 0, 1) := by decide +kernel
theorem dX4_raisedToBid_28 : decode cX4_raisedToBid 28 = .ok (.getfield 66, 3) := by decide +kernel
theorem dX4_raisedToBid_31 : decode cX4_raisedToBid 31 = .ok (.iload_n 2, 1) := by decide +kernel
theorem dX4_raisedToBid_32 : decode cX4_raisedToBid 32 = .ok (.iadd, 1) := by decide +kernel
theorem dX4_raisedToBid_33 : decode cX4_raisedToBid 33 = .ok (.iconst 1, 1) := by decide +kernel
theorem dX4_raisedToBid_34 : decode cX4_raisedToBid 34 = .ok (.isub, 1) := by decide +kernel
theorem dX4_raisedToBid_35 : decode cX4_raisedToBid 35 = .ok (.iload_n 2, 1) := by decide +kernel
theorem dX4_raisedToBid_36 : decode cX4_raisedToBid 36 = .ok (.idiv, 1) := by decide +kernel
theorem dX4_raisedToBid_37 : decode cX4_raisedToBid 37 = .ok (.iload_n 2, 1) := by decide +kernel
theorem dX4_raisedToBid_38 : decode cX4_raisedToBid 38 = .ok (.imul, 1) := by decide +kernel
theorem dX4_raisedToBid_39 : decode cX4_raisedToBid 39 = .ok (.ireturn, 1) := by decide +kernel
theorem dX4_cardsForMatadors_0 : decode cX4_cardsForMatadors 0 = .ok (.aload_n 0, 1) := by decide +kernel
theorem dX4_cardsForMatadors_1 : decode cX4_cardsForMatadors 1 = .ok (.iload_n 1, 1) := by decide +kernel
theorem dX4_cardsForMatadors_2 : decode cX4_cardsForMatadors 2 = .ok (.invokevirtual 107, 3) := by decide +kernel
theorem dX4_cardsForMatadors_5 : decode cX4_cardsForMatadors 5 = .ok (.getfield 111, 3) := by decide +kernel
theorem dX4_cardsForMatadors_8 : decode cX4_cardsForMatadors 8 = .ok (.aload_n 0, 1) := by decide +kernel
theorem dX4_cardsForMatadors_9 : decode cX4_cardsForMatadors 9 = .ok (.iload_n 1, 1) := by decide +kernel
theorem dX4_cardsForMatadors_10 : decode cX4_cardsForMatadors 10 = .ok (.invokevirtual 107, 3) := by decide +kernel
theorem dX4_cardsForMatadors_13 : decode cX4_cardsForMatadors 13 = .ok (.getfield 306, 3) := by decide +kernel
theorem dX4_cardsForMatadors_16 : decode cX4_cardsForMatadors 16 = .ok (.lor, 1) := by decide +kernel
theorem dX4_cardsForMatadors_17 : decode cX4_cardsForMatadors 17 = .ok (.lstore_n 2, 1) := by decide +kernel
theorem dX4_cardsForMatadors_18 : decode cX4_cardsForMatadors 18 = .ok (.iload_n 1, 1) := by decide +kernel
theorem dX4_cardsForMatadors_19 : decode cX4_cardsForMatadors 19 = .ok (.aload_n 0, 1) := by decide +kernel
theorem dX4_cardsForMatadors_20 : decode cX4_cardsForMatadors 20 = .ok (.getfield 98, 3) := by decide +kernel
theorem dX4_cardsForMatadors_23 : decode cX4_cardsForMatadors 23 = .ok (.if_icmp .ne 12, 3) := by decide +kernel
theorem dX4_cardsForMatadors_26 : decode cX4_cardsForMatadors 26 = .ok (.lload_n 2, 1) := by decide +kernel
theorem dX4_cardsForMatadors_27 : decode cX4_cardsForMatadors 27 = .ok (.aload_n 0, 1) := by decide +kernel
theorem dX4_cardsForMatadors_28 : decode cX4_cardsForMatadors 28 = .ok (.getfield 103, 3) := by decide +kernel
theorem dX4_cardsForMatadors_31 : decode cX4_cardsForMatadors 31 = .ok (.lor, 1) := by decide +kernel
theorem dX4_cardsForMatadors_32 : decode cX4_cardsForMatadors 32 = .ok (.goto 4, 3) := by decide +kernel
theorem dX4_cardsForMatadors_35 : decode cX4_cardsForMatadors 35 = .ok (.lload_n 2, 1) := by decide +kernel
theorem dX4_cardsForMatadors_36 : decode cX4_cardsForMatadors 36 = .ok (.lreturn, 1) := by decide +kernel
theorem dJ9_abs_0f7a4_0 : decode cJ9_abs_0f7a4 0 = .ok (.iload_n 0, 1) := by decide +kernel
theorem dJ9_abs_0f7a4_1 : decode cJ9_abs_0f7a4 1 = .ok (.ifCond .ge 8, 3) := by decide +kernel
theorem dJ9_abs_0f7a4_4 : decode cJ9_abs_0f7a4 4 = .ok (.iload_n 0, 1) := by decide +kernel
theorem dJ9_abs_0f7a4_5 : decode cJ9_abs_0f7a4 5 = .ok (.ineg, 1) := by decide +kernel
theorem dJ9_abs_0f7a4_6 : decode cJ9_abs_0f7a4 6 = .ok (.goto 4, 3) := by decide +kernel
theorem dJ9_abs_0f7a4_9 : decode cJ9_abs_0f7a4 9 = .ok (.iload_n 0, 1) := by decide +kernel
theorem dJ9_abs_0f7a4_10 : decode cJ9_abs_0f7a4 10 = .ok (.ireturn, 1) := by decide +kernel
theorem dJ9_max_7cf53_0 : decode cJ9_max_7cf53 0 = .ok (.iload_n 0, 1) := by decide +kernel
theorem dJ9_max_7cf53_1 : decode cJ9_max_7cf53 1 = .ok (.iload_n 1, 1) := by decide +kernel
theorem dJ9_max_7cf53_2 : decode cJ9_max_7cf53 2 = .ok (.if_icmp .lt 7, 3) := by decide +kernel
theorem dJ9_max_7cf53_5 : decode cJ9_max_7cf53 5 = .ok (.iload_n 0, 1) := by decide +kernel
theorem dJ9_max_7cf53_6 : decode cJ9_max_7cf53 6 = .ok (.goto 4, 3) := by decide +kernel
theorem dJ9_max_7cf53_9 : decode cJ9_max_7cf53 9 = .ok (.iload_n 1, 1) := by decide +kernel
theorem dJ9_max_7cf53_10 : decode cJ9_max_7cf53 10 = .ok (.ireturn, 1) := by decide +kernel
