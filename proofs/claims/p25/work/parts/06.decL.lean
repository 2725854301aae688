theorem dL_cell_0 : decode cL_cell 0 = .ok (.iload_n 1, 1) := by decide +kernel
theorem dL_cell_1 : decode cL_cell 1 = .ok (.aload_n 0, 1) := by decide +kernel
theorem dL_cell_2 : decode cL_cell 2 = .ok (.arraylength, 1) := by decide +kernel
theorem dL_cell_3 : decode cL_cell 3 = .ok (.if_icmp .ge 9, 3) := by decide +kernel
theorem dL_cell_6 : decode cL_cell 6 = .ok (.aload_n 0, 1) := by decide +kernel
theorem dL_cell_7 : decode cL_cell 7 = .ok (.iload_n 1, 1) := by decide +kernel
theorem dL_cell_8 : decode cL_cell 8 = .ok (.iaload, 1) := by decide +kernel
theorem dL_cell_9 : decode cL_cell 9 = .ok (.goto 18, 3) := by decide +kernel
theorem dL_cell_12 : decode cL_cell 12 = .ok (.sipush 7919, 3) := by decide +kernel
theorem dL_cell_15 : decode cL_cell 15 = .ok (.iload_n 1, 1) := by decide +kernel
theorem dL_cell_16 : decode cL_cell 16 = .ok (.sipush 317, 3) := by decide +kernel
theorem dL_cell_19 : decode cL_cell 19 = .ok (.iadd, 1) := by decide +kernel
theorem dL_cell_20 : decode cL_cell 20 = .ok (.imul, 1) := by decide +kernel
theorem dL_cell_21 : decode cL_cell 21 = .ok (.iload_n 1, 1) := by decide +kernel
theorem dL_cell_22 : decode cL_cell 22 = .ok (.sipush 2593, 3) := by decide +kernel
theorem dL_cell_25 : decode cL_cell 25 = .ok (.iadd, 1) := by decide +kernel
theorem dL_cell_26 : decode cL_cell 26 = .ok (.imul, 1) := by decide +kernel
theorem dL_cell_27 : decode cL_cell 27 = .ok (.ireturn, 1) := by decide +kernel
theorem dL_low_0 : decode cL_low 0 = .ok (.iload_n 0, 1) := by decide +kernel
theorem dL_low_1 : decode cL_low 1 = .ok (.ldc 7, 2) := by decide +kernel
theorem dL_low_3 : decode cL_low 3 = .ok (.iand, 1) := by decide +kernel
theorem dL_low_4 : decode cL_low 4 = .ok (.iload_n 1, 1) := by decide +kernel
theorem dL_low_5 : decode cL_low 5 = .ok (.irem, 1) := by decide +kernel
theorem dL_low_6 : decode cL_low 6 = .ok (.ireturn, 1) := by decide +kernel
theorem dL_does_0 : decode cL_does 0 = .ok (.iload_n 1, 1) := by decide +kernel
theorem dL_does_1 : decode cL_does 1 = .ok (.ifCond .ne 11, 3) := by decide +kernel
theorem dL_does_4 : decode cL_does 4 = .ok (.aload_n 0, 1) := by decide +kernel
theorem dL_does_5 : decode cL_does 5 = .ok (.iload_n 2, 1) := by decide +kernel
theorem dL_does_6 : decode cL_does 6 = .ok (.invokevirtual 8, 3) := by decide +kernel
theorem dL_does_9 : decode cL_does 9 = .ok (.goto 91, 3) := by decide +kernel
theorem dL_does_12 : decode cL_does 12 = .ok (.iload_n 1, 1) := by decide +kernel
theorem dL_does_13 : decode cL_does 13 = .ok (.iconst 1, 1) := by decide +kernel
theorem dL_does_14 : decode cL_does 14 = .ok (.if_icmp .ne 11, 3) := by decide +kernel
theorem dL_does_17 : decode cL_does 17 = .ok (.aload_n 0, 1) := by decide +kernel
theorem dL_does_18 : decode cL_does 18 = .ok (.iload_n 2, 1) := by decide +kernel
theorem dL_does_19 : decode cL_does 19 = .ok (.invokevirtual 14, 3) := by decide +kernel
theorem dL_does_22 : decode cL_does 22 = .ok (.goto 78, 3) := by decide +kernel
theorem dL_does_25 : decode cL_does 25 = .ok (.iload_n 1, 1) := by decide +kernel
theorem dL_does_26 : decode cL_does 26 = .ok (.iconst 2, 1) := by decide +kernel
theorem dL_does_27 : decode cL_does 27 = .ok (.if_icmp .ne 10, 3) := by decide +kernel
theorem dL_does_30 : decode cL_does 30 = .ok (.aload_n 0, 1) := by decide +kernel
theorem dL_does_31 : decode cL_does 31 = .ok (.invokevirtual 17, 3) := by decide +kernel
theorem dL_does_34 : decode cL_does 34 = .ok (.goto 66, 3) := by decide +kernel
theorem dL_does_37 : decode cL_does 37 = .ok (.iload_n 1, 1) := by decide +kernel
theorem dL_does_38 : decode cL_does 38 = .ok (.iconst 3, 1) := by decide +kernel
theorem dL_does_39 : decode cL_does 39 = .ok (.if_icmp .ne 10, 3) := by decide +kernel
theorem dL_does_42 : decode cL_does 42 = .ok (.aload_n 0, 1) := by decide +kernel
theorem dL_does_43 : decode cL_does 43 = .ok (.invokevirtual 21, 3) := by decide +kernel
theorem dL_does_46 : decode cL_does 46 = .ok (.goto 54, 3) := by decide +kernel
theorem dL_does_49 : decode cL_does 49 = .ok (.iload_n 1, 1) := by decide +kernel
theorem dL_does_50 : decode cL_does 50 = .ok (.iconst 4, 1) := by decide +kernel
theorem dL_does_51 : decode cL_does 51 = .ok (.if_icmp .ne 12, 3) := by decide +kernel
theorem dL_does_54 : decode cL_does 54 = .ok (.aload_n 0, 1) := by decide +kernel
theorem dL_does_55 : decode cL_does 55 = .ok (.iload_n 2, 1) := by decide +kernel
theorem dL_does_56 : decode cL_does 56 = .ok (.iload_n 3, 1) := by decide +kernel
theorem dL_does_57 : decode cL_does 57 = .ok (.invokevirtual 24, 3) := by decide +kernel
theorem dL_does_60 : decode cL_does 60 = .ok (.goto 40, 3) := by decide +kernel
theorem dL_does_63 : decode cL_does 63 = .ok (.iload_n 1, 1) := by decide +kernel
theorem dL_does_64 : decode cL_does 64 = .ok (.iconst 5, 1) := by decide +kernel
theorem dL_does_65 : decode cL_does 65 = .ok (.if_icmp .ne 12, 3) := by decide +kernel
theorem dL_does_68 : decode cL_does 68 = .ok (.aload_n 0, 1) := by decide +kernel
theorem dL_does_69 : decode cL_does 69 = .ok (.iload_n 2, 1) := by decide +kernel
theorem dL_does_70 : decode cL_does 70 = .ok (.iload_n 3, 1) := by decide +kernel
theorem dL_does_71 : decode cL_does 71 = .ok (.invokevirtual 28, 3) := by decide +kernel
theorem dL_does_74 : decode cL_does 74 = .ok (.goto 26, 3) := by decide +kernel
theorem dL_does_77 : decode cL_does 77 = .ok (.iload_n 1, 1) := by decide +kernel
theorem dL_does_78 : decode cL_does 78 = .ok (.bipush 6, 2) := by decide +kernel
theorem dL_does_80 : decode cL_does 80 = .ok (.if_icmp .ne 11, 3) := by decide +kernel
theorem dL_does_83 : decode cL_does 83 = .ok (.aload_n 0, 1) := by decide +kernel
theorem dL_does_84 : decode cL_does 84 = .ok (.iload_n 2, 1) := by decide +kernel
theorem dL_does_85 : decode cL_does 85 = .ok (.invokevirtual 31, 3) := by decide +kernel
theorem dL_does_88 : decode cL_does 88 = .ok (.goto 12, 3) := by decide +kernel
theorem dL_does_91 : decode cL_does 91 = .ok (.aload_n 0, 1) := by decide +kernel
theorem dL_does_92 : decode cL_does 92 = .ok (.invokevirtual 34, 3) := by decide +kernel
theorem dL_does_95 : decode cL_does 95 = .ok (.ldc2_w 38, 3) := by decide +kernel
theorem dL_does_98 : decode cL_does 98 = .ok (.land, 1) := by decide +kernel
theorem dL_does_99 : decode cL_does 99 = .ok (.l2i, 1) := by decide +kernel
theorem dL_does_100 : decode cL_does 100 = .ok (.ireturn, 1) := by decide +kernel
theorem dL_does_101 : decode cL_does 101 = .ok (.astore 4, 2) := by decide +kernel
theorem dL_does_103 : decode cL_does 103 = .ok (.ldc 42, 2) := by decide +kernel
theorem dL_does_105 : decode cL_does 105 = .ok (.ireturn, 1) := by decide +kernel
theorem dL_does_106 : decode cL_does 106 = .ok (.astore 4, 2) := by decide +kernel
theorem dL_does_108 : decode cL_does 108 = .ok (.ldc 42, 2) := by decide +kernel
theorem dL_does_110 : decode cL_does 110 = .ok (.ireturn, 1) := by decide +kernel
theorem dL_does_111 : decode cL_does 111 = .ok (.astore 4, 2) := by decide +kernel
theorem dL_does_113 : decode cL_does 113 = .ok (.ldc 42, 2) := by decide +kernel
theorem dL_does_115 : decode cL_does 115 = .ok (.ireturn, 1) := by decide +kernel
theorem dL_value_0 : decode cL_value 0 = .ok (.aload_n 0, 1) := by decide +kernel
theorem dL_value_1 : decode cL_value 1 = .ok (.invokevirtual 47, 3) := by decide +kernel
theorem dL_value_4 : decode cL_value 4 = .ok (.ireturn, 1) := by decide +kernel
theorem dL_value_5 : decode cL_value 5 = .ok (.astore_n 1, 1) := by decide +kernel
theorem dL_value_6 : decode cL_value 6 = .ok (.ldc 42, 2) := by decide +kernel
theorem dL_value_8 : decode cL_value 8 = .ok (.ireturn, 1) := by decide +kernel
theorem dL_playable_0 : decode cL_playable 0 = .ok (.aload_n 0, 1) := by decide +kernel
theorem dL_playable_1 : decode cL_playable 1 = .ok (.invokevirtual 50, 3) := by decide +kernel
theorem dL_playable_4 : decode cL_playable 4 = .ok (.lreturn, 1) := by decide +kernel
theorem dL_playable_5 : decode cL_playable 5 = .ok (.astore_n 1, 1) := by decide +kernel
theorem dL_playable_6 : decode cL_playable 6 = .ok (.ldc2_w 53, 3) := by decide +kernel
theorem dL_playable_9 : decode cL_playable 9 = .ok (.lreturn, 1) := by decide +kernel
theorem dL_many_0 : decode cL_many 0 = .ok (.iconst 0, 1) := by decide +kernel
theorem dL_many_1 : decode cL_many 1 = .ok (.istore_n 2, 1) := by decide +kernel
theorem dL_many_2 : decode cL_many 2 = .ok (.iconst 0, 1) := by decide +kernel
theorem dL_many_3 : decode cL_many 3 = .ok (.istore_n 3, 1) := by decide +kernel
theorem dL_many_4 : decode cL_many 4 = .ok (.iload_n 3, 1) := by decide +kernel
theorem dL_many_5 : decode cL_many 5 = .ok (.bipush 32, 2) := by decide +kernel
theorem dL_many_7 : decode cL_many 7 = .ok (.if_icmp .ge 18, 3) := by decide +kernel
theorem dL_many_10 : decode cL_many 10 = .ok (.iload_n 2, 1) := by decide +kernel
theorem dL_many_11 : decode cL_many 11 = .ok (.lload_n 0, 1) := by decide +kernel
theorem dL_many_12 : decode cL_many 12 = .ok (.iload_n 3, 1) := by decide +kernel
theorem dL_many_13 : decode cL_many 13 = .ok (.lshr, 1) := by decide +kernel
theorem dL_many_14 : decode cL_many 14 = .ok (.lconst 1, 1) := by decide +kernel
theorem dL_many_15 : decode cL_many 15 = .ok (.land, 1) := by decide +kernel
theorem dL_many_16 : decode cL_many 16 = .ok (.l2i, 1) := by decide +kernel
theorem dL_many_17 : decode cL_many 17 = .ok (.iadd, 1) := by decide +kernel
theorem dL_many_18 : decode cL_many 18 = .ok (.istore_n 2, 1) := by decide +kernel
theorem dL_many_19 : decode cL_many 19 = .ok (.iinc 3 1, 3) := by decide +kernel
theorem dL_many_22 : decode cL_many 22 = .ok (.goto (-18), 3) := by decide +kernel
theorem dL_many_25 : decode cL_many 25 = .ok (.iload_n 2, 1) := by decide +kernel
theorem dL_many_26 : decode cL_many 26 = .ok (.ireturn, 1) := by decide +kernel
theorem dL_card_0 : decode cL_card 0 = .ok (.iconst 0, 1) := by decide +kernel
theorem dL_card_1 : decode cL_card 1 = .ok (.istore_n 3, 1) := by decide +kernel
theorem dL_card_2 : decode cL_card 2 = .ok (.iconst 0, 1) := by decide +kernel
theorem dL_card_3 : decode cL_card 3 = .ok (.istore 4, 2) := by decide +kernel
theorem dL_card_5 : decode cL_card 5 = .ok (.iload 4, 2) := by decide +kernel
theorem dL_card_7 : decode cL_card 7 = .ok (.bipush 32, 2) := by decide +kernel
theorem dL_card_9 : decode cL_card 9 = .ok (.if_icmp .ge 27, 3) := by decide +kernel
theorem dL_card_12 : decode cL_card 12 = .ok (.iload_n 3, 1) := by decide +kernel
theorem dL_card_13 : decode cL_card 13 = .ok (.lload_n 0, 1) := by decide +kernel
theorem dL_card_14 : decode cL_card 14 = .ok (.iload 4, 2) := by decide +kernel
theorem dL_card_16 : decode cL_card 16 = .ok (.lshr, 1) := by decide +kernel
theorem dL_card_17 : decode cL_card 17 = .ok (.lconst 1, 1) := by decide +kernel
theorem dL_card_18 : decode cL_card 18 = .ok (.land, 1) := by decide +kernel
theorem dL_card_19 : decode cL_card 19 = .ok (.l2i, 1) := by decide +kernel
theorem dL_card_20 : decode cL_card 20 = .ok (.iadd, 1) := by decide +kernel
theorem dL_card_21 : decode cL_card 21 = .ok (.istore_n 3, 1) := by decide +kernel
theorem dL_card_22 : decode cL_card 22 = .ok (.iload_n 3, 1) := by decide +kernel
theorem dL_card_23 : decode cL_card 23 = .ok (.iload_n 2, 1) := by decide +kernel
theorem dL_card_24 : decode cL_card 24 = .ok (.if_icmp .le 6, 3) := by decide +kernel
theorem dL_card_27 : decode cL_card 27 = .ok (.iload 4, 2) := by decide +kernel
theorem dL_card_29 : decode cL_card 29 = .ok (.ireturn, 1) := by decide +kernel
theorem dL_card_30 : decode cL_card 30 = .ok (.iinc 4 1, 3) := by decide +kernel
theorem dL_card_33 : decode cL_card 33 = .ok (.goto (-28), 3) := by decide +kernel
theorem dL_card_36 : decode cL_card 36 = .ok (.iconst 0, 1) := by decide +kernel
theorem dL_card_37 : decode cL_card 37 = .ok (.ireturn, 1) := by decide +kernel
theorem dL_act_0 : decode cL_act 0 = .ok (.iload_n 1, 1) := by decide +kernel
theorem dL_act_1 : decode cL_act 1 = .ok (.bipush 24, 2) := by decide +kernel
theorem dL_act_3 : decode cL_act 3 = .ok (.ishr, 1) := by decide +kernel
theorem dL_act_4 : decode cL_act 4 = .ok (.bipush 8, 2) := by decide +kernel
theorem dL_act_6 : decode cL_act 6 = .ok (.invokestatic 55, 3) := by decide +kernel
theorem dL_act_9 : decode cL_act 9 = .ok (.ifCond .ne 7, 3) := by decide +kernel
theorem dL_act_12 : decode cL_act 12 = .ok (.iconst 1, 1) := by decide +kernel
theorem dL_act_13 : decode cL_act 13 = .ok (.goto 4, 3) := by decide +kernel
theorem dL_act_16 : decode cL_act 16 = .ok (.iconst 0, 1) := by decide +kernel
theorem dL_act_17 : decode cL_act 17 = .ok (.istore_n 2, 1) := by decide +kernel
theorem dL_act_18 : decode cL_act 18 = .ok (.aload_n 0, 1) := by decide +kernel
theorem dL_act_19 : decode cL_act 19 = .ok (.invokevirtual 60, 3) := by decide +kernel
theorem dL_act_22 : decode cL_act 22 = .ok (.istore_n 3, 1) := by decide +kernel
theorem dL_act_23 : decode cL_act 23 = .ok (.iload_n 2, 1) := by decide +kernel
theorem dL_act_24 : decode cL_act 24 = .ok (.ifCond .eq 37, 3) := by decide +kernel
theorem dL_act_27 : decode cL_act 27 = .ok (.aload_n 0, 1) := by decide +kernel
theorem dL_act_28 : decode cL_act 28 = .ok (.iconst 1, 1) := by decide +kernel
theorem dL_act_29 : decode cL_act 29 = .ok (.iload_n 1, 1) := by decide +kernel
theorem dL_act_30 : decode cL_act 30 = .ok (.bipush 7, 2) := by decide +kernel
theorem dL_act_32 : decode cL_act 32 = .ok (.invokestatic 55, 3) := by decide +kernel
theorem dL_act_35 : decode cL_act 35 = .ok (.iadd, 1) := by decide +kernel
theorem dL_act_36 : decode cL_act 36 = .ok (.iload_n 1, 1) := by decide +kernel
theorem dL_act_37 : decode cL_act 37 = .ok (.iconst 4, 1) := by decide +kernel
theorem dL_act_38 : decode cL_act 38 = .ok (.ishr, 1) := by decide +kernel
theorem dL_act_39 : decode cL_act 39 = .ok (.bipush 40, 2) := by decide +kernel
theorem dL_act_41 : decode cL_act 41 = .ok (.invokestatic 55, 3) := by decide +kernel
theorem dL_act_44 : decode cL_act 44 = .ok (.iconst 4, 1) := by decide +kernel
theorem dL_act_45 : decode cL_act 45 = .ok (.isub, 1) := by decide +kernel
theorem dL_act_46 : decode cL_act 46 = .ok (.iload_n 1, 1) := by decide +kernel
theorem dL_act_47 : decode cL_act 47 = .ok (.bipush 9, 2) := by decide +kernel
theorem dL_act_49 : decode cL_act 49 = .ok (.ishr, 1) := by decide +kernel
theorem dL_act_50 : decode cL_act 50 = .ok (.bipush 40, 2) := by decide +kernel
theorem dL_act_52 : decode cL_act 52 = .ok (.invokestatic 55, 3) := by decide +kernel
theorem dL_act_55 : decode cL_act 55 = .ok (.iconst 4, 1) := by decide +kernel
theorem dL_act_56 : decode cL_act 56 = .ok (.isub, 1) := by decide +kernel
theorem dL_act_57 : decode cL_act 57 = .ok (.invokestatic 63, 3) := by decide +kernel
theorem dL_act_60 : decode cL_act 60 = .ok (.ireturn, 1) := by decide +kernel
theorem dL_act_61 : decode cL_act 61 = .ok (.iload_n 3, 1) := by decide +kernel
theorem dL_act_62 : decode cL_act 62 = .ok (.bipush 6, 2) := by decide +kernel
theorem dL_act_64 : decode cL_act 64 = .ok (.if_icmp .eq 10, 3) := by decide +kernel
theorem dL_act_67 : decode cL_act 67 = .ok (.iload_n 1, 1) := by decide +kernel
theorem dL_act_68 : decode cL_act 68 = .ok (.bipush 63, 2) := by decide +kernel
theorem dL_act_70 : decode cL_act 70 = .ok (.iand, 1) := by decide +kernel
theorem dL_act_71 : decode cL_act 71 = .ok (.ifCond .ne 16, 3) := by decide +kernel
theorem dL_act_74 : decode cL_act 74 = .ok (.aload_n 0, 1) := by decide +kernel
theorem dL_act_75 : decode cL_act 75 = .ok (.iconst 0, 1) := by decide +kernel
theorem dL_act_76 : decode cL_act 76 = .ok (.iload_n 1, 1) := by decide +kernel
theorem dL_act_77 : decode cL_act 77 = .ok (.iconst 1, 1) := by decide +kernel
theorem dL_act_78 : decode cL_act 78 = .ok (.ishr, 1) := by decide +kernel
theorem dL_act_79 : decode cL_act 79 = .ok (.ldc 7, 2) := by decide +kernel
theorem dL_act_81 : decode cL_act 81 = .ok (.iand, 1) := by decide +kernel
theorem dL_act_82 : decode cL_act 82 = .ok (.iconst 0, 1) := by decide +kernel
theorem dL_act_83 : decode cL_act 83 = .ok (.invokestatic 63, 3) := by decide +kernel
theorem dL_act_86 : decode cL_act 86 = .ok (.ireturn, 1) := by decide +kernel
theorem dL_act_87 : decode cL_act 87 = .ok (.iload_n 3, 1) := by decide +kernel
theorem dL_act_88 : decode cL_act 88 = .ok (.iconst 2, 1) := by decide +kernel
theorem dL_act_89 : decode cL_act 89 = .ok (.if_icmp .ge 87, 3) := by decide +kernel
theorem dL_act_92 : decode cL_act 92 = .ok (.iload_n 1, 1) := by decide +kernel
theorem dL_act_93 : decode cL_act 93 = .ok (.iconst 3, 1) := by decide +kernel
theorem dL_act_94 : decode cL_act 94 = .ok (.ishr, 1) := by decide +kernel
theorem dL_act_95 : decode cL_act 95 = .ok (.bipush 10, 2) := by decide +kernel
theorem dL_act_97 : decode cL_act 97 = .ok (.invokestatic 55, 3) := by decide +kernel
theorem dL_act_100 : decode cL_act 100 = .ok (.aload_n 0, 1) := by decide +kernel
theorem dL_act_101 : decode cL_act 101 = .ok (.invokevirtual 67, 3) := by decide +kernel
theorem dL_act_104 : decode cL_act 104 = .ok (.bipush 30, 2) := by decide +kernel
theorem dL_act_106 : decode cL_act 106 = .ok (.if_icmp .ge 7, 3) := by decide +kernel
theorem dL_act_109 : decode cL_act 109 = .ok (.iconst 2, 1) := by decide +kernel
theorem dL_act_110 : decode cL_act 110 = .ok (.goto 4, 3) := by decide +kernel
theorem dL_act_113 : decode cL_act 113 = .ok (.iconst 5, 1) := by decide +kernel
theorem dL_act_114 : decode cL_act 114 = .ok (.if_icmp .ge 7, 3) := by decide +kernel
theorem dL_act_117 : decode cL_act 117 = .ok (.iconst 1, 1) := by decide +kernel
theorem dL_act_118 : decode cL_act 118 = .ok (.goto 4, 3) := by decide +kernel
theorem dL_act_121 : decode cL_act 121 = .ok (.iconst 0, 1) := by decide +kernel
theorem dL_act_122 : decode cL_act 122 = .ok (.istore 4, 2) := by decide +kernel
theorem dL_act_124 : decode cL_act 124 = .ok (.aload_n 0, 1) := by decide +kernel
theorem dL_act_125 : decode cL_act 125 = .ok (.invokevirtual 67, 3) := by decide +kernel
theorem dL_act_128 : decode cL_act 128 = .ok (.sipush 263, 3) := by decide +kernel
theorem dL_act_131 : decode cL_act 131 = .ok (.if_icmp .le 9, 3) := by decide +kernel
theorem dL_act_134 : decode cL_act 134 = .ok (.sipush 264, 3) := by decide +kernel
theorem dL_act_137 : decode cL_act 137 = .ok (.goto 11, 3) := by decide +kernel
theorem dL_act_140 : decode cL_act 140 = .ok (.aload_n 0, 1) := by decide +kernel
theorem dL_act_141 : decode cL_act 141 = .ok (.aload_n 0, 1) := by decide +kernel
theorem dL_act_142 : decode cL_act 142 = .ok (.invokevirtual 67, 3) := by decide +kernel
theorem dL_act_145 : decode cL_act 145 = .ok (.invokevirtual 70, 3) := by decide +kernel
theorem dL_act_148 : decode cL_act 148 = .ok (.istore 5, 2) := by decide +kernel
theorem dL_act_150 : decode cL_act 150 = .ok (.aload_n 0, 1) := by decide +kernel
theorem dL_act_151 : decode cL_act 151 = .ok (.iload 4, 2) := by decide +kernel
theorem dL_act_153 : decode cL_act 153 = .ok (.ifCond .eq 7, 3) := by decide +kernel
theorem dL_act_156 : decode cL_act 156 = .ok (.iconst 3, 1) := by decide +kernel
theorem dL_act_157 : decode cL_act 157 = .ok (.goto 12, 3) := by decide +kernel
theorem dL_act_160 : decode cL_act 160 = .ok (.iload_n 3, 1) := by decide +kernel
theorem dL_act_161 : decode cL_act 161 = .ok (.ifCond .ne 7, 3) := by decide +kernel
theorem dL_act_164 : decode cL_act 164 = .ok (.iconst 1, 1) := by decide +kernel
theorem dL_act_165 : decode cL_act 165 = .ok (.goto 4, 3) := by decide +kernel
theorem dL_act_168 : decode cL_act 168 = .ok (.iconst 2, 1) := by decide +kernel
theorem dL_act_169 : decode cL_act 169 = .ok (.iload 5, 2) := by decide +kernel
theorem dL_act_171 : decode cL_act 171 = .ok (.iconst 0, 1) := by decide +kernel
theorem dL_act_172 : decode cL_act 172 = .ok (.invokestatic 63, 3) := by decide +kernel
theorem dL_act_175 : decode cL_act 175 = .ok (.ireturn, 1) := by decide +kernel
theorem dL_act_176 : decode cL_act 176 = .ok (.iload_n 3, 1) := by decide +kernel
theorem dL_act_177 : decode cL_act 177 = .ok (.iconst 3, 1) := by decide +kernel
theorem dL_act_178 : decode cL_act 178 = .ok (.if_icmp .ne 46, 3) := by decide +kernel
theorem dL_act_181 : decode cL_act 181 = .ok (.aload_n 0, 1) := by decide +kernel
theorem dL_act_182 : decode cL_act 182 = .ok (.aload_n 0, 1) := by decide +kernel
theorem dL_act_183 : decode cL_act 183 = .ok (.invokevirtual 73, 3) := by decide +kernel
theorem dL_act_186 : decode cL_act 186 = .ok (.invokevirtual 76, 3) := by decide +kernel
theorem dL_act_189 : decode cL_act 189 = .ok (.lstore 4, 2) := by decide +kernel
theorem dL_act_191 : decode cL_act 191 = .ok (.aload_n 0, 1) := by decide +kernel
theorem dL_act_192 : decode cL_act 192 = .ok (.iconst 4, 1) := by decide +kernel
theorem dL_act_193 : decode cL_act 193 = .ok (.lload 4, 2) := by decide +kernel
theorem dL_act_195 : decode cL_act 195 = .ok (.iload_n 1, 1) := by decide +kernel
theorem dL_act_196 : decode cL_act 196 = .ok (.iconst 3, 1) := by decide +kernel
theorem dL_act_197 : decode cL_act 197 = .ok (.ishr, 1) := by decide +kernel
theorem dL_act_198 : decode cL_act 198 = .ok (.bipush 12, 2) := by decide +kernel
theorem dL_act_200 : decode cL_act 200 = .ok (.invokestatic 55, 3) := by decide +kernel
theorem dL_act_203 : decode cL_act 203 = .ok (.invokestatic 80, 3) := by decide +kernel
theorem dL_act_206 : decode cL_act 206 = .ok (.lload 4, 2) := by decide +kernel
theorem dL_act_208 : decode cL_act 208 = .ok (.iload_n 1, 1) := by decide +kernel
theorem dL_act_209 : decode cL_act 209 = .ok (.bipush 7, 2) := by decide +kernel
theorem dL_act_211 : decode cL_act 211 = .ok (.ishr, 1) := by decide +kernel
theorem dL_act_212 : decode cL_act 212 = .ok (.bipush 12, 2) := by decide +kernel
theorem dL_act_214 : decode cL_act 214 = .ok (.invokestatic 55, 3) := by decide +kernel
theorem dL_act_217 : decode cL_act 217 = .ok (.invokestatic 80, 3) := by decide +kernel
theorem dL_act_220 : decode cL_act 220 = .ok (.invokestatic 63, 3) := by decide +kernel
theorem dL_act_223 : decode cL_act 223 = .ok (.ireturn, 1) := by decide +kernel
theorem dL_act_224 : decode cL_act 224 = .ok (.iload_n 3, 1) := by decide +kernel
theorem dL_act_225 : decode cL_act 225 = .ok (.iconst 5, 1) := by decide +kernel
theorem dL_act_226 : decode cL_act 226 = .ok (.if_icmp .ge 62, 3) := by decide +kernel
theorem dL_act_229 : decode cL_act 229 = .ok (.iload_n 3, 1) := by decide +kernel
theorem dL_act_230 : decode cL_act 230 = .ok (.iconst 2, 1) := by decide +kernel
theorem dL_act_231 : decode cL_act 231 = .ok (.if_icmp .ne 22, 3) := by decide +kernel
theorem dL_act_234 : decode cL_act 234 = .ok (.iload_n 1, 1) := by decide +kernel
theorem dL_act_235 : decode cL_act 235 = .ok (.iconst 4, 1) := by decide +kernel
theorem dL_act_236 : decode cL_act 236 = .ok (.ishr, 1) := by decide +kernel
theorem dL_act_237 : decode cL_act 237 = .ok (.iconst 1, 1) := by decide +kernel
theorem dL_act_238 : decode cL_act 238 = .ok (.iand, 1) := by decide +kernel
theorem dL_act_239 : decode cL_act 239 = .ok (.ifCond .ne 14, 3) := by decide +kernel
theorem dL_act_242 : decode cL_act 242 = .ok (.aload_n 0, 1) := by decide +kernel
theorem dL_act_243 : decode cL_act 243 = .ok (.bipush 7, 2) := by decide +kernel
theorem dL_act_245 : decode cL_act 245 = .ok (.iconst 0, 1) := by decide +kernel
theorem dL_act_246 : decode cL_act 246 = .ok (.iconst 0, 1) := by decide +kernel
theorem dL_act_247 : decode cL_act 247 = .ok (.invokestatic 63, 3) := by decide +kernel
theorem dL_act_250 : decode cL_act 250 = .ok (.goto 37, 3) := by decide +kernel
theorem dL_act_253 : decode cL_act 253 = .ok (.aload_n 0, 1) := by decide +kernel
theorem dL_act_254 : decode cL_act 254 = .ok (.iconst 5, 1) := by decide +kernel
theorem dL_act_255 : decode cL_act 255 = .ok (.iload_n 1, 1) := by decide +kernel
theorem dL_act_256 : decode cL_act 256 = .ok (.iconst 5, 1) := by decide +kernel
theorem dL_act_257 : decode cL_act 257 = .ok (.ishr, 1) := by decide +kernel
theorem dL_act_258 : decode cL_act 258 = .ok (.bipush 6, 2) := by decide +kernel
theorem dL_act_260 : decode cL_act 260 = .ok (.invokestatic 55, 3) := by decide +kernel
theorem dL_act_263 : decode cL_act 263 = .ok (.iload_n 1, 1) := by decide +kernel
theorem dL_act_264 : decode cL_act 264 = .ok (.bipush 9, 2) := by decide +kernel
theorem dL_act_266 : decode cL_act 266 = .ok (.ishr, 1) := by decide +kernel
theorem dL_act_267 : decode cL_act 267 = .ok (.iconst 1, 1) := by decide +kernel
theorem dL_act_268 : decode cL_act 268 = .ok (.iand, 1) := by decide +kernel
theorem dL_act_269 : decode cL_act 269 = .ok (.ifCond .ne 7, 3) := by decide +kernel
theorem dL_act_272 : decode cL_act 272 = .ok (.iconst 0, 1) := by decide +kernel
theorem dL_act_273 : decode cL_act 273 = .ok (.goto 11, 3) := by decide +kernel
theorem dL_act_276 : decode cL_act 276 = .ok (.iload_n 1, 1) := by decide +kernel
theorem dL_act_277 : decode cL_act 277 = .ok (.bipush 7, 2) := by decide +kernel
theorem dL_act_279 : decode cL_act 279 = .ok (.ishr, 1) := by decide +kernel
theorem dL_act_280 : decode cL_act 280 = .ok (.iconst 4, 1) := by decide +kernel
theorem dL_act_281 : decode cL_act 281 = .ok (.invokestatic 55, 3) := by decide +kernel
theorem dL_act_284 : decode cL_act 284 = .ok (.invokestatic 63, 3) := by decide +kernel
theorem dL_act_287 : decode cL_act 287 = .ok (.ireturn, 1) := by decide +kernel
theorem dL_act_288 : decode cL_act 288 = .ok (.aload_n 0, 1) := by decide +kernel
theorem dL_act_289 : decode cL_act 289 = .ok (.invokevirtual 50, 3) := by decide +kernel
theorem dL_act_292 : decode cL_act 292 = .ok (.lstore 4, 2) := by decide +kernel
theorem dL_act_294 : decode cL_act 294 = .ok (.aload_n 0, 1) := by decide +kernel
theorem dL_act_295 : decode cL_act 295 = .ok (.bipush 6, 2) := by decide +kernel
theorem dL_act_297 : decode cL_act 297 = .ok (.lload 4, 2) := by decide +kernel
theorem dL_act_299 : decode cL_act 299 = .ok (.iload_n 1, 1) := by decide +kernel
theorem dL_act_300 : decode cL_act 300 = .ok (.iconst 3, 1) := by decide +kernel
theorem dL_act_301 : decode cL_act 301 = .ok (.ishr, 1) := by decide +kernel
theorem dL_act_302 : decode cL_act 302 = .ok (.lload 4, 2) := by decide +kernel
theorem dL_act_304 : decode cL_act 304 = .ok (.invokestatic 84, 3) := by decide +kernel
theorem dL_act_307 : decode cL_act 307 = .ok (.invokestatic 55, 3) := by decide +kernel
theorem dL_act_310 : decode cL_act 310 = .ok (.invokestatic 80, 3) := by decide +kernel
theorem dL_act_313 : decode cL_act 313 = .ok (.iconst 0, 1) := by decide +kernel
theorem dL_act_314 : decode cL_act 314 = .ok (.invokestatic 63, 3) := by decide +kernel
theorem dL_act_317 : decode cL_act 317 = .ok (.ireturn, 1) := by decide +kernel
theorem dL_areAlike_0 : decode cL_areAlike 0 = .ok (.aload_n 0, 1) := by decide +kernel
theorem dL_areAlike_1 : decode cL_areAlike 1 = .ok (.invokevirtual 60, 3) := by decide +kernel
theorem dL_areAlike_4 : decode cL_areAlike 4 = .ok (.aload_n 1, 1) := by decide +kernel
theorem dL_areAlike_5 : decode cL_areAlike 5 = .ok (.invokevirtual 60, 3) := by decide +kernel
theorem dL_areAlike_8 : decode cL_areAlike 8 = .ok (.if_icmp .ne 74, 3) := by decide +kernel
theorem dL_areAlike_11 : decode cL_areAlike 11 = .ok (.aload_n 0, 1) := by decide +kernel
theorem dL_areAlike_12 : decode cL_areAlike 12 = .ok (.invokevirtual 73, 3) := by decide +kernel
theorem dL_areAlike_15 : decode cL_areAlike 15 = .ok (.aload_n 1, 1) := by decide +kernel
theorem dL_areAlike_16 : decode cL_areAlike 16 = .ok (.invokevirtual 73, 3) := by decide +kernel
theorem dL_areAlike_19 : decode cL_areAlike 19 = .ok (.if_icmp .ne 63, 3) := by decide +kernel
theorem dL_areAlike_22 : decode cL_areAlike 22 = .ok (.aload_n 0, 1) := by decide +kernel
theorem dL_areAlike_23 : decode cL_areAlike 23 = .ok (.invokevirtual 67, 3) := by decide +kernel
theorem dL_areAlike_26 : decode cL_areAlike 26 = .ok (.aload_n 1, 1) := by decide +kernel
theorem dL_areAlike_27 : decode cL_areAlike 27 = .ok (.invokevirtual 67, 3) := by decide +kernel
theorem dL_areAlike_30 : decode cL_areAlike 30 = .ok (.if_icmp .ne 52, 3) := by decide +kernel
theorem dL_areAlike_33 : decode cL_areAlike 33 = .ok (.aload_n 0, 1) := by decide +kernel
theorem dL_areAlike_34 : decode cL_areAlike 34 = .ok (.invokevirtual 88, 3) := by decide +kernel
theorem dL_areAlike_37 : decode cL_areAlike 37 = .ok (.aload_n 1, 1) := by decide +kernel
theorem dL_areAlike_38 : decode cL_areAlike 38 = .ok (.invokevirtual 88, 3) := by decide +kernel
theorem dL_areAlike_41 : decode cL_areAlike 41 = .ok (.if_icmp .ne 41, 3) := by decide +kernel
theorem dL_areAlike_44 : decode cL_areAlike 44 = .ok (.aload_n 0, 1) := by decide +kernel
theorem dL_areAlike_45 : decode cL_areAlike 45 = .ok (.invokevirtual 91, 3) := by decide +kernel
theorem dL_areAlike_48 : decode cL_areAlike 48 = .ok (.aload_n 1, 1) := by decide +kernel
theorem dL_areAlike_49 : decode cL_areAlike 49 = .ok (.invokevirtual 91, 3) := by decide +kernel
theorem dL_areAlike_52 : decode cL_areAlike 52 = .ok (.if_icmp .ne 30, 3) := by decide +kernel
theorem dL_areAlike_55 : decode cL_areAlike 55 = .ok (.aload_n 0, 1) := by decide +kernel
theorem dL_areAlike_56 : decode cL_areAlike 56 = .ok (.invokestatic 94, 3) := by decide +kernel
theorem dL_areAlike_59 : decode cL_areAlike 59 = .ok (.aload_n 1, 1) := by decide +kernel
theorem dL_areAlike_60 : decode cL_areAlike 60 = .ok (.invokestatic 94, 3) := by decide +kernel
theorem dL_areAlike_63 : decode cL_areAlike 63 = .ok (.if_icmp .ne 19, 3) := by decide +kernel
theorem dL_areAlike_66 : decode cL_areAlike 66 = .ok (.aload_n 0, 1) := by decide +kernel
theorem dL_areAlike_67 : decode cL_areAlike 67 = .ok (.invokestatic 97, 3) := by decide +kernel
theorem dL_areAlike_70 : decode cL_areAlike 70 = .ok (.aload_n 1, 1) := by decide +kernel
theorem dL_areAlike_71 : decode cL_areAlike 71 = .ok (.invokestatic 97, 3) := by decide +kernel
theorem dL_areAlike_74 : decode cL_areAlike 74 = .ok (.lcmp, 1) := by decide +kernel
theorem dL_areAlike_75 : decode cL_areAlike 75 = .ok (.ifCond .ne 7, 3) := by decide +kernel
theorem dL_areAlike_78 : decode cL_areAlike 78 = .ok (.iconst 1, 1) := by decide +kernel
theorem dL_areAlike_79 : decode cL_areAlike 79 = .ok (.goto 4, 3) := by decide +kernel
theorem dL_areAlike_82 : decode cL_areAlike 82 = .ok (.iconst 0, 1) := by decide +kernel
theorem dL_areAlike_83 : decode cL_areAlike 83 = .ok (.istore_n 2, 1) := by decide +kernel
theorem dL_areAlike_84 : decode cL_areAlike 84 = .ok (.iconst 0, 1) := by decide +kernel
theorem dL_areAlike_85 : decode cL_areAlike 85 = .ok (.istore_n 3, 1) := by decide +kernel
theorem dL_areAlike_86 : decode cL_areAlike 86 = .ok (.iload_n 3, 1) := by decide +kernel
theorem dL_areAlike_87 : decode cL_areAlike 87 = .ok (.iconst 3, 1) := by decide +kernel
theorem dL_areAlike_88 : decode cL_areAlike 88 = .ok (.if_icmp .ge 100, 3) := by decide +kernel
theorem dL_areAlike_91 : decode cL_areAlike 91 = .ok (.iload_n 2, 1) := by decide +kernel
theorem dL_areAlike_92 : decode cL_areAlike 92 = .ok (.ifCond .eq 96, 3) := by decide +kernel
theorem dL_areAlike_95 : decode cL_areAlike 95 = .ok (.aload_n 0, 1) := by decide +kernel
theorem dL_areAlike_96 : decode cL_areAlike 96 = .ok (.iload_n 3, 1) := by decide +kernel
theorem dL_areAlike_97 : decode cL_areAlike 97 = .ok (.invokevirtual 76, 3) := by decide +kernel
theorem dL_areAlike_100 : decode cL_areAlike 100 = .ok (.aload_n 1, 1) := by decide +kernel
theorem dL_areAlike_101 : decode cL_areAlike 101 = .ok (.iload_n 3, 1) := by decide +kernel
theorem dL_areAlike_102 : decode cL_areAlike 102 = .ok (.invokevirtual 76, 3) := by decide +kernel
theorem dL_areAlike_105 : decode cL_areAlike 105 = .ok (.lcmp, 1) := by decide +kernel
theorem dL_areAlike_106 : decode cL_areAlike 106 = .ok (.ifCond .ne 74, 3) := by decide +kernel
theorem dL_areAlike_109 : decode cL_areAlike 109 = .ok (.aload_n 0, 1) := by decide +kernel
theorem dL_areAlike_110 : decode cL_areAlike 110 = .ok (.iload_n 3, 1) := by decide +kernel
theorem dL_areAlike_111 : decode cL_areAlike 111 = .ok (.invokevirtual 100, 3) := by decide +kernel
theorem dL_areAlike_114 : decode cL_areAlike 114 = .ok (.aload_n 1, 1) := by decide +kernel
theorem dL_areAlike_115 : decode cL_areAlike 115 = .ok (.iload_n 3, 1) := by decide +kernel
theorem dL_areAlike_116 : decode cL_areAlike 116 = .ok (.invokevirtual 100, 3) := by decide +kernel
theorem dL_areAlike_119 : decode cL_areAlike 119 = .ok (.if_icmp .ne 61, 3) := by decide +kernel
theorem dL_areAlike_122 : decode cL_areAlike 122 = .ok (.aload_n 0, 1) := by decide +kernel
theorem dL_areAlike_123 : decode cL_areAlike 123 = .ok (.iload_n 3, 1) := by decide +kernel
theorem dL_areAlike_124 : decode cL_areAlike 124 = .ok (.invokevirtual 103, 3) := by decide +kernel
theorem dL_areAlike_127 : decode cL_areAlike 127 = .ok (.aload_n 1, 1) := by decide +kernel
theorem dL_areAlike_128 : decode cL_areAlike 128 = .ok (.iload_n 3, 1) := by decide +kernel
theorem dL_areAlike_129 : decode cL_areAlike 129 = .ok (.invokevirtual 103, 3) := by decide +kernel
theorem dL_areAlike_132 : decode cL_areAlike 132 = .ok (.if_icmp .ne 48, 3) := by decide +kernel
theorem dL_areAlike_135 : decode cL_areAlike 135 = .ok (.aload_n 0, 1) := by decide +kernel
theorem dL_areAlike_136 : decode cL_areAlike 136 = .ok (.iload_n 3, 1) := by decide +kernel
theorem dL_areAlike_137 : decode cL_areAlike 137 = .ok (.invokevirtual 106, 3) := by decide +kernel
theorem dL_areAlike_140 : decode cL_areAlike 140 = .ok (.aload_n 1, 1) := by decide +kernel
theorem dL_areAlike_141 : decode cL_areAlike 141 = .ok (.iload_n 3, 1) := by decide +kernel
theorem dL_areAlike_142 : decode cL_areAlike 142 = .ok (.invokevirtual 106, 3) := by decide +kernel
theorem dL_areAlike_145 : decode cL_areAlike 145 = .ok (.if_icmp .ne 35, 3) := by decide +kernel
theorem dL_areAlike_148 : decode cL_areAlike 148 = .ok (.aload_n 0, 1) := by decide +kernel
theorem dL_areAlike_149 : decode cL_areAlike 149 = .ok (.iload_n 3, 1) := by decide +kernel
theorem dL_areAlike_150 : decode cL_areAlike 150 = .ok (.invokevirtual 109, 3) := by decide +kernel
theorem dL_areAlike_153 : decode cL_areAlike 153 = .ok (.aload_n 1, 1) := by decide +kernel
theorem dL_areAlike_154 : decode cL_areAlike 154 = .ok (.iload_n 3, 1) := by decide +kernel
theorem dL_areAlike_155 : decode cL_areAlike 155 = .ok (.invokevirtual 109, 3) := by decide +kernel
theorem dL_areAlike_158 : decode cL_areAlike 158 = .ok (.if_icmp .ne 22, 3) := by decide +kernel
theorem dL_areAlike_161 : decode cL_areAlike 161 = .ok (.aload_n 0, 1) := by decide +kernel
theorem dL_areAlike_162 : decode cL_areAlike 162 = .ok (.iload_n 3, 1) := by decide +kernel
theorem dL_areAlike_163 : decode cL_areAlike 163 = .ok (.iconst 2, 1) := by decide +kernel
theorem dL_areAlike_164 : decode cL_areAlike 164 = .ok (.invokevirtual 112, 3) := by decide +kernel
theorem dL_areAlike_167 : decode cL_areAlike 167 = .ok (.aload_n 1, 1) := by decide +kernel
theorem dL_areAlike_168 : decode cL_areAlike 168 = .ok (.iload_n 3, 1) := by decide +kernel
theorem dL_areAlike_169 : decode cL_areAlike 169 = .ok (.iconst 2, 1) := by decide +kernel
theorem dL_areAlike_170 : decode cL_areAlike 170 = .ok (.invokevirtual 112, 3) := by decide +kernel
theorem dL_areAlike_173 : decode cL_areAlike 173 = .ok (.if_icmp .ne 7, 3) := by decide +kernel
theorem dL_areAlike_176 : decode cL_areAlike 176 = .ok (.iconst 1, 1) := by decide +kernel
theorem dL_areAlike_177 : decode cL_areAlike 177 = .ok (.goto 4, 3) := by decide +kernel
theorem dL_areAlike_180 : decode cL_areAlike 180 = .ok (.iconst 0, 1) := by decide +kernel
theorem dL_areAlike_181 : decode cL_areAlike 181 = .ok (.istore_n 2, 1) := by decide +kernel
theorem dL_areAlike_182 : decode cL_areAlike 182 = .ok (.iinc 3 1, 3) := by decide +kernel
theorem dL_areAlike_185 : decode cL_areAlike 185 = .ok (.goto (-99), 3) := by decide +kernel
theorem dL_areAlike_188 : decode cL_areAlike 188 = .ok (.iload_n 2, 1) := by decide +kernel
theorem dL_areAlike_189 : decode cL_areAlike 189 = .ok (.ireturn, 1) := by decide +kernel
theorem dL_areCardsSo_0 : decode cL_areCardsSo 0 = .ok (.aload_n 0, 1) := by decide +kernel
theorem dL_areCardsSo_1 : decode cL_areCardsSo 1 = .ok (.invokevirtual 60, 3) := by decide +kernel
theorem dL_areCardsSo_4 : decode cL_areCardsSo 4 = .ok (.istore_n 1, 1) := by decide +kernel
theorem dL_areCardsSo_5 : decode cL_areCardsSo 5 = .ok (.aload_n 0, 1) := by decide +kernel
theorem dL_areCardsSo_6 : decode cL_areCardsSo 6 = .ok (.invokevirtual 73, 3) := by decide +kernel
theorem dL_areCardsSo_9 : decode cL_areCardsSo 9 = .ok (.istore_n 2, 1) := by decide +kernel
theorem dL_areCardsSo_10 : decode cL_areCardsSo 10 = .ok (.aload_n 0, 1) := by decide +kernel
theorem dL_areCardsSo_11 : decode cL_areCardsSo 11 = .ok (.iconst 0, 1) := by decide +kernel
theorem dL_areCardsSo_12 : decode cL_areCardsSo 12 = .ok (.invokevirtual 103, 3) := by decide +kernel
theorem dL_areCardsSo_15 : decode cL_areCardsSo 15 = .ok (.aload_n 0, 1) := by decide +kernel
theorem dL_areCardsSo_16 : decode cL_areCardsSo 16 = .ok (.iconst 1, 1) := by decide +kernel
theorem dL_areCardsSo_17 : decode cL_areCardsSo 17 = .ok (.invokevirtual 103, 3) := by decide +kernel
theorem dL_areCardsSo_20 : decode cL_areCardsSo 20 = .ok (.iadd, 1) := by decide +kernel
theorem dL_areCardsSo_21 : decode cL_areCardsSo 21 = .ok (.aload_n 0, 1) := by decide +kernel
theorem dL_areCardsSo_22 : decode cL_areCardsSo 22 = .ok (.iconst 2, 1) := by decide +kernel
theorem dL_areCardsSo_23 : decode cL_areCardsSo 23 = .ok (.invokevirtual 103, 3) := by decide +kernel
theorem dL_areCardsSo_26 : decode cL_areCardsSo 26 = .ok (.iadd, 1) := by decide +kernel
theorem dL_areCardsSo_27 : decode cL_areCardsSo 27 = .ok (.istore_n 3, 1) := by decide +kernel
theorem dL_areCardsSo_28 : decode cL_areCardsSo 28 = .ok (.lconst 0, 1) := by decide +kernel
theorem dL_areCardsSo_29 : decode cL_areCardsSo 29 = .ok (.lstore 4, 2) := by decide +kernel
theorem dL_areCardsSo_31 : decode cL_areCardsSo 31 = .ok (.iconst 0, 1) := by decide +kernel
theorem dL_areCardsSo_32 : decode cL_areCardsSo 32 = .ok (.istore 6, 2) := by decide +kernel
theorem dL_areCardsSo_34 : decode cL_areCardsSo 34 = .ok (.aload_n 0, 1) := by decide +kernel
theorem dL_areCardsSo_35 : decode cL_areCardsSo 35 = .ok (.iconst 0, 1) := by decide +kernel
theorem dL_areCardsSo_36 : decode cL_areCardsSo 36 = .ok (.invokevirtual 100, 3) := by decide +kernel
theorem dL_areCardsSo_39 : decode cL_areCardsSo 39 = .ok (.aload_n 0, 1) := by decide +kernel
theorem dL_areCardsSo_40 : decode cL_areCardsSo 40 = .ok (.iconst 1, 1) := by decide +kernel
theorem dL_areCardsSo_41 : decode cL_areCardsSo 41 = .ok (.invokevirtual 100, 3) := by decide +kernel
theorem dL_areCardsSo_44 : decode cL_areCardsSo 44 = .ok (.iadd, 1) := by decide +kernel
theorem dL_areCardsSo_45 : decode cL_areCardsSo 45 = .ok (.aload_n 0, 1) := by decide +kernel
theorem dL_areCardsSo_46 : decode cL_areCardsSo 46 = .ok (.iconst 2, 1) := by decide +kernel
theorem dL_areCardsSo_47 : decode cL_areCardsSo 47 = .ok (.invokevirtual 100, 3) := by decide +kernel
theorem dL_areCardsSo_50 : decode cL_areCardsSo 50 = .ok (.iadd, 1) := by decide +kernel
theorem dL_areCardsSo_51 : decode cL_areCardsSo 51 = .ok (.istore 7, 2) := by decide +kernel
theorem dL_areCardsSo_53 : decode cL_areCardsSo 53 = .ok (.iconst 0, 1) := by decide +kernel
theorem dL_areCardsSo_54 : decode cL_areCardsSo 54 = .ok (.istore 8, 2) := by decide +kernel
theorem dL_areCardsSo_56 : decode cL_areCardsSo 56 = .ok (.iconst 0, 1) := by decide +kernel
theorem dL_areCardsSo_57 : decode cL_areCardsSo 57 = .ok (.istore 9, 2) := by decide +kernel
theorem dL_areCardsSo_59 : decode cL_areCardsSo 59 = .ok (.iload 9, 2) := by decide +kernel
theorem dL_areCardsSo_61 : decode cL_areCardsSo 61 = .ok (.iconst 3, 1) := by decide +kernel
theorem dL_areCardsSo_62 : decode cL_areCardsSo 62 = .ok (.if_icmp .ge 106, 3) := by decide +kernel
theorem dL_areCardsSo_65 : decode cL_areCardsSo 65 = .ok (.aload_n 0, 1) := by decide +kernel
theorem dL_areCardsSo_66 : decode cL_areCardsSo 66 = .ok (.iload 9, 2) := by decide +kernel
theorem dL_areCardsSo_68 : decode cL_areCardsSo 68 = .ok (.invokevirtual 76, 3) := by decide +kernel
theorem dL_areCardsSo_71 : decode cL_areCardsSo 71 = .ok (.lstore 10, 2) := by decide +kernel
theorem dL_areCardsSo_73 : decode cL_areCardsSo 73 = .ok (.iload 8, 2) := by decide +kernel
theorem dL_areCardsSo_75 : decode cL_areCardsSo 75 = .ok (.aload_n 0, 1) := by decide +kernel
theorem dL_areCardsSo_76 : decode cL_areCardsSo 76 = .ok (.iload 9, 2) := by decide +kernel
theorem dL_areCardsSo_78 : decode cL_areCardsSo 78 = .ok (.invokevirtual 109, 3) := by decide +kernel
theorem dL_areCardsSo_81 : decode cL_areCardsSo 81 = .ok (.ifCond .lt 7, 3) := by decide +kernel
theorem dL_areCardsSo_84 : decode cL_areCardsSo 84 = .ok (.iconst 1, 1) := by decide +kernel
theorem dL_areCardsSo_85 : decode cL_areCardsSo 85 = .ok (.goto 4, 3) := by decide +kernel
theorem dL_areCardsSo_88 : decode cL_areCardsSo 88 = .ok (.iconst 0, 1) := by decide +kernel
theorem dL_areCardsSo_89 : decode cL_areCardsSo 89 = .ok (.iadd, 1) := by decide +kernel
theorem dL_areCardsSo_90 : decode cL_areCardsSo 90 = .ok (.istore 8, 2) := by decide +kernel
theorem dL_areCardsSo_92 : decode cL_areCardsSo 92 = .ok (.lload 4, 2) := by decide +kernel
theorem dL_areCardsSo_94 : decode cL_areCardsSo 94 = .ok (.lload 10, 2) := by decide +kernel
theorem dL_areCardsSo_96 : decode cL_areCardsSo 96 = .ok (.land, 1) := by decide +kernel
theorem dL_areCardsSo_97 : decode cL_areCardsSo 97 = .ok (.lconst 0, 1) := by decide +kernel
theorem dL_areCardsSo_98 : decode cL_areCardsSo 98 = .ok (.lcmp, 1) := by decide +kernel
theorem dL_areCardsSo_99 : decode cL_areCardsSo 99 = .ok (.ifCond .ne 44, 3) := by decide +kernel
theorem dL_areCardsSo_102 : decode cL_areCardsSo 102 = .ok (.lload 10, 2) := by decide +kernel
theorem dL_areCardsSo_104 : decode cL_areCardsSo 104 = .ok (.lconst 0, 1) := by decide +kernel
theorem dL_areCardsSo_105 : decode cL_areCardsSo 105 = .ok (.lcmp, 1) := by decide +kernel
theorem dL_areCardsSo_106 : decode cL_areCardsSo 106 = .ok (.ifCond .lt 37, 3) := by decide +kernel
theorem dL_areCardsSo_109 : decode cL_areCardsSo 109 = .ok (.lload 10, 2) := by decide +kernel
theorem dL_areCardsSo_111 : decode cL_areCardsSo 111 = .ok (.ldc2_w 115, 3) := by decide +kernel
theorem dL_areCardsSo_114 : decode cL_areCardsSo 114 = .ok (.lcmp, 1) := by decide +kernel
theorem dL_areCardsSo_115 : decode cL_areCardsSo 115 = .ok (.ifCond .gt 28, 3) := by decide +kernel
theorem dL_areCardsSo_118 : decode cL_areCardsSo 118 = .ok (.aload_n 0, 1) := by decide +kernel
theorem dL_areCardsSo_119 : decode cL_areCardsSo 119 = .ok (.iload 9, 2) := by decide +kernel
theorem dL_areCardsSo_121 : decode cL_areCardsSo 121 = .ok (.invokevirtual 109, 3) := by decide +kernel
theorem dL_areCardsSo_124 : decode cL_areCardsSo 124 = .ok (.ifCond .lt 21, 3) := by decide +kernel
theorem dL_areCardsSo_127 : decode cL_areCardsSo 127 = .ok (.lload 10, 2) := by decide +kernel
theorem dL_areCardsSo_129 : decode cL_areCardsSo 129 = .ok (.aload_n 0, 1) := by decide +kernel
theorem dL_areCardsSo_130 : decode cL_areCardsSo 130 = .ok (.iload 9, 2) := by decide +kernel
theorem dL_areCardsSo_132 : decode cL_areCardsSo 132 = .ok (.invokevirtual 109, 3) := by decide +kernel
theorem dL_areCardsSo_135 : decode cL_areCardsSo 135 = .ok (.lshr, 1) := by decide +kernel
theorem dL_areCardsSo_136 : decode cL_areCardsSo 136 = .ok (.lconst 1, 1) := by decide +kernel
theorem dL_areCardsSo_137 : decode cL_areCardsSo 137 = .ok (.land, 1) := by decide +kernel
theorem dL_areCardsSo_138 : decode cL_areCardsSo 138 = .ok (.lconst 1, 1) := by decide +kernel
theorem dL_areCardsSo_139 : decode cL_areCardsSo 139 = .ok (.lcmp, 1) := by decide +kernel
theorem dL_areCardsSo_140 : decode cL_areCardsSo 140 = .ok (.ifCond .ne 5, 3) := by decide +kernel
theorem dL_areCardsSo_143 : decode cL_areCardsSo 143 = .ok (.iconst 0, 1) := by decide +kernel
theorem dL_areCardsSo_144 : decode cL_areCardsSo 144 = .ok (.ireturn, 1) := by decide +kernel
theorem dL_areCardsSo_145 : decode cL_areCardsSo 145 = .ok (.lload 4, 2) := by decide +kernel
theorem dL_areCardsSo_147 : decode cL_areCardsSo 147 = .ok (.lload 10, 2) := by decide +kernel
theorem dL_areCardsSo_149 : decode cL_areCardsSo 149 = .ok (.lor, 1) := by decide +kernel
theorem dL_areCardsSo_150 : decode cL_areCardsSo 150 = .ok (.lstore 4, 2) := by decide +kernel
theorem dL_areCardsSo_152 : decode cL_areCardsSo 152 = .ok (.iload 6, 2) := by decide +kernel
theorem dL_areCardsSo_154 : decode cL_areCardsSo 154 = .ok (.lload 10, 2) := by decide +kernel
theorem dL_areCardsSo_156 : decode cL_areCardsSo 156 = .ok (.invokestatic 84, 3) := by decide +kernel
theorem dL_areCardsSo_159 : decode cL_areCardsSo 159 = .ok (.iadd, 1) := by decide +kernel
theorem dL_areCardsSo_160 : decode cL_areCardsSo 160 = .ok (.istore 6, 2) := by decide +kernel
theorem dL_areCardsSo_162 : decode cL_areCardsSo 162 = .ok (.iinc 9 1, 3) := by decide +kernel
theorem dL_areCardsSo_165 : decode cL_areCardsSo 165 = .ok (.goto (-106), 3) := by decide +kernel
theorem dL_areCardsSo_168 : decode cL_areCardsSo 168 = .ok (.iload_n 2, 1) := by decide +kernel
theorem dL_areCardsSo_169 : decode cL_areCardsSo 169 = .ok (.ifCond .ge 7, 3) := by decide +kernel
theorem dL_areCardsSo_172 : decode cL_areCardsSo 172 = .ok (.iconst 1, 1) := by decide +kernel
theorem dL_areCardsSo_173 : decode cL_areCardsSo 173 = .ok (.goto 4, 3) := by decide +kernel
theorem dL_areCardsSo_176 : decode cL_areCardsSo 176 = .ok (.iconst 0, 1) := by decide +kernel
theorem dL_areCardsSo_177 : decode cL_areCardsSo 177 = .ok (.iload_n 1, 1) := by decide +kernel
theorem dL_areCardsSo_178 : decode cL_areCardsSo 178 = .ok (.bipush 6, 2) := by decide +kernel
theorem dL_areCardsSo_180 : decode cL_areCardsSo 180 = .ok (.if_icmp .ne 7, 3) := by decide +kernel
theorem dL_areCardsSo_183 : decode cL_areCardsSo 183 = .ok (.iconst 1, 1) := by decide +kernel
theorem dL_areCardsSo_184 : decode cL_areCardsSo 184 = .ok (.goto 4, 3) := by decide +kernel
theorem dL_areCardsSo_187 : decode cL_areCardsSo 187 = .ok (.iconst 0, 1) := by decide +kernel
theorem dL_areCardsSo_188 : decode cL_areCardsSo 188 = .ok (.if_icmp .ne 82, 3) := by decide +kernel
theorem dL_areCardsSo_191 : decode cL_areCardsSo 191 = .ok (.iload 6, 2) := by decide +kernel
theorem dL_areCardsSo_193 : decode cL_areCardsSo 193 = .ok (.iload_n 1, 1) := by decide +kernel
theorem dL_areCardsSo_194 : decode cL_areCardsSo 194 = .ok (.iconst 3, 1) := by decide +kernel
theorem dL_areCardsSo_195 : decode cL_areCardsSo 195 = .ok (.if_icmp .ne 8, 3) := by decide +kernel
theorem dL_areCardsSo_198 : decode cL_areCardsSo 198 = .ok (.bipush 32, 2) := by decide +kernel
theorem dL_areCardsSo_200 : decode cL_areCardsSo 200 = .ok (.goto 12, 3) := by decide +kernel
theorem dL_areCardsSo_203 : decode cL_areCardsSo 203 = .ok (.bipush 30, 2) := by decide +kernel
theorem dL_areCardsSo_205 : decode cL_areCardsSo 205 = .ok (.iconst 3, 1) := by decide +kernel
theorem dL_areCardsSo_206 : decode cL_areCardsSo 206 = .ok (.iload_n 3, 1) := by decide +kernel
theorem dL_areCardsSo_207 : decode cL_areCardsSo 207 = .ok (.imul, 1) := by decide +kernel
theorem dL_areCardsSo_208 : decode cL_areCardsSo 208 = .ok (.isub, 1) := by decide +kernel
theorem dL_areCardsSo_209 : decode cL_areCardsSo 209 = .ok (.iload 8, 2) := by decide +kernel
theorem dL_areCardsSo_211 : decode cL_areCardsSo 211 = .ok (.isub, 1) := by decide +kernel
theorem dL_areCardsSo_212 : decode cL_areCardsSo 212 = .ok (.if_icmp .ne 58, 3) := by decide +kernel
theorem dL_areCardsSo_215 : decode cL_areCardsSo 215 = .ok (.iload 8, 2) := by decide +kernel
theorem dL_areCardsSo_217 : decode cL_areCardsSo 217 = .ok (.iconst 3, 1) := by decide +kernel
theorem dL_areCardsSo_218 : decode cL_areCardsSo 218 = .ok (.if_icmp .ge 52, 3) := by decide +kernel
theorem dL_areCardsSo_221 : decode cL_areCardsSo 221 = .ok (.iload_n 1, 1) := by decide +kernel
theorem dL_areCardsSo_222 : decode cL_areCardsSo 222 = .ok (.iconst 5, 1) := by decide +kernel
theorem dL_areCardsSo_223 : decode cL_areCardsSo 223 = .ok (.if_icmp .eq 8, 3) := by decide +kernel
theorem dL_areCardsSo_226 : decode cL_areCardsSo 226 = .ok (.iload 8, 2) := by decide +kernel
theorem dL_areCardsSo_228 : decode cL_areCardsSo 228 = .ok (.ifCond .ne 42, 3) := by decide +kernel
theorem dL_areCardsSo_231 : decode cL_areCardsSo 231 = .ok (.iload 7, 2) := by decide +kernel
theorem dL_areCardsSo_233 : decode cL_areCardsSo 233 = .ok (.bipush 120, 2) := by decide +kernel
theorem dL_areCardsSo_235 : decode cL_areCardsSo 235 = .ok (.if_icmp .gt 35, 3) := by decide +kernel
theorem dL_areCardsSo_238 : decode cL_areCardsSo 238 = .ok (.iload_n 1, 1) := by decide +kernel
theorem dL_areCardsSo_239 : decode cL_areCardsSo 239 = .ok (.bipush 6, 2) := by decide +kernel
theorem dL_areCardsSo_241 : decode cL_areCardsSo 241 = .ok (.if_icmp .ne 16, 3) := by decide +kernel
theorem dL_areCardsSo_244 : decode cL_areCardsSo 244 = .ok (.iload 7, 2) := by decide +kernel
theorem dL_areCardsSo_246 : decode cL_areCardsSo 246 = .ok (.bipush 120, 2) := by decide +kernel
theorem dL_areCardsSo_248 : decode cL_areCardsSo 248 = .ok (.if_icmp .ne 22, 3) := by decide +kernel
theorem dL_areCardsSo_251 : decode cL_areCardsSo 251 = .ok (.iload_n 3, 1) := by decide +kernel
theorem dL_areCardsSo_252 : decode cL_areCardsSo 252 = .ok (.bipush 10, 2) := by decide +kernel
theorem dL_areCardsSo_254 : decode cL_areCardsSo 254 = .ok (.if_icmp .ne 16, 3) := by decide +kernel
theorem dL_areCardsSo_257 : decode cL_areCardsSo 257 = .ok (.iload_n 1, 1) := by decide +kernel
theorem dL_areCardsSo_258 : decode cL_areCardsSo 258 = .ok (.iconst 5, 1) := by decide +kernel
theorem dL_areCardsSo_259 : decode cL_areCardsSo 259 = .ok (.if_icmp .ge 7, 3) := by decide +kernel
theorem dL_areCardsSo_262 : decode cL_areCardsSo 262 = .ok (.iload_n 3, 1) := by decide +kernel
theorem dL_areCardsSo_263 : decode cL_areCardsSo 263 = .ok (.ifCond .ne 7, 3) := by decide +kernel
theorem dL_areCardsSo_266 : decode cL_areCardsSo 266 = .ok (.iconst 1, 1) := by decide +kernel
theorem dL_areCardsSo_267 : decode cL_areCardsSo 267 = .ok (.goto 4, 3) := by decide +kernel
theorem dL_areCardsSo_270 : decode cL_areCardsSo 270 = .ok (.iconst 0, 1) := by decide +kernel
theorem dL_areCardsSo_271 : decode cL_areCardsSo 271 = .ok (.istore 9, 2) := by decide +kernel
theorem dL_areCardsSo_273 : decode cL_areCardsSo 273 = .ok (.aload_n 0, 1) := by decide +kernel
theorem dL_areCardsSo_274 : decode cL_areCardsSo 274 = .ok (.invokestatic 97, 3) := by decide +kernel
theorem dL_areCardsSo_277 : decode cL_areCardsSo 277 = .ok (.lstore 10, 2) := by decide +kernel
theorem dL_areCardsSo_279 : decode cL_areCardsSo 279 = .ok (.iload 9, 2) := by decide +kernel
theorem dL_areCardsSo_281 : decode cL_areCardsSo 281 = .ok (.ifCond .eq 64, 3) := by decide +kernel
theorem dL_areCardsSo_284 : decode cL_areCardsSo 284 = .ok (.iload_n 1, 1) := by decide +kernel
theorem dL_areCardsSo_285 : decode cL_areCardsSo 285 = .ok (.iconst 5, 1) := by decide +kernel
theorem dL_areCardsSo_286 : decode cL_areCardsSo 286 = .ok (.if_icmp .ne 46, 3) := by decide +kernel
theorem dL_areCardsSo_289 : decode cL_areCardsSo 289 = .ok (.lload 10, 2) := by decide +kernel
theorem dL_areCardsSo_291 : decode cL_areCardsSo 291 = .ok (.lconst 0, 1) := by decide +kernel
theorem dL_areCardsSo_292 : decode cL_areCardsSo 292 = .ok (.lcmp, 1) := by decide +kernel
theorem dL_areCardsSo_293 : decode cL_areCardsSo 293 = .ok (.ifCond .eq 52, 3) := by decide +kernel
theorem dL_areCardsSo_296 : decode cL_areCardsSo 296 = .ok (.lload 10, 2) := by decide +kernel
theorem dL_areCardsSo_298 : decode cL_areCardsSo 298 = .ok (.aload_n 0, 1) := by decide +kernel
theorem dL_areCardsSo_299 : decode cL_areCardsSo 299 = .ok (.iload_n 2, 1) := by decide +kernel
theorem dL_areCardsSo_300 : decode cL_areCardsSo 300 = .ok (.invokevirtual 76, 3) := by decide +kernel
theorem dL_areCardsSo_303 : decode cL_areCardsSo 303 = .ok (.ldc2_w 117, 3) := by decide +kernel
theorem dL_areCardsSo_306 : decode cL_areCardsSo 306 = .ok (.lxor, 1) := by decide +kernel
theorem dL_areCardsSo_307 : decode cL_areCardsSo 307 = .ok (.land, 1) := by decide +kernel
theorem dL_areCardsSo_308 : decode cL_areCardsSo 308 = .ok (.lconst 0, 1) := by decide +kernel
theorem dL_areCardsSo_309 : decode cL_areCardsSo 309 = .ok (.lcmp, 1) := by decide +kernel
theorem dL_areCardsSo_310 : decode cL_areCardsSo 310 = .ok (.ifCond .ne 35, 3) := by decide +kernel
theorem dL_areCardsSo_313 : decode cL_areCardsSo 313 = .ok (.iload 8, 2) := by decide +kernel
theorem dL_areCardsSo_315 : decode cL_areCardsSo 315 = .ok (.ifCond .gt 26, 3) := by decide +kernel
theorem dL_areCardsSo_318 : decode cL_areCardsSo 318 = .ok (.lload 10, 2) := by decide +kernel
theorem dL_areCardsSo_320 : decode cL_areCardsSo 320 = .ok (.aload_n 0, 1) := by decide +kernel
theorem dL_areCardsSo_321 : decode cL_areCardsSo 321 = .ok (.iload_n 2, 1) := by decide +kernel
theorem dL_areCardsSo_322 : decode cL_areCardsSo 322 = .ok (.invokevirtual 76, 3) := by decide +kernel
theorem dL_areCardsSo_325 : decode cL_areCardsSo 325 = .ok (.lcmp, 1) := by decide +kernel
theorem dL_areCardsSo_326 : decode cL_areCardsSo 326 = .ok (.ifCond .ne 19, 3) := by decide +kernel
theorem dL_areCardsSo_329 : decode cL_areCardsSo 329 = .ok (.goto 12, 3) := by decide +kernel
theorem dL_areCardsSo_332 : decode cL_areCardsSo 332 = .ok (.lload 10, 2) := by decide +kernel
theorem dL_areCardsSo_334 : decode cL_areCardsSo 334 = .ok (.ldc2_w 53, 3) := by decide +kernel
theorem dL_areCardsSo_337 : decode cL_areCardsSo 337 = .ok (.lcmp, 1) := by decide +kernel
theorem dL_areCardsSo_338 : decode cL_areCardsSo 338 = .ok (.ifCond .ne 7, 3) := by decide +kernel
theorem dL_areCardsSo_341 : decode cL_areCardsSo 341 = .ok (.iconst 1, 1) := by decide +kernel
theorem dL_areCardsSo_342 : decode cL_areCardsSo 342 = .ok (.goto 4, 3) := by decide +kernel
theorem dL_areCardsSo_345 : decode cL_areCardsSo 345 = .ok (.iconst 0, 1) := by decide +kernel
theorem dL_areCardsSo_346 : decode cL_areCardsSo 346 = .ok (.ireturn, 1) := by decide +kernel
theorem dL_isGameSo_0 : decode cL_isGameSo 0 = .ok (.aload_n 0, 1) := by decide +kernel
theorem dL_isGameSo_1 : decode cL_isGameSo 1 = .ok (.invokevirtual 60, 3) := by decide +kernel
theorem dL_isGameSo_4 : decode cL_isGameSo 4 = .ok (.istore_n 1, 1) := by decide +kernel
theorem dL_isGameSo_5 : decode cL_isGameSo 5 = .ok (.aload_n 0, 1) := by decide +kernel
theorem dL_isGameSo_6 : decode cL_isGameSo 6 = .ok (.invokevirtual 91, 3) := by decide +kernel
theorem dL_isGameSo_9 : decode cL_isGameSo 9 = .ok (.istore_n 2, 1) := by decide +kernel
theorem dL_isGameSo_10 : decode cL_isGameSo 10 = .ok (.aload_n 0, 1) := by decide +kernel
theorem dL_isGameSo_11 : decode cL_isGameSo 11 = .ok (.invokestatic 94, 3) := by decide +kernel
theorem dL_isGameSo_14 : decode cL_isGameSo 14 = .ok (.istore_n 3, 1) := by decide +kernel
theorem dL_isGameSo_15 : decode cL_isGameSo 15 = .ok (.iload_n 2, 1) := by decide +kernel
theorem dL_isGameSo_16 : decode cL_isGameSo 16 = .ok (.ifCond .lt 7, 3) := by decide +kernel
theorem dL_isGameSo_19 : decode cL_isGameSo 19 = .ok (.iconst 1, 1) := by decide +kernel
theorem dL_isGameSo_20 : decode cL_isGameSo 20 = .ok (.goto 4, 3) := by decide +kernel
theorem dL_isGameSo_23 : decode cL_isGameSo 23 = .ok (.iconst 0, 1) := by decide +kernel
theorem dL_isGameSo_24 : decode cL_isGameSo 24 = .ok (.iload_n 1, 1) := by decide +kernel
theorem dL_isGameSo_25 : decode cL_isGameSo 25 = .ok (.iconst 5, 1) := by decide +kernel
theorem dL_isGameSo_26 : decode cL_isGameSo 26 = .ok (.if_icmp .lt 7, 3) := by decide +kernel
theorem dL_isGameSo_29 : decode cL_isGameSo 29 = .ok (.iconst 1, 1) := by decide +kernel
theorem dL_isGameSo_30 : decode cL_isGameSo 30 = .ok (.goto 4, 3) := by decide +kernel
theorem dL_isGameSo_33 : decode cL_isGameSo 33 = .ok (.iconst 0, 1) := by decide +kernel
theorem dL_isGameSo_34 : decode cL_isGameSo 34 = .ok (.if_icmp .ne 111, 3) := by decide +kernel
theorem dL_isGameSo_37 : decode cL_isGameSo 37 = .ok (.iload_n 3, 1) := by decide +kernel
theorem dL_isGameSo_38 : decode cL_isGameSo 38 = .ok (.ldc 42, 2) := by decide +kernel
theorem dL_isGameSo_40 : decode cL_isGameSo 40 = .ok (.if_icmp .ne 7, 3) := by decide +kernel
theorem dL_isGameSo_43 : decode cL_isGameSo 43 = .ok (.iconst 1, 1) := by decide +kernel
theorem dL_isGameSo_44 : decode cL_isGameSo 44 = .ok (.goto 4, 3) := by decide +kernel
theorem dL_isGameSo_47 : decode cL_isGameSo 47 = .ok (.iconst 0, 1) := by decide +kernel
theorem dL_isGameSo_48 : decode cL_isGameSo 48 = .ok (.iload_n 2, 1) := by decide +kernel
theorem dL_isGameSo_49 : decode cL_isGameSo 49 = .ok (.ifCond .ge 7, 3) := by decide +kernel
theorem dL_isGameSo_52 : decode cL_isGameSo 52 = .ok (.iconst 1, 1) := by decide +kernel
theorem dL_isGameSo_53 : decode cL_isGameSo 53 = .ok (.goto 4, 3) := by decide +kernel
theorem dL_isGameSo_56 : decode cL_isGameSo 56 = .ok (.iconst 0, 1) := by decide +kernel
theorem dL_isGameSo_57 : decode cL_isGameSo 57 = .ok (.if_icmp .ne 88, 3) := by decide +kernel
theorem dL_isGameSo_60 : decode cL_isGameSo 60 = .ok (.aload_n 0, 1) := by decide +kernel
theorem dL_isGameSo_61 : decode cL_isGameSo 61 = .ok (.invokevirtual 88, 3) := by decide +kernel
theorem dL_isGameSo_64 : decode cL_isGameSo 64 = .ok (.ifCond .lt 7, 3) := by decide +kernel
theorem dL_isGameSo_67 : decode cL_isGameSo 67 = .ok (.iconst 1, 1) := by decide +kernel
theorem dL_isGameSo_68 : decode cL_isGameSo 68 = .ok (.goto 4, 3) := by decide +kernel
theorem dL_isGameSo_71 : decode cL_isGameSo 71 = .ok (.iconst 0, 1) := by decide +kernel
theorem dL_isGameSo_72 : decode cL_isGameSo 72 = .ok (.iload_n 1, 1) := by decide +kernel
theorem dL_isGameSo_73 : decode cL_isGameSo 73 = .ok (.iconst 1, 1) := by decide +kernel
theorem dL_isGameSo_74 : decode cL_isGameSo 74 = .ok (.if_icmp .le 13, 3) := by decide +kernel
theorem dL_isGameSo_77 : decode cL_isGameSo 77 = .ok (.iload_n 2, 1) := by decide +kernel
theorem dL_isGameSo_78 : decode cL_isGameSo 78 = .ok (.bipush 6, 2) := by decide +kernel
theorem dL_isGameSo_80 : decode cL_isGameSo 80 = .ok (.if_icmp .ge 7, 3) := by decide +kernel
theorem dL_isGameSo_83 : decode cL_isGameSo 83 = .ok (.iconst 1, 1) := by decide +kernel
theorem dL_isGameSo_84 : decode cL_isGameSo 84 = .ok (.goto 4, 3) := by decide +kernel
theorem dL_isGameSo_87 : decode cL_isGameSo 87 = .ok (.iconst 0, 1) := by decide +kernel
theorem dL_isGameSo_88 : decode cL_isGameSo 88 = .ok (.if_icmp .ne 57, 3) := by decide +kernel
theorem dL_isGameSo_91 : decode cL_isGameSo 91 = .ok (.iload_n 1, 1) := by decide +kernel
theorem dL_isGameSo_92 : decode cL_isGameSo 92 = .ok (.iconst 2, 1) := by decide +kernel
theorem dL_isGameSo_93 : decode cL_isGameSo 93 = .ok (.if_icmp .lt 19, 3) := by decide +kernel
theorem dL_isGameSo_96 : decode cL_isGameSo 96 = .ok (.aload_n 0, 1) := by decide +kernel
theorem dL_isGameSo_97 : decode cL_isGameSo 97 = .ok (.invokevirtual 88, 3) := by decide +kernel
theorem dL_isGameSo_100 : decode cL_isGameSo 100 = .ok (.ifCond .lt 12, 3) := by decide +kernel
theorem dL_isGameSo_103 : decode cL_isGameSo 103 = .ok (.aload_n 0, 1) := by decide +kernel
theorem dL_isGameSo_104 : decode cL_isGameSo 104 = .ok (.invokevirtual 67, 3) := by decide +kernel
theorem dL_isGameSo_107 : decode cL_isGameSo 107 = .ok (.bipush 18, 2) := by decide +kernel
theorem dL_isGameSo_109 : decode cL_isGameSo 109 = .ok (.if_icmp .lt 36, 3) := by decide +kernel
theorem dL_isGameSo_112 : decode cL_isGameSo 112 = .ok (.iload_n 2, 1) := by decide +kernel
theorem dL_isGameSo_113 : decode cL_isGameSo 113 = .ok (.bipush 6, 2) := by decide +kernel
theorem dL_isGameSo_115 : decode cL_isGameSo 115 = .ok (.if_icmp .ne 16, 3) := by decide +kernel
theorem dL_isGameSo_118 : decode cL_isGameSo 118 = .ok (.aload_n 0, 1) := by decide +kernel
theorem dL_isGameSo_119 : decode cL_isGameSo 119 = .ok (.invokevirtual 67, 3) := by decide +kernel
theorem dL_isGameSo_122 : decode cL_isGameSo 122 = .ok (.ifCond .ne 23, 3) := by decide +kernel
theorem dL_isGameSo_125 : decode cL_isGameSo 125 = .ok (.iload_n 3, 1) := by decide +kernel
theorem dL_isGameSo_126 : decode cL_isGameSo 126 = .ok (.bipush 120, 2) := by decide +kernel
theorem dL_isGameSo_128 : decode cL_isGameSo 128 = .ok (.if_icmp .gt 17, 3) := by decide +kernel
theorem dL_isGameSo_131 : decode cL_isGameSo 131 = .ok (.aload_n 0, 1) := by decide +kernel
theorem dL_isGameSo_132 : decode cL_isGameSo 132 = .ok (.invokevirtual 67, 3) := by decide +kernel
theorem dL_isGameSo_135 : decode cL_isGameSo 135 = .ok (.sipush 264, 3) := by decide +kernel
theorem dL_isGameSo_138 : decode cL_isGameSo 138 = .ok (.if_icmp .gt 7, 3) := by decide +kernel
theorem dL_isGameSo_141 : decode cL_isGameSo 141 = .ok (.iconst 1, 1) := by decide +kernel
theorem dL_isGameSo_142 : decode cL_isGameSo 142 = .ok (.goto 4, 3) := by decide +kernel
theorem dL_isGameSo_145 : decode cL_isGameSo 145 = .ok (.iconst 0, 1) := by decide +kernel
theorem dL_isGameSo_146 : decode cL_isGameSo 146 = .ok (.istore 4, 2) := by decide +kernel
theorem dL_isGameSo_148 : decode cL_isGameSo 148 = .ok (.iload_n 2, 1) := by decide +kernel
theorem dL_isGameSo_149 : decode cL_isGameSo 149 = .ok (.ifCond .lt 92, 3) := by decide +kernel
theorem dL_isGameSo_152 : decode cL_isGameSo 152 = .ok (.iload_n 2, 1) := by decide +kernel
theorem dL_isGameSo_153 : decode cL_isGameSo 153 = .ok (.iconst 5, 1) := by decide +kernel
theorem dL_isGameSo_154 : decode cL_isGameSo 154 = .ok (.if_icmp .ge 87, 3) := by decide +kernel
theorem dL_isGameSo_157 : decode cL_isGameSo 157 = .ok (.iload_n 2, 1) := by decide +kernel
theorem dL_isGameSo_158 : decode cL_isGameSo 158 = .ok (.iconst 4, 1) := by decide +kernel
theorem dL_isGameSo_159 : decode cL_isGameSo 159 = .ok (.if_icmp .ne 8, 3) := by decide +kernel
theorem dL_isGameSo_162 : decode cL_isGameSo 162 = .ok (.bipush 24, 2) := by decide +kernel
theorem dL_isGameSo_164 : decode cL_isGameSo 164 = .ok (.goto 7, 3) := by decide +kernel
theorem dL_isGameSo_167 : decode cL_isGameSo 167 = .ok (.bipush 9, 2) := by decide +kernel
theorem dL_isGameSo_169 : decode cL_isGameSo 169 = .ok (.iload_n 2, 1) := by decide +kernel
theorem dL_isGameSo_170 : decode cL_isGameSo 170 = .ok (.iadd, 1) := by decide +kernel
theorem dL_isGameSo_171 : decode cL_isGameSo 171 = .ok (.istore 5, 2) := by decide +kernel
theorem dL_isGameSo_173 : decode cL_isGameSo 173 = .ok (.aload_n 0, 1) := by decide +kernel
theorem dL_isGameSo_174 : decode cL_isGameSo 174 = .ok (.aload_n 0, 1) := by decide +kernel
theorem dL_isGameSo_175 : decode cL_isGameSo 175 = .ok (.invokevirtual 88, 3) := by decide +kernel
theorem dL_isGameSo_178 : decode cL_isGameSo 178 = .ok (.iload_n 2, 1) := by decide +kernel
theorem dL_isGameSo_179 : decode cL_isGameSo 179 = .ok (.invokevirtual 112, 3) := by decide +kernel
theorem dL_isGameSo_182 : decode cL_isGameSo 182 = .ok (.istore 6, 2) := by decide +kernel
theorem dL_isGameSo_184 : decode cL_isGameSo 184 = .ok (.iload 4, 2) := by decide +kernel
theorem dL_isGameSo_186 : decode cL_isGameSo 186 = .ok (.ifCond .eq 52, 3) := by decide +kernel
theorem dL_isGameSo_189 : decode cL_isGameSo 189 = .ok (.iload_n 3, 1) := by decide +kernel
theorem dL_isGameSo_190 : decode cL_isGameSo 190 = .ok (.iload 5, 2) := by decide +kernel
theorem dL_isGameSo_192 : decode cL_isGameSo 192 = .ok (.irem, 1) := by decide +kernel
theorem dL_isGameSo_193 : decode cL_isGameSo 193 = .ok (.ifCond .ne 45, 3) := by decide +kernel
theorem dL_isGameSo_196 : decode cL_isGameSo 196 = .ok (.iload_n 3, 1) := by decide +kernel
theorem dL_isGameSo_197 : decode cL_isGameSo 197 = .ok (.aload_n 0, 1) := by decide +kernel
theorem dL_isGameSo_198 : decode cL_isGameSo 198 = .ok (.invokevirtual 67, 3) := by decide +kernel
theorem dL_isGameSo_201 : decode cL_isGameSo 201 = .ok (.if_icmp .lt 37, 3) := by decide +kernel
theorem dL_isGameSo_204 : decode cL_isGameSo 204 = .ok (.iload_n 3, 1) := by decide +kernel
theorem dL_isGameSo_205 : decode cL_isGameSo 205 = .ok (.iconst 2, 1) := by decide +kernel
theorem dL_isGameSo_206 : decode cL_isGameSo 206 = .ok (.iload 5, 2) := by decide +kernel
theorem dL_isGameSo_208 : decode cL_isGameSo 208 = .ok (.imul, 1) := by decide +kernel
theorem dL_isGameSo_209 : decode cL_isGameSo 209 = .ok (.if_icmp .lt 29, 3) := by decide +kernel
theorem dL_isGameSo_212 : decode cL_isGameSo 212 = .ok (.iload_n 3, 1) := by decide +kernel
theorem dL_isGameSo_213 : decode cL_isGameSo 213 = .ok (.iload 5, 2) := by decide +kernel
theorem dL_isGameSo_215 : decode cL_isGameSo 215 = .ok (.iconst 1, 1) := by decide +kernel
theorem dL_isGameSo_216 : decode cL_isGameSo 216 = .ok (.iload 6, 2) := by decide +kernel
theorem dL_isGameSo_218 : decode cL_isGameSo 218 = .ok (.ifCond .ge 9, 3) := by decide +kernel
theorem dL_isGameSo_221 : decode cL_isGameSo 221 = .ok (.iload 6, 2) := by decide +kernel
theorem dL_isGameSo_223 : decode cL_isGameSo 223 = .ok (.ineg, 1) := by decide +kernel
theorem dL_isGameSo_224 : decode cL_isGameSo 224 = .ok (.goto 5, 3) := by decide +kernel
theorem dL_isGameSo_227 : decode cL_isGameSo 227 = .ok (.iload 6, 2) := by decide +kernel
theorem dL_isGameSo_229 : decode cL_isGameSo 229 = .ok (.iadd, 1) := by decide +kernel
theorem dL_isGameSo_230 : decode cL_isGameSo 230 = .ok (.imul, 1) := by decide +kernel
theorem dL_isGameSo_231 : decode cL_isGameSo 231 = .ok (.if_icmp .lt 7, 3) := by decide +kernel
theorem dL_isGameSo_234 : decode cL_isGameSo 234 = .ok (.iconst 1, 1) := by decide +kernel
theorem dL_isGameSo_235 : decode cL_isGameSo 235 = .ok (.goto 4, 3) := by decide +kernel
theorem dL_isGameSo_238 : decode cL_isGameSo 238 = .ok (.iconst 0, 1) := by decide +kernel
theorem dL_isGameSo_239 : decode cL_isGameSo 239 = .ok (.istore 4, 2) := by decide +kernel
theorem dL_isGameSo_241 : decode cL_isGameSo 241 = .ok (.iconst 0, 1) := by decide +kernel
theorem dL_isGameSo_242 : decode cL_isGameSo 242 = .ok (.istore 5, 2) := by decide +kernel
theorem dL_isGameSo_244 : decode cL_isGameSo 244 = .ok (.iload 5, 2) := by decide +kernel
theorem dL_isGameSo_246 : decode cL_isGameSo 246 = .ok (.iconst 3, 1) := by decide +kernel
theorem dL_isGameSo_247 : decode cL_isGameSo 247 = .ok (.if_icmp .ge 119, 3) := by decide +kernel
theorem dL_isGameSo_250 : decode cL_isGameSo 250 = .ok (.iload 4, 2) := by decide +kernel
theorem dL_isGameSo_252 : decode cL_isGameSo 252 = .ok (.ifCond .eq 114, 3) := by decide +kernel
theorem dL_isGameSo_255 : decode cL_isGameSo 255 = .ok (.iconst 0, 1) := by decide +kernel
theorem dL_isGameSo_256 : decode cL_isGameSo 256 = .ok (.istore 6, 2) := by decide +kernel
theorem dL_isGameSo_258 : decode cL_isGameSo 258 = .ok (.iload 6, 2) := by decide +kernel
theorem dL_isGameSo_260 : decode cL_isGameSo 260 = .ok (.iconst 5, 1) := by decide +kernel
theorem dL_isGameSo_261 : decode cL_isGameSo 261 = .ok (.if_icmp .ge 99, 3) := by decide +kernel
theorem dL_isGameSo_264 : decode cL_isGameSo 264 = .ok (.iload 4, 2) := by decide +kernel
theorem dL_isGameSo_266 : decode cL_isGameSo 266 = .ok (.ifCond .eq 94, 3) := by decide +kernel
theorem dL_isGameSo_269 : decode cL_isGameSo 269 = .ok (.aload_n 0, 1) := by decide +kernel
theorem dL_isGameSo_270 : decode cL_isGameSo 270 = .ok (.iload 5, 2) := by decide +kernel
theorem dL_isGameSo_272 : decode cL_isGameSo 272 = .ok (.iload 6, 2) := by decide +kernel
theorem dL_isGameSo_274 : decode cL_isGameSo 274 = .ok (.invokevirtual 112, 3) := by decide +kernel
theorem dL_isGameSo_277 : decode cL_isGameSo 277 = .ok (.istore 7, 2) := by decide +kernel
theorem dL_isGameSo_279 : decode cL_isGameSo 279 = .ok (.iload 7, 2) := by decide +kernel
theorem dL_isGameSo_281 : decode cL_isGameSo 281 = .ok (.ifCond .eq 70, 3) := by decide +kernel
theorem dL_isGameSo_284 : decode cL_isGameSo 284 = .ok (.iload 7, 2) := by decide +kernel
theorem dL_isGameSo_286 : decode cL_isGameSo 286 = .ok (.iload 6, 2) := by decide +kernel
theorem dL_isGameSo_288 : decode cL_isGameSo 288 = .ok (.iconst 4, 1) := by decide +kernel
theorem dL_isGameSo_289 : decode cL_isGameSo 289 = .ok (.if_icmp .ne 7, 3) := by decide +kernel
theorem dL_isGameSo_292 : decode cL_isGameSo 292 = .ok (.iconst 4, 1) := by decide +kernel
theorem dL_isGameSo_293 : decode cL_isGameSo 293 = .ok (.goto 5, 3) := by decide +kernel
theorem dL_isGameSo_296 : decode cL_isGameSo 296 = .ok (.bipush 11, 2) := by decide +kernel
theorem dL_isGameSo_298 : decode cL_isGameSo 298 = .ok (.if_icmp .gt 53, 3) := by decide +kernel
theorem dL_isGameSo_301 : decode cL_isGameSo 301 = .ok (.iload 7, 2) := by decide +kernel
theorem dL_isGameSo_303 : decode cL_isGameSo 303 = .ok (.iload 6, 2) := by decide +kernel
theorem dL_isGameSo_305 : decode cL_isGameSo 305 = .ok (.iconst 4, 1) := by decide +kernel
theorem dL_isGameSo_306 : decode cL_isGameSo 306 = .ok (.if_icmp .ne 8, 3) := by decide +kernel
theorem dL_isGameSo_309 : decode cL_isGameSo 309 = .ok (.bipush (-4), 2) := by decide +kernel
theorem dL_isGameSo_311 : decode cL_isGameSo 311 = .ok (.goto 5, 3) := by decide +kernel
theorem dL_isGameSo_314 : decode cL_isGameSo 314 = .ok (.bipush (-11), 2) := by decide +kernel
theorem dL_isGameSo_316 : decode cL_isGameSo 316 = .ok (.if_icmp .lt 35, 3) := by decide +kernel
theorem dL_isGameSo_319 : decode cL_isGameSo 319 = .ok (.iload 7, 2) := by decide +kernel
theorem dL_isGameSo_321 : decode cL_isGameSo 321 = .ok (.ifCond .le 7, 3) := by decide +kernel
theorem dL_isGameSo_324 : decode cL_isGameSo 324 = .ok (.iconst 1, 1) := by decide +kernel
theorem dL_isGameSo_325 : decode cL_isGameSo 325 = .ok (.goto 4, 3) := by decide +kernel
theorem dL_isGameSo_328 : decode cL_isGameSo 328 = .ok (.iconst 0, 1) := by decide +kernel
theorem dL_isGameSo_329 : decode cL_isGameSo 329 = .ok (.aload_n 0, 1) := by decide +kernel
theorem dL_isGameSo_330 : decode cL_isGameSo 330 = .ok (.iload 5, 2) := by decide +kernel
theorem dL_isGameSo_332 : decode cL_isGameSo 332 = .ok (.iconst 4, 1) := by decide +kernel
theorem dL_isGameSo_333 : decode cL_isGameSo 333 = .ok (.invokevirtual 112, 3) := by decide +kernel
theorem dL_isGameSo_336 : decode cL_isGameSo 336 = .ok (.ifCond .le 7, 3) := by decide +kernel
theorem dL_isGameSo_339 : decode cL_isGameSo 339 = .ok (.iconst 1, 1) := by decide +kernel
theorem dL_isGameSo_340 : decode cL_isGameSo 340 = .ok (.goto 4, 3) := by decide +kernel
theorem dL_isGameSo_343 : decode cL_isGameSo 343 = .ok (.iconst 0, 1) := by decide +kernel
theorem dL_isGameSo_344 : decode cL_isGameSo 344 = .ok (.if_icmp .ne 7, 3) := by decide +kernel
theorem dL_isGameSo_347 : decode cL_isGameSo 347 = .ok (.iconst 1, 1) := by decide +kernel
theorem dL_isGameSo_348 : decode cL_isGameSo 348 = .ok (.goto 4, 3) := by decide +kernel
theorem dL_isGameSo_351 : decode cL_isGameSo 351 = .ok (.iconst 0, 1) := by decide +kernel
theorem dL_isGameSo_352 : decode cL_isGameSo 352 = .ok (.istore 4, 2) := by decide +kernel
theorem dL_isGameSo_354 : decode cL_isGameSo 354 = .ok (.iinc 6 1, 3) := by decide +kernel
theorem dL_isGameSo_357 : decode cL_isGameSo 357 = .ok (.goto (-99), 3) := by decide +kernel
theorem dL_isGameSo_360 : decode cL_isGameSo 360 = .ok (.iinc 5 1, 3) := by decide +kernel
theorem dL_isGameSo_363 : decode cL_isGameSo 363 = .ok (.goto (-119), 3) := by decide +kernel
theorem dL_isGameSo_366 : decode cL_isGameSo 366 = .ok (.iload 4, 2) := by decide +kernel
theorem dL_isGameSo_368 : decode cL_isGameSo 368 = .ok (.ifCond .eq 36, 3) := by decide +kernel
theorem dL_isGameSo_371 : decode cL_isGameSo 371 = .ok (.iload_n 2, 1) := by decide +kernel
theorem dL_isGameSo_372 : decode cL_isGameSo 372 = .ok (.iconst 5, 1) := by decide +kernel
theorem dL_isGameSo_373 : decode cL_isGameSo 373 = .ok (.if_icmp .ne 27, 3) := by decide +kernel
theorem dL_isGameSo_376 : decode cL_isGameSo 376 = .ok (.iload_n 3, 1) := by decide +kernel
theorem dL_isGameSo_377 : decode cL_isGameSo 377 = .ok (.bipush 23, 2) := by decide +kernel
theorem dL_isGameSo_379 : decode cL_isGameSo 379 = .ok (.if_icmp .eq 21, 3) := by decide +kernel
theorem dL_isGameSo_382 : decode cL_isGameSo 382 = .ok (.iload_n 3, 1) := by decide +kernel
theorem dL_isGameSo_383 : decode cL_isGameSo 383 = .ok (.bipush 35, 2) := by decide +kernel
theorem dL_isGameSo_385 : decode cL_isGameSo 385 = .ok (.if_icmp .eq 15, 3) := by decide +kernel
theorem dL_isGameSo_388 : decode cL_isGameSo 388 = .ok (.iload_n 3, 1) := by decide +kernel
theorem dL_isGameSo_389 : decode cL_isGameSo 389 = .ok (.bipush 46, 2) := by decide +kernel
theorem dL_isGameSo_391 : decode cL_isGameSo 391 = .ok (.if_icmp .eq 9, 3) := by decide +kernel
theorem dL_isGameSo_394 : decode cL_isGameSo 394 = .ok (.iload_n 3, 1) := by decide +kernel
theorem dL_isGameSo_395 : decode cL_isGameSo 395 = .ok (.bipush 59, 2) := by decide +kernel
theorem dL_isGameSo_397 : decode cL_isGameSo 397 = .ok (.if_icmp .ne 7, 3) := by decide +kernel
theorem dL_isGameSo_400 : decode cL_isGameSo 400 = .ok (.iconst 1, 1) := by decide +kernel
theorem dL_isGameSo_401 : decode cL_isGameSo 401 = .ok (.goto 4, 3) := by decide +kernel
theorem dL_isGameSo_404 : decode cL_isGameSo 404 = .ok (.iconst 0, 1) := by decide +kernel
theorem dL_isGameSo_405 : decode cL_isGameSo 405 = .ok (.ireturn, 1) := by decide +kernel
theorem dL_areScoresSo_0 : decode cL_areScoresSo 0 = .ok (.aload_n 0, 1) := by decide +kernel
theorem dL_areScoresSo_1 : decode cL_areScoresSo 1 = .ok (.iconst 0, 1) := by decide +kernel
theorem dL_areScoresSo_2 : decode cL_areScoresSo 2 = .ok (.invokevirtual 106, 3) := by decide +kernel
theorem dL_areScoresSo_5 : decode cL_areScoresSo 5 = .ok (.iload_n 2, 1) := by decide +kernel
theorem dL_areScoresSo_6 : decode cL_areScoresSo 6 = .ok (.isub, 1) := by decide +kernel
theorem dL_areScoresSo_7 : decode cL_areScoresSo 7 = .ok (.istore 5, 2) := by decide +kernel
theorem dL_areScoresSo_9 : decode cL_areScoresSo 9 = .ok (.aload_n 0, 1) := by decide +kernel
theorem dL_areScoresSo_10 : decode cL_areScoresSo 10 = .ok (.iconst 1, 1) := by decide +kernel
theorem dL_areScoresSo_11 : decode cL_areScoresSo 11 = .ok (.invokevirtual 106, 3) := by decide +kernel
theorem dL_areScoresSo_14 : decode cL_areScoresSo 14 = .ok (.iload_n 3, 1) := by decide +kernel
theorem dL_areScoresSo_15 : decode cL_areScoresSo 15 = .ok (.isub, 1) := by decide +kernel
theorem dL_areScoresSo_16 : decode cL_areScoresSo 16 = .ok (.istore 6, 2) := by decide +kernel
theorem dL_areScoresSo_18 : decode cL_areScoresSo 18 = .ok (.aload_n 0, 1) := by decide +kernel
theorem dL_areScoresSo_19 : decode cL_areScoresSo 19 = .ok (.iconst 2, 1) := by decide +kernel
theorem dL_areScoresSo_20 : decode cL_areScoresSo 20 = .ok (.invokevirtual 106, 3) := by decide +kernel
theorem dL_areScoresSo_23 : decode cL_areScoresSo 23 = .ok (.iload 4, 2) := by decide +kernel
theorem dL_areScoresSo_25 : decode cL_areScoresSo 25 = .ok (.isub, 1) := by decide +kernel
theorem dL_areScoresSo_26 : decode cL_areScoresSo 26 = .ok (.istore 7, 2) := by decide +kernel
theorem dL_areScoresSo_28 : decode cL_areScoresSo 28 = .ok (.aload_n 0, 1) := by decide +kernel
theorem dL_areScoresSo_29 : decode cL_areScoresSo 29 = .ok (.invokevirtual 60, 3) := by decide +kernel
theorem dL_areScoresSo_32 : decode cL_areScoresSo 32 = .ok (.bipush 6, 2) := by decide +kernel
theorem dL_areScoresSo_34 : decode cL_areScoresSo 34 = .ok (.if_icmp .ne 9, 3) := by decide +kernel
theorem dL_areScoresSo_37 : decode cL_areScoresSo 37 = .ok (.iload_n 1, 1) := by decide +kernel
theorem dL_areScoresSo_38 : decode cL_areScoresSo 38 = .ok (.bipush 6, 2) := by decide +kernel
theorem dL_areScoresSo_40 : decode cL_areScoresSo 40 = .ok (.if_icmp .ne 24, 3) := by decide +kernel
theorem dL_areScoresSo_43 : decode cL_areScoresSo 43 = .ok (.iload 5, 2) := by decide +kernel
theorem dL_areScoresSo_45 : decode cL_areScoresSo 45 = .ok (.ifCond .ne 17, 3) := by decide +kernel
theorem dL_areScoresSo_48 : decode cL_areScoresSo 48 = .ok (.iload 6, 2) := by decide +kernel
theorem dL_areScoresSo_50 : decode cL_areScoresSo 50 = .ok (.ifCond .ne 12, 3) := by decide +kernel
theorem dL_areScoresSo_53 : decode cL_areScoresSo 53 = .ok (.iload 7, 2) := by decide +kernel
theorem dL_areScoresSo_55 : decode cL_areScoresSo 55 = .ok (.ifCond .ne 7, 3) := by decide +kernel
theorem dL_areScoresSo_58 : decode cL_areScoresSo 58 = .ok (.iconst 1, 1) := by decide +kernel
theorem dL_areScoresSo_59 : decode cL_areScoresSo 59 = .ok (.goto 4, 3) := by decide +kernel
theorem dL_areScoresSo_62 : decode cL_areScoresSo 62 = .ok (.iconst 0, 1) := by decide +kernel
theorem dL_areScoresSo_63 : decode cL_areScoresSo 63 = .ok (.ireturn, 1) := by decide +kernel
theorem dL_areScoresSo_64 : decode cL_areScoresSo 64 = .ok (.aload_n 0, 1) := by decide +kernel
theorem dL_areScoresSo_65 : decode cL_areScoresSo 65 = .ok (.invokevirtual 47, 3) := by decide +kernel
theorem dL_areScoresSo_68 : decode cL_areScoresSo 68 = .ok (.istore 8, 2) := by decide +kernel
theorem dL_areScoresSo_70 : decode cL_areScoresSo 70 = .ok (.iconst 1, 1) := by decide +kernel
theorem dL_areScoresSo_71 : decode cL_areScoresSo 71 = .ok (.istore 9, 2) := by decide +kernel
theorem dL_areScoresSo_73 : decode cL_areScoresSo 73 = .ok (.iconst 0, 1) := by decide +kernel
theorem dL_areScoresSo_74 : decode cL_areScoresSo 74 = .ok (.istore 10, 2) := by decide +kernel
theorem dL_areScoresSo_76 : decode cL_areScoresSo 76 = .ok (.iload 10, 2) := by decide +kernel
theorem dL_areScoresSo_78 : decode cL_areScoresSo 78 = .ok (.iconst 3, 1) := by decide +kernel
theorem dL_areScoresSo_79 : decode cL_areScoresSo 79 = .ok (.if_icmp .ge 113, 3) := by decide +kernel
theorem dL_areScoresSo_82 : decode cL_areScoresSo 82 = .ok (.iload 10, 2) := by decide +kernel
theorem dL_areScoresSo_84 : decode cL_areScoresSo 84 = .ok (.ifCond .ne 8, 3) := by decide +kernel
theorem dL_areScoresSo_87 : decode cL_areScoresSo 87 = .ok (.iload 5, 2) := by decide +kernel
theorem dL_areScoresSo_89 : decode cL_areScoresSo 89 = .ok (.goto 16, 3) := by decide +kernel
theorem dL_areScoresSo_92 : decode cL_areScoresSo 92 = .ok (.iload 10, 2) := by decide +kernel
theorem dL_areScoresSo_94 : decode cL_areScoresSo 94 = .ok (.iconst 1, 1) := by decide +kernel
theorem dL_areScoresSo_95 : decode cL_areScoresSo 95 = .ok (.if_icmp .ne 8, 3) := by decide +kernel
theorem dL_areScoresSo_98 : decode cL_areScoresSo 98 = .ok (.iload 6, 2) := by decide +kernel
theorem dL_areScoresSo_100 : decode cL_areScoresSo 100 = .ok (.goto 5, 3) := by decide +kernel
theorem dL_areScoresSo_103 : decode cL_areScoresSo 103 = .ok (.iload 7, 2) := by decide +kernel
theorem dL_areScoresSo_105 : decode cL_areScoresSo 105 = .ok (.istore 11, 2) := by decide +kernel
theorem dL_areScoresSo_107 : decode cL_areScoresSo 107 = .ok (.iload 9, 2) := by decide +kernel
theorem dL_areScoresSo_109 : decode cL_areScoresSo 109 = .ok (.ifCond .eq 74, 3) := by decide +kernel
theorem dL_areScoresSo_112 : decode cL_areScoresSo 112 = .ok (.aload_n 0, 1) := by decide +kernel
theorem dL_areScoresSo_113 : decode cL_areScoresSo 113 = .ok (.invokevirtual 88, 3) := by decide +kernel
theorem dL_areScoresSo_116 : decode cL_areScoresSo 116 = .ok (.ifCond .ge 29, 3) := by decide +kernel
theorem dL_areScoresSo_119 : decode cL_areScoresSo 119 = .ok (.iload 11, 2) := by decide +kernel
theorem dL_areScoresSo_121 : decode cL_areScoresSo 121 = .ok (.aload_n 0, 1) := by decide +kernel
theorem dL_areScoresSo_122 : decode cL_areScoresSo 122 = .ok (.iload 10, 2) := by decide +kernel
theorem dL_areScoresSo_124 : decode cL_areScoresSo 124 = .ok (.invokevirtual 100, 3) := by decide +kernel
theorem dL_areScoresSo_127 : decode cL_areScoresSo 127 = .ok (.iload 8, 2) := by decide +kernel
theorem dL_areScoresSo_129 : decode cL_areScoresSo 129 = .ok (.if_icmp .ne 9, 3) := by decide +kernel
theorem dL_areScoresSo_132 : decode cL_areScoresSo 132 = .ok (.iload 8, 2) := by decide +kernel
theorem dL_areScoresSo_134 : decode cL_areScoresSo 134 = .ok (.ineg, 1) := by decide +kernel
theorem dL_areScoresSo_135 : decode cL_areScoresSo 135 = .ok (.goto 4, 3) := by decide +kernel
theorem dL_areScoresSo_138 : decode cL_areScoresSo 138 = .ok (.iconst 0, 1) := by decide +kernel
theorem dL_areScoresSo_139 : decode cL_areScoresSo 139 = .ok (.if_icmp .ne 44, 3) := by decide +kernel
theorem dL_areScoresSo_142 : decode cL_areScoresSo 142 = .ok (.goto 37, 3) := by decide +kernel
theorem dL_areScoresSo_145 : decode cL_areScoresSo 145 = .ok (.iload 10, 2) := by decide +kernel
theorem dL_areScoresSo_147 : decode cL_areScoresSo 147 = .ok (.aload_n 0, 1) := by decide +kernel
theorem dL_areScoresSo_148 : decode cL_areScoresSo 148 = .ok (.invokevirtual 88, 3) := by decide +kernel
theorem dL_areScoresSo_151 : decode cL_areScoresSo 151 = .ok (.if_icmp .eq 11, 3) := by decide +kernel
theorem dL_areScoresSo_154 : decode cL_areScoresSo 154 = .ok (.iload 11, 2) := by decide +kernel
theorem dL_areScoresSo_156 : decode cL_areScoresSo 156 = .ok (.ifCond .ne 27, 3) := by decide +kernel
theorem dL_areScoresSo_159 : decode cL_areScoresSo 159 = .ok (.goto 20, 3) := by decide +kernel
theorem dL_areScoresSo_162 : decode cL_areScoresSo 162 = .ok (.iload 11, 2) := by decide +kernel
theorem dL_areScoresSo_164 : decode cL_areScoresSo 164 = .ok (.iload 8, 2) := by decide +kernel
theorem dL_areScoresSo_166 : decode cL_areScoresSo 166 = .ok (.if_icmp .eq 13, 3) := by decide +kernel
theorem dL_areScoresSo_169 : decode cL_areScoresSo 169 = .ok (.iload 11, 2) := by decide +kernel
theorem dL_areScoresSo_171 : decode cL_areScoresSo 171 = .ok (.bipush (-2), 2) := by decide +kernel
theorem dL_areScoresSo_173 : decode cL_areScoresSo 173 = .ok (.iload 8, 2) := by decide +kernel
theorem dL_areScoresSo_175 : decode cL_areScoresSo 175 = .ok (.imul, 1) := by decide +kernel
theorem dL_areScoresSo_176 : decode cL_areScoresSo 176 = .ok (.if_icmp .ne 7, 3) := by decide +kernel
theorem dL_areScoresSo_179 : decode cL_areScoresSo 179 = .ok (.iconst 1, 1) := by decide +kernel
theorem dL_areScoresSo_180 : decode cL_areScoresSo 180 = .ok (.goto 4, 3) := by decide +kernel
theorem dL_areScoresSo_183 : decode cL_areScoresSo 183 = .ok (.iconst 0, 1) := by decide +kernel
theorem dL_areScoresSo_184 : decode cL_areScoresSo 184 = .ok (.istore 9, 2) := by decide +kernel
theorem dL_areScoresSo_186 : decode cL_areScoresSo 186 = .ok (.iinc 10 1, 3) := by decide +kernel
theorem dL_areScoresSo_189 : decode cL_areScoresSo 189 = .ok (.goto (-113), 3) := by decide +kernel
theorem dL_areScoresSo_192 : decode cL_areScoresSo 192 = .ok (.iload 9, 2) := by decide +kernel
theorem dL_areScoresSo_194 : decode cL_areScoresSo 194 = .ok (.ireturn, 1) := by decide +kernel
theorem dL_law_0 : decode cL_law 0 = .ok (.new 9, 3) := by decide +kernel
theorem dL_law_3 : decode cL_law 3 = .ok (.dup, 1) := by decide +kernel
theorem dL_law_4 : decode cL_law 4 = .ok (.invokespecial 119, 3) := by decide +kernel
theorem dL_law_7 : decode cL_law 7 = .ok (.astore_n 1, 1) := by decide +kernel
theorem dL_law_8 : decode cL_law 8 = .ok (.new 9, 3) := by decide +kernel
theorem dL_law_11 : decode cL_law 11 = .ok (.dup, 1) := by decide +kernel
theorem dL_law_12 : decode cL_law 12 = .ok (.invokespecial 119, 3) := by decide +kernel
theorem dL_law_15 : decode cL_law 15 = .ok (.astore_n 2, 1) := by decide +kernel
theorem dL_law_16 : decode cL_law 16 = .ok (.iconst 0, 1) := by decide +kernel
theorem dL_law_17 : decode cL_law 17 = .ok (.istore_n 3, 1) := by decide +kernel
theorem dL_law_18 : decode cL_law 18 = .ok (.iload_n 3, 1) := by decide +kernel
theorem dL_law_19 : decode cL_law 19 = .ok (.sipush 150, 3) := by decide +kernel
theorem dL_law_22 : decode cL_law 22 = .ok (.if_icmp .ge 141, 3) := by decide +kernel
theorem dL_law_25 : decode cL_law 25 = .ok (.aload_n 0, 1) := by decide +kernel
theorem dL_law_26 : decode cL_law 26 = .ok (.iload_n 3, 1) := by decide +kernel
theorem dL_law_27 : decode cL_law 27 = .ok (.bipush 61, 2) := by decide +kernel
theorem dL_law_29 : decode cL_law 29 = .ok (.irem, 1) := by decide +kernel
theorem dL_law_30 : decode cL_law 30 = .ok (.invokestatic 120, 3) := by decide +kernel
theorem dL_law_33 : decode cL_law 33 = .ok (.sipush 1009, 3) := by decide +kernel
theorem dL_law_36 : decode cL_law 36 = .ok (.iload_n 3, 1) := by decide +kernel
theorem dL_law_37 : decode cL_law 37 = .ok (.bipush 61, 2) := by decide +kernel
theorem dL_law_39 : decode cL_law 39 = .ok (.idiv, 1) := by decide +kernel
theorem dL_law_40 : decode cL_law 40 = .ok (.imul, 1) := by decide +kernel
theorem dL_law_41 : decode cL_law 41 = .ok (.iadd, 1) := by decide +kernel
theorem dL_law_42 : decode cL_law 42 = .ok (.istore 4, 2) := by decide +kernel
theorem dL_law_44 : decode cL_law 44 = .ok (.aload_n 1, 1) := by decide +kernel
theorem dL_law_45 : decode cL_law 45 = .ok (.invokevirtual 60, 3) := by decide +kernel
theorem dL_law_48 : decode cL_law 48 = .ok (.istore 5, 2) := by decide +kernel
theorem dL_law_50 : decode cL_law 50 = .ok (.aload_n 1, 1) := by decide +kernel
theorem dL_law_51 : decode cL_law 51 = .ok (.iconst 0, 1) := by decide +kernel
theorem dL_law_52 : decode cL_law 52 = .ok (.invokevirtual 106, 3) := by decide +kernel
theorem dL_law_55 : decode cL_law 55 = .ok (.istore 6, 2) := by decide +kernel
theorem dL_law_57 : decode cL_law 57 = .ok (.aload_n 1, 1) := by decide +kernel
theorem dL_law_58 : decode cL_law 58 = .ok (.iconst 1, 1) := by decide +kernel
theorem dL_law_59 : decode cL_law 59 = .ok (.invokevirtual 106, 3) := by decide +kernel
theorem dL_law_62 : decode cL_law 62 = .ok (.istore 7, 2) := by decide +kernel
theorem dL_law_64 : decode cL_law 64 = .ok (.aload_n 1, 1) := by decide +kernel
theorem dL_law_65 : decode cL_law 65 = .ok (.iconst 2, 1) := by decide +kernel
theorem dL_law_66 : decode cL_law 66 = .ok (.invokevirtual 106, 3) := by decide +kernel
theorem dL_law_69 : decode cL_law 69 = .ok (.istore 8, 2) := by decide +kernel
theorem dL_law_71 : decode cL_law 71 = .ok (.aload_n 1, 1) := by decide +kernel
theorem dL_law_72 : decode cL_law 72 = .ok (.iload 4, 2) := by decide +kernel
theorem dL_law_74 : decode cL_law 74 = .ok (.invokestatic 124, 3) := by decide +kernel
theorem dL_law_77 : decode cL_law 77 = .ok (.istore 9, 2) := by decide +kernel
theorem dL_law_79 : decode cL_law 79 = .ok (.iload 9, 2) := by decide +kernel
theorem dL_law_81 : decode cL_law 81 = .ok (.ldc 42, 2) := by decide +kernel
theorem dL_law_83 : decode cL_law 83 = .ok (.if_icmp .eq 14, 3) := by decide +kernel
theorem dL_law_86 : decode cL_law 86 = .ok (.aload_n 2, 1) := by decide +kernel
theorem dL_law_87 : decode cL_law 87 = .ok (.iload 4, 2) := by decide +kernel
theorem dL_law_89 : decode cL_law 89 = .ok (.invokestatic 124, 3) := by decide +kernel
theorem dL_law_92 : decode cL_law 92 = .ok (.iload 9, 2) := by decide +kernel
theorem dL_law_94 : decode cL_law 94 = .ok (.if_icmp .ne 61, 3) := by decide +kernel
theorem dL_law_97 : decode cL_law 97 = .ok (.aload_n 1, 1) := by decide +kernel
theorem dL_law_98 : decode cL_law 98 = .ok (.iload 5, 2) := by decide +kernel
theorem dL_law_100 : decode cL_law 100 = .ok (.iload 6, 2) := by decide +kernel
theorem dL_law_102 : decode cL_law 102 = .ok (.iload 7, 2) := by decide +kernel
theorem dL_law_104 : decode cL_law 104 = .ok (.iload 8, 2) := by decide +kernel
theorem dL_law_106 : decode cL_law 106 = .ok (.invokestatic 128, 3) := by decide +kernel
theorem dL_law_109 : decode cL_law 109 = .ok (.ifCond .eq 46, 3) := by decide +kernel
theorem dL_law_112 : decode cL_law 112 = .ok (.iload_n 3, 1) := by decide +kernel
theorem dL_law_113 : decode cL_law 113 = .ok (.iconst 4, 1) := by decide +kernel
theorem dL_law_114 : decode cL_law 114 = .ok (.irem, 1) := by decide +kernel
theorem dL_law_115 : decode cL_law 115 = .ok (.iconst 3, 1) := by decide +kernel
theorem dL_law_116 : decode cL_law 116 = .ok (.if_icmp .ne 11, 3) := by decide +kernel
theorem dL_law_119 : decode cL_law 119 = .ok (.aload_n 1, 1) := by decide +kernel
theorem dL_law_120 : decode cL_law 120 = .ok (.aload_n 2, 1) := by decide +kernel
theorem dL_law_121 : decode cL_law 121 = .ok (.invokestatic 132, 3) := by decide +kernel
theorem dL_law_124 : decode cL_law 124 = .ok (.ifCond .eq 31, 3) := by decide +kernel
theorem dL_law_127 : decode cL_law 127 = .ok (.iload_n 3, 1) := by decide +kernel
theorem dL_law_128 : decode cL_law 128 = .ok (.iconst 3, 1) := by decide +kernel
theorem dL_law_129 : decode cL_law 129 = .ok (.irem, 1) := by decide +kernel
theorem dL_law_130 : decode cL_law 130 = .ok (.iconst 1, 1) := by decide +kernel
theorem dL_law_131 : decode cL_law 131 = .ok (.if_icmp .ne 10, 3) := by decide +kernel
theorem dL_law_134 : decode cL_law 134 = .ok (.aload_n 1, 1) := by decide +kernel
theorem dL_law_135 : decode cL_law 135 = .ok (.invokestatic 136, 3) := by decide +kernel
theorem dL_law_138 : decode cL_law 138 = .ok (.ifCond .eq 17, 3) := by decide +kernel
theorem dL_law_141 : decode cL_law 141 = .ok (.iload_n 3, 1) := by decide +kernel
theorem dL_law_142 : decode cL_law 142 = .ok (.iconst 5, 1) := by decide +kernel
theorem dL_law_143 : decode cL_law 143 = .ok (.irem, 1) := by decide +kernel
theorem dL_law_144 : decode cL_law 144 = .ok (.iconst 2, 1) := by decide +kernel
theorem dL_law_145 : decode cL_law 145 = .ok (.if_icmp .ne 12, 3) := by decide +kernel
theorem dL_law_148 : decode cL_law 148 = .ok (.aload_n 1, 1) := by decide +kernel
theorem dL_law_149 : decode cL_law 149 = .ok (.invokestatic 140, 3) := by decide +kernel
theorem dL_law_152 : decode cL_law 152 = .ok (.ifCond .ne 5, 3) := by decide +kernel
theorem dL_law_155 : decode cL_law 155 = .ok (.iconst 0, 1) := by decide +kernel
theorem dL_law_156 : decode cL_law 156 = .ok (.ireturn, 1) := by decide +kernel
theorem dL_law_157 : decode cL_law 157 = .ok (.iinc 3 1, 3) := by decide +kernel
theorem dL_law_160 : decode cL_law 160 = .ok (.goto (-142), 3) := by decide +kernel
theorem dL_law_163 : decode cL_law 163 = .ok (.aload_n 1, 1) := by decide +kernel
theorem dL_law_164 : decode cL_law 164 = .ok (.aload_n 2, 1) := by decide +kernel
theorem dL_law_165 : decode cL_law 165 = .ok (.invokestatic 132, 3) := by decide +kernel
theorem dL_law_168 : decode cL_law 168 = .ok (.ifCond .eq 21, 3) := by decide +kernel
theorem dL_law_171 : decode cL_law 171 = .ok (.aload_n 1, 1) := by decide +kernel
theorem dL_law_172 : decode cL_law 172 = .ok (.invokestatic 136, 3) := by decide +kernel
theorem dL_law_175 : decode cL_law 175 = .ok (.ifCond .eq 14, 3) := by decide +kernel
theorem dL_law_178 : decode cL_law 178 = .ok (.aload_n 1, 1) := by decide +kernel
theorem dL_law_179 : decode cL_law 179 = .ok (.invokestatic 140, 3) := by decide +kernel
theorem dL_law_182 : decode cL_law 182 = .ok (.ifCond .eq 7, 3) := by decide +kernel
theorem dL_law_185 : decode cL_law 185 = .ok (.iconst 1, 1) := by decide +kernel
theorem dL_law_186 : decode cL_law 186 = .ok (.goto 4, 3) := by decide +kernel
theorem dL_law_189 : decode cL_law 189 = .ok (.iconst 0, 1) := by decide +kernel
theorem dL_law_190 : decode cL_law 190 = .ok (.ireturn, 1) := by decide +kernel
