theorem dX5_init_0 : decode cX5_init 0 = .ok (.aload_n 0, 1) := by decide +kernel
theorem dX5_init_1 : decode cX5_init 1 = .ok (.invokespecial 1, 3) := by decide +kernel
theorem dX5_init_4 : decode cX5_init 4 = .ok (.aload_n 0, 1) := by decide +kernel
theorem dX5_init_5 : decode cX5_init 5 = .ok (.bipush 32, 2) := by decide +kernel
theorem dX5_init_7 : decode cX5_init 7 = .ok (.newarray .int, 2) := by decide +kernel
theorem dX5_init_9 : decode cX5_init 9 = .ok (.putfield 7, 3) := by decide +kernel
theorem dX5_init_12 : decode cX5_init 12 = .ok (.aload_n 0, 1) := by decide +kernel
theorem dX5_init_13 : decode cX5_init 13 = .ok (.iconst 3, 1) := by decide +kernel
theorem dX5_init_14 : decode cX5_init 14 = .ok (.newarray .long, 2) := by decide +kernel
theorem dX5_init_16 : decode cX5_init 16 = .ok (.putfield 13, 3) := by decide +kernel
theorem dX5_init_19 : decode cX5_init 19 = .ok (.aload_n 0, 1) := by decide +kernel
theorem dX5_init_20 : decode cX5_init 20 = .ok (.iconst 3, 1) := by decide +kernel
theorem dX5_init_21 : decode cX5_init 21 = .ok (.newarray .long, 2) := by decide +kernel
theorem dX5_init_23 : decode cX5_init 23 = .ok (.putfield 17, 3) := by decide +kernel
theorem dX5_init_26 : decode cX5_init 26 = .ok (.aload_n 0, 1) := by decide +kernel
theorem dX5_init_27 : decode cX5_init 27 = .ok (.iconst 3, 1) := by decide +kernel
theorem dX5_init_28 : decode cX5_init 28 = .ok (.newarray .int, 2) := by decide +kernel
theorem dX5_init_30 : decode cX5_init 30 = .ok (.putfield 20, 3) := by decide +kernel
theorem dX5_init_33 : decode cX5_init 33 = .ok (.aload_n 0, 1) := by decide +kernel
theorem dX5_init_34 : decode cX5_init 34 = .ok (.iconst 3, 1) := by decide +kernel
theorem dX5_init_35 : decode cX5_init 35 = .ok (.newarray .int, 2) := by decide +kernel
theorem dX5_init_37 : decode cX5_init 37 = .ok (.putfield 23, 3) := by decide +kernel
theorem dX5_init_40 : decode cX5_init 40 = .ok (.aload_n 0, 1) := by decide +kernel
theorem dX5_init_41 : decode cX5_init 41 = .ok (.iconst 3, 1) := by decide +kernel
theorem dX5_init_42 : decode cX5_init 42 = .ok (.newarray .int, 2) := by decide +kernel
theorem dX5_init_44 : decode cX5_init 44 = .ok (.putfield 26, 3) := by decide +kernel
theorem dX5_init_47 : decode cX5_init 47 = .ok (.aload_n 0, 1) := by decide +kernel
theorem dX5_init_48 : decode cX5_init 48 = .ok (.iconst 3, 1) := by decide +kernel
theorem dX5_init_49 : decode cX5_init 49 = .ok (.newarray .int, 2) := by decide +kernel
theorem dX5_init_51 : decode cX5_init 51 = .ok (.putfield 29, 3) := by decide +kernel
theorem dX5_init_54 : decode cX5_init 54 = .ok (.aload_n 0, 1) := by decide +kernel
theorem dX5_init_55 : decode cX5_init 55 = .ok (.iconst 0, 1) := by decide +kernel
theorem dX5_init_56 : decode cX5_init 56 = .ok (.invokevirtual 32, 3) := by decide +kernel
theorem dX5_init_59 : decode cX5_init 59 = .ok (.return_, 1) := by decide +kernel
theorem dX5_thrown_0 : decode cX5_thrown 0 = .ok (.aload_n 0, 1) := by decide +kernel
theorem dX5_thrown_1 : decode cX5_thrown 1 = .ok (.getfield 36, 3) := by decide +kernel
theorem dX5_thrown_4 : decode cX5_thrown 4 = .ok (.ireturn, 1) := by decide +kernel
theorem dX5_holds_0 : decode cX5_holds 0 = .ok (.aload_n 0, 1) := by decide +kernel
theorem dX5_holds_1 : decode cX5_holds 1 = .ok (.iload_n 1, 1) := by decide +kernel
theorem dX5_holds_2 : decode cX5_holds 2 = .ok (.putfield 36, 3) := by decide +kernel
theorem dX5_holds_5 : decode cX5_holds 5 = .ok (.iload_n 1, 1) := by decide +kernel
theorem dX5_holds_6 : decode cX5_holds 6 = .ok (.ifCond .ne 7, 3) := by decide +kernel
theorem dX5_holds_9 : decode cX5_holds 9 = .ok (.iconst 1, 1) := by decide +kernel
theorem dX5_holds_10 : decode cX5_holds 10 = .ok (.goto 4, 3) := by decide +kernel
theorem dX5_holds_13 : decode cX5_holds 13 = .ok (.iconst 0, 1) := by decide +kernel
theorem dX5_holds_14 : decode cX5_holds 14 = .ok (.ireturn, 1) := by decide +kernel
theorem dX5_in_0 : decode cX5_in 0 = .ok (.iload_n 0, 1) := by decide +kernel
theorem dX5_in_1 : decode cX5_in 1 = .ok (.iload_n 1, 1) := by decide +kernel
theorem dX5_in_2 : decode cX5_in 2 = .ok (.if_icmp .lt 12, 3) := by decide +kernel
theorem dX5_in_5 : decode cX5_in 5 = .ok (.iload_n 0, 1) := by decide +kernel
theorem dX5_in_6 : decode cX5_in 6 = .ok (.iload_n 2, 1) := by decide +kernel
theorem dX5_in_7 : decode cX5_in 7 = .ok (.if_icmp .gt 7, 3) := by decide +kernel
theorem dX5_in_10 : decode cX5_in 10 = .ok (.iconst 1, 1) := by decide +kernel
theorem dX5_in_11 : decode cX5_in 11 = .ok (.goto 4, 3) := by decide +kernel
theorem dX5_in_14 : decode cX5_in 14 = .ok (.iconst 0, 1) := by decide +kernel
theorem dX5_in_15 : decode cX5_in 15 = .ok (.ireturn, 1) := by decide +kernel
theorem dX5_has_0 : decode cX5_has 0 = .ok (.lload_n 0, 1) := by decide +kernel
theorem dX5_has_1 : decode cX5_has 1 = .ok (.iload_n 2, 1) := by decide +kernel
theorem dX5_has_2 : decode cX5_has 2 = .ok (.lshr, 1) := by decide +kernel
theorem dX5_has_3 : decode cX5_has 3 = .ok (.lconst 1, 1) := by decide +kernel
theorem dX5_has_4 : decode cX5_has 4 = .ok (.land, 1) := by decide +kernel
theorem dX5_has_5 : decode cX5_has 5 = .ok (.lconst 1, 1) := by decide +kernel
theorem dX5_has_6 : decode cX5_has 6 = .ok (.lcmp, 1) := by decide +kernel
theorem dX5_has_7 : decode cX5_has 7 = .ok (.ifCond .ne 7, 3) := by decide +kernel
theorem dX5_has_10 : decode cX5_has 10 = .ok (.iconst 1, 1) := by decide +kernel
theorem dX5_has_11 : decode cX5_has 11 = .ok (.goto 4, 3) := by decide +kernel
theorem dX5_has_14 : decode cX5_has 14 = .ok (.iconst 0, 1) := by decide +kernel
theorem dX5_has_15 : decode cX5_has 15 = .ok (.ireturn, 1) := by decide +kernel
theorem dX5_forehand_0 : decode cX5_forehand 0 = .ok (.aload_n 0, 1) := by decide +kernel
theorem dX5_forehand_1 : decode cX5_forehand 1 = .ok (.getfield 40, 3) := by decide +kernel
theorem dX5_forehand_4 : decode cX5_forehand 4 = .ok (.iconst 3, 1) := by decide +kernel
theorem dX5_forehand_5 : decode cX5_forehand 5 = .ok (.irem, 1) := by decide +kernel
theorem dX5_forehand_6 : decode cX5_forehand 6 = .ok (.ireturn, 1) := by decide +kernel
theorem dX5_shuffles_0 : decode cX5_shuffles 0 = .ok (.iconst 0, 1) := by decide +kernel
theorem dX5_shuffles_1 : decode cX5_shuffles 1 = .ok (.istore_n 2, 1) := by decide +kernel
theorem dX5_shuffles_2 : decode cX5_shuffles 2 = .ok (.iload_n 2, 1) := by decide +kernel
theorem dX5_shuffles_3 : decode cX5_shuffles 3 = .ok (.bipush 32, 2) := by decide +kernel
theorem dX5_shuffles_5 : decode cX5_shuffles 5 = .ok (.if_icmp .ge 16, 3) := by decide +kernel
theorem dX5_shuffles_8 : decode cX5_shuffles 8 = .ok (.aload_n 0, 1) := by decide +kernel
theorem dX5_shuffles_9 : decode cX5_shuffles 9 = .ok (.getfield 7, 3) := by decide +kernel
theorem dX5_shuffles_12 : decode cX5_shuffles 12 = .ok (.iload_n 2, 1) := by decide +kernel
theorem dX5_shuffles_13 : decode cX5_shuffles 13 = .ok (.iload_n 2, 1) := by decide +kernel
theorem dX5_shuffles_14 : decode cX5_shuffles 14 = .ok (.iastore, 1) := by decide +kernel
theorem dX5_shuffles_15 : decode cX5_shuffles 15 = .ok (.iinc 2 1, 3) := by decide +kernel
theorem dX5_shuffles_18 : decode cX5_shuffles 18 = .ok (.goto (-16), 3) := by decide +kernel
theorem dX5_shuffles_21 : decode cX5_shuffles 21 = .ok (.iload_n 1, 1) := by decide +kernel
theorem dX5_shuffles_22 : decode cX5_shuffles 22 = .ok (.i2l, 1) := by decide +kernel
theorem dX5_shuffles_23 : decode cX5_shuffles 23 = .ok (.lstore_n 2, 1) := by decide +kernel
theorem dX5_shuffles_24 : decode cX5_shuffles 24 = .ok (.bipush 31, 2) := by decide +kernel
theorem dX5_shuffles_26 : decode cX5_shuffles 26 = .ok (.istore 4, 2) := by decide +kernel
theorem dX5_shuffles_28 : decode cX5_shuffles 28 = .ok (.iload 4, 2) := by decide +kernel
theorem dX5_shuffles_30 : decode cX5_shuffles 30 = .ok (.ifCond .le 69, 3) := by decide +kernel
theorem dX5_shuffles_33 : decode cX5_shuffles 33 = .ok (.lload_n 2, 1) := by decide +kernel
theorem dX5_shuffles_34 : decode cX5_shuffles 34 = .ok (.ldc2_w 43, 3) := by decide +kernel
theorem dX5_shuffles_37 : decode cX5_shuffles 37 = .ok (.lmul, 1) := by decide +kernel
theorem dX5_shuffles_38 : decode cX5_shuffles 38 = .ok (.ldc2_w 45, 3) := by decide +kernel
theorem dX5_shuffles_41 : decode cX5_shuffles 41 = .ok (.ladd, 1) := by decide +kernel
theorem dX5_shuffles_42 : decode cX5_shuffles 42 = .ok (.ldc2_w 47, 3) := by decide +kernel
theorem dX5_shuffles_45 : decode cX5_shuffles 45 = .ok (.lrem, 1) := by decide +kernel
theorem dX5_shuffles_46 : decode cX5_shuffles 46 = .ok (.lstore_n 2, 1) := by decide +kernel
theorem dX5_shuffles_47 : decode cX5_shuffles 47 = .ok (.lload_n 2, 1) := by decide +kernel
theorem dX5_shuffles_48 : decode cX5_shuffles 48 = .ok (.ldc2_w 49, 3) := by decide +kernel
theorem dX5_shuffles_51 : decode cX5_shuffles 51 = .ok (.ldiv, 1) := by decide +kernel
theorem dX5_shuffles_52 : decode cX5_shuffles 52 = .ok (.iload 4, 2) := by decide +kernel
theorem dX5_shuffles_54 : decode cX5_shuffles 54 = .ok (.iconst 1, 1) := by decide +kernel
theorem dX5_shuffles_55 : decode cX5_shuffles 55 = .ok (.iadd, 1) := by decide +kernel
theorem dX5_shuffles_56 : decode cX5_shuffles 56 = .ok (.i2l, 1) := by decide +kernel
theorem dX5_shuffles_57 : decode cX5_shuffles 57 = .ok (.lrem, 1) := by decide +kernel
theorem dX5_shuffles_58 : decode cX5_shuffles 58 = .ok (.l2i, 1) := by decide +kernel
theorem dX5_shuffles_59 : decode cX5_shuffles 59 = .ok (.istore 5, 2) := by decide +kernel
theorem dX5_shuffles_61 : decode cX5_shuffles 61 = .ok (.aload_n 0, 1) := by decide +kernel
theorem dX5_shuffles_62 : decode cX5_shuffles 62 = .ok (.getfield 7, 3) := by decide +kernel
theorem dX5_shuffles_65 : decode cX5_shuffles 65 = .ok (.iload 4, 2) := by decide +kernel
theorem dX5_shuffles_67 : decode cX5_shuffles 67 = .ok (.iaload, 1) := by decide +kernel
theorem dX5_shuffles_68 : decode cX5_shuffles 68 = .ok (.istore 6, 2) := by decide +kernel
theorem dX5_shuffles_70 : decode cX5_shuffles 70 = .ok (.aload_n 0, 1) := by decide +kernel
theorem dX5_shuffles_71 : decode cX5_shuffles 71 = .ok (.getfield 7, 3) := by decide +kernel
theorem dX5_shuffles_74 : decode cX5_shuffles 74 = .ok (.iload 4, 2) := by decide +kernel
theorem dX5_shuffles_76 : decode cX5_shuffles 76 = .ok (.aload_n 0, 1) := by decide +kernel
theorem dX5_shuffles_77 : decode cX5_shuffles 77 = .ok (.getfield 7, 3) := by decide +kernel
theorem dX5_shuffles_80 : decode cX5_shuffles 80 = .ok (.iload 5, 2) := by decide +kernel
theorem dX5_shuffles_82 : decode cX5_shuffles 82 = .ok (.iaload, 1) := by decide +kernel
theorem dX5_shuffles_83 : decode cX5_shuffles 83 = .ok (.iastore, 1) := by decide +kernel
theorem dX5_shuffles_84 : decode cX5_shuffles 84 = .ok (.aload_n 0, 1) := by decide +kernel
theorem dX5_shuffles_85 : decode cX5_shuffles 85 = .ok (.getfield 7, 3) := by decide +kernel
theorem dX5_shuffles_88 : decode cX5_shuffles 88 = .ok (.iload 5, 2) := by decide +kernel
theorem dX5_shuffles_90 : decode cX5_shuffles 90 = .ok (.iload 6, 2) := by decide +kernel
theorem dX5_shuffles_92 : decode cX5_shuffles 92 = .ok (.iastore, 1) := by decide +kernel
theorem dX5_shuffles_93 : decode cX5_shuffles 93 = .ok (.iinc 4 (-1), 3) := by decide +kernel
theorem dX5_shuffles_96 : decode cX5_shuffles 96 = .ok (.goto (-68), 3) := by decide +kernel
theorem dX5_shuffles_99 : decode cX5_shuffles 99 = .ok (.return_, 1) := by decide +kernel
theorem dX5_begins_0 : decode cX5_begins 0 = .ok (.aload_n 0, 1) := by decide +kernel
theorem dX5_begins_1 : decode cX5_begins 1 = .ok (.iload_n 1, 1) := by decide +kernel
theorem dX5_begins_2 : decode cX5_begins 2 = .ok (.invokevirtual 51, 3) := by decide +kernel
theorem dX5_begins_5 : decode cX5_begins 5 = .ok (.aload_n 0, 1) := by decide +kernel
theorem dX5_begins_6 : decode cX5_begins 6 = .ok (.lconst 1, 1) := by decide +kernel
theorem dX5_begins_7 : decode cX5_begins 7 = .ok (.aload_n 0, 1) := by decide +kernel
theorem dX5_begins_8 : decode cX5_begins 8 = .ok (.getfield 7, 3) := by decide +kernel
theorem dX5_begins_11 : decode cX5_begins 11 = .ok (.bipush 30, 2) := by decide +kernel
theorem dX5_begins_13 : decode cX5_begins 13 = .ok (.iaload, 1) := by decide +kernel
theorem dX5_begins_14 : decode cX5_begins 14 = .ok (.lshl, 1) := by decide +kernel
theorem dX5_begins_15 : decode cX5_begins 15 = .ok (.lconst 1, 1) := by decide +kernel
theorem dX5_begins_16 : decode cX5_begins 16 = .ok (.aload_n 0, 1) := by decide +kernel
theorem dX5_begins_17 : decode cX5_begins 17 = .ok (.getfield 7, 3) := by decide +kernel
theorem dX5_begins_20 : decode cX5_begins 20 = .ok (.bipush 31, 2) := by decide +kernel
theorem dX5_begins_22 : decode cX5_begins 22 = .ok (.iaload, 1) := by decide +kernel
theorem dX5_begins_23 : decode cX5_begins 23 = .ok (.lshl, 1) := by decide +kernel
theorem dX5_begins_24 : decode cX5_begins 24 = .ok (.lor, 1) := by decide +kernel
theorem dX5_begins_25 : decode cX5_begins 25 = .ok (.putfield 54, 3) := by decide +kernel
theorem dX5_begins_28 : decode cX5_begins 28 = .ok (.iconst 0, 1) := by decide +kernel
theorem dX5_begins_29 : decode cX5_begins 29 = .ok (.istore_n 2, 1) := by decide +kernel
theorem dX5_begins_30 : decode cX5_begins 30 = .ok (.iload_n 2, 1) := by decide +kernel
theorem dX5_begins_31 : decode cX5_begins 31 = .ok (.iconst 3, 1) := by decide +kernel
theorem dX5_begins_32 : decode cX5_begins 32 = .ok (.if_icmp .ge 76, 3) := by decide +kernel
theorem dX5_begins_35 : decode cX5_begins 35 = .ok (.aload_n 0, 1) := by decide +kernel
theorem dX5_begins_36 : decode cX5_begins 36 = .ok (.getfield 13, 3) := by decide +kernel
theorem dX5_begins_39 : decode cX5_begins 39 = .ok (.iload_n 2, 1) := by decide +kernel
theorem dX5_begins_40 : decode cX5_begins 40 = .ok (.lconst 0, 1) := by decide +kernel
theorem dX5_begins_41 : decode cX5_begins 41 = .ok (.lastore, 1) := by decide +kernel
theorem dX5_begins_42 : decode cX5_begins 42 = .ok (.aload_n 0, 1) := by decide +kernel
theorem dX5_begins_43 : decode cX5_begins 43 = .ok (.getfield 17, 3) := by decide +kernel
theorem dX5_begins_46 : decode cX5_begins 46 = .ok (.iload_n 2, 1) := by decide +kernel
theorem dX5_begins_47 : decode cX5_begins 47 = .ok (.lconst 0, 1) := by decide +kernel
theorem dX5_begins_48 : decode cX5_begins 48 = .ok (.lastore, 1) := by decide +kernel
theorem dX5_begins_49 : decode cX5_begins 49 = .ok (.aload_n 0, 1) := by decide +kernel
theorem dX5_begins_50 : decode cX5_begins 50 = .ok (.getfield 23, 3) := by decide +kernel
theorem dX5_begins_53 : decode cX5_begins 53 = .ok (.iload_n 2, 1) := by decide +kernel
theorem dX5_begins_54 : decode cX5_begins 54 = .ok (.iconst 0, 1) := by decide +kernel
theorem dX5_begins_55 : decode cX5_begins 55 = .ok (.iastore, 1) := by decide +kernel
theorem dX5_begins_56 : decode cX5_begins 56 = .ok (.aload_n 0, 1) := by decide +kernel
theorem dX5_begins_57 : decode cX5_begins 57 = .ok (.getfield 26, 3) := by decide +kernel
theorem dX5_begins_60 : decode cX5_begins 60 = .ok (.iload_n 2, 1) := by decide +kernel
theorem dX5_begins_61 : decode cX5_begins 61 = .ok (.iconst 0, 1) := by decide +kernel
theorem dX5_begins_62 : decode cX5_begins 62 = .ok (.iastore, 1) := by decide +kernel
theorem dX5_begins_63 : decode cX5_begins 63 = .ok (.bipush 10, 2) := by decide +kernel
theorem dX5_begins_65 : decode cX5_begins 65 = .ok (.iload_n 2, 1) := by decide +kernel
theorem dX5_begins_66 : decode cX5_begins 66 = .ok (.imul, 1) := by decide +kernel
theorem dX5_begins_67 : decode cX5_begins 67 = .ok (.istore_n 3, 1) := by decide +kernel
theorem dX5_begins_68 : decode cX5_begins 68 = .ok (.iload_n 3, 1) := by decide +kernel
theorem dX5_begins_69 : decode cX5_begins 69 = .ok (.bipush 10, 2) := by decide +kernel
theorem dX5_begins_71 : decode cX5_begins 71 = .ok (.iload_n 2, 1) := by decide +kernel
theorem dX5_begins_72 : decode cX5_begins 72 = .ok (.imul, 1) := by decide +kernel
theorem dX5_begins_73 : decode cX5_begins 73 = .ok (.bipush 10, 2) := by decide +kernel
theorem dX5_begins_75 : decode cX5_begins 75 = .ok (.iadd, 1) := by decide +kernel
theorem dX5_begins_76 : decode cX5_begins 76 = .ok (.if_icmp .ge 26, 3) := by decide +kernel
theorem dX5_begins_79 : decode cX5_begins 79 = .ok (.aload_n 0, 1) := by decide +kernel
theorem dX5_begins_80 : decode cX5_begins 80 = .ok (.getfield 13, 3) := by decide +kernel
theorem dX5_begins_83 : decode cX5_begins 83 = .ok (.iload_n 2, 1) := by decide +kernel
theorem dX5_begins_84 : decode cX5_begins 84 = .ok (.dup2, 1) := by decide +kernel
theorem dX5_begins_85 : decode cX5_begins 85 = .ok (.laload, 1) := by decide +kernel
theorem dX5_begins_86 : decode cX5_begins 86 = .ok (.lconst 1, 1) := by decide +kernel
theorem dX5_begins_87 : decode cX5_begins 87 = .ok (.aload_n 0, 1) := by decide +kernel
theorem dX5_begins_88 : decode cX5_begins 88 = .ok (.getfield 7, 3) := by decide +kernel
theorem dX5_begins_91 : decode cX5_begins 91 = .ok (.iload_n 3, 1) := by decide +kernel
theorem dX5_begins_92 : decode cX5_begins 92 = .ok (.iaload, 1) := by decide +kernel
theorem dX5_begins_93 : decode cX5_begins 93 = .ok (.lshl, 1) := by decide +kernel
theorem dX5_begins_94 : decode cX5_begins 94 = .ok (.lor, 1) := by decide +kernel
theorem dX5_begins_95 : decode cX5_begins 95 = .ok (.lastore, 1) := by decide +kernel
theorem dX5_begins_96 : decode cX5_begins 96 = .ok (.iinc 3 1, 3) := by decide +kernel
theorem dX5_begins_99 : decode cX5_begins 99 = .ok (.goto (-31), 3) := by decide +kernel
theorem dX5_begins_102 : decode cX5_begins 102 = .ok (.iinc 2 1, 3) := by decide +kernel
theorem dX5_begins_105 : decode cX5_begins 105 = .ok (.goto (-75), 3) := by decide +kernel
theorem dX5_begins_108 : decode cX5_begins 108 = .ok (.aload_n 0, 1) := by decide +kernel
theorem dX5_begins_109 : decode cX5_begins 109 = .ok (.iconst 0, 1) := by decide +kernel
theorem dX5_begins_110 : decode cX5_begins 110 = .ok (.putfield 58, 3) := by decide +kernel
theorem dX5_begins_113 : decode cX5_begins 113 = .ok (.aload_n 0, 1) := by decide +kernel
theorem dX5_begins_114 : decode cX5_begins 114 = .ok (.iconst (-1), 1) := by decide +kernel
theorem dX5_begins_115 : decode cX5_begins 115 = .ok (.putfield 61, 3) := by decide +kernel
theorem dX5_begins_118 : decode cX5_begins 118 = .ok (.aload_n 0, 1) := by decide +kernel
theorem dX5_begins_119 : decode cX5_begins 119 = .ok (.iconst (-1), 1) := by decide +kernel
theorem dX5_begins_120 : decode cX5_begins 120 = .ok (.putfield 64, 3) := by decide +kernel
theorem dX5_begins_123 : decode cX5_begins 123 = .ok (.aload_n 0, 1) := by decide +kernel
theorem dX5_begins_124 : decode cX5_begins 124 = .ok (.iconst 0, 1) := by decide +kernel
theorem dX5_begins_125 : decode cX5_begins 125 = .ok (.putfield 67, 3) := by decide +kernel
theorem dX5_begins_128 : decode cX5_begins 128 = .ok (.aload_n 0, 1) := by decide +kernel
theorem dX5_begins_129 : decode cX5_begins 129 = .ok (.iconst 0, 1) := by decide +kernel
theorem dX5_begins_130 : decode cX5_begins 130 = .ok (.putfield 70, 3) := by decide +kernel
theorem dX5_begins_133 : decode cX5_begins 133 = .ok (.aload_n 0, 1) := by decide +kernel
theorem dX5_begins_134 : decode cX5_begins 134 = .ok (.iconst 0, 1) := by decide +kernel
theorem dX5_begins_135 : decode cX5_begins 135 = .ok (.putfield 74, 3) := by decide +kernel
theorem dX5_begins_138 : decode cX5_begins 138 = .ok (.aload_n 0, 1) := by decide +kernel
theorem dX5_begins_139 : decode cX5_begins 139 = .ok (.iconst 0, 1) := by decide +kernel
theorem dX5_begins_140 : decode cX5_begins 140 = .ok (.putfield 77, 3) := by decide +kernel
theorem dX5_begins_143 : decode cX5_begins 143 = .ok (.aload_n 0, 1) := by decide +kernel
theorem dX5_begins_144 : decode cX5_begins 144 = .ok (.aload_n 0, 1) := by decide +kernel
theorem dX5_begins_145 : decode cX5_begins 145 = .ok (.invokevirtual 80, 3) := by decide +kernel
theorem dX5_begins_148 : decode cX5_begins 148 = .ok (.putfield 84, 3) := by decide +kernel
theorem dX5_begins_151 : decode cX5_begins 151 = .ok (.aload_n 0, 1) := by decide +kernel
theorem dX5_begins_152 : decode cX5_begins 152 = .ok (.aload_n 0, 1) := by decide +kernel
theorem dX5_begins_153 : decode cX5_begins 153 = .ok (.getfield 84, 3) := by decide +kernel
theorem dX5_begins_156 : decode cX5_begins 156 = .ok (.iconst 1, 1) := by decide +kernel
theorem dX5_begins_157 : decode cX5_begins 157 = .ok (.iadd, 1) := by decide +kernel
theorem dX5_begins_158 : decode cX5_begins 158 = .ok (.iconst 3, 1) := by decide +kernel
theorem dX5_begins_159 : decode cX5_begins 159 = .ok (.irem, 1) := by decide +kernel
theorem dX5_begins_160 : decode cX5_begins 160 = .ok (.putfield 87, 3) := by decide +kernel
theorem dX5_begins_163 : decode cX5_begins 163 = .ok (.aload_n 0, 1) := by decide +kernel
theorem dX5_begins_164 : decode cX5_begins 164 = .ok (.iconst 0, 1) := by decide +kernel
theorem dX5_begins_165 : decode cX5_begins 165 = .ok (.aload_n 0, 1) := by decide +kernel
theorem dX5_begins_166 : decode cX5_begins 166 = .ok (.getfield 87, 3) := by decide +kernel
theorem dX5_begins_169 : decode cX5_begins 169 = .ok (.invokevirtual 90, 3) := by decide +kernel
theorem dX5_begins_172 : decode cX5_begins 172 = .ok (.return_, 1) := by decide +kernel
theorem dX5_turns_0 : decode cX5_turns 0 = .ok (.aload_n 0, 1) := by decide +kernel
theorem dX5_turns_1 : decode cX5_turns 1 = .ok (.iload_n 1, 1) := by decide +kernel
theorem dX5_turns_2 : decode cX5_turns 2 = .ok (.putfield 94, 3) := by decide +kernel
theorem dX5_turns_5 : decode cX5_turns 5 = .ok (.aload_n 0, 1) := by decide +kernel
theorem dX5_turns_6 : decode cX5_turns 6 = .ok (.iload_n 2, 1) := by decide +kernel
theorem dX5_turns_7 : decode cX5_turns 7 = .ok (.putfield 97, 3) := by decide +kernel
theorem dX5_turns_10 : decode cX5_turns 10 = .ok (.return_, 1) := by decide +kernel
theorem dX5_deal_0 : decode cX5_deal 0 = .ok (.aload_n 0, 1) := by decide +kernel
theorem dX5_deal_1 : decode cX5_deal 1 = .ok (.iload_n 1, 1) := by decide +kernel
theorem dX5_deal_2 : decode cX5_deal 2 = .ok (.ifCond .ge 7, 3) := by decide +kernel
theorem dX5_deal_5 : decode cX5_deal 5 = .ok (.iconst 1, 1) := by decide +kernel
theorem dX5_deal_6 : decode cX5_deal 6 = .ok (.goto 4, 3) := by decide +kernel
theorem dX5_deal_9 : decode cX5_deal 9 = .ok (.iconst 0, 1) := by decide +kernel
theorem dX5_deal_10 : decode cX5_deal 10 = .ok (.invokevirtual 100, 3) := by decide +kernel
theorem dX5_deal_13 : decode cX5_deal 13 = .ok (.ifCond .ne 5, 3) := by decide +kernel
theorem dX5_deal_16 : decode cX5_deal 16 = .ok (.iconst 0, 1) := by decide +kernel
theorem dX5_deal_17 : decode cX5_deal 17 = .ok (.ireturn, 1) := by decide +kernel
theorem dX5_deal_18 : decode cX5_deal 18 = .ok (.aload_n 0, 1) := by decide +kernel
theorem dX5_deal_19 : decode cX5_deal 19 = .ok (.dup, 1) := by decide +kernel
theorem dX5_deal_20 : decode cX5_deal 20 = .ok (.getfield 40, 3) := by decide +kernel
theorem dX5_deal_23 : decode cX5_deal 23 = .ok (.iconst 1, 1) := by decide +kernel
theorem dX5_deal_24 : decode cX5_deal 24 = .ok (.iadd, 1) := by decide +kernel
theorem dX5_deal_25 : decode cX5_deal 25 = .ok (.putfield 40, 3) := by decide +kernel
theorem dX5_deal_28 : decode cX5_deal 28 = .ok (.aload_n 0, 1) := by decide +kernel
theorem dX5_deal_29 : decode cX5_deal 29 = .ok (.iload_n 1, 1) := by decide +kernel
theorem dX5_deal_30 : decode cX5_deal 30 = .ok (.invokevirtual 32, 3) := by decide +kernel
theorem dX5_deal_33 : decode cX5_deal 33 = .ok (.aload_n 0, 1) := by decide +kernel
theorem dX5_deal_34 : decode cX5_deal 34 = .ok (.invokevirtual 80, 3) := by decide +kernel
theorem dX5_deal_37 : decode cX5_deal 37 = .ok (.ireturn, 1) := by decide +kernel
theorem dX5_phase_0 : decode cX5_phase 0 = .ok (.aload_n 0, 1) := by decide +kernel
theorem dX5_phase_1 : decode cX5_phase 1 = .ok (.iconst 0, 1) := by decide +kernel
theorem dX5_phase_2 : decode cX5_phase 2 = .ok (.putfield 36, 3) := by decide +kernel
theorem dX5_phase_5 : decode cX5_phase 5 = .ok (.aload_n 0, 1) := by decide +kernel
theorem dX5_phase_6 : decode cX5_phase 6 = .ok (.getfield 94, 3) := by decide +kernel
theorem dX5_phase_9 : decode cX5_phase 9 = .ok (.ireturn, 1) := by decide +kernel
theorem dX5_onTurn_0 : decode cX5_onTurn 0 = .ok (.aload_n 0, 1) := by decide +kernel
theorem dX5_onTurn_1 : decode cX5_onTurn 1 = .ok (.iconst 0, 1) := by decide +kernel
theorem dX5_onTurn_2 : decode cX5_onTurn 2 = .ok (.putfield 36, 3) := by decide +kernel
theorem dX5_onTurn_5 : decode cX5_onTurn 5 = .ok (.aload_n 0, 1) := by decide +kernel
theorem dX5_onTurn_6 : decode cX5_onTurn 6 = .ok (.getfield 94, 3) := by decide +kernel
theorem dX5_onTurn_9 : decode cX5_onTurn 9 = .ok (.bipush 6, 2) := by decide +kernel
theorem dX5_onTurn_11 : decode cX5_onTurn 11 = .ok (.if_icmp .ne 7, 3) := by decide +kernel
theorem dX5_onTurn_14 : decode cX5_onTurn 14 = .ok (.iconst (-1), 1) := by decide +kernel
theorem dX5_onTurn_15 : decode cX5_onTurn 15 = .ok (.goto 7, 3) := by decide +kernel
theorem dX5_onTurn_18 : decode cX5_onTurn 18 = .ok (.aload_n 0, 1) := by decide +kernel
theorem dX5_onTurn_19 : decode cX5_onTurn 19 = .ok (.getfield 97, 3) := by decide +kernel
theorem dX5_onTurn_22 : decode cX5_onTurn 22 = .ok (.ireturn, 1) := by decide +kernel
theorem dX5_isBid_0 : decode cX5_isBid 0 = .ok (.iload_n 0, 1) := by decide +kernel
theorem dX5_isBid_1 : decode cX5_isBid 1 = .ok (.bipush 23, 2) := by decide +kernel
theorem dX5_isBid_3 : decode cX5_isBid 3 = .ok (.if_icmp .eq 21, 3) := by decide +kernel
theorem dX5_isBid_6 : decode cX5_isBid 6 = .ok (.iload_n 0, 1) := by decide +kernel
theorem dX5_isBid_7 : decode cX5_isBid 7 = .ok (.bipush 35, 2) := by decide +kernel
theorem dX5_isBid_9 : decode cX5_isBid 9 = .ok (.if_icmp .eq 15, 3) := by decide +kernel
theorem dX5_isBid_12 : decode cX5_isBid 12 = .ok (.iload_n 0, 1) := by decide +kernel
theorem dX5_isBid_13 : decode cX5_isBid 13 = .ok (.bipush 46, 2) := by decide +kernel
theorem dX5_isBid_15 : decode cX5_isBid 15 = .ok (.if_icmp .eq 9, 3) := by decide +kernel
theorem dX5_isBid_18 : decode cX5_isBid 18 = .ok (.iload_n 0, 1) := by decide +kernel
theorem dX5_isBid_19 : decode cX5_isBid 19 = .ok (.bipush 59, 2) := by decide +kernel
theorem dX5_isBid_21 : decode cX5_isBid 21 = .ok (.if_icmp .ne 7, 3) := by decide +kernel
theorem dX5_isBid_24 : decode cX5_isBid 24 = .ok (.iconst 1, 1) := by decide +kernel
theorem dX5_isBid_25 : decode cX5_isBid 25 = .ok (.goto 4, 3) := by decide +kernel
theorem dX5_isBid_28 : decode cX5_isBid 28 = .ok (.iconst 0, 1) := by decide +kernel
theorem dX5_isBid_29 : decode cX5_isBid 29 = .ok (.istore_n 1, 1) := by decide +kernel
theorem dX5_isBid_30 : decode cX5_isBid 30 = .ok (.bipush 9, 2) := by decide +kernel
theorem dX5_isBid_32 : decode cX5_isBid 32 = .ok (.istore_n 2, 1) := by decide +kernel
theorem dX5_isBid_33 : decode cX5_isBid 33 = .ok (.iload_n 2, 1) := by decide +kernel
theorem dX5_isBid_34 : decode cX5_isBid 34 = .ok (.bipush 13, 2) := by decide +kernel
theorem dX5_isBid_36 : decode cX5_isBid 36 = .ok (.if_icmp .ge 37, 3) := by decide +kernel
theorem dX5_isBid_39 : decode cX5_isBid 39 = .ok (.iload_n 1, 1) := by decide +kernel
theorem dX5_isBid_40 : decode cX5_isBid 40 = .ok (.ifCond .ne 21, 3) := by decide +kernel
theorem dX5_isBid_43 : decode cX5_isBid 43 = .ok (.iload_n 0, 1) := by decide +kernel
theorem dX5_isBid_44 : decode cX5_isBid 44 = .ok (.iload_n 2, 1) := by decide +kernel
theorem dX5_isBid_45 : decode cX5_isBid 45 = .ok (.irem, 1) := by decide +kernel
theorem dX5_isBid_46 : decode cX5_isBid 46 = .ok (.ifCond .ne 19, 3) := by decide +kernel
theorem dX5_isBid_49 : decode cX5_isBid 49 = .ok (.iload_n 0, 1) := by decide +kernel
theorem dX5_isBid_50 : decode cX5_isBid 50 = .ok (.iload_n 2, 1) := by decide +kernel
theorem dX5_isBid_51 : decode cX5_isBid 51 = .ok (.idiv, 1) := by decide +kernel
theorem dX5_isBid_52 : decode cX5_isBid 52 = .ok (.iconst 2, 1) := by decide +kernel
theorem dX5_isBid_53 : decode cX5_isBid 53 = .ok (.bipush 18, 2) := by decide +kernel
theorem dX5_isBid_55 : decode cX5_isBid 55 = .ok (.invokestatic 104, 3) := by decide +kernel
theorem dX5_isBid_58 : decode cX5_isBid 58 = .ok (.ifCond .eq 7, 3) := by decide +kernel
theorem dX5_isBid_61 : decode cX5_isBid 61 = .ok (.iconst 1, 1) := by decide +kernel
theorem dX5_isBid_62 : decode cX5_isBid 62 = .ok (.goto 4, 3) := by decide +kernel
theorem dX5_isBid_65 : decode cX5_isBid 65 = .ok (.iconst 0, 1) := by decide +kernel
theorem dX5_isBid_66 : decode cX5_isBid 66 = .ok (.istore_n 1, 1) := by decide +kernel
theorem dX5_isBid_67 : decode cX5_isBid 67 = .ok (.iinc 2 1, 3) := by decide +kernel
theorem dX5_isBid_70 : decode cX5_isBid 70 = .ok (.goto (-37), 3) := by decide +kernel
theorem dX5_isBid_73 : decode cX5_isBid 73 = .ok (.iload_n 1, 1) := by decide +kernel
theorem dX5_isBid_74 : decode cX5_isBid 74 = .ok (.ifCond .ne 23, 3) := by decide +kernel
theorem dX5_isBid_77 : decode cX5_isBid 77 = .ok (.iload_n 0, 1) := by decide +kernel
theorem dX5_isBid_78 : decode cX5_isBid 78 = .ok (.bipush 24, 2) := by decide +kernel
theorem dX5_isBid_80 : decode cX5_isBid 80 = .ok (.irem, 1) := by decide +kernel
theorem dX5_isBid_81 : decode cX5_isBid 81 = .ok (.ifCond .ne 20, 3) := by decide +kernel
theorem dX5_isBid_84 : decode cX5_isBid 84 = .ok (.iload_n 0, 1) := by decide +kernel
theorem dX5_isBid_85 : decode cX5_isBid 85 = .ok (.bipush 24, 2) := by decide +kernel
theorem dX5_isBid_87 : decode cX5_isBid 87 = .ok (.idiv, 1) := by decide +kernel
theorem dX5_isBid_88 : decode cX5_isBid 88 = .ok (.iconst 2, 1) := by decide +kernel
theorem dX5_isBid_89 : decode cX5_isBid 89 = .ok (.bipush 11, 2) := by decide +kernel
theorem dX5_isBid_91 : decode cX5_isBid 91 = .ok (.invokestatic 104, 3) := by decide +kernel
theorem dX5_isBid_94 : decode cX5_isBid 94 = .ok (.ifCond .eq 7, 3) := by decide +kernel
theorem dX5_isBid_97 : decode cX5_isBid 97 = .ok (.iconst 1, 1) := by decide +kernel
theorem dX5_isBid_98 : decode cX5_isBid 98 = .ok (.goto 4, 3) := by decide +kernel
theorem dX5_isBid_101 : decode cX5_isBid 101 = .ok (.iconst 0, 1) := by decide +kernel
theorem dX5_isBid_102 : decode cX5_isBid 102 = .ok (.ireturn, 1) := by decide +kernel
theorem dX5_bid_0 : decode cX5_bid 0 = .ok (.aload_n 0, 1) := by decide +kernel
theorem dX5_bid_1 : decode cX5_bid 1 = .ok (.iload_n 1, 1) := by decide +kernel
theorem dX5_bid_2 : decode cX5_bid 2 = .ok (.invokestatic 108, 3) := by decide +kernel
theorem dX5_bid_5 : decode cX5_bid 5 = .ok (.ifCond .ne 7, 3) := by decide +kernel
theorem dX5_bid_8 : decode cX5_bid 8 = .ok (.iconst 1, 1) := by decide +kernel
theorem dX5_bid_9 : decode cX5_bid 9 = .ok (.goto 23, 3) := by decide +kernel
theorem dX5_bid_12 : decode cX5_bid 12 = .ok (.aload_n 0, 1) := by decide +kernel
theorem dX5_bid_13 : decode cX5_bid 13 = .ok (.getfield 94, 3) := by decide +kernel
theorem dX5_bid_16 : decode cX5_bid 16 = .ok (.ifCond .ne 11, 3) := by decide +kernel
theorem dX5_bid_19 : decode cX5_bid 19 = .ok (.iload_n 1, 1) := by decide +kernel
theorem dX5_bid_20 : decode cX5_bid 20 = .ok (.aload_n 0, 1) := by decide +kernel
theorem dX5_bid_21 : decode cX5_bid 21 = .ok (.getfield 58, 3) := by decide +kernel
theorem dX5_bid_24 : decode cX5_bid 24 = .ok (.if_icmp .gt 7, 3) := by decide +kernel
theorem dX5_bid_27 : decode cX5_bid 27 = .ok (.iconst 2, 1) := by decide +kernel
theorem dX5_bid_28 : decode cX5_bid 28 = .ok (.goto 4, 3) := by decide +kernel
theorem dX5_bid_31 : decode cX5_bid 31 = .ok (.iconst 0, 1) := by decide +kernel
theorem dX5_bid_32 : decode cX5_bid 32 = .ok (.invokevirtual 100, 3) := by decide +kernel
theorem dX5_bid_35 : decode cX5_bid 35 = .ok (.ifCond .ne 5, 3) := by decide +kernel
theorem dX5_bid_38 : decode cX5_bid 38 = .ok (.iconst 0, 1) := by decide +kernel
theorem dX5_bid_39 : decode cX5_bid 39 = .ok (.ireturn, 1) := by decide +kernel
theorem dX5_bid_40 : decode cX5_bid 40 = .ok (.aload_n 0, 1) := by decide +kernel
theorem dX5_bid_41 : decode cX5_bid 41 = .ok (.iload_n 1, 1) := by decide +kernel
theorem dX5_bid_42 : decode cX5_bid 42 = .ok (.putfield 58, 3) := by decide +kernel
theorem dX5_bid_45 : decode cX5_bid 45 = .ok (.aload_n 0, 1) := by decide +kernel
theorem dX5_bid_46 : decode cX5_bid 46 = .ok (.getfield 77, 3) := by decide +kernel
theorem dX5_bid_49 : decode cX5_bid 49 = .ok (.iconst 2, 1) := by decide +kernel
theorem dX5_bid_50 : decode cX5_bid 50 = .ok (.if_icmp .ne 14, 3) := by decide +kernel
theorem dX5_bid_53 : decode cX5_bid 53 = .ok (.aload_n 0, 1) := by decide +kernel
theorem dX5_bid_54 : decode cX5_bid 54 = .ok (.aload_n 0, 1) := by decide +kernel
theorem dX5_bid_55 : decode cX5_bid 55 = .ok (.getfield 97, 3) := by decide +kernel
theorem dX5_bid_58 : decode cX5_bid 58 = .ok (.invokevirtual 111, 3) := by decide +kernel
theorem dX5_bid_61 : decode cX5_bid 61 = .ok (.goto 12, 3) := by decide +kernel
theorem dX5_bid_64 : decode cX5_bid 64 = .ok (.aload_n 0, 1) := by decide +kernel
theorem dX5_bid_65 : decode cX5_bid 65 = .ok (.iconst 1, 1) := by decide +kernel
theorem dX5_bid_66 : decode cX5_bid 66 = .ok (.aload_n 0, 1) := by decide +kernel
theorem dX5_bid_67 : decode cX5_bid 67 = .ok (.getfield 84, 3) := by decide +kernel
theorem dX5_bid_70 : decode cX5_bid 70 = .ok (.invokevirtual 90, 3) := by decide +kernel
theorem dX5_bid_73 : decode cX5_bid 73 = .ok (.aload_n 0, 1) := by decide +kernel
theorem dX5_bid_74 : decode cX5_bid 74 = .ok (.getfield 97, 3) := by decide +kernel
theorem dX5_bid_77 : decode cX5_bid 77 = .ok (.ireturn, 1) := by decide +kernel
theorem dX5_hold_0 : decode cX5_hold 0 = .ok (.aload_n 0, 1) := by decide +kernel
theorem dX5_hold_1 : decode cX5_hold 1 = .ok (.aload_n 0, 1) := by decide +kernel
theorem dX5_hold_2 : decode cX5_hold 2 = .ok (.getfield 94, 3) := by decide +kernel
theorem dX5_hold_5 : decode cX5_hold 5 = .ok (.iconst 1, 1) := by decide +kernel
theorem dX5_hold_6 : decode cX5_hold 6 = .ok (.if_icmp .ne 7, 3) := by decide +kernel
theorem dX5_hold_9 : decode cX5_hold 9 = .ok (.iconst 0, 1) := by decide +kernel
theorem dX5_hold_10 : decode cX5_hold 10 = .ok (.goto 4, 3) := by decide +kernel
theorem dX5_hold_13 : decode cX5_hold 13 = .ok (.iconst 1, 1) := by decide +kernel
theorem dX5_hold_14 : decode cX5_hold 14 = .ok (.invokevirtual 100, 3) := by decide +kernel
theorem dX5_hold_17 : decode cX5_hold 17 = .ok (.ifCond .ne 5, 3) := by decide +kernel
theorem dX5_hold_20 : decode cX5_hold 20 = .ok (.iconst 0, 1) := by decide +kernel
theorem dX5_hold_21 : decode cX5_hold 21 = .ok (.ireturn, 1) := by decide +kernel
theorem dX5_hold_22 : decode cX5_hold 22 = .ok (.aload_n 0, 1) := by decide +kernel
theorem dX5_hold_23 : decode cX5_hold 23 = .ok (.iconst 0, 1) := by decide +kernel
theorem dX5_hold_24 : decode cX5_hold 24 = .ok (.aload_n 0, 1) := by decide +kernel
theorem dX5_hold_25 : decode cX5_hold 25 = .ok (.getfield 87, 3) := by decide +kernel
theorem dX5_hold_28 : decode cX5_hold 28 = .ok (.invokevirtual 90, 3) := by decide +kernel
theorem dX5_hold_31 : decode cX5_hold 31 = .ok (.aload_n 0, 1) := by decide +kernel
theorem dX5_hold_32 : decode cX5_hold 32 = .ok (.getfield 97, 3) := by decide +kernel
theorem dX5_hold_35 : decode cX5_hold 35 = .ok (.ireturn, 1) := by decide +kernel
theorem dX5_pass_0 : decode cX5_pass 0 = .ok (.aload_n 0, 1) := by decide +kernel
theorem dX5_pass_1 : decode cX5_pass 1 = .ok (.aload_n 0, 1) := by decide +kernel
theorem dX5_pass_2 : decode cX5_pass 2 = .ok (.getfield 94, 3) := by decide +kernel
theorem dX5_pass_5 : decode cX5_pass 5 = .ok (.ifCond .eq 11, 3) := by decide +kernel
theorem dX5_pass_8 : decode cX5_pass 8 = .ok (.aload_n 0, 1) := by decide +kernel
theorem dX5_pass_9 : decode cX5_pass 9 = .ok (.getfield 94, 3) := by decide +kernel
theorem dX5_pass_12 : decode cX5_pass 12 = .ok (.iconst 1, 1) := by decide +kernel
theorem dX5_pass_13 : decode cX5_pass 13 = .ok (.if_icmp .ne 7, 3) := by decide +kernel
theorem dX5_pass_16 : decode cX5_pass 16 = .ok (.iconst 0, 1) := by decide +kernel
theorem dX5_pass_17 : decode cX5_pass 17 = .ok (.goto 4, 3) := by decide +kernel
theorem dX5_pass_20 : decode cX5_pass 20 = .ok (.iconst 1, 1) := by decide +kernel
theorem dX5_pass_21 : decode cX5_pass 21 = .ok (.invokevirtual 100, 3) := by decide +kernel
theorem dX5_pass_24 : decode cX5_pass 24 = .ok (.ifCond .ne 5, 3) := by decide +kernel
theorem dX5_pass_27 : decode cX5_pass 27 = .ok (.iconst 0, 1) := by decide +kernel
theorem dX5_pass_28 : decode cX5_pass 28 = .ok (.ireturn, 1) := by decide +kernel
theorem dX5_pass_29 : decode cX5_pass 29 = .ok (.aload_n 0, 1) := by decide +kernel
theorem dX5_pass_30 : decode cX5_pass 30 = .ok (.getfield 94, 3) := by decide +kernel
theorem dX5_pass_33 : decode cX5_pass 33 = .ok (.ifCond .ne 10, 3) := by decide +kernel
theorem dX5_pass_36 : decode cX5_pass 36 = .ok (.aload_n 0, 1) := by decide +kernel
theorem dX5_pass_37 : decode cX5_pass 37 = .ok (.getfield 84, 3) := by decide +kernel
theorem dX5_pass_40 : decode cX5_pass 40 = .ok (.goto 7, 3) := by decide +kernel
theorem dX5_pass_43 : decode cX5_pass 43 = .ok (.aload_n 0, 1) := by decide +kernel
theorem dX5_pass_44 : decode cX5_pass 44 = .ok (.getfield 87, 3) := by decide +kernel
theorem dX5_pass_47 : decode cX5_pass 47 = .ok (.istore_n 1, 1) := by decide +kernel
theorem dX5_pass_48 : decode cX5_pass 48 = .ok (.aload_n 0, 1) := by decide +kernel
theorem dX5_pass_49 : decode cX5_pass 49 = .ok (.getfield 77, 3) := by decide +kernel
theorem dX5_pass_52 : decode cX5_pass 52 = .ok (.iconst 2, 1) := by decide +kernel
theorem dX5_pass_53 : decode cX5_pass 53 = .ok (.if_icmp .ne 16, 3) := by decide +kernel
theorem dX5_pass_56 : decode cX5_pass 56 = .ok (.aload_n 0, 1) := by decide +kernel
theorem dX5_pass_57 : decode cX5_pass 57 = .ok (.bipush 6, 2) := by decide +kernel
theorem dX5_pass_59 : decode cX5_pass 59 = .ok (.putfield 64, 3) := by decide +kernel
theorem dX5_pass_62 : decode cX5_pass 62 = .ok (.aload_n 0, 1) := by decide +kernel
theorem dX5_pass_63 : decode cX5_pass 63 = .ok (.invokevirtual 114, 3) := by decide +kernel
theorem dX5_pass_66 : decode cX5_pass 66 = .ok (.goto 78, 3) := by decide +kernel
theorem dX5_pass_69 : decode cX5_pass 69 = .ok (.aload_n 0, 1) := by decide +kernel
theorem dX5_pass_70 : decode cX5_pass 70 = .ok (.getfield 77, 3) := by decide +kernel
theorem dX5_pass_73 : decode cX5_pass 73 = .ok (.ifCond .ne 37, 3) := by decide +kernel
theorem dX5_pass_76 : decode cX5_pass 76 = .ok (.aload_n 0, 1) := by decide +kernel
theorem dX5_pass_77 : decode cX5_pass 77 = .ok (.iconst 1, 1) := by decide +kernel
theorem dX5_pass_78 : decode cX5_pass 78 = .ok (.putfield 77, 3) := by decide +kernel
theorem dX5_pass_81 : decode cX5_pass 81 = .ok (.aload_n 0, 1) := by decide +kernel
theorem dX5_pass_82 : decode cX5_pass 82 = .ok (.iload_n 1, 1) := by decide +kernel
theorem dX5_pass_83 : decode cX5_pass 83 = .ok (.putfield 84, 3) := by decide +kernel
theorem dX5_pass_86 : decode cX5_pass 86 = .ok (.aload_n 0, 1) := by decide +kernel
theorem dX5_pass_87 : decode cX5_pass 87 = .ok (.aload_n 0, 1) := by decide +kernel
theorem dX5_pass_88 : decode cX5_pass 88 = .ok (.invokevirtual 80, 3) := by decide +kernel
theorem dX5_pass_91 : decode cX5_pass 91 = .ok (.iconst 2, 1) := by decide +kernel
theorem dX5_pass_92 : decode cX5_pass 92 = .ok (.iadd, 1) := by decide +kernel
theorem dX5_pass_93 : decode cX5_pass 93 = .ok (.iconst 3, 1) := by decide +kernel
theorem dX5_pass_94 : decode cX5_pass 94 = .ok (.irem, 1) := by decide +kernel
theorem dX5_pass_95 : decode cX5_pass 95 = .ok (.putfield 87, 3) := by decide +kernel
theorem dX5_pass_98 : decode cX5_pass 98 = .ok (.aload_n 0, 1) := by decide +kernel
theorem dX5_pass_99 : decode cX5_pass 99 = .ok (.iconst 0, 1) := by decide +kernel
theorem dX5_pass_100 : decode cX5_pass 100 = .ok (.aload_n 0, 1) := by decide +kernel
theorem dX5_pass_101 : decode cX5_pass 101 = .ok (.getfield 87, 3) := by decide +kernel
theorem dX5_pass_104 : decode cX5_pass 104 = .ok (.invokevirtual 90, 3) := by decide +kernel
theorem dX5_pass_107 : decode cX5_pass 107 = .ok (.goto 37, 3) := by decide +kernel
theorem dX5_pass_110 : decode cX5_pass 110 = .ok (.aload_n 0, 1) := by decide +kernel
theorem dX5_pass_111 : decode cX5_pass 111 = .ok (.getfield 58, 3) := by decide +kernel
theorem dX5_pass_114 : decode cX5_pass 114 = .ok (.ifCond .le 11, 3) := by decide +kernel
theorem dX5_pass_117 : decode cX5_pass 117 = .ok (.aload_n 0, 1) := by decide +kernel
theorem dX5_pass_118 : decode cX5_pass 118 = .ok (.iload_n 1, 1) := by decide +kernel
theorem dX5_pass_119 : decode cX5_pass 119 = .ok (.invokevirtual 111, 3) := by decide +kernel
theorem dX5_pass_122 : decode cX5_pass 122 = .ok (.goto 22, 3) := by decide +kernel
theorem dX5_pass_125 : decode cX5_pass 125 = .ok (.aload_n 0, 1) := by decide +kernel
theorem dX5_pass_126 : decode cX5_pass 126 = .ok (.iconst 2, 1) := by decide +kernel
theorem dX5_pass_127 : decode cX5_pass 127 = .ok (.putfield 77, 3) := by decide +kernel
theorem dX5_pass_130 : decode cX5_pass 130 = .ok (.aload_n 0, 1) := by decide +kernel
theorem dX5_pass_131 : decode cX5_pass 131 = .ok (.iload_n 1, 1) := by decide +kernel
theorem dX5_pass_132 : decode cX5_pass 132 = .ok (.putfield 87, 3) := by decide +kernel
theorem dX5_pass_135 : decode cX5_pass 135 = .ok (.aload_n 0, 1) := by decide +kernel
theorem dX5_pass_136 : decode cX5_pass 136 = .ok (.iconst 0, 1) := by decide +kernel
theorem dX5_pass_137 : decode cX5_pass 137 = .ok (.aload_n 0, 1) := by decide +kernel
theorem dX5_pass_138 : decode cX5_pass 138 = .ok (.getfield 87, 3) := by decide +kernel
theorem dX5_pass_141 : decode cX5_pass 141 = .ok (.invokevirtual 90, 3) := by decide +kernel
theorem dX5_pass_144 : decode cX5_pass 144 = .ok (.aload_n 0, 1) := by decide +kernel
theorem dX5_pass_145 : decode cX5_pass 145 = .ok (.getfield 97, 3) := by decide +kernel
theorem dX5_pass_148 : decode cX5_pass 148 = .ok (.ireturn, 1) := by decide +kernel
theorem dX5_declares_0 : decode cX5_declares 0 = .ok (.aload_n 0, 1) := by decide +kernel
theorem dX5_declares_1 : decode cX5_declares 1 = .ok (.iload_n 1, 1) := by decide +kernel
theorem dX5_declares_2 : decode cX5_declares 2 = .ok (.putfield 61, 3) := by decide +kernel
theorem dX5_declares_5 : decode cX5_declares 5 = .ok (.aload_n 0, 1) := by decide +kernel
theorem dX5_declares_6 : decode cX5_declares 6 = .ok (.iconst 2, 1) := by decide +kernel
theorem dX5_declares_7 : decode cX5_declares 7 = .ok (.iload_n 1, 1) := by decide +kernel
theorem dX5_declares_8 : decode cX5_declares 8 = .ok (.invokevirtual 90, 3) := by decide +kernel
theorem dX5_declares_11 : decode cX5_declares 11 = .ok (.return_, 1) := by decide +kernel
theorem dX5_leads_0 : decode cX5_leads 0 = .ok (.aload_n 0, 1) := by decide +kernel
theorem dX5_leads_1 : decode cX5_leads 1 = .ok (.aload_n 0, 1) := by decide +kernel
theorem dX5_leads_2 : decode cX5_leads 2 = .ok (.invokevirtual 80, 3) := by decide +kernel
theorem dX5_leads_5 : decode cX5_leads 5 = .ok (.putfield 117, 3) := by decide +kernel
theorem dX5_leads_8 : decode cX5_leads 8 = .ok (.aload_n 0, 1) := by decide +kernel
theorem dX5_leads_9 : decode cX5_leads 9 = .ok (.iconst 0, 1) := by decide +kernel
theorem dX5_leads_10 : decode cX5_leads 10 = .ok (.putfield 74, 3) := by decide +kernel
theorem dX5_leads_13 : decode cX5_leads 13 = .ok (.aload_n 0, 1) := by decide +kernel
theorem dX5_leads_14 : decode cX5_leads 14 = .ok (.iconst 5, 1) := by decide +kernel
theorem dX5_leads_15 : decode cX5_leads 15 = .ok (.aload_n 0, 1) := by decide +kernel
theorem dX5_leads_16 : decode cX5_leads 16 = .ok (.getfield 117, 3) := by decide +kernel
theorem dX5_leads_19 : decode cX5_leads 19 = .ok (.invokevirtual 90, 3) := by decide +kernel
theorem dX5_leads_22 : decode cX5_leads 22 = .ok (.return_, 1) := by decide +kernel
theorem dX5_latestBid_0 : decode cX5_latestBid 0 = .ok (.aload_n 0, 1) := by decide +kernel
theorem dX5_latestBid_1 : decode cX5_latestBid 1 = .ok (.iconst 0, 1) := by decide +kernel
theorem dX5_latestBid_2 : decode cX5_latestBid 2 = .ok (.putfield 36, 3) := by decide +kernel
theorem dX5_latestBid_5 : decode cX5_latestBid 5 = .ok (.aload_n 0, 1) := by decide +kernel
theorem dX5_latestBid_6 : decode cX5_latestBid 6 = .ok (.getfield 58, 3) := by decide +kernel
theorem dX5_latestBid_9 : decode cX5_latestBid 9 = .ok (.ireturn, 1) := by decide +kernel
theorem dX5_nextBid_0 : decode cX5_nextBid 0 = .ok (.aload_n 0, 1) := by decide +kernel
theorem dX5_nextBid_1 : decode cX5_nextBid 1 = .ok (.iload_n 1, 1) := by decide +kernel
theorem dX5_nextBid_2 : decode cX5_nextBid 2 = .ok (.iconst 0, 1) := by decide +kernel
theorem dX5_nextBid_3 : decode cX5_nextBid 3 = .ok (.sipush 263, 3) := by decide +kernel
theorem dX5_nextBid_6 : decode cX5_nextBid 6 = .ok (.invokestatic 104, 3) := by decide +kernel
theorem dX5_nextBid_9 : decode cX5_nextBid 9 = .ok (.ifCond .eq 7, 3) := by decide +kernel
theorem dX5_nextBid_12 : decode cX5_nextBid 12 = .ok (.iconst 0, 1) := by decide +kernel
theorem dX5_nextBid_13 : decode cX5_nextBid 13 = .ok (.goto 4, 3) := by decide +kernel
theorem dX5_nextBid_16 : decode cX5_nextBid 16 = .ok (.iconst 1, 1) := by decide +kernel
theorem dX5_nextBid_17 : decode cX5_nextBid 17 = .ok (.invokevirtual 100, 3) := by decide +kernel
theorem dX5_nextBid_20 : decode cX5_nextBid 20 = .ok (.ifCond .ne 5, 3) := by decide +kernel
theorem dX5_nextBid_23 : decode cX5_nextBid 23 = .ok (.iconst 0, 1) := by decide +kernel
theorem dX5_nextBid_24 : decode cX5_nextBid 24 = .ok (.ireturn, 1) := by decide +kernel
theorem dX5_nextBid_25 : decode cX5_nextBid 25 = .ok (.iload_n 1, 1) := by decide +kernel
theorem dX5_nextBid_26 : decode cX5_nextBid 26 = .ok (.iconst 1, 1) := by decide +kernel
theorem dX5_nextBid_27 : decode cX5_nextBid 27 = .ok (.iadd, 1) := by decide +kernel
theorem dX5_nextBid_28 : decode cX5_nextBid 28 = .ok (.istore_n 2, 1) := by decide +kernel
theorem dX5_nextBid_29 : decode cX5_nextBid 29 = .ok (.iload_n 2, 1) := by decide +kernel
theorem dX5_nextBid_30 : decode cX5_nextBid 30 = .ok (.invokestatic 108, 3) := by decide +kernel
theorem dX5_nextBid_33 : decode cX5_nextBid 33 = .ok (.ifCond .ne 9, 3) := by decide +kernel
theorem dX5_nextBid_36 : decode cX5_nextBid 36 = .ok (.iinc 2 1, 3) := by decide +kernel
theorem dX5_nextBid_39 : decode cX5_nextBid 39 = .ok (.goto (-10), 3) := by decide +kernel
theorem dX5_nextBid_42 : decode cX5_nextBid 42 = .ok (.iload_n 2, 1) := by decide +kernel
theorem dX5_nextBid_43 : decode cX5_nextBid 43 = .ok (.ireturn, 1) := by decide +kernel
theorem dX5_declarer_0 : decode cX5_declarer 0 = .ok (.aload_n 0, 1) := by decide +kernel
theorem dX5_declarer_1 : decode cX5_declarer 1 = .ok (.iconst 0, 1) := by decide +kernel
theorem dX5_declarer_2 : decode cX5_declarer 2 = .ok (.putfield 36, 3) := by decide +kernel
theorem dX5_declarer_5 : decode cX5_declarer 5 = .ok (.aload_n 0, 1) := by decide +kernel
theorem dX5_declarer_6 : decode cX5_declarer 6 = .ok (.getfield 61, 3) := by decide +kernel
theorem dX5_declarer_9 : decode cX5_declarer 9 = .ok (.ireturn, 1) := by decide +kernel
theorem dX5_takeSkat_0 : decode cX5_takeSkat 0 = .ok (.aload_n 0, 1) := by decide +kernel
theorem dX5_takeSkat_1 : decode cX5_takeSkat 1 = .ok (.aload_n 0, 1) := by decide +kernel
theorem dX5_takeSkat_2 : decode cX5_takeSkat 2 = .ok (.getfield 94, 3) := by decide +kernel
theorem dX5_takeSkat_5 : decode cX5_takeSkat 5 = .ok (.iconst 2, 1) := by decide +kernel
theorem dX5_takeSkat_6 : decode cX5_takeSkat 6 = .ok (.if_icmp .ne 7, 3) := by decide +kernel
theorem dX5_takeSkat_9 : decode cX5_takeSkat 9 = .ok (.iconst 0, 1) := by decide +kernel
theorem dX5_takeSkat_10 : decode cX5_takeSkat 10 = .ok (.goto 4, 3) := by decide +kernel
theorem dX5_takeSkat_13 : decode cX5_takeSkat 13 = .ok (.iconst 1, 1) := by decide +kernel
theorem dX5_takeSkat_14 : decode cX5_takeSkat 14 = .ok (.invokevirtual 100, 3) := by decide +kernel
theorem dX5_takeSkat_17 : decode cX5_takeSkat 17 = .ok (.ifCond .ne 5, 3) := by decide +kernel
theorem dX5_takeSkat_20 : decode cX5_takeSkat 20 = .ok (.lconst 0, 1) := by decide +kernel
theorem dX5_takeSkat_21 : decode cX5_takeSkat 21 = .ok (.lreturn, 1) := by decide +kernel
theorem dX5_takeSkat_22 : decode cX5_takeSkat 22 = .ok (.aload_n 0, 1) := by decide +kernel
theorem dX5_takeSkat_23 : decode cX5_takeSkat 23 = .ok (.getfield 13, 3) := by decide +kernel
theorem dX5_takeSkat_26 : decode cX5_takeSkat 26 = .ok (.aload_n 0, 1) := by decide +kernel
theorem dX5_takeSkat_27 : decode cX5_takeSkat 27 = .ok (.getfield 61, 3) := by decide +kernel
theorem dX5_takeSkat_30 : decode cX5_takeSkat 30 = .ok (.dup2, 1) := by decide +kernel
theorem dX5_takeSkat_31 : decode cX5_takeSkat 31 = .ok (.laload, 1) := by decide +kernel
theorem dX5_takeSkat_32 : decode cX5_takeSkat 32 = .ok (.aload_n 0, 1) := by decide +kernel
theorem dX5_takeSkat_33 : decode cX5_takeSkat 33 = .ok (.getfield 54, 3) := by decide +kernel
theorem dX5_takeSkat_36 : decode cX5_takeSkat 36 = .ok (.lor, 1) := by decide +kernel
theorem dX5_takeSkat_37 : decode cX5_takeSkat 37 = .ok (.lastore, 1) := by decide +kernel
theorem dX5_takeSkat_38 : decode cX5_takeSkat 38 = .ok (.aload_n 0, 1) := by decide +kernel
theorem dX5_takeSkat_39 : decode cX5_takeSkat 39 = .ok (.getfield 54, 3) := by decide +kernel
theorem dX5_takeSkat_42 : decode cX5_takeSkat 42 = .ok (.lstore_n 1, 1) := by decide +kernel
theorem dX5_takeSkat_43 : decode cX5_takeSkat 43 = .ok (.aload_n 0, 1) := by decide +kernel
theorem dX5_takeSkat_44 : decode cX5_takeSkat 44 = .ok (.lconst 0, 1) := by decide +kernel
theorem dX5_takeSkat_45 : decode cX5_takeSkat 45 = .ok (.putfield 54, 3) := by decide +kernel
theorem dX5_takeSkat_48 : decode cX5_takeSkat 48 = .ok (.aload_n 0, 1) := by decide +kernel
theorem dX5_takeSkat_49 : decode cX5_takeSkat 49 = .ok (.iconst 3, 1) := by decide +kernel
theorem dX5_takeSkat_50 : decode cX5_takeSkat 50 = .ok (.aload_n 0, 1) := by decide +kernel
theorem dX5_takeSkat_51 : decode cX5_takeSkat 51 = .ok (.getfield 61, 3) := by decide +kernel
theorem dX5_takeSkat_54 : decode cX5_takeSkat 54 = .ok (.invokevirtual 90, 3) := by decide +kernel
theorem dX5_takeSkat_57 : decode cX5_takeSkat 57 = .ok (.lload_n 1, 1) := by decide +kernel
theorem dX5_takeSkat_58 : decode cX5_takeSkat 58 = .ok (.lreturn, 1) := by decide +kernel
theorem dX5_worth_0 : decode cX5_worth 0 = .ok (.iload_n 0, 1) := by decide +kernel
theorem dX5_worth_1 : decode cX5_worth 1 = .ok (.bipush 8, 2) := by decide +kernel
theorem dX5_worth_3 : decode cX5_worth 3 = .ok (.irem, 1) := by decide +kernel
theorem dX5_worth_4 : decode cX5_worth 4 = .ok (.istore_n 1, 1) := by decide +kernel
theorem dX5_worth_5 : decode cX5_worth 5 = .ok (.iload_n 1, 1) := by decide +kernel
theorem dX5_worth_6 : decode cX5_worth 6 = .ok (.iconst 3, 1) := by decide +kernel
theorem dX5_worth_7 : decode cX5_worth 7 = .ok (.if_icmp .ge 7, 3) := by decide +kernel
theorem dX5_worth_10 : decode cX5_worth 10 = .ok (.iconst 0, 1) := by decide +kernel
theorem dX5_worth_11 : decode cX5_worth 11 = .ok (.goto 35, 3) := by decide +kernel
theorem dX5_worth_14 : decode cX5_worth 14 = .ok (.iload_n 1, 1) := by decide +kernel
theorem dX5_worth_15 : decode cX5_worth 15 = .ok (.bipush 7, 2) := by decide +kernel
theorem dX5_worth_17 : decode cX5_worth 17 = .ok (.if_icmp .ne 7, 3) := by decide +kernel
theorem dX5_worth_20 : decode cX5_worth 20 = .ok (.iconst 2, 1) := by decide +kernel
theorem dX5_worth_21 : decode cX5_worth 21 = .ok (.goto 25, 3) := by decide +kernel
theorem dX5_worth_24 : decode cX5_worth 24 = .ok (.iload_n 1, 1) := by decide +kernel
theorem dX5_worth_25 : decode cX5_worth 25 = .ok (.bipush 6, 2) := by decide +kernel
theorem dX5_worth_27 : decode cX5_worth 27 = .ok (.if_icmp .ne 8, 3) := by decide +kernel
theorem dX5_worth_30 : decode cX5_worth 30 = .ok (.bipush 11, 2) := by decide +kernel
theorem dX5_worth_32 : decode cX5_worth 32 = .ok (.goto 14, 3) := by decide +kernel
theorem dX5_worth_35 : decode cX5_worth 35 = .ok (.iload_n 1, 1) := by decide +kernel
theorem dX5_worth_36 : decode cX5_worth 36 = .ok (.iconst 5, 1) := by decide +kernel
theorem dX5_worth_37 : decode cX5_worth 37 = .ok (.if_icmp .ne 8, 3) := by decide +kernel
theorem dX5_worth_40 : decode cX5_worth 40 = .ok (.bipush 10, 2) := by decide +kernel
theorem dX5_worth_42 : decode cX5_worth 42 = .ok (.goto 4, 3) := by decide +kernel
theorem dX5_worth_45 : decode cX5_worth 45 = .ok (.iload_n 1, 1) := by decide +kernel
theorem dX5_worth_46 : decode cX5_worth 46 = .ok (.ireturn, 1) := by decide +kernel
theorem dX5_worthOf_0 : decode cX5_worthOf 0 = .ok (.iconst 0, 1) := by decide +kernel
theorem dX5_worthOf_1 : decode cX5_worthOf 1 = .ok (.istore_n 2, 1) := by decide +kernel
theorem dX5_worthOf_2 : decode cX5_worthOf 2 = .ok (.iconst 0, 1) := by decide +kernel
theorem dX5_worthOf_3 : decode cX5_worthOf 3 = .ok (.istore_n 3, 1) := by decide +kernel
theorem dX5_worthOf_4 : decode cX5_worthOf 4 = .ok (.iload_n 3, 1) := by decide +kernel
theorem dX5_worthOf_5 : decode cX5_worthOf 5 = .ok (.bipush 32, 2) := by decide +kernel
theorem dX5_worthOf_7 : decode cX5_worthOf 7 = .ok (.if_icmp .ge 28, 3) := by decide +kernel
theorem dX5_worthOf_10 : decode cX5_worthOf 10 = .ok (.iload_n 2, 1) := by decide +kernel
theorem dX5_worthOf_11 : decode cX5_worthOf 11 = .ok (.lload_n 0, 1) := by decide +kernel
theorem dX5_worthOf_12 : decode cX5_worthOf 12 = .ok (.iload_n 3, 1) := by decide +kernel
theorem dX5_worthOf_13 : decode cX5_worthOf 13 = .ok (.invokestatic 120, 3) := by decide +kernel
theorem dX5_worthOf_16 : decode cX5_worthOf 16 = .ok (.ifCond .eq 10, 3) := by decide +kernel
theorem dX5_worthOf_19 : decode cX5_worthOf 19 = .ok (.iload_n 3, 1) := by decide +kernel
theorem dX5_worthOf_20 : decode cX5_worthOf 20 = .ok (.invokestatic 124, 3) := by decide +kernel
theorem dX5_worthOf_23 : decode cX5_worthOf 23 = .ok (.goto 4, 3) := by decide +kernel
theorem dX5_worthOf_26 : decode cX5_worthOf 26 = .ok (.iconst 0, 1) := by decide +kernel
theorem dX5_worthOf_27 : decode cX5_worthOf 27 = .ok (.iadd, 1) := by decide +kernel
theorem dX5_worthOf_28 : decode cX5_worthOf 28 = .ok (.istore_n 2, 1) := by decide +kernel
theorem dX5_worthOf_29 : decode cX5_worthOf 29 = .ok (.iinc 3 1, 3) := by decide +kernel
theorem dX5_worthOf_32 : decode cX5_worthOf 32 = .ok (.goto (-28), 3) := by decide +kernel
theorem dX5_worthOf_35 : decode cX5_worthOf 35 = .ok (.iload_n 2, 1) := by decide +kernel
theorem dX5_worthOf_36 : decode cX5_worthOf 36 = .ok (.ireturn, 1) := by decide +kernel
theorem dX5_putAway_0 : decode cX5_putAway 0 = .ok (.iload_n 1, 1) := by decide +kernel
theorem dX5_putAway_1 : decode cX5_putAway 1 = .ok (.iconst 0, 1) := by decide +kernel
theorem dX5_putAway_2 : decode cX5_putAway 2 = .ok (.bipush 31, 2) := by decide +kernel
theorem dX5_putAway_4 : decode cX5_putAway 4 = .ok (.invokestatic 104, 3) := by decide +kernel
theorem dX5_putAway_7 : decode cX5_putAway 7 = .ok (.ifCond .eq 17, 3) := by decide +kernel
theorem dX5_putAway_10 : decode cX5_putAway 10 = .ok (.iload_n 2, 1) := by decide +kernel
theorem dX5_putAway_11 : decode cX5_putAway 11 = .ok (.iconst 0, 1) := by decide +kernel
theorem dX5_putAway_12 : decode cX5_putAway 12 = .ok (.bipush 31, 2) := by decide +kernel
theorem dX5_putAway_14 : decode cX5_putAway 14 = .ok (.invokestatic 104, 3) := by decide +kernel
theorem dX5_putAway_17 : decode cX5_putAway 17 = .ok (.ifCond .eq 7, 3) := by decide +kernel
theorem dX5_putAway_20 : decode cX5_putAway 20 = .ok (.iconst 1, 1) := by decide +kernel
theorem dX5_putAway_21 : decode cX5_putAway 21 = .ok (.goto 4, 3) := by decide +kernel
theorem dX5_putAway_24 : decode cX5_putAway 24 = .ok (.iconst 0, 1) := by decide +kernel
theorem dX5_putAway_25 : decode cX5_putAway 25 = .ok (.istore_n 3, 1) := by decide +kernel
theorem dX5_putAway_26 : decode cX5_putAway 26 = .ok (.aload_n 0, 1) := by decide +kernel
theorem dX5_putAway_27 : decode cX5_putAway 27 = .ok (.iload_n 3, 1) := by decide +kernel
theorem dX5_putAway_28 : decode cX5_putAway 28 = .ok (.ifCond .ne 7, 3) := by decide +kernel
theorem dX5_putAway_31 : decode cX5_putAway 31 = .ok (.iconst 1, 1) := by decide +kernel
theorem dX5_putAway_32 : decode cX5_putAway 32 = .ok (.goto 57, 3) := by decide +kernel
theorem dX5_putAway_35 : decode cX5_putAway 35 = .ok (.iload_n 1, 1) := by decide +kernel
theorem dX5_putAway_36 : decode cX5_putAway 36 = .ok (.iload_n 2, 1) := by decide +kernel
theorem dX5_putAway_37 : decode cX5_putAway 37 = .ok (.if_icmp .ne 7, 3) := by decide +kernel
theorem dX5_putAway_40 : decode cX5_putAway 40 = .ok (.iconst 2, 1) := by decide +kernel
theorem dX5_putAway_41 : decode cX5_putAway 41 = .ok (.goto 48, 3) := by decide +kernel
theorem dX5_putAway_44 : decode cX5_putAway 44 = .ok (.aload_n 0, 1) := by decide +kernel
theorem dX5_putAway_45 : decode cX5_putAway 45 = .ok (.getfield 94, 3) := by decide +kernel
theorem dX5_putAway_48 : decode cX5_putAway 48 = .ok (.iconst 3, 1) := by decide +kernel
theorem dX5_putAway_49 : decode cX5_putAway 49 = .ok (.if_icmp .ne 35, 3) := by decide +kernel
theorem dX5_putAway_52 : decode cX5_putAway 52 = .ok (.aload_n 0, 1) := by decide +kernel
theorem dX5_putAway_53 : decode cX5_putAway 53 = .ok (.getfield 13, 3) := by decide +kernel
theorem dX5_putAway_56 : decode cX5_putAway 56 = .ok (.aload_n 0, 1) := by decide +kernel
theorem dX5_putAway_57 : decode cX5_putAway 57 = .ok (.getfield 97, 3) := by decide +kernel
theorem dX5_putAway_60 : decode cX5_putAway 60 = .ok (.laload, 1) := by decide +kernel
theorem dX5_putAway_61 : decode cX5_putAway 61 = .ok (.iload_n 1, 1) := by decide +kernel
theorem dX5_putAway_62 : decode cX5_putAway 62 = .ok (.invokestatic 120, 3) := by decide +kernel
theorem dX5_putAway_65 : decode cX5_putAway 65 = .ok (.ifCond .eq 19, 3) := by decide +kernel
theorem dX5_putAway_68 : decode cX5_putAway 68 = .ok (.aload_n 0, 1) := by decide +kernel
theorem dX5_putAway_69 : decode cX5_putAway 69 = .ok (.getfield 13, 3) := by decide +kernel
theorem dX5_putAway_72 : decode cX5_putAway 72 = .ok (.aload_n 0, 1) := by decide +kernel
theorem dX5_putAway_73 : decode cX5_putAway 73 = .ok (.getfield 97, 3) := by decide +kernel
theorem dX5_putAway_76 : decode cX5_putAway 76 = .ok (.laload, 1) := by decide +kernel
theorem dX5_putAway_77 : decode cX5_putAway 77 = .ok (.iload_n 2, 1) := by decide +kernel
theorem dX5_putAway_78 : decode cX5_putAway 78 = .ok (.invokestatic 120, 3) := by decide +kernel
theorem dX5_putAway_81 : decode cX5_putAway 81 = .ok (.ifCond .ne 7, 3) := by decide +kernel
theorem dX5_putAway_84 : decode cX5_putAway 84 = .ok (.iconst 3, 1) := by decide +kernel
theorem dX5_putAway_85 : decode cX5_putAway 85 = .ok (.goto 4, 3) := by decide +kernel
theorem dX5_putAway_88 : decode cX5_putAway 88 = .ok (.iconst 0, 1) := by decide +kernel
theorem dX5_putAway_89 : decode cX5_putAway 89 = .ok (.invokevirtual 100, 3) := by decide +kernel
theorem dX5_putAway_92 : decode cX5_putAway 92 = .ok (.ifCond .ne 5, 3) := by decide +kernel
theorem dX5_putAway_95 : decode cX5_putAway 95 = .ok (.iconst 0, 1) := by decide +kernel
theorem dX5_putAway_96 : decode cX5_putAway 96 = .ok (.ireturn, 1) := by decide +kernel
theorem dX5_putAway_97 : decode cX5_putAway 97 = .ok (.aload_n 0, 1) := by decide +kernel
theorem dX5_putAway_98 : decode cX5_putAway 98 = .ok (.lconst 1, 1) := by decide +kernel
theorem dX5_putAway_99 : decode cX5_putAway 99 = .ok (.iload_n 1, 1) := by decide +kernel
theorem dX5_putAway_100 : decode cX5_putAway 100 = .ok (.lshl, 1) := by decide +kernel
theorem dX5_putAway_101 : decode cX5_putAway 101 = .ok (.lconst 1, 1) := by decide +kernel
theorem dX5_putAway_102 : decode cX5_putAway 102 = .ok (.iload_n 2, 1) := by decide +kernel
theorem dX5_putAway_103 : decode cX5_putAway 103 = .ok (.lshl, 1) := by decide +kernel
theorem dX5_putAway_104 : decode cX5_putAway 104 = .ok (.lor, 1) := by decide +kernel
theorem dX5_putAway_105 : decode cX5_putAway 105 = .ok (.putfield 54, 3) := by decide +kernel
theorem dX5_putAway_108 : decode cX5_putAway 108 = .ok (.aload_n 0, 1) := by decide +kernel
theorem dX5_putAway_109 : decode cX5_putAway 109 = .ok (.getfield 13, 3) := by decide +kernel
theorem dX5_putAway_112 : decode cX5_putAway 112 = .ok (.aload_n 0, 1) := by decide +kernel
theorem dX5_putAway_113 : decode cX5_putAway 113 = .ok (.getfield 97, 3) := by decide +kernel
theorem dX5_putAway_116 : decode cX5_putAway 116 = .ok (.dup2, 1) := by decide +kernel
theorem dX5_putAway_117 : decode cX5_putAway 117 = .ok (.laload, 1) := by decide +kernel
theorem dX5_putAway_118 : decode cX5_putAway 118 = .ok (.aload_n 0, 1) := by decide +kernel
theorem dX5_putAway_119 : decode cX5_putAway 119 = .ok (.getfield 54, 3) := by decide +kernel
theorem dX5_putAway_122 : decode cX5_putAway 122 = .ok (.ldc2_w 128, 3) := by decide +kernel
theorem dX5_putAway_125 : decode cX5_putAway 125 = .ok (.lxor, 1) := by decide +kernel
theorem dX5_putAway_126 : decode cX5_putAway 126 = .ok (.land, 1) := by decide +kernel
theorem dX5_putAway_127 : decode cX5_putAway 127 = .ok (.lastore, 1) := by decide +kernel
theorem dX5_putAway_128 : decode cX5_putAway 128 = .ok (.aload_n 0, 1) := by decide +kernel
theorem dX5_putAway_129 : decode cX5_putAway 129 = .ok (.iconst 4, 1) := by decide +kernel
theorem dX5_putAway_130 : decode cX5_putAway 130 = .ok (.aload_n 0, 1) := by decide +kernel
theorem dX5_putAway_131 : decode cX5_putAway 131 = .ok (.getfield 97, 3) := by decide +kernel
theorem dX5_putAway_134 : decode cX5_putAway 134 = .ok (.invokevirtual 90, 3) := by decide +kernel
theorem dX5_putAway_137 : decode cX5_putAway 137 = .ok (.aload_n 0, 1) := by decide +kernel
theorem dX5_putAway_138 : decode cX5_putAway 138 = .ok (.getfield 54, 3) := by decide +kernel
theorem dX5_putAway_141 : decode cX5_putAway 141 = .ok (.invokestatic 130, 3) := by decide +kernel
theorem dX5_putAway_144 : decode cX5_putAway 144 = .ok (.ireturn, 1) := by decide +kernel
theorem dX5_isExtra_0 : decode cX5_isExtra 0 = .ok (.iload_n 1, 1) := by decide +kernel
theorem dX5_isExtra_1 : decode cX5_isExtra 1 = .ok (.iconst 5, 1) := by decide +kernel
theorem dX5_isExtra_2 : decode cX5_isExtra 2 = .ok (.if_icmp .ne 20, 3) := by decide +kernel
theorem dX5_isExtra_5 : decode cX5_isExtra 5 = .ok (.iload_n 2, 1) := by decide +kernel
theorem dX5_isExtra_6 : decode cX5_isExtra 6 = .ok (.ifCond .eq 8, 3) := by decide +kernel
theorem dX5_isExtra_9 : decode cX5_isExtra 9 = .ok (.iload_n 2, 1) := by decide +kernel
theorem dX5_isExtra_10 : decode cX5_isExtra 10 = .ok (.iconst 3, 1) := by decide +kernel
theorem dX5_isExtra_11 : decode cX5_isExtra 11 = .ok (.if_icmp .ne 7, 3) := by decide +kernel
theorem dX5_isExtra_14 : decode cX5_isExtra 14 = .ok (.iconst 1, 1) := by decide +kernel
theorem dX5_isExtra_15 : decode cX5_isExtra 15 = .ok (.goto 24, 3) := by decide +kernel
theorem dX5_isExtra_18 : decode cX5_isExtra 18 = .ok (.iconst 0, 1) := by decide +kernel
theorem dX5_isExtra_19 : decode cX5_isExtra 19 = .ok (.goto 20, 3) := by decide +kernel
theorem dX5_isExtra_22 : decode cX5_isExtra 22 = .ok (.iload_n 2, 1) := by decide +kernel
theorem dX5_isExtra_23 : decode cX5_isExtra 23 = .ok (.ifCond .eq 11, 3) := by decide +kernel
theorem dX5_isExtra_26 : decode cX5_isExtra 26 = .ok (.aload_n 0, 1) := by decide +kernel
theorem dX5_isExtra_27 : decode cX5_isExtra 27 = .ok (.getfield 94, 3) := by decide +kernel
theorem dX5_isExtra_30 : decode cX5_isExtra 30 = .ok (.iconst 2, 1) := by decide +kernel
theorem dX5_isExtra_31 : decode cX5_isExtra 31 = .ok (.if_icmp .ne 7, 3) := by decide +kernel
theorem dX5_isExtra_34 : decode cX5_isExtra 34 = .ok (.iconst 1, 1) := by decide +kernel
theorem dX5_isExtra_35 : decode cX5_isExtra 35 = .ok (.goto 4, 3) := by decide +kernel
theorem dX5_isExtra_38 : decode cX5_isExtra 38 = .ok (.iconst 0, 1) := by decide +kernel
theorem dX5_isExtra_39 : decode cX5_isExtra 39 = .ok (.ireturn, 1) := by decide +kernel
theorem dX5_announce_0 : decode cX5_announce 0 = .ok (.iload_n 1, 1) := by decide +kernel
theorem dX5_announce_1 : decode cX5_announce 1 = .ok (.iconst 0, 1) := by decide +kernel
theorem dX5_announce_2 : decode cX5_announce 2 = .ok (.iconst 5, 1) := by decide +kernel
theorem dX5_announce_3 : decode cX5_announce 3 = .ok (.invokestatic 104, 3) := by decide +kernel
theorem dX5_announce_6 : decode cX5_announce 6 = .ok (.ifCond .eq 16, 3) := by decide +kernel
theorem dX5_announce_9 : decode cX5_announce 9 = .ok (.iload_n 2, 1) := by decide +kernel
theorem dX5_announce_10 : decode cX5_announce 10 = .ok (.iconst 0, 1) := by decide +kernel
theorem dX5_announce_11 : decode cX5_announce 11 = .ok (.iconst 3, 1) := by decide +kernel
theorem dX5_announce_12 : decode cX5_announce 12 = .ok (.invokestatic 104, 3) := by decide +kernel
theorem dX5_announce_15 : decode cX5_announce 15 = .ok (.ifCond .eq 7, 3) := by decide +kernel
theorem dX5_announce_18 : decode cX5_announce 18 = .ok (.iconst 1, 1) := by decide +kernel
theorem dX5_announce_19 : decode cX5_announce 19 = .ok (.goto 4, 3) := by decide +kernel
theorem dX5_announce_22 : decode cX5_announce 22 = .ok (.iconst 0, 1) := by decide +kernel
theorem dX5_announce_23 : decode cX5_announce 23 = .ok (.istore_n 3, 1) := by decide +kernel
theorem dX5_announce_24 : decode cX5_announce 24 = .ok (.aload_n 0, 1) := by decide +kernel
theorem dX5_announce_25 : decode cX5_announce 25 = .ok (.getfield 94, 3) := by decide +kernel
theorem dX5_announce_28 : decode cX5_announce 28 = .ok (.iconst 2, 1) := by decide +kernel
theorem dX5_announce_29 : decode cX5_announce 29 = .ok (.if_icmp .eq 11, 3) := by decide +kernel
theorem dX5_announce_32 : decode cX5_announce 32 = .ok (.aload_n 0, 1) := by decide +kernel
theorem dX5_announce_33 : decode cX5_announce 33 = .ok (.getfield 94, 3) := by decide +kernel
theorem dX5_announce_36 : decode cX5_announce 36 = .ok (.iconst 4, 1) := by decide +kernel
theorem dX5_announce_37 : decode cX5_announce 37 = .ok (.if_icmp .ne 7, 3) := by decide +kernel
theorem dX5_announce_40 : decode cX5_announce 40 = .ok (.iconst 1, 1) := by decide +kernel
theorem dX5_announce_41 : decode cX5_announce 41 = .ok (.goto 4, 3) := by decide +kernel
theorem dX5_announce_44 : decode cX5_announce 44 = .ok (.iconst 0, 1) := by decide +kernel
theorem dX5_announce_45 : decode cX5_announce 45 = .ok (.istore 4, 2) := by decide +kernel
theorem dX5_announce_47 : decode cX5_announce 47 = .ok (.aload_n 0, 1) := by decide +kernel
theorem dX5_announce_48 : decode cX5_announce 48 = .ok (.iload_n 3, 1) := by decide +kernel
theorem dX5_announce_49 : decode cX5_announce 49 = .ok (.ifCond .ne 7, 3) := by decide +kernel
theorem dX5_announce_52 : decode cX5_announce 52 = .ok (.iconst 1, 1) := by decide +kernel
theorem dX5_announce_53 : decode cX5_announce 53 = .ok (.goto 22, 3) := by decide +kernel
theorem dX5_announce_56 : decode cX5_announce 56 = .ok (.iload 4, 2) := by decide +kernel
theorem dX5_announce_58 : decode cX5_announce 58 = .ok (.ifCond .eq 12, 3) := by decide +kernel
theorem dX5_announce_61 : decode cX5_announce 61 = .ok (.aload_n 0, 1) := by decide +kernel
theorem dX5_announce_62 : decode cX5_announce 62 = .ok (.iload_n 1, 1) := by decide +kernel
theorem dX5_announce_63 : decode cX5_announce 63 = .ok (.iload_n 2, 1) := by decide +kernel
theorem dX5_announce_64 : decode cX5_announce 64 = .ok (.invokevirtual 134, 3) := by decide +kernel
theorem dX5_announce_67 : decode cX5_announce 67 = .ok (.ifCond .ne 7, 3) := by decide +kernel
theorem dX5_announce_70 : decode cX5_announce 70 = .ok (.iconst 2, 1) := by decide +kernel
theorem dX5_announce_71 : decode cX5_announce 71 = .ok (.goto 4, 3) := by decide +kernel
theorem dX5_announce_74 : decode cX5_announce 74 = .ok (.iconst 0, 1) := by decide +kernel
theorem dX5_announce_75 : decode cX5_announce 75 = .ok (.invokevirtual 100, 3) := by decide +kernel
theorem dX5_announce_78 : decode cX5_announce 78 = .ok (.ifCond .ne 5, 3) := by decide +kernel
theorem dX5_announce_81 : decode cX5_announce 81 = .ok (.iconst 0, 1) := by decide +kernel
theorem dX5_announce_82 : decode cX5_announce 82 = .ok (.ireturn, 1) := by decide +kernel
theorem dX5_announce_83 : decode cX5_announce 83 = .ok (.aload_n 0, 1) := by decide +kernel
theorem dX5_announce_84 : decode cX5_announce 84 = .ok (.iload_n 1, 1) := by decide +kernel
theorem dX5_announce_85 : decode cX5_announce 85 = .ok (.putfield 64, 3) := by decide +kernel
theorem dX5_announce_88 : decode cX5_announce 88 = .ok (.aload_n 0, 1) := by decide +kernel
theorem dX5_announce_89 : decode cX5_announce 89 = .ok (.iload_n 2, 1) := by decide +kernel
theorem dX5_announce_90 : decode cX5_announce 90 = .ok (.putfield 67, 3) := by decide +kernel
theorem dX5_announce_93 : decode cX5_announce 93 = .ok (.aload_n 0, 1) := by decide +kernel
theorem dX5_announce_94 : decode cX5_announce 94 = .ok (.aload_n 0, 1) := by decide +kernel
theorem dX5_announce_95 : decode cX5_announce 95 = .ok (.getfield 94, 3) := by decide +kernel
theorem dX5_announce_98 : decode cX5_announce 98 = .ok (.iconst 2, 1) := by decide +kernel
theorem dX5_announce_99 : decode cX5_announce 99 = .ok (.if_icmp .ne 7, 3) := by decide +kernel
theorem dX5_announce_102 : decode cX5_announce 102 = .ok (.iconst 1, 1) := by decide +kernel
theorem dX5_announce_103 : decode cX5_announce 103 = .ok (.goto 4, 3) := by decide +kernel
theorem dX5_announce_106 : decode cX5_announce 106 = .ok (.iconst 0, 1) := by decide +kernel
theorem dX5_announce_107 : decode cX5_announce 107 = .ok (.putfield 70, 3) := by decide +kernel
theorem dX5_announce_110 : decode cX5_announce 110 = .ok (.aload_n 0, 1) := by decide +kernel
theorem dX5_announce_111 : decode cX5_announce 111 = .ok (.getfield 23, 3) := by decide +kernel
theorem dX5_announce_114 : decode cX5_announce 114 = .ok (.aload_n 0, 1) := by decide +kernel
theorem dX5_announce_115 : decode cX5_announce 115 = .ok (.getfield 61, 3) := by decide +kernel
theorem dX5_announce_118 : decode cX5_announce 118 = .ok (.dup2, 1) := by decide +kernel
theorem dX5_announce_119 : decode cX5_announce 119 = .ok (.iaload, 1) := by decide +kernel
theorem dX5_announce_120 : decode cX5_announce 120 = .ok (.aload_n 0, 1) := by decide +kernel
theorem dX5_announce_121 : decode cX5_announce 121 = .ok (.getfield 54, 3) := by decide +kernel
theorem dX5_announce_124 : decode cX5_announce 124 = .ok (.invokestatic 130, 3) := by decide +kernel
theorem dX5_announce_127 : decode cX5_announce 127 = .ok (.iadd, 1) := by decide +kernel
theorem dX5_announce_128 : decode cX5_announce 128 = .ok (.iastore, 1) := by decide +kernel
theorem dX5_announce_129 : decode cX5_announce 129 = .ok (.aload_n 0, 1) := by decide +kernel
theorem dX5_announce_130 : decode cX5_announce 130 = .ok (.invokevirtual 114, 3) := by decide +kernel
theorem dX5_announce_133 : decode cX5_announce 133 = .ok (.aload_n 0, 1) := by decide +kernel
theorem dX5_announce_134 : decode cX5_announce 134 = .ok (.getfield 97, 3) := by decide +kernel
theorem dX5_announce_137 : decode cX5_announce 137 = .ok (.ireturn, 1) := by decide +kernel
theorem dX5_contract_0 : decode cX5_contract 0 = .ok (.aload_n 0, 1) := by decide +kernel
theorem dX5_contract_1 : decode cX5_contract 1 = .ok (.iconst 0, 1) := by decide +kernel
theorem dX5_contract_2 : decode cX5_contract 2 = .ok (.putfield 36, 3) := by decide +kernel
theorem dX5_contract_5 : decode cX5_contract 5 = .ok (.aload_n 0, 1) := by decide +kernel
theorem dX5_contract_6 : decode cX5_contract 6 = .ok (.getfield 64, 3) := by decide +kernel
theorem dX5_contract_9 : decode cX5_contract 9 = .ok (.ireturn, 1) := by decide +kernel
theorem dX5_trump_0 : decode cX5_trump 0 = .ok (.iload_n 0, 1) := by decide +kernel
theorem dX5_trump_1 : decode cX5_trump 1 = .ok (.iconst 4, 1) := by decide +kernel
theorem dX5_trump_2 : decode cX5_trump 2 = .ok (.if_icmp .ge 15, 3) := by decide +kernel
theorem dX5_trump_5 : decode cX5_trump 5 = .ok (.bipush 8, 2) := by decide +kernel
theorem dX5_trump_7 : decode cX5_trump 7 = .ok (.iconst 3, 1) := by decide +kernel
theorem dX5_trump_8 : decode cX5_trump 8 = .ok (.iload_n 0, 1) := by decide +kernel
theorem dX5_trump_9 : decode cX5_trump 9 = .ok (.isub, 1) := by decide +kernel
theorem dX5_trump_10 : decode cX5_trump 10 = .ok (.imul, 1) := by decide +kernel
theorem dX5_trump_11 : decode cX5_trump 11 = .ok (.bipush 7, 2) := by decide +kernel
theorem dX5_trump_13 : decode cX5_trump 13 = .ok (.iadd, 1) := by decide +kernel
theorem dX5_trump_14 : decode cX5_trump 14 = .ok (.goto 12, 3) := by decide +kernel
theorem dX5_trump_17 : decode cX5_trump 17 = .ok (.bipush 8, 2) := by decide +kernel
theorem dX5_trump_19 : decode cX5_trump 19 = .ok (.iload_n 1, 1) := by decide +kernel
theorem dX5_trump_20 : decode cX5_trump 20 = .ok (.imul, 1) := by decide +kernel
theorem dX5_trump_21 : decode cX5_trump 21 = .ok (.bipush 10, 2) := by decide +kernel
theorem dX5_trump_23 : decode cX5_trump 23 = .ok (.iadd, 1) := by decide +kernel
theorem dX5_trump_24 : decode cX5_trump 24 = .ok (.iload_n 0, 1) := by decide +kernel
theorem dX5_trump_25 : decode cX5_trump 25 = .ok (.isub, 1) := by decide +kernel
theorem dX5_trump_26 : decode cX5_trump 26 = .ok (.ireturn, 1) := by decide +kernel
theorem dX5_gapless_0 : decode cX5_gapless 0 = .ok (.aload_n 0, 1) := by decide +kernel
theorem dX5_gapless_1 : decode cX5_gapless 1 = .ok (.getfield 13, 3) := by decide +kernel
theorem dX5_gapless_4 : decode cX5_gapless 4 = .ok (.iload_n 1, 1) := by decide +kernel
theorem dX5_gapless_5 : decode cX5_gapless 5 = .ok (.laload, 1) := by decide +kernel
theorem dX5_gapless_6 : decode cX5_gapless 6 = .ok (.aload_n 0, 1) := by decide +kernel
theorem dX5_gapless_7 : decode cX5_gapless 7 = .ok (.getfield 17, 3) := by decide +kernel
theorem dX5_gapless_10 : decode cX5_gapless 10 = .ok (.iload_n 1, 1) := by decide +kernel
theorem dX5_gapless_11 : decode cX5_gapless 11 = .ok (.laload, 1) := by decide +kernel
theorem dX5_gapless_12 : decode cX5_gapless 12 = .ok (.lor, 1) := by decide +kernel
theorem dX5_gapless_13 : decode cX5_gapless 13 = .ok (.iload_n 1, 1) := by decide +kernel
theorem dX5_gapless_14 : decode cX5_gapless 14 = .ok (.aload_n 0, 1) := by decide +kernel
theorem dX5_gapless_15 : decode cX5_gapless 15 = .ok (.getfield 61, 3) := by decide +kernel
theorem dX5_gapless_18 : decode cX5_gapless 18 = .ok (.if_icmp .ne 10, 3) := by decide +kernel
theorem dX5_gapless_21 : decode cX5_gapless 21 = .ok (.aload_n 0, 1) := by decide +kernel
theorem dX5_gapless_22 : decode cX5_gapless 22 = .ok (.getfield 54, 3) := by decide +kernel
theorem dX5_gapless_25 : decode cX5_gapless 25 = .ok (.goto 4, 3) := by decide +kernel
theorem dX5_gapless_28 : decode cX5_gapless 28 = .ok (.lconst 0, 1) := by decide +kernel
theorem dX5_gapless_29 : decode cX5_gapless 29 = .ok (.lor, 1) := by decide +kernel
theorem dX5_gapless_30 : decode cX5_gapless 30 = .ok (.lstore_n 3, 1) := by decide +kernel
theorem dX5_gapless_31 : decode cX5_gapless 31 = .ok (.iload_n 2, 1) := by decide +kernel
theorem dX5_gapless_32 : decode cX5_gapless 32 = .ok (.iconst 4, 1) := by decide +kernel
theorem dX5_gapless_33 : decode cX5_gapless 33 = .ok (.if_icmp .ne 7, 3) := by decide +kernel
theorem dX5_gapless_36 : decode cX5_gapless 36 = .ok (.iconst 4, 1) := by decide +kernel
theorem dX5_gapless_37 : decode cX5_gapless 37 = .ok (.goto 5, 3) := by decide +kernel
theorem dX5_gapless_40 : decode cX5_gapless 40 = .ok (.bipush 11, 2) := by decide +kernel
theorem dX5_gapless_42 : decode cX5_gapless 42 = .ok (.istore 5, 2) := by decide +kernel
theorem dX5_gapless_44 : decode cX5_gapless 44 = .ok (.lload_n 3, 1) := by decide +kernel
theorem dX5_gapless_45 : decode cX5_gapless 45 = .ok (.iconst 0, 1) := by decide +kernel
theorem dX5_gapless_46 : decode cX5_gapless 46 = .ok (.iload_n 2, 1) := by decide +kernel
theorem dX5_gapless_47 : decode cX5_gapless 47 = .ok (.invokestatic 138, 3) := by decide +kernel
theorem dX5_gapless_50 : decode cX5_gapless 50 = .ok (.invokestatic 120, 3) := by decide +kernel
theorem dX5_gapless_53 : decode cX5_gapless 53 = .ok (.istore 6, 2) := by decide +kernel
theorem dX5_gapless_55 : decode cX5_gapless 55 = .ok (.iconst 0, 1) := by decide +kernel
theorem dX5_gapless_56 : decode cX5_gapless 56 = .ok (.istore 7, 2) := by decide +kernel
theorem dX5_gapless_58 : decode cX5_gapless 58 = .ok (.iload 7, 2) := by decide +kernel
theorem dX5_gapless_60 : decode cX5_gapless 60 = .ok (.iload 5, 2) := by decide +kernel
theorem dX5_gapless_62 : decode cX5_gapless 62 = .ok (.if_icmp .ge 24, 3) := by decide +kernel
theorem dX5_gapless_65 : decode cX5_gapless 65 = .ok (.lload_n 3, 1) := by decide +kernel
theorem dX5_gapless_66 : decode cX5_gapless 66 = .ok (.iload 7, 2) := by decide +kernel
theorem dX5_gapless_68 : decode cX5_gapless 68 = .ok (.iload_n 2, 1) := by decide +kernel
theorem dX5_gapless_69 : decode cX5_gapless 69 = .ok (.invokestatic 138, 3) := by decide +kernel
theorem dX5_gapless_72 : decode cX5_gapless 72 = .ok (.invokestatic 120, 3) := by decide +kernel
theorem dX5_gapless_75 : decode cX5_gapless 75 = .ok (.iload 6, 2) := by decide +kernel
theorem dX5_gapless_77 : decode cX5_gapless 77 = .ok (.if_icmp .ne 9, 3) := by decide +kernel
theorem dX5_gapless_80 : decode cX5_gapless 80 = .ok (.iinc 7 1, 3) := by decide +kernel
theorem dX5_gapless_83 : decode cX5_gapless 83 = .ok (.goto (-25), 3) := by decide +kernel
theorem dX5_gapless_86 : decode cX5_gapless 86 = .ok (.iload 6, 2) := by decide +kernel
theorem dX5_gapless_88 : decode cX5_gapless 88 = .ok (.ifCond .eq 8, 3) := by decide +kernel
theorem dX5_gapless_91 : decode cX5_gapless 91 = .ok (.iload 7, 2) := by decide +kernel
theorem dX5_gapless_93 : decode cX5_gapless 93 = .ok (.goto 6, 3) := by decide +kernel
theorem dX5_gapless_96 : decode cX5_gapless 96 = .ok (.iload 7, 2) := by decide +kernel
theorem dX5_gapless_98 : decode cX5_gapless 98 = .ok (.ineg, 1) := by decide +kernel
theorem dX5_gapless_99 : decode cX5_gapless 99 = .ok (.ireturn, 1) := by decide +kernel
theorem dX5_matadors_0 : decode cX5_matadors 0 = .ok (.aload_n 0, 1) := by decide +kernel
theorem dX5_matadors_1 : decode cX5_matadors 1 = .ok (.iload_n 1, 1) := by decide +kernel
theorem dX5_matadors_2 : decode cX5_matadors 2 = .ok (.iconst 0, 1) := by decide +kernel
theorem dX5_matadors_3 : decode cX5_matadors 3 = .ok (.iconst 2, 1) := by decide +kernel
theorem dX5_matadors_4 : decode cX5_matadors 4 = .ok (.invokestatic 104, 3) := by decide +kernel
theorem dX5_matadors_7 : decode cX5_matadors 7 = .ok (.ifCond .ne 7, 3) := by decide +kernel
theorem dX5_matadors_10 : decode cX5_matadors 10 = .ok (.iconst 1, 1) := by decide +kernel
theorem dX5_matadors_11 : decode cX5_matadors 11 = .ok (.goto 17, 3) := by decide +kernel
theorem dX5_matadors_14 : decode cX5_matadors 14 = .ok (.iload_n 2, 1) := by decide +kernel
theorem dX5_matadors_15 : decode cX5_matadors 15 = .ok (.iconst 0, 1) := by decide +kernel
theorem dX5_matadors_16 : decode cX5_matadors 16 = .ok (.iconst 4, 1) := by decide +kernel
theorem dX5_matadors_17 : decode cX5_matadors 17 = .ok (.invokestatic 104, 3) := by decide +kernel
theorem dX5_matadors_20 : decode cX5_matadors 20 = .ok (.ifCond .eq 7, 3) := by decide +kernel
theorem dX5_matadors_23 : decode cX5_matadors 23 = .ok (.iconst 0, 1) := by decide +kernel
theorem dX5_matadors_24 : decode cX5_matadors 24 = .ok (.goto 4, 3) := by decide +kernel
theorem dX5_matadors_27 : decode cX5_matadors 27 = .ok (.iconst 2, 1) := by decide +kernel
theorem dX5_matadors_28 : decode cX5_matadors 28 = .ok (.invokevirtual 100, 3) := by decide +kernel
theorem dX5_matadors_31 : decode cX5_matadors 31 = .ok (.ifCond .eq 12, 3) := by decide +kernel
theorem dX5_matadors_34 : decode cX5_matadors 34 = .ok (.aload_n 0, 1) := by decide +kernel
theorem dX5_matadors_35 : decode cX5_matadors 35 = .ok (.iload_n 1, 1) := by decide +kernel
theorem dX5_matadors_36 : decode cX5_matadors 36 = .ok (.iload_n 2, 1) := by decide +kernel
theorem dX5_matadors_37 : decode cX5_matadors 37 = .ok (.invokevirtual 142, 3) := by decide +kernel
theorem dX5_matadors_40 : decode cX5_matadors 40 = .ok (.goto 4, 3) := by decide +kernel
theorem dX5_matadors_43 : decode cX5_matadors 43 = .ok (.iconst 0, 1) := by decide +kernel
theorem dX5_matadors_44 : decode cX5_matadors 44 = .ok (.ireturn, 1) := by decide +kernel
theorem dX5_colour_0 : decode cX5_colour 0 = .ok (.aload_n 0, 1) := by decide +kernel
theorem dX5_colour_1 : decode cX5_colour 1 = .ok (.getfield 64, 3) := by decide +kernel
theorem dX5_colour_4 : decode cX5_colour 4 = .ok (.iconst 5, 1) := by decide +kernel
theorem dX5_colour_5 : decode cX5_colour 5 = .ok (.if_icmp .eq 27, 3) := by decide +kernel
theorem dX5_colour_8 : decode cX5_colour 8 = .ok (.iload_n 1, 1) := by decide +kernel
theorem dX5_colour_9 : decode cX5_colour 9 = .ok (.bipush 8, 2) := by decide +kernel
theorem dX5_colour_11 : decode cX5_colour 11 = .ok (.irem, 1) := by decide +kernel
theorem dX5_colour_12 : decode cX5_colour 12 = .ok (.bipush 7, 2) := by decide +kernel
theorem dX5_colour_14 : decode cX5_colour 14 = .ok (.if_icmp .eq 14, 3) := by decide +kernel
theorem dX5_colour_17 : decode cX5_colour 17 = .ok (.iload_n 1, 1) := by decide +kernel
theorem dX5_colour_18 : decode cX5_colour 18 = .ok (.bipush 8, 2) := by decide +kernel
theorem dX5_colour_20 : decode cX5_colour 20 = .ok (.idiv, 1) := by decide +kernel
theorem dX5_colour_21 : decode cX5_colour 21 = .ok (.aload_n 0, 1) := by decide +kernel
theorem dX5_colour_22 : decode cX5_colour 22 = .ok (.getfield 64, 3) := by decide +kernel
theorem dX5_colour_25 : decode cX5_colour 25 = .ok (.if_icmp .ne 7, 3) := by decide +kernel
theorem dX5_colour_28 : decode cX5_colour 28 = .ok (.iconst 1, 1) := by decide +kernel
theorem dX5_colour_29 : decode cX5_colour 29 = .ok (.goto 4, 3) := by decide +kernel
theorem dX5_colour_32 : decode cX5_colour 32 = .ok (.iconst 0, 1) := by decide +kernel
theorem dX5_colour_33 : decode cX5_colour 33 = .ok (.istore_n 2, 1) := by decide +kernel
theorem dX5_colour_34 : decode cX5_colour 34 = .ok (.iload_n 2, 1) := by decide +kernel
theorem dX5_colour_35 : decode cX5_colour 35 = .ok (.ifCond .eq 7, 3) := by decide +kernel
theorem dX5_colour_38 : decode cX5_colour 38 = .ok (.iconst 4, 1) := by decide +kernel
theorem dX5_colour_39 : decode cX5_colour 39 = .ok (.goto 7, 3) := by decide +kernel
theorem dX5_colour_42 : decode cX5_colour 42 = .ok (.iload_n 1, 1) := by decide +kernel
theorem dX5_colour_43 : decode cX5_colour 43 = .ok (.bipush 8, 2) := by decide +kernel
theorem dX5_colour_45 : decode cX5_colour 45 = .ok (.idiv, 1) := by decide +kernel
theorem dX5_colour_46 : decode cX5_colour 46 = .ok (.ireturn, 1) := by decide +kernel
theorem dX5_height_0 : decode cX5_height 0 = .ok (.iload_n 1, 1) := by decide +kernel
theorem dX5_height_1 : decode cX5_height 1 = .ok (.bipush 8, 2) := by decide +kernel
theorem dX5_height_3 : decode cX5_height 3 = .ok (.irem, 1) := by decide +kernel
theorem dX5_height_4 : decode cX5_height 4 = .ok (.istore_n 2, 1) := by decide +kernel
theorem dX5_height_5 : decode cX5_height 5 = .ok (.aload_n 0, 1) := by decide +kernel
theorem dX5_height_6 : decode cX5_height 6 = .ok (.getfield 64, 3) := by decide +kernel
theorem dX5_height_9 : decode cX5_height 9 = .ok (.iconst 5, 1) := by decide +kernel
theorem dX5_height_10 : decode cX5_height 10 = .ok (.if_icmp .ne 53, 3) := by decide +kernel
theorem dX5_height_13 : decode cX5_height 13 = .ok (.iload_n 2, 1) := by decide +kernel
theorem dX5_height_14 : decode cX5_height 14 = .ok (.iconst 3, 1) := by decide +kernel
theorem dX5_height_15 : decode cX5_height 15 = .ok (.if_icmp .ge 7, 3) := by decide +kernel
theorem dX5_height_18 : decode cX5_height 18 = .ok (.iload_n 2, 1) := by decide +kernel
theorem dX5_height_19 : decode cX5_height 19 = .ok (.goto 43, 3) := by decide +kernel
theorem dX5_height_22 : decode cX5_height 22 = .ok (.iload_n 2, 1) := by decide +kernel
theorem dX5_height_23 : decode cX5_height 23 = .ok (.iconst 5, 1) := by decide +kernel
theorem dX5_height_24 : decode cX5_height 24 = .ok (.if_icmp .ne 7, 3) := by decide +kernel
theorem dX5_height_27 : decode cX5_height 27 = .ok (.iconst 3, 1) := by decide +kernel
theorem dX5_height_28 : decode cX5_height 28 = .ok (.goto 34, 3) := by decide +kernel
theorem dX5_height_31 : decode cX5_height 31 = .ok (.iload_n 2, 1) := by decide +kernel
theorem dX5_height_32 : decode cX5_height 32 = .ok (.bipush 7, 2) := by decide +kernel
theorem dX5_height_34 : decode cX5_height 34 = .ok (.if_icmp .ne 7, 3) := by decide +kernel
theorem dX5_height_37 : decode cX5_height 37 = .ok (.iconst 4, 1) := by decide +kernel
theorem dX5_height_38 : decode cX5_height 38 = .ok (.goto 24, 3) := by decide +kernel
theorem dX5_height_41 : decode cX5_height 41 = .ok (.iload_n 2, 1) := by decide +kernel
theorem dX5_height_42 : decode cX5_height 42 = .ok (.iconst 3, 1) := by decide +kernel
theorem dX5_height_43 : decode cX5_height 43 = .ok (.if_icmp .ne 7, 3) := by decide +kernel
theorem dX5_height_46 : decode cX5_height 46 = .ok (.iconst 5, 1) := by decide +kernel
theorem dX5_height_47 : decode cX5_height 47 = .ok (.goto 15, 3) := by decide +kernel
theorem dX5_height_50 : decode cX5_height 50 = .ok (.iload_n 2, 1) := by decide +kernel
theorem dX5_height_51 : decode cX5_height 51 = .ok (.iconst 4, 1) := by decide +kernel
theorem dX5_height_52 : decode cX5_height 52 = .ok (.if_icmp .ne 8, 3) := by decide +kernel
theorem dX5_height_55 : decode cX5_height 55 = .ok (.bipush 6, 2) := by decide +kernel
theorem dX5_height_57 : decode cX5_height 57 = .ok (.goto 5, 3) := by decide +kernel
theorem dX5_height_60 : decode cX5_height 60 = .ok (.bipush 7, 2) := by decide +kernel
theorem dX5_height_62 : decode cX5_height 62 = .ok (.ireturn, 1) := by decide +kernel
theorem dX5_height_63 : decode cX5_height 63 = .ok (.iload_n 2, 1) := by decide +kernel
theorem dX5_height_64 : decode cX5_height 64 = .ok (.bipush 7, 2) := by decide +kernel
theorem dX5_height_66 : decode cX5_height 66 = .ok (.if_icmp .ne 13, 3) := by decide +kernel
theorem dX5_height_69 : decode cX5_height 69 = .ok (.bipush 7, 2) := by decide +kernel
theorem dX5_height_71 : decode cX5_height 71 = .ok (.iload_n 1, 1) := by decide +kernel
theorem dX5_height_72 : decode cX5_height 72 = .ok (.bipush 8, 2) := by decide +kernel
theorem dX5_height_74 : decode cX5_height 74 = .ok (.idiv, 1) := by decide +kernel
theorem dX5_height_75 : decode cX5_height 75 = .ok (.iadd, 1) := by decide +kernel
theorem dX5_height_76 : decode cX5_height 76 = .ok (.goto 4, 3) := by decide +kernel
theorem dX5_height_79 : decode cX5_height 79 = .ok (.iload_n 2, 1) := by decide +kernel
theorem dX5_height_80 : decode cX5_height 80 = .ok (.ireturn, 1) := by decide +kernel
theorem dX5_open_0 : decode cX5_open 0 = .ok (.lconst 0, 1) := by decide +kernel
theorem dX5_open_1 : decode cX5_open 1 = .ok (.lstore_n 1, 1) := by decide +kernel
theorem dX5_open_2 : decode cX5_open 2 = .ok (.iconst 0, 1) := by decide +kernel
theorem dX5_open_3 : decode cX5_open 3 = .ok (.istore_n 3, 1) := by decide +kernel
theorem dX5_open_4 : decode cX5_open 4 = .ok (.iload_n 3, 1) := by decide +kernel
theorem dX5_open_5 : decode cX5_open 5 = .ok (.bipush 32, 2) := by decide +kernel
theorem dX5_open_7 : decode cX5_open 7 = .ok (.if_icmp .ge 72, 3) := by decide +kernel
theorem dX5_open_10 : decode cX5_open 10 = .ok (.aload_n 0, 1) := by decide +kernel
theorem dX5_open_11 : decode cX5_open 11 = .ok (.getfield 13, 3) := by decide +kernel
theorem dX5_open_14 : decode cX5_open 14 = .ok (.aload_n 0, 1) := by decide +kernel
theorem dX5_open_15 : decode cX5_open 15 = .ok (.getfield 97, 3) := by decide +kernel
theorem dX5_open_18 : decode cX5_open 18 = .ok (.laload, 1) := by decide +kernel
theorem dX5_open_19 : decode cX5_open 19 = .ok (.iload_n 3, 1) := by decide +kernel
theorem dX5_open_20 : decode cX5_open 20 = .ok (.invokestatic 120, 3) := by decide +kernel
theorem dX5_open_23 : decode cX5_open 23 = .ok (.ifCond .eq 32, 3) := by decide +kernel
theorem dX5_open_26 : decode cX5_open 26 = .ok (.aload_n 0, 1) := by decide +kernel
theorem dX5_open_27 : decode cX5_open 27 = .ok (.getfield 74, 3) := by decide +kernel
theorem dX5_open_30 : decode cX5_open 30 = .ok (.ifCond .le 25, 3) := by decide +kernel
theorem dX5_open_33 : decode cX5_open 33 = .ok (.aload_n 0, 1) := by decide +kernel
theorem dX5_open_34 : decode cX5_open 34 = .ok (.iload_n 3, 1) := by decide +kernel
theorem dX5_open_35 : decode cX5_open 35 = .ok (.invokevirtual 145, 3) := by decide +kernel
theorem dX5_open_38 : decode cX5_open 38 = .ok (.aload_n 0, 1) := by decide +kernel
theorem dX5_open_39 : decode cX5_open 39 = .ok (.aload_n 0, 1) := by decide +kernel
theorem dX5_open_40 : decode cX5_open 40 = .ok (.getfield 20, 3) := by decide +kernel
theorem dX5_open_43 : decode cX5_open 43 = .ok (.iconst 0, 1) := by decide +kernel
theorem dX5_open_44 : decode cX5_open 44 = .ok (.iaload, 1) := by decide +kernel
theorem dX5_open_45 : decode cX5_open 45 = .ok (.invokevirtual 145, 3) := by decide +kernel
theorem dX5_open_48 : decode cX5_open 48 = .ok (.if_icmp .ne 7, 3) := by decide +kernel
theorem dX5_open_51 : decode cX5_open 51 = .ok (.iconst 1, 1) := by decide +kernel
theorem dX5_open_52 : decode cX5_open 52 = .ok (.goto 4, 3) := by decide +kernel
theorem dX5_open_55 : decode cX5_open 55 = .ok (.iconst 0, 1) := by decide +kernel
theorem dX5_open_56 : decode cX5_open 56 = .ok (.istore 4, 2) := by decide +kernel
theorem dX5_open_58 : decode cX5_open 58 = .ok (.lload_n 1, 1) := by decide +kernel
theorem dX5_open_59 : decode cX5_open 59 = .ok (.iload 4, 2) := by decide +kernel
theorem dX5_open_61 : decode cX5_open 61 = .ok (.ifCond .eq 9, 3) := by decide +kernel
theorem dX5_open_64 : decode cX5_open 64 = .ok (.lconst 1, 1) := by decide +kernel
theorem dX5_open_65 : decode cX5_open 65 = .ok (.iload_n 3, 1) := by decide +kernel
theorem dX5_open_66 : decode cX5_open 66 = .ok (.lshl, 1) := by decide +kernel
theorem dX5_open_67 : decode cX5_open 67 = .ok (.goto 4, 3) := by decide +kernel
theorem dX5_open_70 : decode cX5_open 70 = .ok (.lconst 0, 1) := by decide +kernel
theorem dX5_open_71 : decode cX5_open 71 = .ok (.lor, 1) := by decide +kernel
theorem dX5_open_72 : decode cX5_open 72 = .ok (.lstore_n 1, 1) := by decide +kernel
theorem dX5_open_73 : decode cX5_open 73 = .ok (.iinc 3 1, 3) := by decide +kernel
theorem dX5_open_76 : decode cX5_open 76 = .ok (.goto (-72), 3) := by decide +kernel
theorem dX5_open_79 : decode cX5_open 79 = .ok (.lload_n 1, 1) := by decide +kernel
theorem dX5_open_80 : decode cX5_open 80 = .ok (.lconst 0, 1) := by decide +kernel
theorem dX5_open_81 : decode cX5_open 81 = .ok (.lcmp, 1) := by decide +kernel
theorem dX5_open_82 : decode cX5_open 82 = .ok (.ifCond .ne 15, 3) := by decide +kernel
theorem dX5_open_85 : decode cX5_open 85 = .ok (.aload_n 0, 1) := by decide +kernel
theorem dX5_open_86 : decode cX5_open 86 = .ok (.getfield 13, 3) := by decide +kernel
theorem dX5_open_89 : decode cX5_open 89 = .ok (.aload_n 0, 1) := by decide +kernel
theorem dX5_open_90 : decode cX5_open 90 = .ok (.getfield 97, 3) := by decide +kernel
theorem dX5_open_93 : decode cX5_open 93 = .ok (.laload, 1) := by decide +kernel
theorem dX5_open_94 : decode cX5_open 94 = .ok (.goto 4, 3) := by decide +kernel
theorem dX5_open_97 : decode cX5_open 97 = .ok (.lload_n 1, 1) := by decide +kernel
theorem dX5_open_98 : decode cX5_open 98 = .ok (.lreturn, 1) := by decide +kernel
theorem dX5_playable_0 : decode cX5_playable 0 = .ok (.aload_n 0, 1) := by decide +kernel
theorem dX5_playable_1 : decode cX5_playable 1 = .ok (.aload_n 0, 1) := by decide +kernel
theorem dX5_playable_2 : decode cX5_playable 2 = .ok (.getfield 94, 3) := by decide +kernel
theorem dX5_playable_5 : decode cX5_playable 5 = .ok (.iconst 5, 1) := by decide +kernel
theorem dX5_playable_6 : decode cX5_playable 6 = .ok (.if_icmp .ne 7, 3) := by decide +kernel
theorem dX5_playable_9 : decode cX5_playable 9 = .ok (.iconst 0, 1) := by decide +kernel
theorem dX5_playable_10 : decode cX5_playable 10 = .ok (.goto 4, 3) := by decide +kernel
theorem dX5_playable_13 : decode cX5_playable 13 = .ok (.iconst 1, 1) := by decide +kernel
theorem dX5_playable_14 : decode cX5_playable 14 = .ok (.invokevirtual 100, 3) := by decide +kernel
theorem dX5_playable_17 : decode cX5_playable 17 = .ok (.ifCond .eq 10, 3) := by decide +kernel
theorem dX5_playable_20 : decode cX5_playable 20 = .ok (.aload_n 0, 1) := by decide +kernel
theorem dX5_playable_21 : decode cX5_playable 21 = .ok (.invokevirtual 148, 3) := by decide +kernel
theorem dX5_playable_24 : decode cX5_playable 24 = .ok (.goto 4, 3) := by decide +kernel
theorem dX5_playable_27 : decode cX5_playable 27 = .ok (.lconst 0, 1) := by decide +kernel
theorem dX5_playable_28 : decode cX5_playable 28 = .ok (.lreturn, 1) := by decide +kernel
theorem dX5_isOver_0 : decode cX5_isOver 0 = .ok (.aload_n 0, 1) := by decide +kernel
theorem dX5_isOver_1 : decode cX5_isOver 1 = .ok (.iload_n 1, 1) := by decide +kernel
theorem dX5_isOver_2 : decode cX5_isOver 2 = .ok (.invokevirtual 145, 3) := by decide +kernel
theorem dX5_isOver_5 : decode cX5_isOver 5 = .ok (.aload_n 0, 1) := by decide +kernel
theorem dX5_isOver_6 : decode cX5_isOver 6 = .ok (.iload_n 2, 1) := by decide +kernel
theorem dX5_isOver_7 : decode cX5_isOver 7 = .ok (.invokevirtual 145, 3) := by decide +kernel
theorem dX5_isOver_10 : decode cX5_isOver 10 = .ok (.if_icmp .ne 24, 3) := by decide +kernel
theorem dX5_isOver_13 : decode cX5_isOver 13 = .ok (.aload_n 0, 1) := by decide +kernel
theorem dX5_isOver_14 : decode cX5_isOver 14 = .ok (.iload_n 1, 1) := by decide +kernel
theorem dX5_isOver_15 : decode cX5_isOver 15 = .ok (.invokevirtual 152, 3) := by decide +kernel
theorem dX5_isOver_18 : decode cX5_isOver 18 = .ok (.aload_n 0, 1) := by decide +kernel
theorem dX5_isOver_19 : decode cX5_isOver 19 = .ok (.iload_n 2, 1) := by decide +kernel
theorem dX5_isOver_20 : decode cX5_isOver 20 = .ok (.invokevirtual 152, 3) := by decide +kernel
theorem dX5_isOver_23 : decode cX5_isOver 23 = .ok (.if_icmp .le 7, 3) := by decide +kernel
theorem dX5_isOver_26 : decode cX5_isOver 26 = .ok (.iconst 1, 1) := by decide +kernel
theorem dX5_isOver_27 : decode cX5_isOver 27 = .ok (.goto 21, 3) := by decide +kernel
theorem dX5_isOver_30 : decode cX5_isOver 30 = .ok (.iconst 0, 1) := by decide +kernel
theorem dX5_isOver_31 : decode cX5_isOver 31 = .ok (.goto 17, 3) := by decide +kernel
theorem dX5_isOver_34 : decode cX5_isOver 34 = .ok (.aload_n 0, 1) := by decide +kernel
theorem dX5_isOver_35 : decode cX5_isOver 35 = .ok (.iload_n 1, 1) := by decide +kernel
theorem dX5_isOver_36 : decode cX5_isOver 36 = .ok (.invokevirtual 145, 3) := by decide +kernel
theorem dX5_isOver_39 : decode cX5_isOver 39 = .ok (.iconst 4, 1) := by decide +kernel
theorem dX5_isOver_40 : decode cX5_isOver 40 = .ok (.if_icmp .ne 7, 3) := by decide +kernel
theorem dX5_isOver_43 : decode cX5_isOver 43 = .ok (.iconst 1, 1) := by decide +kernel
theorem dX5_isOver_44 : decode cX5_isOver 44 = .ok (.goto 4, 3) := by decide +kernel
theorem dX5_isOver_47 : decode cX5_isOver 47 = .ok (.iconst 0, 1) := by decide +kernel
theorem dX5_isOver_48 : decode cX5_isOver 48 = .ok (.ireturn, 1) := by decide +kernel
theorem dX5_play_0 : decode cX5_play 0 = .ok (.aload_n 0, 1) := by decide +kernel
theorem dX5_play_1 : decode cX5_play 1 = .ok (.iload_n 1, 1) := by decide +kernel
theorem dX5_play_2 : decode cX5_play 2 = .ok (.iconst 0, 1) := by decide +kernel
theorem dX5_play_3 : decode cX5_play 3 = .ok (.bipush 31, 2) := by decide +kernel
theorem dX5_play_5 : decode cX5_play 5 = .ok (.invokestatic 104, 3) := by decide +kernel
theorem dX5_play_8 : decode cX5_play 8 = .ok (.ifCond .ne 7, 3) := by decide +kernel
theorem dX5_play_11 : decode cX5_play 11 = .ok (.iconst 1, 1) := by decide +kernel
theorem dX5_play_12 : decode cX5_play 12 = .ok (.goto 27, 3) := by decide +kernel
theorem dX5_play_15 : decode cX5_play 15 = .ok (.aload_n 0, 1) := by decide +kernel
theorem dX5_play_16 : decode cX5_play 16 = .ok (.getfield 94, 3) := by decide +kernel
theorem dX5_play_19 : decode cX5_play 19 = .ok (.iconst 5, 1) := by decide +kernel
theorem dX5_play_20 : decode cX5_play 20 = .ok (.if_icmp .ne 14, 3) := by decide +kernel
theorem dX5_play_23 : decode cX5_play 23 = .ok (.aload_n 0, 1) := by decide +kernel
theorem dX5_play_24 : decode cX5_play 24 = .ok (.invokevirtual 148, 3) := by decide +kernel
theorem dX5_play_27 : decode cX5_play 27 = .ok (.iload_n 1, 1) := by decide +kernel
theorem dX5_play_28 : decode cX5_play 28 = .ok (.invokestatic 120, 3) := by decide +kernel
theorem dX5_play_31 : decode cX5_play 31 = .ok (.ifCond .ne 7, 3) := by decide +kernel
theorem dX5_play_34 : decode cX5_play 34 = .ok (.iconst 2, 1) := by decide +kernel
theorem dX5_play_35 : decode cX5_play 35 = .ok (.goto 4, 3) := by decide +kernel
theorem dX5_play_38 : decode cX5_play 38 = .ok (.iconst 0, 1) := by decide +kernel
theorem dX5_play_39 : decode cX5_play 39 = .ok (.invokevirtual 100, 3) := by decide +kernel
theorem dX5_play_42 : decode cX5_play 42 = .ok (.ifCond .ne 5, 3) := by decide +kernel
theorem dX5_play_45 : decode cX5_play 45 = .ok (.iconst 0, 1) := by decide +kernel
theorem dX5_play_46 : decode cX5_play 46 = .ok (.ireturn, 1) := by decide +kernel
theorem dX5_play_47 : decode cX5_play 47 = .ok (.aload_n 0, 1) := by decide +kernel
theorem dX5_play_48 : decode cX5_play 48 = .ok (.getfield 13, 3) := by decide +kernel
theorem dX5_play_51 : decode cX5_play 51 = .ok (.aload_n 0, 1) := by decide +kernel
theorem dX5_play_52 : decode cX5_play 52 = .ok (.getfield 97, 3) := by decide +kernel
theorem dX5_play_55 : decode cX5_play 55 = .ok (.dup2, 1) := by decide +kernel
theorem dX5_play_56 : decode cX5_play 56 = .ok (.laload, 1) := by decide +kernel
theorem dX5_play_57 : decode cX5_play 57 = .ok (.lconst 1, 1) := by decide +kernel
theorem dX5_play_58 : decode cX5_play 58 = .ok (.iload_n 1, 1) := by decide +kernel
theorem dX5_play_59 : decode cX5_play 59 = .ok (.lshl, 1) := by decide +kernel
theorem dX5_play_60 : decode cX5_play 60 = .ok (.ldc2_w 128, 3) := by decide +kernel
theorem dX5_play_63 : decode cX5_play 63 = .ok (.lxor, 1) := by decide +kernel
theorem dX5_play_64 : decode cX5_play 64 = .ok (.land, 1) := by decide +kernel
theorem dX5_play_65 : decode cX5_play 65 = .ok (.lastore, 1) := by decide +kernel
theorem dX5_play_66 : decode cX5_play 66 = .ok (.aload_n 0, 1) := by decide +kernel
theorem dX5_play_67 : decode cX5_play 67 = .ok (.getfield 17, 3) := by decide +kernel
theorem dX5_play_70 : decode cX5_play 70 = .ok (.aload_n 0, 1) := by decide +kernel
theorem dX5_play_71 : decode cX5_play 71 = .ok (.getfield 97, 3) := by decide +kernel
theorem dX5_play_74 : decode cX5_play 74 = .ok (.dup2, 1) := by decide +kernel
theorem dX5_play_75 : decode cX5_play 75 = .ok (.laload, 1) := by decide +kernel
theorem dX5_play_76 : decode cX5_play 76 = .ok (.lconst 1, 1) := by decide +kernel
theorem dX5_play_77 : decode cX5_play 77 = .ok (.iload_n 1, 1) := by decide +kernel
theorem dX5_play_78 : decode cX5_play 78 = .ok (.lshl, 1) := by decide +kernel
theorem dX5_play_79 : decode cX5_play 79 = .ok (.lor, 1) := by decide +kernel
theorem dX5_play_80 : decode cX5_play 80 = .ok (.lastore, 1) := by decide +kernel
theorem dX5_play_81 : decode cX5_play 81 = .ok (.aload_n 0, 1) := by decide +kernel
theorem dX5_play_82 : decode cX5_play 82 = .ok (.getfield 20, 3) := by decide +kernel
theorem dX5_play_85 : decode cX5_play 85 = .ok (.aload_n 0, 1) := by decide +kernel
theorem dX5_play_86 : decode cX5_play 86 = .ok (.getfield 74, 3) := by decide +kernel
theorem dX5_play_89 : decode cX5_play 89 = .ok (.iload_n 1, 1) := by decide +kernel
theorem dX5_play_90 : decode cX5_play 90 = .ok (.iastore, 1) := by decide +kernel
theorem dX5_play_91 : decode cX5_play 91 = .ok (.aload_n 0, 1) := by decide +kernel
theorem dX5_play_92 : decode cX5_play 92 = .ok (.dup, 1) := by decide +kernel
theorem dX5_play_93 : decode cX5_play 93 = .ok (.getfield 74, 3) := by decide +kernel
theorem dX5_play_96 : decode cX5_play 96 = .ok (.iconst 1, 1) := by decide +kernel
theorem dX5_play_97 : decode cX5_play 97 = .ok (.iadd, 1) := by decide +kernel
theorem dX5_play_98 : decode cX5_play 98 = .ok (.putfield 74, 3) := by decide +kernel
theorem dX5_play_101 : decode cX5_play 101 = .ok (.aload_n 0, 1) := by decide +kernel
theorem dX5_play_102 : decode cX5_play 102 = .ok (.getfield 74, 3) := by decide +kernel
theorem dX5_play_105 : decode cX5_play 105 = .ok (.iconst 3, 1) := by decide +kernel
theorem dX5_play_106 : decode cX5_play 106 = .ok (.if_icmp .ge 17, 3) := by decide +kernel
theorem dX5_play_109 : decode cX5_play 109 = .ok (.aload_n 0, 1) := by decide +kernel
theorem dX5_play_110 : decode cX5_play 110 = .ok (.aload_n 0, 1) := by decide +kernel
theorem dX5_play_111 : decode cX5_play 111 = .ok (.getfield 97, 3) := by decide +kernel
theorem dX5_play_114 : decode cX5_play 114 = .ok (.iconst 1, 1) := by decide +kernel
theorem dX5_play_115 : decode cX5_play 115 = .ok (.iadd, 1) := by decide +kernel
theorem dX5_play_116 : decode cX5_play 116 = .ok (.iconst 3, 1) := by decide +kernel
theorem dX5_play_117 : decode cX5_play 117 = .ok (.irem, 1) := by decide +kernel
theorem dX5_play_118 : decode cX5_play 118 = .ok (.putfield 97, 3) := by decide +kernel
theorem dX5_play_121 : decode cX5_play 121 = .ok (.iconst (-1), 1) := by decide +kernel
theorem dX5_play_122 : decode cX5_play 122 = .ok (.ireturn, 1) := by decide +kernel
theorem dX5_play_123 : decode cX5_play 123 = .ok (.aload_n 0, 1) := by decide +kernel
theorem dX5_play_124 : decode cX5_play 124 = .ok (.invokevirtual 155, 3) := by decide +kernel
theorem dX5_play_127 : decode cX5_play 127 = .ok (.ireturn, 1) := by decide +kernel
theorem dX5_wins_0 : decode cX5_wins 0 = .ok (.iconst 0, 1) := by decide +kernel
theorem dX5_wins_1 : decode cX5_wins 1 = .ok (.istore_n 1, 1) := by decide +kernel
theorem dX5_wins_2 : decode cX5_wins 2 = .ok (.iconst 1, 1) := by decide +kernel
theorem dX5_wins_3 : decode cX5_wins 3 = .ok (.istore_n 2, 1) := by decide +kernel
theorem dX5_wins_4 : decode cX5_wins 4 = .ok (.iload_n 2, 1) := by decide +kernel
theorem dX5_wins_5 : decode cX5_wins 5 = .ok (.iconst 3, 1) := by decide +kernel
theorem dX5_wins_6 : decode cX5_wins 6 = .ok (.if_icmp .ge 34, 3) := by decide +kernel
theorem dX5_wins_9 : decode cX5_wins 9 = .ok (.aload_n 0, 1) := by decide +kernel
theorem dX5_wins_10 : decode cX5_wins 10 = .ok (.aload_n 0, 1) := by decide +kernel
theorem dX5_wins_11 : decode cX5_wins 11 = .ok (.getfield 20, 3) := by decide +kernel
theorem dX5_wins_14 : decode cX5_wins 14 = .ok (.iload_n 2, 1) := by decide +kernel
theorem dX5_wins_15 : decode cX5_wins 15 = .ok (.iaload, 1) := by decide +kernel
theorem dX5_wins_16 : decode cX5_wins 16 = .ok (.aload_n 0, 1) := by decide +kernel
theorem dX5_wins_17 : decode cX5_wins 17 = .ok (.getfield 20, 3) := by decide +kernel
theorem dX5_wins_20 : decode cX5_wins 20 = .ok (.iload_n 1, 1) := by decide +kernel
theorem dX5_wins_21 : decode cX5_wins 21 = .ok (.iaload, 1) := by decide +kernel
theorem dX5_wins_22 : decode cX5_wins 22 = .ok (.invokevirtual 158, 3) := by decide +kernel
theorem dX5_wins_25 : decode cX5_wins 25 = .ok (.ifCond .eq 7, 3) := by decide +kernel
theorem dX5_wins_28 : decode cX5_wins 28 = .ok (.iload_n 2, 1) := by decide +kernel
theorem dX5_wins_29 : decode cX5_wins 29 = .ok (.goto 4, 3) := by decide +kernel
theorem dX5_wins_32 : decode cX5_wins 32 = .ok (.iload_n 1, 1) := by decide +kernel
theorem dX5_wins_33 : decode cX5_wins 33 = .ok (.istore_n 1, 1) := by decide +kernel
theorem dX5_wins_34 : decode cX5_wins 34 = .ok (.iinc 2 1, 3) := by decide +kernel
theorem dX5_wins_37 : decode cX5_wins 37 = .ok (.goto (-33), 3) := by decide +kernel
theorem dX5_wins_40 : decode cX5_wins 40 = .ok (.aload_n 0, 1) := by decide +kernel
theorem dX5_wins_41 : decode cX5_wins 41 = .ok (.getfield 117, 3) := by decide +kernel
theorem dX5_wins_44 : decode cX5_wins 44 = .ok (.iload_n 1, 1) := by decide +kernel
theorem dX5_wins_45 : decode cX5_wins 45 = .ok (.iadd, 1) := by decide +kernel
theorem dX5_wins_46 : decode cX5_wins 46 = .ok (.iconst 3, 1) := by decide +kernel
theorem dX5_wins_47 : decode cX5_wins 47 = .ok (.irem, 1) := by decide +kernel
theorem dX5_wins_48 : decode cX5_wins 48 = .ok (.istore_n 2, 1) := by decide +kernel
theorem dX5_wins_49 : decode cX5_wins 49 = .ok (.aload_n 0, 1) := by decide +kernel
theorem dX5_wins_50 : decode cX5_wins 50 = .ok (.getfield 23, 3) := by decide +kernel
theorem dX5_wins_53 : decode cX5_wins 53 = .ok (.iload_n 2, 1) := by decide +kernel
theorem dX5_wins_54 : decode cX5_wins 54 = .ok (.dup2, 1) := by decide +kernel
theorem dX5_wins_55 : decode cX5_wins 55 = .ok (.iaload, 1) := by decide +kernel
theorem dX5_wins_56 : decode cX5_wins 56 = .ok (.aload_n 0, 1) := by decide +kernel
theorem dX5_wins_57 : decode cX5_wins 57 = .ok (.getfield 20, 3) := by decide +kernel
theorem dX5_wins_60 : decode cX5_wins 60 = .ok (.iconst 0, 1) := by decide +kernel
theorem dX5_wins_61 : decode cX5_wins 61 = .ok (.iaload, 1) := by decide +kernel
theorem dX5_wins_62 : decode cX5_wins 62 = .ok (.invokestatic 124, 3) := by decide +kernel
theorem dX5_wins_65 : decode cX5_wins 65 = .ok (.aload_n 0, 1) := by decide +kernel
theorem dX5_wins_66 : decode cX5_wins 66 = .ok (.getfield 20, 3) := by decide +kernel
theorem dX5_wins_69 : decode cX5_wins 69 = .ok (.iconst 1, 1) := by decide +kernel
theorem dX5_wins_70 : decode cX5_wins 70 = .ok (.iaload, 1) := by decide +kernel
theorem dX5_wins_71 : decode cX5_wins 71 = .ok (.invokestatic 124, 3) := by decide +kernel
theorem dX5_wins_74 : decode cX5_wins 74 = .ok (.iadd, 1) := by decide +kernel
theorem dX5_wins_75 : decode cX5_wins 75 = .ok (.aload_n 0, 1) := by decide +kernel
theorem dX5_wins_76 : decode cX5_wins 76 = .ok (.getfield 20, 3) := by decide +kernel
theorem dX5_wins_79 : decode cX5_wins 79 = .ok (.iconst 2, 1) := by decide +kernel
theorem dX5_wins_80 : decode cX5_wins 80 = .ok (.iaload, 1) := by decide +kernel
theorem dX5_wins_81 : decode cX5_wins 81 = .ok (.invokestatic 124, 3) := by decide +kernel
theorem dX5_wins_84 : decode cX5_wins 84 = .ok (.iadd, 1) := by decide +kernel
theorem dX5_wins_85 : decode cX5_wins 85 = .ok (.iadd, 1) := by decide +kernel
theorem dX5_wins_86 : decode cX5_wins 86 = .ok (.iastore, 1) := by decide +kernel
theorem dX5_wins_87 : decode cX5_wins 87 = .ok (.aload_n 0, 1) := by decide +kernel
theorem dX5_wins_88 : decode cX5_wins 88 = .ok (.getfield 26, 3) := by decide +kernel
theorem dX5_wins_91 : decode cX5_wins 91 = .ok (.iload_n 2, 1) := by decide +kernel
theorem dX5_wins_92 : decode cX5_wins 92 = .ok (.dup2, 1) := by decide +kernel
theorem dX5_wins_93 : decode cX5_wins 93 = .ok (.iaload, 1) := by decide +kernel
theorem dX5_wins_94 : decode cX5_wins 94 = .ok (.iconst 1, 1) := by decide +kernel
theorem dX5_wins_95 : decode cX5_wins 95 = .ok (.iadd, 1) := by decide +kernel
theorem dX5_wins_96 : decode cX5_wins 96 = .ok (.iastore, 1) := by decide +kernel
theorem dX5_wins_97 : decode cX5_wins 97 = .ok (.aload_n 0, 1) := by decide +kernel
theorem dX5_wins_98 : decode cX5_wins 98 = .ok (.iconst 0, 1) := by decide +kernel
theorem dX5_wins_99 : decode cX5_wins 99 = .ok (.putfield 74, 3) := by decide +kernel
theorem dX5_wins_102 : decode cX5_wins 102 = .ok (.aload_n 0, 1) := by decide +kernel
theorem dX5_wins_103 : decode cX5_wins 103 = .ok (.iload_n 2, 1) := by decide +kernel
theorem dX5_wins_104 : decode cX5_wins 104 = .ok (.putfield 117, 3) := by decide +kernel
theorem dX5_wins_107 : decode cX5_wins 107 = .ok (.aload_n 0, 1) := by decide +kernel
theorem dX5_wins_108 : decode cX5_wins 108 = .ok (.iload_n 2, 1) := by decide +kernel
theorem dX5_wins_109 : decode cX5_wins 109 = .ok (.putfield 97, 3) := by decide +kernel
theorem dX5_wins_112 : decode cX5_wins 112 = .ok (.aload_n 0, 1) := by decide +kernel
theorem dX5_wins_113 : decode cX5_wins 113 = .ok (.getfield 26, 3) := by decide +kernel
theorem dX5_wins_116 : decode cX5_wins 116 = .ok (.iconst 0, 1) := by decide +kernel
theorem dX5_wins_117 : decode cX5_wins 117 = .ok (.iaload, 1) := by decide +kernel
theorem dX5_wins_118 : decode cX5_wins 118 = .ok (.aload_n 0, 1) := by decide +kernel
theorem dX5_wins_119 : decode cX5_wins 119 = .ok (.getfield 26, 3) := by decide +kernel
theorem dX5_wins_122 : decode cX5_wins 122 = .ok (.iconst 1, 1) := by decide +kernel
theorem dX5_wins_123 : decode cX5_wins 123 = .ok (.iaload, 1) := by decide +kernel
theorem dX5_wins_124 : decode cX5_wins 124 = .ok (.iadd, 1) := by decide +kernel
theorem dX5_wins_125 : decode cX5_wins 125 = .ok (.aload_n 0, 1) := by decide +kernel
theorem dX5_wins_126 : decode cX5_wins 126 = .ok (.getfield 26, 3) := by decide +kernel
theorem dX5_wins_129 : decode cX5_wins 129 = .ok (.iconst 2, 1) := by decide +kernel
theorem dX5_wins_130 : decode cX5_wins 130 = .ok (.iaload, 1) := by decide +kernel
theorem dX5_wins_131 : decode cX5_wins 131 = .ok (.iadd, 1) := by decide +kernel
theorem dX5_wins_132 : decode cX5_wins 132 = .ok (.bipush 10, 2) := by decide +kernel
theorem dX5_wins_134 : decode cX5_wins 134 = .ok (.if_icmp .ne 7, 3) := by decide +kernel
theorem dX5_wins_137 : decode cX5_wins 137 = .ok (.aload_n 0, 1) := by decide +kernel
theorem dX5_wins_138 : decode cX5_wins 138 = .ok (.invokevirtual 161, 3) := by decide +kernel
theorem dX5_wins_141 : decode cX5_wins 141 = .ok (.iload_n 2, 1) := by decide +kernel
theorem dX5_wins_142 : decode cX5_wins 142 = .ok (.ireturn, 1) := by decide +kernel
theorem dX5_hand_0 : decode cX5_hand 0 = .ok (.aload_n 0, 1) := by decide +kernel
theorem dX5_hand_1 : decode cX5_hand 1 = .ok (.iload_n 1, 1) := by decide +kernel
theorem dX5_hand_2 : decode cX5_hand 2 = .ok (.iconst 0, 1) := by decide +kernel
theorem dX5_hand_3 : decode cX5_hand 3 = .ok (.iconst 2, 1) := by decide +kernel
theorem dX5_hand_4 : decode cX5_hand 4 = .ok (.invokestatic 104, 3) := by decide +kernel
theorem dX5_hand_7 : decode cX5_hand 7 = .ok (.ifCond .eq 7, 3) := by decide +kernel
theorem dX5_hand_10 : decode cX5_hand 10 = .ok (.iconst 0, 1) := by decide +kernel
theorem dX5_hand_11 : decode cX5_hand 11 = .ok (.goto 4, 3) := by decide +kernel
theorem dX5_hand_14 : decode cX5_hand 14 = .ok (.iconst 1, 1) := by decide +kernel
theorem dX5_hand_15 : decode cX5_hand 15 = .ok (.invokevirtual 100, 3) := by decide +kernel
theorem dX5_hand_18 : decode cX5_hand 18 = .ok (.ifCond .eq 12, 3) := by decide +kernel
theorem dX5_hand_21 : decode cX5_hand 21 = .ok (.aload_n 0, 1) := by decide +kernel
theorem dX5_hand_22 : decode cX5_hand 22 = .ok (.getfield 13, 3) := by decide +kernel
theorem dX5_hand_25 : decode cX5_hand 25 = .ok (.iload_n 1, 1) := by decide +kernel
theorem dX5_hand_26 : decode cX5_hand 26 = .ok (.laload, 1) := by decide +kernel
theorem dX5_hand_27 : decode cX5_hand 27 = .ok (.goto 4, 3) := by decide +kernel
theorem dX5_hand_30 : decode cX5_hand 30 = .ok (.lconst 0, 1) := by decide +kernel
theorem dX5_hand_31 : decode cX5_hand 31 = .ok (.lreturn, 1) := by decide +kernel
theorem dX5_inTrick_0 : decode cX5_inTrick 0 = .ok (.aload_n 0, 1) := by decide +kernel
theorem dX5_inTrick_1 : decode cX5_inTrick 1 = .ok (.iload_n 1, 1) := by decide +kernel
theorem dX5_inTrick_2 : decode cX5_inTrick 2 = .ok (.iconst 0, 1) := by decide +kernel
theorem dX5_inTrick_3 : decode cX5_inTrick 3 = .ok (.iconst 2, 1) := by decide +kernel
theorem dX5_inTrick_4 : decode cX5_inTrick 4 = .ok (.invokestatic 104, 3) := by decide +kernel
theorem dX5_inTrick_7 : decode cX5_inTrick 7 = .ok (.ifCond .eq 7, 3) := by decide +kernel
theorem dX5_inTrick_10 : decode cX5_inTrick 10 = .ok (.iconst 0, 1) := by decide +kernel
theorem dX5_inTrick_11 : decode cX5_inTrick 11 = .ok (.goto 4, 3) := by decide +kernel
theorem dX5_inTrick_14 : decode cX5_inTrick 14 = .ok (.iconst 1, 1) := by decide +kernel
theorem dX5_inTrick_15 : decode cX5_inTrick 15 = .ok (.invokevirtual 100, 3) := by decide +kernel
theorem dX5_inTrick_18 : decode cX5_inTrick 18 = .ok (.ifCond .ne 7, 3) := by decide +kernel
theorem dX5_inTrick_21 : decode cX5_inTrick 21 = .ok (.iconst 0, 1) := by decide +kernel
theorem dX5_inTrick_22 : decode cX5_inTrick 22 = .ok (.goto 21, 3) := by decide +kernel
theorem dX5_inTrick_25 : decode cX5_inTrick 25 = .ok (.iload_n 1, 1) := by decide +kernel
theorem dX5_inTrick_26 : decode cX5_inTrick 26 = .ok (.aload_n 0, 1) := by decide +kernel
theorem dX5_inTrick_27 : decode cX5_inTrick 27 = .ok (.getfield 74, 3) := by decide +kernel
theorem dX5_inTrick_30 : decode cX5_inTrick 30 = .ok (.if_icmp .ge 12, 3) := by decide +kernel
theorem dX5_inTrick_33 : decode cX5_inTrick 33 = .ok (.aload_n 0, 1) := by decide +kernel
theorem dX5_inTrick_34 : decode cX5_inTrick 34 = .ok (.getfield 20, 3) := by decide +kernel
theorem dX5_inTrick_37 : decode cX5_inTrick 37 = .ok (.iload_n 1, 1) := by decide +kernel
theorem dX5_inTrick_38 : decode cX5_inTrick 38 = .ok (.iaload, 1) := by decide +kernel
theorem dX5_inTrick_39 : decode cX5_inTrick 39 = .ok (.goto 4, 3) := by decide +kernel
theorem dX5_inTrick_42 : decode cX5_inTrick 42 = .ok (.iconst (-1), 1) := by decide +kernel
theorem dX5_inTrick_43 : decode cX5_inTrick 43 = .ok (.ireturn, 1) := by decide +kernel
theorem dX5_of_0 : decode cX5_of 0 = .ok (.aload_n 0, 1) := by decide +kernel
theorem dX5_of_1 : decode cX5_of 1 = .ok (.iload_n 1, 1) := by decide +kernel
theorem dX5_of_2 : decode cX5_of 2 = .ok (.iconst 0, 1) := by decide +kernel
theorem dX5_of_3 : decode cX5_of 3 = .ok (.iconst 2, 1) := by decide +kernel
theorem dX5_of_4 : decode cX5_of 4 = .ok (.invokestatic 104, 3) := by decide +kernel
theorem dX5_of_7 : decode cX5_of 7 = .ok (.ifCond .eq 7, 3) := by decide +kernel
theorem dX5_of_10 : decode cX5_of 10 = .ok (.iconst 0, 1) := by decide +kernel
theorem dX5_of_11 : decode cX5_of 11 = .ok (.goto 4, 3) := by decide +kernel
theorem dX5_of_14 : decode cX5_of 14 = .ok (.iconst 1, 1) := by decide +kernel
theorem dX5_of_15 : decode cX5_of 15 = .ok (.invokevirtual 100, 3) := by decide +kernel
theorem dX5_of_18 : decode cX5_of 18 = .ok (.ifCond .eq 9, 3) := by decide +kernel
theorem dX5_of_21 : decode cX5_of 21 = .ok (.aload_n 2, 1) := by decide +kernel
theorem dX5_of_22 : decode cX5_of 22 = .ok (.iload_n 1, 1) := by decide +kernel
theorem dX5_of_23 : decode cX5_of 23 = .ok (.iaload, 1) := by decide +kernel
theorem dX5_of_24 : decode cX5_of 24 = .ok (.goto 4, 3) := by decide +kernel
theorem dX5_of_27 : decode cX5_of 27 = .ok (.iconst 0, 1) := by decide +kernel
theorem dX5_of_28 : decode cX5_of 28 = .ok (.ireturn, 1) := by decide +kernel
theorem dX5_points_0 : decode cX5_points 0 = .ok (.aload_n 0, 1) := by decide +kernel
theorem dX5_points_1 : decode cX5_points 1 = .ok (.iload_n 1, 1) := by decide +kernel
theorem dX5_points_2 : decode cX5_points 2 = .ok (.aload_n 0, 1) := by decide +kernel
theorem dX5_points_3 : decode cX5_points 3 = .ok (.getfield 23, 3) := by decide +kernel
theorem dX5_points_6 : decode cX5_points 6 = .ok (.invokevirtual 164, 3) := by decide +kernel
theorem dX5_points_9 : decode cX5_points 9 = .ok (.ireturn, 1) := by decide +kernel
theorem dX5_tricks_0 : decode cX5_tricks 0 = .ok (.aload_n 0, 1) := by decide +kernel
theorem dX5_tricks_1 : decode cX5_tricks 1 = .ok (.iload_n 1, 1) := by decide +kernel
theorem dX5_tricks_2 : decode cX5_tricks 2 = .ok (.aload_n 0, 1) := by decide +kernel
theorem dX5_tricks_3 : decode cX5_tricks 3 = .ok (.getfield 26, 3) := by decide +kernel
theorem dX5_tricks_6 : decode cX5_tricks 6 = .ok (.invokevirtual 164, 3) := by decide +kernel
theorem dX5_tricks_9 : decode cX5_tricks 9 = .ok (.ireturn, 1) := by decide +kernel
theorem dX5_most_0 : decode cX5_most 0 = .ok (.aload_n 0, 1) := by decide +kernel
theorem dX5_most_1 : decode cX5_most 1 = .ok (.getfield 23, 3) := by decide +kernel
theorem dX5_most_4 : decode cX5_most 4 = .ok (.iconst 0, 1) := by decide +kernel
theorem dX5_most_5 : decode cX5_most 5 = .ok (.iaload, 1) := by decide +kernel
theorem dX5_most_6 : decode cX5_most 6 = .ok (.istore_n 1, 1) := by decide +kernel
theorem dX5_most_7 : decode cX5_most 7 = .ok (.iconst 1, 1) := by decide +kernel
theorem dX5_most_8 : decode cX5_most 8 = .ok (.istore_n 2, 1) := by decide +kernel
theorem dX5_most_9 : decode cX5_most 9 = .ok (.iload_n 2, 1) := by decide +kernel
theorem dX5_most_10 : decode cX5_most 10 = .ok (.iconst 3, 1) := by decide +kernel
theorem dX5_most_11 : decode cX5_most 11 = .ok (.if_icmp .ge 30, 3) := by decide +kernel
theorem dX5_most_14 : decode cX5_most 14 = .ok (.aload_n 0, 1) := by decide +kernel
theorem dX5_most_15 : decode cX5_most 15 = .ok (.getfield 23, 3) := by decide +kernel
theorem dX5_most_18 : decode cX5_most 18 = .ok (.iload_n 2, 1) := by decide +kernel
theorem dX5_most_19 : decode cX5_most 19 = .ok (.iaload, 1) := by decide +kernel
theorem dX5_most_20 : decode cX5_most 20 = .ok (.iload_n 1, 1) := by decide +kernel
theorem dX5_most_21 : decode cX5_most 21 = .ok (.if_icmp .le 12, 3) := by decide +kernel
theorem dX5_most_24 : decode cX5_most 24 = .ok (.aload_n 0, 1) := by decide +kernel
theorem dX5_most_25 : decode cX5_most 25 = .ok (.getfield 23, 3) := by decide +kernel
theorem dX5_most_28 : decode cX5_most 28 = .ok (.iload_n 2, 1) := by decide +kernel
theorem dX5_most_29 : decode cX5_most 29 = .ok (.iaload, 1) := by decide +kernel
theorem dX5_most_30 : decode cX5_most 30 = .ok (.goto 4, 3) := by decide +kernel
theorem dX5_most_33 : decode cX5_most 33 = .ok (.iload_n 1, 1) := by decide +kernel
theorem dX5_most_34 : decode cX5_most 34 = .ok (.istore_n 1, 1) := by decide +kernel
theorem dX5_most_35 : decode cX5_most 35 = .ok (.iinc 2 1, 3) := by decide +kernel
theorem dX5_most_38 : decode cX5_most 38 = .ok (.goto (-29), 3) := by decide +kernel
theorem dX5_most_41 : decode cX5_most 41 = .ok (.iload_n 1, 1) := by decide +kernel
theorem dX5_most_42 : decode cX5_most 42 = .ok (.ireturn, 1) := by decide +kernel
theorem dX5_worthOfGame_0 : decode cX5_worthOfGame 0 = .ok (.aload_n 0, 1) := by decide +kernel
theorem dX5_worthOfGame_1 : decode cX5_worthOfGame 1 = .ok (.getfield 64, 3) := by decide +kernel
theorem dX5_worthOfGame_4 : decode cX5_worthOfGame 4 = .ok (.iconst 5, 1) := by decide +kernel
theorem dX5_worthOfGame_5 : decode cX5_worthOfGame 5 = .ok (.if_icmp .ne 43, 3) := by decide +kernel
theorem dX5_worthOfGame_8 : decode cX5_worthOfGame 8 = .ok (.aload_n 0, 1) := by decide +kernel
theorem dX5_worthOfGame_9 : decode cX5_worthOfGame 9 = .ok (.getfield 67, 3) := by decide +kernel
theorem dX5_worthOfGame_12 : decode cX5_worthOfGame 12 = .ok (.iconst 3, 1) := by decide +kernel
theorem dX5_worthOfGame_13 : decode cX5_worthOfGame 13 = .ok (.if_icmp .ne 20, 3) := by decide +kernel
theorem dX5_worthOfGame_16 : decode cX5_worthOfGame 16 = .ok (.aload_n 0, 1) := by decide +kernel
theorem dX5_worthOfGame_17 : decode cX5_worthOfGame 17 = .ok (.getfield 70, 3) := by decide +kernel
theorem dX5_worthOfGame_20 : decode cX5_worthOfGame 20 = .ok (.ifCond .eq 8, 3) := by decide +kernel
theorem dX5_worthOfGame_23 : decode cX5_worthOfGame 23 = .ok (.bipush 59, 2) := by decide +kernel
theorem dX5_worthOfGame_25 : decode cX5_worthOfGame 25 = .ok (.goto 22, 3) := by decide +kernel
theorem dX5_worthOfGame_28 : decode cX5_worthOfGame 28 = .ok (.bipush 46, 2) := by decide +kernel
theorem dX5_worthOfGame_30 : decode cX5_worthOfGame 30 = .ok (.goto 17, 3) := by decide +kernel
theorem dX5_worthOfGame_33 : decode cX5_worthOfGame 33 = .ok (.aload_n 0, 1) := by decide +kernel
theorem dX5_worthOfGame_34 : decode cX5_worthOfGame 34 = .ok (.getfield 70, 3) := by decide +kernel
theorem dX5_worthOfGame_37 : decode cX5_worthOfGame 37 = .ok (.ifCond .eq 8, 3) := by decide +kernel
theorem dX5_worthOfGame_40 : decode cX5_worthOfGame 40 = .ok (.bipush 35, 2) := by decide +kernel
theorem dX5_worthOfGame_42 : decode cX5_worthOfGame 42 = .ok (.goto 5, 3) := by decide +kernel
theorem dX5_worthOfGame_45 : decode cX5_worthOfGame 45 = .ok (.bipush 23, 2) := by decide +kernel
theorem dX5_worthOfGame_47 : decode cX5_worthOfGame 47 = .ok (.ireturn, 1) := by decide +kernel
theorem dX5_worthOfGame_48 : decode cX5_worthOfGame 48 = .ok (.aload_n 0, 1) := by decide +kernel
theorem dX5_worthOfGame_49 : decode cX5_worthOfGame 49 = .ok (.aload_n 0, 1) := by decide +kernel
theorem dX5_worthOfGame_50 : decode cX5_worthOfGame 50 = .ok (.getfield 61, 3) := by decide +kernel
theorem dX5_worthOfGame_53 : decode cX5_worthOfGame 53 = .ok (.aload_n 0, 1) := by decide +kernel
theorem dX5_worthOfGame_54 : decode cX5_worthOfGame 54 = .ok (.getfield 64, 3) := by decide +kernel
theorem dX5_worthOfGame_57 : decode cX5_worthOfGame 57 = .ok (.invokevirtual 142, 3) := by decide +kernel
theorem dX5_worthOfGame_60 : decode cX5_worthOfGame 60 = .ok (.istore_n 1, 1) := by decide +kernel
theorem dX5_worthOfGame_61 : decode cX5_worthOfGame 61 = .ok (.aload_n 0, 1) := by decide +kernel
theorem dX5_worthOfGame_62 : decode cX5_worthOfGame 62 = .ok (.getfield 23, 3) := by decide +kernel
theorem dX5_worthOfGame_65 : decode cX5_worthOfGame 65 = .ok (.iconst 0, 1) := by decide +kernel
theorem dX5_worthOfGame_66 : decode cX5_worthOfGame 66 = .ok (.iaload, 1) := by decide +kernel
theorem dX5_worthOfGame_67 : decode cX5_worthOfGame 67 = .ok (.aload_n 0, 1) := by decide +kernel
theorem dX5_worthOfGame_68 : decode cX5_worthOfGame 68 = .ok (.getfield 23, 3) := by decide +kernel
theorem dX5_worthOfGame_71 : decode cX5_worthOfGame 71 = .ok (.iconst 1, 1) := by decide +kernel
theorem dX5_worthOfGame_72 : decode cX5_worthOfGame 72 = .ok (.iaload, 1) := by decide +kernel
theorem dX5_worthOfGame_73 : decode cX5_worthOfGame 73 = .ok (.iadd, 1) := by decide +kernel
theorem dX5_worthOfGame_74 : decode cX5_worthOfGame 74 = .ok (.aload_n 0, 1) := by decide +kernel
theorem dX5_worthOfGame_75 : decode cX5_worthOfGame 75 = .ok (.getfield 23, 3) := by decide +kernel
theorem dX5_worthOfGame_78 : decode cX5_worthOfGame 78 = .ok (.iconst 2, 1) := by decide +kernel
theorem dX5_worthOfGame_79 : decode cX5_worthOfGame 79 = .ok (.iaload, 1) := by decide +kernel
theorem dX5_worthOfGame_80 : decode cX5_worthOfGame 80 = .ok (.iadd, 1) := by decide +kernel
theorem dX5_worthOfGame_81 : decode cX5_worthOfGame 81 = .ok (.aload_n 0, 1) := by decide +kernel
theorem dX5_worthOfGame_82 : decode cX5_worthOfGame 82 = .ok (.getfield 23, 3) := by decide +kernel
theorem dX5_worthOfGame_85 : decode cX5_worthOfGame 85 = .ok (.aload_n 0, 1) := by decide +kernel
theorem dX5_worthOfGame_86 : decode cX5_worthOfGame 86 = .ok (.getfield 61, 3) := by decide +kernel
theorem dX5_worthOfGame_89 : decode cX5_worthOfGame 89 = .ok (.iaload, 1) := by decide +kernel
theorem dX5_worthOfGame_90 : decode cX5_worthOfGame 90 = .ok (.isub, 1) := by decide +kernel
theorem dX5_worthOfGame_91 : decode cX5_worthOfGame 91 = .ok (.istore_n 2, 1) := by decide +kernel
theorem dX5_worthOfGame_92 : decode cX5_worthOfGame 92 = .ok (.aload_n 0, 1) := by decide +kernel
theorem dX5_worthOfGame_93 : decode cX5_worthOfGame 93 = .ok (.getfield 26, 3) := by decide +kernel
theorem dX5_worthOfGame_96 : decode cX5_worthOfGame 96 = .ok (.iconst 0, 1) := by decide +kernel
theorem dX5_worthOfGame_97 : decode cX5_worthOfGame 97 = .ok (.iaload, 1) := by decide +kernel
theorem dX5_worthOfGame_98 : decode cX5_worthOfGame 98 = .ok (.aload_n 0, 1) := by decide +kernel
theorem dX5_worthOfGame_99 : decode cX5_worthOfGame 99 = .ok (.getfield 26, 3) := by decide +kernel
theorem dX5_worthOfGame_102 : decode cX5_worthOfGame 102 = .ok (.iconst 1, 1) := by decide +kernel
theorem dX5_worthOfGame_103 : decode cX5_worthOfGame 103 = .ok (.iaload, 1) := by decide +kernel
theorem dX5_worthOfGame_104 : decode cX5_worthOfGame 104 = .ok (.iadd, 1) := by decide +kernel
theorem dX5_worthOfGame_105 : decode cX5_worthOfGame 105 = .ok (.aload_n 0, 1) := by decide +kernel
theorem dX5_worthOfGame_106 : decode cX5_worthOfGame 106 = .ok (.getfield 26, 3) := by decide +kernel
theorem dX5_worthOfGame_109 : decode cX5_worthOfGame 109 = .ok (.iconst 2, 1) := by decide +kernel
theorem dX5_worthOfGame_110 : decode cX5_worthOfGame 110 = .ok (.iaload, 1) := by decide +kernel
theorem dX5_worthOfGame_111 : decode cX5_worthOfGame 111 = .ok (.iadd, 1) := by decide +kernel
theorem dX5_worthOfGame_112 : decode cX5_worthOfGame 112 = .ok (.aload_n 0, 1) := by decide +kernel
theorem dX5_worthOfGame_113 : decode cX5_worthOfGame 113 = .ok (.getfield 26, 3) := by decide +kernel
theorem dX5_worthOfGame_116 : decode cX5_worthOfGame 116 = .ok (.aload_n 0, 1) := by decide +kernel
theorem dX5_worthOfGame_117 : decode cX5_worthOfGame 117 = .ok (.getfield 61, 3) := by decide +kernel
theorem dX5_worthOfGame_120 : decode cX5_worthOfGame 120 = .ok (.iaload, 1) := by decide +kernel
theorem dX5_worthOfGame_121 : decode cX5_worthOfGame 121 = .ok (.isub, 1) := by decide +kernel
theorem dX5_worthOfGame_122 : decode cX5_worthOfGame 122 = .ok (.istore_n 3, 1) := by decide +kernel
theorem dX5_worthOfGame_123 : decode cX5_worthOfGame 123 = .ok (.aload_n 0, 1) := by decide +kernel
theorem dX5_worthOfGame_124 : decode cX5_worthOfGame 124 = .ok (.getfield 67, 3) := by decide +kernel
theorem dX5_worthOfGame_127 : decode cX5_worthOfGame 127 = .ok (.ifCond .gt 23, 3) := by decide +kernel
theorem dX5_worthOfGame_130 : decode cX5_worthOfGame 130 = .ok (.aload_n 0, 1) := by decide +kernel
theorem dX5_worthOfGame_131 : decode cX5_worthOfGame 131 = .ok (.getfield 23, 3) := by decide +kernel
theorem dX5_worthOfGame_134 : decode cX5_worthOfGame 134 = .ok (.aload_n 0, 1) := by decide +kernel
theorem dX5_worthOfGame_135 : decode cX5_worthOfGame 135 = .ok (.getfield 61, 3) := by decide +kernel
theorem dX5_worthOfGame_138 : decode cX5_worthOfGame 138 = .ok (.iaload, 1) := by decide +kernel
theorem dX5_worthOfGame_139 : decode cX5_worthOfGame 139 = .ok (.bipush 90, 2) := by decide +kernel
theorem dX5_worthOfGame_141 : decode cX5_worthOfGame 141 = .ok (.if_icmp .ge 9, 3) := by decide +kernel
theorem dX5_worthOfGame_144 : decode cX5_worthOfGame 144 = .ok (.iload_n 2, 1) := by decide +kernel
theorem dX5_worthOfGame_145 : decode cX5_worthOfGame 145 = .ok (.bipush 90, 2) := by decide +kernel
theorem dX5_worthOfGame_147 : decode cX5_worthOfGame 147 = .ok (.if_icmp .lt 7, 3) := by decide +kernel
theorem dX5_worthOfGame_150 : decode cX5_worthOfGame 150 = .ok (.iconst 1, 1) := by decide +kernel
theorem dX5_worthOfGame_151 : decode cX5_worthOfGame 151 = .ok (.goto 4, 3) := by decide +kernel
theorem dX5_worthOfGame_154 : decode cX5_worthOfGame 154 = .ok (.iconst 0, 1) := by decide +kernel
theorem dX5_worthOfGame_155 : decode cX5_worthOfGame 155 = .ok (.istore 4, 2) := by decide +kernel
theorem dX5_worthOfGame_157 : decode cX5_worthOfGame 157 = .ok (.aload_n 0, 1) := by decide +kernel
theorem dX5_worthOfGame_158 : decode cX5_worthOfGame 158 = .ok (.getfield 67, 3) := by decide +kernel
theorem dX5_worthOfGame_161 : decode cX5_worthOfGame 161 = .ok (.iconst 1, 1) := by decide +kernel
theorem dX5_worthOfGame_162 : decode cX5_worthOfGame 162 = .ok (.if_icmp .gt 23, 3) := by decide +kernel
theorem dX5_worthOfGame_165 : decode cX5_worthOfGame 165 = .ok (.aload_n 0, 1) := by decide +kernel
theorem dX5_worthOfGame_166 : decode cX5_worthOfGame 166 = .ok (.getfield 26, 3) := by decide +kernel
theorem dX5_worthOfGame_169 : decode cX5_worthOfGame 169 = .ok (.aload_n 0, 1) := by decide +kernel
theorem dX5_worthOfGame_170 : decode cX5_worthOfGame 170 = .ok (.getfield 61, 3) := by decide +kernel
theorem dX5_worthOfGame_173 : decode cX5_worthOfGame 173 = .ok (.iaload, 1) := by decide +kernel
theorem dX5_worthOfGame_174 : decode cX5_worthOfGame 174 = .ok (.bipush 10, 2) := by decide +kernel
theorem dX5_worthOfGame_176 : decode cX5_worthOfGame 176 = .ok (.if_icmp .eq 9, 3) := by decide +kernel
theorem dX5_worthOfGame_179 : decode cX5_worthOfGame 179 = .ok (.iload_n 3, 1) := by decide +kernel
theorem dX5_worthOfGame_180 : decode cX5_worthOfGame 180 = .ok (.bipush 10, 2) := by decide +kernel
theorem dX5_worthOfGame_182 : decode cX5_worthOfGame 182 = .ok (.if_icmp .ne 7, 3) := by decide +kernel
theorem dX5_worthOfGame_185 : decode cX5_worthOfGame 185 = .ok (.iconst 1, 1) := by decide +kernel
theorem dX5_worthOfGame_186 : decode cX5_worthOfGame 186 = .ok (.goto 4, 3) := by decide +kernel
theorem dX5_worthOfGame_189 : decode cX5_worthOfGame 189 = .ok (.iconst 0, 1) := by decide +kernel
theorem dX5_worthOfGame_190 : decode cX5_worthOfGame 190 = .ok (.istore 5, 2) := by decide +kernel
theorem dX5_worthOfGame_192 : decode cX5_worthOfGame 192 = .ok (.aload_n 0, 1) := by decide +kernel
theorem dX5_worthOfGame_193 : decode cX5_worthOfGame 193 = .ok (.invokevirtual 168, 3) := by decide +kernel
theorem dX5_worthOfGame_196 : decode cX5_worthOfGame 196 = .ok (.iconst 1, 1) := by decide +kernel
theorem dX5_worthOfGame_197 : decode cX5_worthOfGame 197 = .ok (.iload_n 1, 1) := by decide +kernel
theorem dX5_worthOfGame_198 : decode cX5_worthOfGame 198 = .ok (.ifCond .ge 8, 3) := by decide +kernel
theorem dX5_worthOfGame_201 : decode cX5_worthOfGame 201 = .ok (.iload_n 1, 1) := by decide +kernel
theorem dX5_worthOfGame_202 : decode cX5_worthOfGame 202 = .ok (.ineg, 1) := by decide +kernel
theorem dX5_worthOfGame_203 : decode cX5_worthOfGame 203 = .ok (.goto 4, 3) := by decide +kernel
theorem dX5_worthOfGame_206 : decode cX5_worthOfGame 206 = .ok (.iload_n 1, 1) := by decide +kernel
theorem dX5_worthOfGame_207 : decode cX5_worthOfGame 207 = .ok (.iadd, 1) := by decide +kernel
theorem dX5_worthOfGame_208 : decode cX5_worthOfGame 208 = .ok (.aload_n 0, 1) := by decide +kernel
theorem dX5_worthOfGame_209 : decode cX5_worthOfGame 209 = .ok (.getfield 70, 3) := by decide +kernel
theorem dX5_worthOfGame_212 : decode cX5_worthOfGame 212 = .ok (.ifCond .eq 7, 3) := by decide +kernel
theorem dX5_worthOfGame_215 : decode cX5_worthOfGame 215 = .ok (.iconst 1, 1) := by decide +kernel
theorem dX5_worthOfGame_216 : decode cX5_worthOfGame 216 = .ok (.goto 4, 3) := by decide +kernel
theorem dX5_worthOfGame_219 : decode cX5_worthOfGame 219 = .ok (.iconst 0, 1) := by decide +kernel
theorem dX5_worthOfGame_220 : decode cX5_worthOfGame 220 = .ok (.iadd, 1) := by decide +kernel
theorem dX5_worthOfGame_221 : decode cX5_worthOfGame 221 = .ok (.iload 4, 2) := by decide +kernel
theorem dX5_worthOfGame_223 : decode cX5_worthOfGame 223 = .ok (.ifCond .eq 7, 3) := by decide +kernel
theorem dX5_worthOfGame_226 : decode cX5_worthOfGame 226 = .ok (.iconst 1, 1) := by decide +kernel
theorem dX5_worthOfGame_227 : decode cX5_worthOfGame 227 = .ok (.goto 4, 3) := by decide +kernel
theorem dX5_worthOfGame_230 : decode cX5_worthOfGame 230 = .ok (.iconst 0, 1) := by decide +kernel
theorem dX5_worthOfGame_231 : decode cX5_worthOfGame 231 = .ok (.iadd, 1) := by decide +kernel
theorem dX5_worthOfGame_232 : decode cX5_worthOfGame 232 = .ok (.iload 5, 2) := by decide +kernel
theorem dX5_worthOfGame_234 : decode cX5_worthOfGame 234 = .ok (.ifCond .eq 7, 3) := by decide +kernel
theorem dX5_worthOfGame_237 : decode cX5_worthOfGame 237 = .ok (.iconst 1, 1) := by decide +kernel
theorem dX5_worthOfGame_238 : decode cX5_worthOfGame 238 = .ok (.goto 4, 3) := by decide +kernel
theorem dX5_worthOfGame_241 : decode cX5_worthOfGame 241 = .ok (.iconst 0, 1) := by decide +kernel
theorem dX5_worthOfGame_242 : decode cX5_worthOfGame 242 = .ok (.iadd, 1) := by decide +kernel
theorem dX5_worthOfGame_243 : decode cX5_worthOfGame 243 = .ok (.aload_n 0, 1) := by decide +kernel
theorem dX5_worthOfGame_244 : decode cX5_worthOfGame 244 = .ok (.getfield 67, 3) := by decide +kernel
theorem dX5_worthOfGame_247 : decode cX5_worthOfGame 247 = .ok (.iadd, 1) := by decide +kernel
theorem dX5_worthOfGame_248 : decode cX5_worthOfGame 248 = .ok (.imul, 1) := by decide +kernel
theorem dX5_worthOfGame_249 : decode cX5_worthOfGame 249 = .ok (.ireturn, 1) := by decide +kernel
theorem dX5_base_0 : decode cX5_base 0 = .ok (.aload_n 0, 1) := by decide +kernel
theorem dX5_base_1 : decode cX5_base 1 = .ok (.getfield 64, 3) := by decide +kernel
theorem dX5_base_4 : decode cX5_base 4 = .ok (.iconst 4, 1) := by decide +kernel
theorem dX5_base_5 : decode cX5_base 5 = .ok (.if_icmp .ne 8, 3) := by decide +kernel
theorem dX5_base_8 : decode cX5_base 8 = .ok (.bipush 24, 2) := by decide +kernel
theorem dX5_base_10 : decode cX5_base 10 = .ok (.goto 10, 3) := by decide +kernel
theorem dX5_base_13 : decode cX5_base 13 = .ok (.bipush 9, 2) := by decide +kernel
theorem dX5_base_15 : decode cX5_base 15 = .ok (.aload_n 0, 1) := by decide +kernel
theorem dX5_base_16 : decode cX5_base 16 = .ok (.getfield 64, 3) := by decide +kernel
theorem dX5_base_19 : decode cX5_base 19 = .ok (.iadd, 1) := by decide +kernel
theorem dX5_base_20 : decode cX5_base 20 = .ok (.ireturn, 1) := by decide +kernel
theorem dX5_valueOf_0 : decode cX5_valueOf 0 = .ok (.aload_n 0, 1) := by decide +kernel
theorem dX5_valueOf_1 : decode cX5_valueOf 1 = .ok (.getfield 64, 3) := by decide +kernel
theorem dX5_valueOf_4 : decode cX5_valueOf 4 = .ok (.bipush 6, 2) := by decide +kernel
theorem dX5_valueOf_6 : decode cX5_valueOf 6 = .ok (.if_icmp .ne 8, 3) := by decide +kernel
theorem dX5_valueOf_9 : decode cX5_valueOf 9 = .ok (.aload_n 0, 1) := by decide +kernel
theorem dX5_valueOf_10 : decode cX5_valueOf 10 = .ok (.invokevirtual 171, 3) := by decide +kernel
theorem dX5_valueOf_13 : decode cX5_valueOf 13 = .ok (.ireturn, 1) := by decide +kernel
theorem dX5_valueOf_14 : decode cX5_valueOf 14 = .ok (.aload_n 0, 1) := by decide +kernel
theorem dX5_valueOf_15 : decode cX5_valueOf 15 = .ok (.invokevirtual 174, 3) := by decide +kernel
theorem dX5_valueOf_18 : decode cX5_valueOf 18 = .ok (.istore_n 1, 1) := by decide +kernel
theorem dX5_valueOf_19 : decode cX5_valueOf 19 = .ok (.iload_n 1, 1) := by decide +kernel
theorem dX5_valueOf_20 : decode cX5_valueOf 20 = .ok (.aload_n 0, 1) := by decide +kernel
theorem dX5_valueOf_21 : decode cX5_valueOf 21 = .ok (.getfield 58, 3) := by decide +kernel
theorem dX5_valueOf_24 : decode cX5_valueOf 24 = .ok (.if_icmp .ge 11, 3) := by decide +kernel
theorem dX5_valueOf_27 : decode cX5_valueOf 27 = .ok (.aload_n 0, 1) := by decide +kernel
theorem dX5_valueOf_28 : decode cX5_valueOf 28 = .ok (.getfield 64, 3) := by decide +kernel
theorem dX5_valueOf_31 : decode cX5_valueOf 31 = .ok (.iconst 5, 1) := by decide +kernel
theorem dX5_valueOf_32 : decode cX5_valueOf 32 = .ok (.if_icmp .ne 7, 3) := by decide +kernel
theorem dX5_valueOf_35 : decode cX5_valueOf 35 = .ok (.iload_n 1, 1) := by decide +kernel
theorem dX5_valueOf_36 : decode cX5_valueOf 36 = .ok (.goto 24, 3) := by decide +kernel
theorem dX5_valueOf_39 : decode cX5_valueOf 39 = .ok (.aload_n 0, 1) := by decide +kernel
theorem dX5_valueOf_40 : decode cX5_valueOf 40 = .ok (.getfield 58, 3) := by decide +kernel
theorem dX5_valueOf_43 : decode cX5_valueOf 43 = .ok (.aload_n 0, 1) := by decide +kernel
theorem dX5_valueOf_44 : decode cX5_valueOf 44 = .ok (.invokevirtual 168, 3) := by decide +kernel
theorem dX5_valueOf_47 : decode cX5_valueOf 47 = .ok (.iadd, 1) := by decide +kernel
theorem dX5_valueOf_48 : decode cX5_valueOf 48 = .ok (.iconst 1, 1) := by decide +kernel
theorem dX5_valueOf_49 : decode cX5_valueOf 49 = .ok (.isub, 1) := by decide +kernel
theorem dX5_valueOf_50 : decode cX5_valueOf 50 = .ok (.aload_n 0, 1) := by decide +kernel
theorem dX5_valueOf_51 : decode cX5_valueOf 51 = .ok (.invokevirtual 168, 3) := by decide +kernel
theorem dX5_valueOf_54 : decode cX5_valueOf 54 = .ok (.idiv, 1) := by decide +kernel
theorem dX5_valueOf_55 : decode cX5_valueOf 55 = .ok (.aload_n 0, 1) := by decide +kernel
theorem dX5_valueOf_56 : decode cX5_valueOf 56 = .ok (.invokevirtual 168, 3) := by decide +kernel
theorem dX5_valueOf_59 : decode cX5_valueOf 59 = .ok (.imul, 1) := by decide +kernel
theorem dX5_valueOf_60 : decode cX5_valueOf 60 = .ok (.ireturn, 1) := by decide +kernel
theorem dX5_isWon_0 : decode cX5_isWon 0 = .ok (.aload_n 0, 1) := by decide +kernel
theorem dX5_isWon_1 : decode cX5_isWon 1 = .ok (.invokevirtual 174, 3) := by decide +kernel
theorem dX5_isWon_4 : decode cX5_isWon 4 = .ok (.aload_n 0, 1) := by decide +kernel
theorem dX5_isWon_5 : decode cX5_isWon 5 = .ok (.getfield 58, 3) := by decide +kernel
theorem dX5_isWon_8 : decode cX5_isWon 8 = .ok (.if_icmp .ge 5, 3) := by decide +kernel
theorem dX5_isWon_11 : decode cX5_isWon 11 = .ok (.iconst 0, 1) := by decide +kernel
theorem dX5_isWon_12 : decode cX5_isWon 12 = .ok (.ireturn, 1) := by decide +kernel
theorem dX5_isWon_13 : decode cX5_isWon 13 = .ok (.aload_n 0, 1) := by decide +kernel
theorem dX5_isWon_14 : decode cX5_isWon 14 = .ok (.getfield 64, 3) := by decide +kernel
theorem dX5_isWon_17 : decode cX5_isWon 17 = .ok (.iconst 5, 1) := by decide +kernel
theorem dX5_isWon_18 : decode cX5_isWon 18 = .ok (.if_icmp .ne 21, 3) := by decide +kernel
theorem dX5_isWon_21 : decode cX5_isWon 21 = .ok (.aload_n 0, 1) := by decide +kernel
theorem dX5_isWon_22 : decode cX5_isWon 22 = .ok (.getfield 26, 3) := by decide +kernel
theorem dX5_isWon_25 : decode cX5_isWon 25 = .ok (.aload_n 0, 1) := by decide +kernel
theorem dX5_isWon_26 : decode cX5_isWon 26 = .ok (.getfield 61, 3) := by decide +kernel
theorem dX5_isWon_29 : decode cX5_isWon 29 = .ok (.iaload, 1) := by decide +kernel
theorem dX5_isWon_30 : decode cX5_isWon 30 = .ok (.ifCond .ne 7, 3) := by decide +kernel
theorem dX5_isWon_33 : decode cX5_isWon 33 = .ok (.iconst 1, 1) := by decide +kernel
theorem dX5_isWon_34 : decode cX5_isWon 34 = .ok (.goto 4, 3) := by decide +kernel
theorem dX5_isWon_37 : decode cX5_isWon 37 = .ok (.iconst 0, 1) := by decide +kernel
theorem dX5_isWon_38 : decode cX5_isWon 38 = .ok (.ireturn, 1) := by decide +kernel
theorem dX5_isWon_39 : decode cX5_isWon 39 = .ok (.aload_n 0, 1) := by decide +kernel
theorem dX5_isWon_40 : decode cX5_isWon 40 = .ok (.getfield 67, 3) := by decide +kernel
theorem dX5_isWon_43 : decode cX5_isWon 43 = .ok (.iconst 1, 1) := by decide +kernel
theorem dX5_isWon_44 : decode cX5_isWon 44 = .ok (.if_icmp .le 25, 3) := by decide +kernel
theorem dX5_isWon_47 : decode cX5_isWon 47 = .ok (.aload_n 0, 1) := by decide +kernel
theorem dX5_isWon_48 : decode cX5_isWon 48 = .ok (.getfield 26, 3) := by decide +kernel
theorem dX5_isWon_51 : decode cX5_isWon 51 = .ok (.aload_n 0, 1) := by decide +kernel
theorem dX5_isWon_52 : decode cX5_isWon 52 = .ok (.getfield 61, 3) := by decide +kernel
theorem dX5_isWon_55 : decode cX5_isWon 55 = .ok (.iaload, 1) := by decide +kernel
theorem dX5_isWon_56 : decode cX5_isWon 56 = .ok (.bipush 10, 2) := by decide +kernel
theorem dX5_isWon_58 : decode cX5_isWon 58 = .ok (.if_icmp .ne 7, 3) := by decide +kernel
theorem dX5_isWon_61 : decode cX5_isWon 61 = .ok (.iconst 1, 1) := by decide +kernel
theorem dX5_isWon_62 : decode cX5_isWon 62 = .ok (.goto 39, 3) := by decide +kernel
theorem dX5_isWon_65 : decode cX5_isWon 65 = .ok (.iconst 0, 1) := by decide +kernel
theorem dX5_isWon_66 : decode cX5_isWon 66 = .ok (.goto 35, 3) := by decide +kernel
theorem dX5_isWon_69 : decode cX5_isWon 69 = .ok (.aload_n 0, 1) := by decide +kernel
theorem dX5_isWon_70 : decode cX5_isWon 70 = .ok (.getfield 23, 3) := by decide +kernel
theorem dX5_isWon_73 : decode cX5_isWon 73 = .ok (.aload_n 0, 1) := by decide +kernel
theorem dX5_isWon_74 : decode cX5_isWon 74 = .ok (.getfield 61, 3) := by decide +kernel
theorem dX5_isWon_77 : decode cX5_isWon 77 = .ok (.iaload, 1) := by decide +kernel
theorem dX5_isWon_78 : decode cX5_isWon 78 = .ok (.aload_n 0, 1) := by decide +kernel
theorem dX5_isWon_79 : decode cX5_isWon 79 = .ok (.getfield 67, 3) := by decide +kernel
theorem dX5_isWon_82 : decode cX5_isWon 82 = .ok (.iconst 1, 1) := by decide +kernel
theorem dX5_isWon_83 : decode cX5_isWon 83 = .ok (.if_icmp .ne 8, 3) := by decide +kernel
theorem dX5_isWon_86 : decode cX5_isWon 86 = .ok (.bipush 90, 2) := by decide +kernel
theorem dX5_isWon_88 : decode cX5_isWon 88 = .ok (.goto 5, 3) := by decide +kernel
theorem dX5_isWon_91 : decode cX5_isWon 91 = .ok (.bipush 61, 2) := by decide +kernel
theorem dX5_isWon_93 : decode cX5_isWon 93 = .ok (.if_icmp .lt 7, 3) := by decide +kernel
theorem dX5_isWon_96 : decode cX5_isWon 96 = .ok (.iconst 1, 1) := by decide +kernel
theorem dX5_isWon_97 : decode cX5_isWon 97 = .ok (.goto 4, 3) := by decide +kernel
theorem dX5_isWon_100 : decode cX5_isWon 100 = .ok (.iconst 0, 1) := by decide +kernel
theorem dX5_isWon_101 : decode cX5_isWon 101 = .ok (.ireturn, 1) := by decide +kernel
theorem dX5_ends_0 : decode cX5_ends 0 = .ok (.aload_n 0, 1) := by decide +kernel
theorem dX5_ends_1 : decode cX5_ends 1 = .ok (.bipush 6, 2) := by decide +kernel
theorem dX5_ends_3 : decode cX5_ends 3 = .ok (.putfield 94, 3) := by decide +kernel
theorem dX5_ends_6 : decode cX5_ends 6 = .ok (.aload_n 0, 1) := by decide +kernel
theorem dX5_ends_7 : decode cX5_ends 7 = .ok (.getfield 23, 3) := by decide +kernel
theorem dX5_ends_10 : decode cX5_ends 10 = .ok (.aload_n 0, 1) := by decide +kernel
theorem dX5_ends_11 : decode cX5_ends 11 = .ok (.getfield 117, 3) := by decide +kernel
theorem dX5_ends_14 : decode cX5_ends 14 = .ok (.dup2, 1) := by decide +kernel
theorem dX5_ends_15 : decode cX5_ends 15 = .ok (.iaload, 1) := by decide +kernel
theorem dX5_ends_16 : decode cX5_ends 16 = .ok (.aload_n 0, 1) := by decide +kernel
theorem dX5_ends_17 : decode cX5_ends 17 = .ok (.getfield 64, 3) := by decide +kernel
theorem dX5_ends_20 : decode cX5_ends 20 = .ok (.bipush 6, 2) := by decide +kernel
theorem dX5_ends_22 : decode cX5_ends 22 = .ok (.if_icmp .ne 13, 3) := by decide +kernel
theorem dX5_ends_25 : decode cX5_ends 25 = .ok (.aload_n 0, 1) := by decide +kernel
theorem dX5_ends_26 : decode cX5_ends 26 = .ok (.getfield 54, 3) := by decide +kernel
theorem dX5_ends_29 : decode cX5_ends 29 = .ok (.invokestatic 130, 3) := by decide +kernel
theorem dX5_ends_32 : decode cX5_ends 32 = .ok (.goto 4, 3) := by decide +kernel
theorem dX5_ends_35 : decode cX5_ends 35 = .ok (.iconst 0, 1) := by decide +kernel
theorem dX5_ends_36 : decode cX5_ends 36 = .ok (.iadd, 1) := by decide +kernel
theorem dX5_ends_37 : decode cX5_ends 37 = .ok (.iastore, 1) := by decide +kernel
theorem dX5_ends_38 : decode cX5_ends 38 = .ok (.aload_n 0, 1) := by decide +kernel
theorem dX5_ends_39 : decode cX5_ends 39 = .ok (.invokevirtual 177, 3) := by decide +kernel
theorem dX5_ends_42 : decode cX5_ends 42 = .ok (.istore_n 1, 1) := by decide +kernel
theorem dX5_ends_43 : decode cX5_ends 43 = .ok (.iconst 0, 1) := by decide +kernel
theorem dX5_ends_44 : decode cX5_ends 44 = .ok (.istore_n 2, 1) := by decide +kernel
theorem dX5_ends_45 : decode cX5_ends 45 = .ok (.iload_n 2, 1) := by decide +kernel
theorem dX5_ends_46 : decode cX5_ends 46 = .ok (.iconst 3, 1) := by decide +kernel
theorem dX5_ends_47 : decode cX5_ends 47 = .ok (.if_icmp .ge 42, 3) := by decide +kernel
theorem dX5_ends_50 : decode cX5_ends 50 = .ok (.aload_n 0, 1) := by decide +kernel
theorem dX5_ends_51 : decode cX5_ends 51 = .ok (.getfield 29, 3) := by decide +kernel
theorem dX5_ends_54 : decode cX5_ends 54 = .ok (.iload_n 2, 1) := by decide +kernel
theorem dX5_ends_55 : decode cX5_ends 55 = .ok (.dup2, 1) := by decide +kernel
theorem dX5_ends_56 : decode cX5_ends 56 = .ok (.iaload, 1) := by decide +kernel
theorem dX5_ends_57 : decode cX5_ends 57 = .ok (.aload_n 0, 1) := by decide +kernel
theorem dX5_ends_58 : decode cX5_ends 58 = .ok (.getfield 64, 3) := by decide +kernel
theorem dX5_ends_61 : decode cX5_ends 61 = .ok (.bipush 6, 2) := by decide +kernel
theorem dX5_ends_63 : decode cX5_ends 63 = .ok (.if_icmp .ne 17, 3) := by decide +kernel
theorem dX5_ends_66 : decode cX5_ends 66 = .ok (.aload_n 0, 1) := by decide +kernel
theorem dX5_ends_67 : decode cX5_ends 67 = .ok (.getfield 23, 3) := by decide +kernel
theorem dX5_ends_70 : decode cX5_ends 70 = .ok (.iload_n 2, 1) := by decide +kernel
theorem dX5_ends_71 : decode cX5_ends 71 = .ok (.iaload, 1) := by decide +kernel
theorem dX5_ends_72 : decode cX5_ends 72 = .ok (.iload_n 1, 1) := by decide +kernel
theorem dX5_ends_73 : decode cX5_ends 73 = .ok (.if_icmp .ne 7, 3) := by decide +kernel
theorem dX5_ends_76 : decode cX5_ends 76 = .ok (.iload_n 1, 1) := by decide +kernel
theorem dX5_ends_77 : decode cX5_ends 77 = .ok (.goto 4, 3) := by decide +kernel
theorem dX5_ends_80 : decode cX5_ends 80 = .ok (.iconst 0, 1) := by decide +kernel
theorem dX5_ends_81 : decode cX5_ends 81 = .ok (.isub, 1) := by decide +kernel
theorem dX5_ends_82 : decode cX5_ends 82 = .ok (.iastore, 1) := by decide +kernel
theorem dX5_ends_83 : decode cX5_ends 83 = .ok (.iinc 2 1, 3) := by decide +kernel
theorem dX5_ends_86 : decode cX5_ends 86 = .ok (.goto (-41), 3) := by decide +kernel
theorem dX5_ends_89 : decode cX5_ends 89 = .ok (.aload_n 0, 1) := by decide +kernel
theorem dX5_ends_90 : decode cX5_ends 90 = .ok (.getfield 64, 3) := by decide +kernel
theorem dX5_ends_93 : decode cX5_ends 93 = .ok (.bipush 6, 2) := by decide +kernel
theorem dX5_ends_95 : decode cX5_ends 95 = .ok (.if_icmp .eq 30, 3) := by decide +kernel
theorem dX5_ends_98 : decode cX5_ends 98 = .ok (.aload_n 0, 1) := by decide +kernel
theorem dX5_ends_99 : decode cX5_ends 99 = .ok (.getfield 29, 3) := by decide +kernel
theorem dX5_ends_102 : decode cX5_ends 102 = .ok (.aload_n 0, 1) := by decide +kernel
theorem dX5_ends_103 : decode cX5_ends 103 = .ok (.getfield 61, 3) := by decide +kernel
theorem dX5_ends_106 : decode cX5_ends 106 = .ok (.dup2, 1) := by decide +kernel
theorem dX5_ends_107 : decode cX5_ends 107 = .ok (.iaload, 1) := by decide +kernel
theorem dX5_ends_108 : decode cX5_ends 108 = .ok (.aload_n 0, 1) := by decide +kernel
theorem dX5_ends_109 : decode cX5_ends 109 = .ok (.invokevirtual 180, 3) := by decide +kernel
theorem dX5_ends_112 : decode cX5_ends 112 = .ok (.ifCond .eq 7, 3) := by decide +kernel
theorem dX5_ends_115 : decode cX5_ends 115 = .ok (.iload_n 1, 1) := by decide +kernel
theorem dX5_ends_116 : decode cX5_ends 116 = .ok (.goto 7, 3) := by decide +kernel
theorem dX5_ends_119 : decode cX5_ends 119 = .ok (.bipush (-2), 2) := by decide +kernel
theorem dX5_ends_121 : decode cX5_ends 121 = .ok (.iload_n 1, 1) := by decide +kernel
theorem dX5_ends_122 : decode cX5_ends 122 = .ok (.imul, 1) := by decide +kernel
theorem dX5_ends_123 : decode cX5_ends 123 = .ok (.iadd, 1) := by decide +kernel
theorem dX5_ends_124 : decode cX5_ends 124 = .ok (.iastore, 1) := by decide +kernel
theorem dX5_ends_125 : decode cX5_ends 125 = .ok (.return_, 1) := by decide +kernel
theorem dX5_value_0 : decode cX5_value 0 = .ok (.aload_n 0, 1) := by decide +kernel
theorem dX5_value_1 : decode cX5_value 1 = .ok (.aload_n 0, 1) := by decide +kernel
theorem dX5_value_2 : decode cX5_value 2 = .ok (.getfield 64, 3) := by decide +kernel
theorem dX5_value_5 : decode cX5_value 5 = .ok (.iconst (-1), 1) := by decide +kernel
theorem dX5_value_6 : decode cX5_value 6 = .ok (.if_icmp .ne 7, 3) := by decide +kernel
theorem dX5_value_9 : decode cX5_value 9 = .ok (.iconst 1, 1) := by decide +kernel
theorem dX5_value_10 : decode cX5_value 10 = .ok (.goto 4, 3) := by decide +kernel
theorem dX5_value_13 : decode cX5_value 13 = .ok (.iconst 0, 1) := by decide +kernel
theorem dX5_value_14 : decode cX5_value 14 = .ok (.invokevirtual 100, 3) := by decide +kernel
theorem dX5_value_17 : decode cX5_value 17 = .ok (.ifCond .eq 10, 3) := by decide +kernel
theorem dX5_value_20 : decode cX5_value 20 = .ok (.aload_n 0, 1) := by decide +kernel
theorem dX5_value_21 : decode cX5_value 21 = .ok (.invokevirtual 177, 3) := by decide +kernel
theorem dX5_value_24 : decode cX5_value 24 = .ok (.goto 4, 3) := by decide +kernel
theorem dX5_value_27 : decode cX5_value 27 = .ok (.iconst 0, 1) := by decide +kernel
theorem dX5_value_28 : decode cX5_value 28 = .ok (.ireturn, 1) := by decide +kernel
theorem dX5_score_0 : decode cX5_score 0 = .ok (.aload_n 0, 1) := by decide +kernel
theorem dX5_score_1 : decode cX5_score 1 = .ok (.iload_n 1, 1) := by decide +kernel
theorem dX5_score_2 : decode cX5_score 2 = .ok (.aload_n 0, 1) := by decide +kernel
theorem dX5_score_3 : decode cX5_score 3 = .ok (.getfield 29, 3) := by decide +kernel
theorem dX5_score_6 : decode cX5_score 6 = .ok (.invokevirtual 164, 3) := by decide +kernel
theorem dX5_score_9 : decode cX5_score 9 = .ok (.ireturn, 1) := by decide +kernel
