theorem dX7_init_0 : decode cX7_init 0 = .ok (.aload_n 0, 1) := by decide +kernel
theorem dX7_init_1 : decode cX7_init 1 = .ok (.invokespecial 3, 3) := by decide +kernel
theorem dX7_init_4 : decode cX7_init 4 = .ok (.aload_n 0, 1) := by decide +kernel
theorem dX7_init_5 : decode cX7_init 5 = .ok (.iconst 3, 1) := by decide +kernel
theorem dX7_init_6 : decode cX7_init 6 = .ok (.newarray .int, 2) := by decide +kernel
theorem dX7_init_8 : decode cX7_init 8 = .ok (.putfield 9, 3) := by decide +kernel
theorem dX7_init_11 : decode cX7_init 11 = .ok (.aload_n 0, 1) := by decide +kernel
theorem dX7_init_12 : decode cX7_init 12 = .ok (.iconst (-1), 1) := by decide +kernel
theorem dX7_init_13 : decode cX7_init 13 = .ok (.putfield 13, 3) := by decide +kernel
theorem dX7_init_16 : decode cX7_init 16 = .ok (.aload_n 0, 1) := by decide +kernel
theorem dX7_init_17 : decode cX7_init 17 = .ok (.sipush 300, 3) := by decide +kernel
theorem dX7_init_20 : decode cX7_init 20 = .ok (.newarray .int, 2) := by decide +kernel
theorem dX7_init_22 : decode cX7_init 22 = .ok (.putfield 17, 3) := by decide +kernel
theorem dX7_init_25 : decode cX7_init 25 = .ok (.aload_n 0, 1) := by decide +kernel
theorem dX7_init_26 : decode cX7_init 26 = .ok (.bipush 90, 2) := by decide +kernel
theorem dX7_init_28 : decode cX7_init 28 = .ok (.newarray .long, 2) := by decide +kernel
theorem dX7_init_30 : decode cX7_init 30 = .ok (.putfield 20, 3) := by decide +kernel
theorem dX7_init_33 : decode cX7_init 33 = .ok (.aload_n 0, 1) := by decide +kernel
theorem dX7_init_34 : decode cX7_init 34 = .ok (.bipush 90, 2) := by decide +kernel
theorem dX7_init_36 : decode cX7_init 36 = .ok (.newarray .long, 2) := by decide +kernel
theorem dX7_init_38 : decode cX7_init 38 = .ok (.putfield 24, 3) := by decide +kernel
theorem dX7_init_41 : decode cX7_init 41 = .ok (.aload_n 0, 1) := by decide +kernel
theorem dX7_init_42 : decode cX7_init 42 = .ok (.bipush 8, 2) := by decide +kernel
theorem dX7_init_44 : decode cX7_init 44 = .ok (.bipush 90, 2) := by decide +kernel
theorem dX7_init_46 : decode cX7_init 46 = .ok (.multianewarray 27 2, 4) := by decide +kernel
theorem dX7_init_50 : decode cX7_init 50 = .ok (.putfield 29, 3) := by decide +kernel
theorem dX7_init_53 : decode cX7_init 53 = .ok (.aload_n 0, 1) := by decide +kernel
theorem dX7_init_54 : decode cX7_init 54 = .ok (.iconst 5, 1) := by decide +kernel
theorem dX7_init_55 : decode cX7_init 55 = .ok (.newarray .int, 2) := by decide +kernel
theorem dX7_init_57 : decode cX7_init 57 = .ok (.putfield 32, 3) := by decide +kernel
theorem dX7_init_60 : decode cX7_init 60 = .ok (.aload_n 0, 1) := by decide +kernel
theorem dX7_init_61 : decode cX7_init 61 = .ok (.sipush 1500, 3) := by decide +kernel
theorem dX7_init_64 : decode cX7_init 64 = .ok (.newarray .int, 2) := by decide +kernel
theorem dX7_init_66 : decode cX7_init 66 = .ok (.putfield 35, 3) := by decide +kernel
theorem dX7_init_69 : decode cX7_init 69 = .ok (.aload_n 0, 1) := by decide +kernel
theorem dX7_init_70 : decode cX7_init 70 = .ok (.sipush 300, 3) := by decide +kernel
theorem dX7_init_73 : decode cX7_init 73 = .ok (.newarray .int, 2) := by decide +kernel
theorem dX7_init_75 : decode cX7_init 75 = .ok (.putfield 38, 3) := by decide +kernel
theorem dX7_init_78 : decode cX7_init 78 = .ok (.aload_n 0, 1) := by decide +kernel
theorem dX7_init_79 : decode cX7_init 79 = .ok (.iconst 0, 1) := by decide +kernel
theorem dX7_init_80 : decode cX7_init 80 = .ok (.newarray .long, 2) := by decide +kernel
theorem dX7_init_82 : decode cX7_init 82 = .ok (.putfield 41, 3) := by decide +kernel
theorem dX7_init_85 : decode cX7_init 85 = .ok (.aload_n 0, 1) := by decide +kernel
theorem dX7_init_86 : decode cX7_init 86 = .ok (.iconst 0, 1) := by decide +kernel
theorem dX7_init_87 : decode cX7_init 87 = .ok (.newarray .long, 2) := by decide +kernel
theorem dX7_init_89 : decode cX7_init 89 = .ok (.putfield 44, 3) := by decide +kernel
theorem dX7_init_92 : decode cX7_init 92 = .ok (.aload_n 0, 1) := by decide +kernel
theorem dX7_init_93 : decode cX7_init 93 = .ok (.bipush 57, 2) := by decide +kernel
theorem dX7_init_95 : decode cX7_init 95 = .ok (.newarray .int, 2) := by decide +kernel
theorem dX7_init_97 : decode cX7_init 97 = .ok (.putfield 47, 3) := by decide +kernel
theorem dX7_init_100 : decode cX7_init 100 = .ok (.aload_n 0, 1) := by decide +kernel
theorem dX7_init_101 : decode cX7_init 101 = .ok (.bipush 55, 2) := by decide +kernel
theorem dX7_init_103 : decode cX7_init 103 = .ok (.newarray .long, 2) := by decide +kernel
theorem dX7_init_105 : decode cX7_init 105 = .ok (.putfield 50, 3) := by decide +kernel
theorem dX7_init_108 : decode cX7_init 108 = .ok (.aload_n 0, 1) := by decide +kernel
theorem dX7_init_109 : decode cX7_init 109 = .ok (.bipush 55, 2) := by decide +kernel
theorem dX7_init_111 : decode cX7_init 111 = .ok (.newarray .long, 2) := by decide +kernel
theorem dX7_init_113 : decode cX7_init 113 = .ok (.putfield 53, 3) := by decide +kernel
theorem dX7_init_116 : decode cX7_init 116 = .ok (.aload_n 0, 1) := by decide +kernel
theorem dX7_init_117 : decode cX7_init 117 = .ok (.bipush 15, 2) := by decide +kernel
theorem dX7_init_119 : decode cX7_init 119 = .ok (.newarray .int, 2) := by decide +kernel
theorem dX7_init_121 : decode cX7_init 121 = .ok (.putfield 56, 3) := by decide +kernel
theorem dX7_init_124 : decode cX7_init 124 = .ok (.aload_n 0, 1) := by decide +kernel
theorem dX7_init_125 : decode cX7_init 125 = .ok (.getfield 20, 3) := by decide +kernel
theorem dX7_init_128 : decode cX7_init 128 = .ok (.iconst 0, 1) := by decide +kernel
theorem dX7_init_129 : decode cX7_init 129 = .ok (.ldc2_w 59, 3) := by decide +kernel
theorem dX7_init_132 : decode cX7_init 132 = .ok (.lastore, 1) := by decide +kernel
theorem dX7_init_133 : decode cX7_init 133 = .ok (.aload_n 0, 1) := by decide +kernel
theorem dX7_init_134 : decode cX7_init 134 = .ok (.getfield 20, 3) := by decide +kernel
theorem dX7_init_137 : decode cX7_init 137 = .ok (.iconst 2, 1) := by decide +kernel
theorem dX7_init_138 : decode cX7_init 138 = .ok (.ldc2_w 59, 3) := by decide +kernel
theorem dX7_init_141 : decode cX7_init 141 = .ok (.lastore, 1) := by decide +kernel
theorem dX7_init_142 : decode cX7_init 142 = .ok (.aload_n 0, 1) := by decide +kernel
theorem dX7_init_143 : decode cX7_init 143 = .ok (.getfield 20, 3) := by decide +kernel
theorem dX7_init_146 : decode cX7_init 146 = .ok (.bipush 29, 2) := by decide +kernel
theorem dX7_init_148 : decode cX7_init 148 = .ok (.ldc2_w 61, 3) := by decide +kernel
theorem dX7_init_151 : decode cX7_init 151 = .ok (.lastore, 1) := by decide +kernel
theorem dX7_init_152 : decode cX7_init 152 = .ok (.return_, 1) := by decide +kernel
theorem dX7_thrown_0 : decode cX7_thrown 0 = .ok (.aload_n 0, 1) := by decide +kernel
theorem dX7_thrown_1 : decode cX7_thrown 1 = .ok (.getfield 63, 3) := by decide +kernel
theorem dX7_thrown_4 : decode cX7_thrown 4 = .ok (.ireturn, 1) := by decide +kernel
theorem dX7_bad_0 : decode cX7_bad 0 = .ok (.iload_n 1, 1) := by decide +kernel
theorem dX7_bad_1 : decode cX7_bad 1 = .ok (.ifCond .eq 25, 3) := by decide +kernel
theorem dX7_bad_4 : decode cX7_bad 4 = .ok (.aload_n 0, 1) := by decide +kernel
theorem dX7_bad_5 : decode cX7_bad 5 = .ok (.getfield 63, 3) := by decide +kernel
theorem dX7_bad_8 : decode cX7_bad 8 = .ok (.ifCond .ne 18, 3) := by decide +kernel
theorem dX7_bad_11 : decode cX7_bad 11 = .ok (.aload_n 0, 1) := by decide +kernel
theorem dX7_bad_12 : decode cX7_bad 12 = .ok (.iload_n 2, 1) := by decide +kernel
theorem dX7_bad_13 : decode cX7_bad 13 = .ok (.putfield 63, 3) := by decide +kernel
theorem dX7_bad_16 : decode cX7_bad 16 = .ok (.aload_n 0, 1) := by decide +kernel
theorem dX7_bad_17 : decode cX7_bad 17 = .ok (.getfield 9, 3) := by decide +kernel
theorem dX7_bad_20 : decode cX7_bad 20 = .ok (.iload_n 3, 1) := by decide +kernel
theorem dX7_bad_21 : decode cX7_bad 21 = .ok (.dup2, 1) := by decide +kernel
theorem dX7_bad_22 : decode cX7_bad 22 = .ok (.iaload, 1) := by decide +kernel
theorem dX7_bad_23 : decode cX7_bad 23 = .ok (.iconst 1, 1) := by decide +kernel
theorem dX7_bad_24 : decode cX7_bad 24 = .ok (.iadd, 1) := by decide +kernel
theorem dX7_bad_25 : decode cX7_bad 25 = .ok (.iastore, 1) := by decide +kernel
theorem dX7_bad_26 : decode cX7_bad 26 = .ok (.aload_n 0, 1) := by decide +kernel
theorem dX7_bad_27 : decode cX7_bad 27 = .ok (.getfield 63, 3) := by decide +kernel
theorem dX7_bad_30 : decode cX7_bad 30 = .ok (.ifCond .eq 7, 3) := by decide +kernel
theorem dX7_bad_33 : decode cX7_bad 33 = .ok (.iconst 1, 1) := by decide +kernel
theorem dX7_bad_34 : decode cX7_bad 34 = .ok (.goto 4, 3) := by decide +kernel
theorem dX7_bad_37 : decode cX7_bad 37 = .ok (.iconst 0, 1) := by decide +kernel
theorem dX7_bad_38 : decode cX7_bad 38 = .ok (.ireturn, 1) := by decide +kernel
theorem dX7_in_0 : decode cX7_in 0 = .ok (.lload_n 0, 1) := by decide +kernel
theorem dX7_in_1 : decode cX7_in 1 = .ok (.lload_n 2, 1) := by decide +kernel
theorem dX7_in_2 : decode cX7_in 2 = .ok (.lcmp, 1) := by decide +kernel
theorem dX7_in_3 : decode cX7_in 3 = .ok (.ifCond .lt 14, 3) := by decide +kernel
theorem dX7_in_6 : decode cX7_in 6 = .ok (.lload_n 0, 1) := by decide +kernel
theorem dX7_in_7 : decode cX7_in 7 = .ok (.lload 4, 2) := by decide +kernel
theorem dX7_in_9 : decode cX7_in 9 = .ok (.lcmp, 1) := by decide +kernel
theorem dX7_in_10 : decode cX7_in 10 = .ok (.ifCond .gt 7, 3) := by decide +kernel
theorem dX7_in_13 : decode cX7_in 13 = .ok (.iconst 1, 1) := by decide +kernel
theorem dX7_in_14 : decode cX7_in 14 = .ok (.goto 4, 3) := by decide +kernel
theorem dX7_in_17 : decode cX7_in 17 = .ok (.iconst 0, 1) := by decide +kernel
theorem dX7_in_18 : decode cX7_in 18 = .ok (.ireturn, 1) := by decide +kernel
theorem dX7_less_0 : decode cX7_less 0 = .ok (.iload_n 0, 1) := by decide +kernel
theorem dX7_less_1 : decode cX7_less 1 = .ok (.iload_n 1, 1) := by decide +kernel
theorem dX7_less_2 : decode cX7_less 2 = .ok (.if_icmp .ge 7, 3) := by decide +kernel
theorem dX7_less_5 : decode cX7_less 5 = .ok (.iload_n 0, 1) := by decide +kernel
theorem dX7_less_6 : decode cX7_less 6 = .ok (.goto 4, 3) := by decide +kernel
theorem dX7_less_9 : decode cX7_less 9 = .ok (.iload_n 1, 1) := by decide +kernel
theorem dX7_less_10 : decode cX7_less 10 = .ok (.ireturn, 1) := by decide +kernel
theorem dX7_more_0 : decode cX7_more 0 = .ok (.iload_n 0, 1) := by decide +kernel
theorem dX7_more_1 : decode cX7_more 1 = .ok (.iload_n 1, 1) := by decide +kernel
theorem dX7_more_2 : decode cX7_more 2 = .ok (.if_icmp .le 7, 3) := by decide +kernel
theorem dX7_more_5 : decode cX7_more 5 = .ok (.iload_n 0, 1) := by decide +kernel
theorem dX7_more_6 : decode cX7_more 6 = .ok (.goto 4, 3) := by decide +kernel
theorem dX7_more_9 : decode cX7_more 9 = .ok (.iload_n 1, 1) := by decide +kernel
theorem dX7_more_10 : decode cX7_more 10 = .ok (.ireturn, 1) := by decide +kernel
theorem dX7_feed_0 : decode cX7_feed 0 = .ok (.aload_n 0, 1) := by decide +kernel
theorem dX7_feed_1 : decode cX7_feed 1 = .ok (.iconst 0, 1) := by decide +kernel
theorem dX7_feed_2 : decode cX7_feed 2 = .ok (.putfield 63, 3) := by decide +kernel
theorem dX7_feed_5 : decode cX7_feed 5 = .ok (.aload_n 0, 1) := by decide +kernel
theorem dX7_feed_6 : decode cX7_feed 6 = .ok (.getfield 66, 3) := by decide +kernel
theorem dX7_feed_9 : decode cX7_feed 9 = .ok (.bipush 20, 2) := by decide +kernel
theorem dX7_feed_11 : decode cX7_feed 11 = .ok (.iadd, 1) := by decide +kernel
theorem dX7_feed_12 : decode cX7_feed 12 = .ok (.sipush 300, 3) := by decide +kernel
theorem dX7_feed_15 : decode cX7_feed 15 = .ok (.if_icmp .le 5, 3) := by decide +kernel
theorem dX7_feed_18 : decode cX7_feed 18 = .ok (.iconst (-1), 1) := by decide +kernel
theorem dX7_feed_19 : decode cX7_feed 19 = .ok (.ireturn, 1) := by decide +kernel
theorem dX7_feed_20 : decode cX7_feed 20 = .ok (.iconst 0, 1) := by decide +kernel
theorem dX7_feed_21 : decode cX7_feed 21 = .ok (.istore 6, 2) := by decide +kernel
theorem dX7_feed_23 : decode cX7_feed 23 = .ok (.iload 6, 2) := by decide +kernel
theorem dX7_feed_25 : decode cX7_feed 25 = .ok (.bipush 20, 2) := by decide +kernel
theorem dX7_feed_27 : decode cX7_feed 27 = .ok (.if_icmp .ge 93, 3) := by decide +kernel
theorem dX7_feed_30 : decode cX7_feed 30 = .ok (.iload 6, 2) := by decide +kernel
theorem dX7_feed_32 : decode cX7_feed 32 = .ok (.iconst 4, 1) := by decide +kernel
theorem dX7_feed_33 : decode cX7_feed 33 = .ok (.if_icmp .ge 7, 3) := by decide +kernel
theorem dX7_feed_36 : decode cX7_feed 36 = .ok (.iload_n 1, 1) := by decide +kernel
theorem dX7_feed_37 : decode cX7_feed 37 = .ok (.goto 39, 3) := by decide +kernel
theorem dX7_feed_40 : decode cX7_feed 40 = .ok (.iload 6, 2) := by decide +kernel
theorem dX7_feed_42 : decode cX7_feed 42 = .ok (.bipush 8, 2) := by decide +kernel
theorem dX7_feed_44 : decode cX7_feed 44 = .ok (.if_icmp .ge 7, 3) := by decide +kernel
theorem dX7_feed_47 : decode cX7_feed 47 = .ok (.iload_n 2, 1) := by decide +kernel
theorem dX7_feed_48 : decode cX7_feed 48 = .ok (.goto 28, 3) := by decide +kernel
theorem dX7_feed_51 : decode cX7_feed 51 = .ok (.iload 6, 2) := by decide +kernel
theorem dX7_feed_53 : decode cX7_feed 53 = .ok (.bipush 12, 2) := by decide +kernel
theorem dX7_feed_55 : decode cX7_feed 55 = .ok (.if_icmp .ge 7, 3) := by decide +kernel
theorem dX7_feed_58 : decode cX7_feed 58 = .ok (.iload_n 3, 1) := by decide +kernel
theorem dX7_feed_59 : decode cX7_feed 59 = .ok (.goto 17, 3) := by decide +kernel
theorem dX7_feed_62 : decode cX7_feed 62 = .ok (.iload 6, 2) := by decide +kernel
theorem dX7_feed_64 : decode cX7_feed 64 = .ok (.bipush 16, 2) := by decide +kernel
theorem dX7_feed_66 : decode cX7_feed 66 = .ok (.if_icmp .ge 8, 3) := by decide +kernel
theorem dX7_feed_69 : decode cX7_feed 69 = .ok (.iload 4, 2) := by decide +kernel
theorem dX7_feed_71 : decode cX7_feed 71 = .ok (.goto 5, 3) := by decide +kernel
theorem dX7_feed_74 : decode cX7_feed 74 = .ok (.iload 5, 2) := by decide +kernel
theorem dX7_feed_76 : decode cX7_feed 76 = .ok (.istore 7, 2) := by decide +kernel
theorem dX7_feed_78 : decode cX7_feed 78 = .ok (.aload_n 0, 1) := by decide +kernel
theorem dX7_feed_79 : decode cX7_feed 79 = .ok (.getfield 17, 3) := by decide +kernel
theorem dX7_feed_82 : decode cX7_feed 82 = .ok (.aload_n 0, 1) := by decide +kernel
theorem dX7_feed_83 : decode cX7_feed 83 = .ok (.getfield 66, 3) := by decide +kernel
theorem dX7_feed_86 : decode cX7_feed 86 = .ok (.iload 7, 2) := by decide +kernel
theorem dX7_feed_88 : decode cX7_feed 88 = .ok (.bipush 24, 2) := by decide +kernel
theorem dX7_feed_90 : decode cX7_feed 90 = .ok (.bipush 8, 2) := by decide +kernel
theorem dX7_feed_92 : decode cX7_feed 92 = .ok (.iload 6, 2) := by decide +kernel
theorem dX7_feed_94 : decode cX7_feed 94 = .ok (.iconst 4, 1) := by decide +kernel
theorem dX7_feed_95 : decode cX7_feed 95 = .ok (.irem, 1) := by decide +kernel
theorem dX7_feed_96 : decode cX7_feed 96 = .ok (.imul, 1) := by decide +kernel
theorem dX7_feed_97 : decode cX7_feed 97 = .ok (.isub, 1) := by decide +kernel
theorem dX7_feed_98 : decode cX7_feed 98 = .ok (.ishr, 1) := by decide +kernel
theorem dX7_feed_99 : decode cX7_feed 99 = .ok (.sipush 255, 3) := by decide +kernel
theorem dX7_feed_102 : decode cX7_feed 102 = .ok (.iand, 1) := by decide +kernel
theorem dX7_feed_103 : decode cX7_feed 103 = .ok (.iastore, 1) := by decide +kernel
theorem dX7_feed_104 : decode cX7_feed 104 = .ok (.aload_n 0, 1) := by decide +kernel
theorem dX7_feed_105 : decode cX7_feed 105 = .ok (.dup, 1) := by decide +kernel
theorem dX7_feed_106 : decode cX7_feed 106 = .ok (.getfield 66, 3) := by decide +kernel
theorem dX7_feed_109 : decode cX7_feed 109 = .ok (.iconst 1, 1) := by decide +kernel
theorem dX7_feed_110 : decode cX7_feed 110 = .ok (.iadd, 1) := by decide +kernel
theorem dX7_feed_111 : decode cX7_feed 111 = .ok (.putfield 66, 3) := by decide +kernel
theorem dX7_feed_114 : decode cX7_feed 114 = .ok (.iinc 6 1, 3) := by decide +kernel
theorem dX7_feed_117 : decode cX7_feed 117 = .ok (.goto (-94), 3) := by decide +kernel
theorem dX7_feed_120 : decode cX7_feed 120 = .ok (.aload_n 0, 1) := by decide +kernel
theorem dX7_feed_121 : decode cX7_feed 121 = .ok (.getfield 66, 3) := by decide +kernel
theorem dX7_feed_124 : decode cX7_feed 124 = .ok (.ireturn, 1) := by decide +kernel
theorem dX7_copies_0 : decode cX7_copies 0 = .ok (.iconst 0, 1) := by decide +kernel
theorem dX7_copies_1 : decode cX7_copies 1 = .ok (.istore_n 2, 1) := by decide +kernel
theorem dX7_copies_2 : decode cX7_copies 2 = .ok (.iload_n 2, 1) := by decide +kernel
theorem dX7_copies_3 : decode cX7_copies 3 = .ok (.bipush 90, 2) := by decide +kernel
theorem dX7_copies_5 : decode cX7_copies 5 = .ok (.if_icmp .ge 15, 3) := by decide +kernel
theorem dX7_copies_8 : decode cX7_copies 8 = .ok (.aload_n 1, 1) := by decide +kernel
theorem dX7_copies_9 : decode cX7_copies 9 = .ok (.iload_n 2, 1) := by decide +kernel
theorem dX7_copies_10 : decode cX7_copies 10 = .ok (.aload_n 0, 1) := by decide +kernel
theorem dX7_copies_11 : decode cX7_copies 11 = .ok (.iload_n 2, 1) := by decide +kernel
theorem dX7_copies_12 : decode cX7_copies 12 = .ok (.laload, 1) := by decide +kernel
theorem dX7_copies_13 : decode cX7_copies 13 = .ok (.lastore, 1) := by decide +kernel
theorem dX7_copies_14 : decode cX7_copies 14 = .ok (.iinc 2 1, 3) := by decide +kernel
theorem dX7_copies_17 : decode cX7_copies 17 = .ok (.goto (-15), 3) := by decide +kernel
theorem dX7_copies_20 : decode cX7_copies 20 = .ok (.return_, 1) := by decide +kernel
theorem dX7_lineOf_0 : decode cX7_lineOf 0 = .ok (.iload_n 1, 1) := by decide +kernel
theorem dX7_lineOf_1 : decode cX7_lineOf 1 = .ok (.iload_n 2, 1) := by decide +kernel
theorem dX7_lineOf_2 : decode cX7_lineOf 2 = .ok (.invokestatic 69, 3) := by decide +kernel
theorem dX7_lineOf_5 : decode cX7_lineOf 5 = .ok (.istore_n 3, 1) := by decide +kernel
theorem dX7_lineOf_6 : decode cX7_lineOf 6 = .ok (.iload_n 1, 1) := by decide +kernel
theorem dX7_lineOf_7 : decode cX7_lineOf 7 = .ok (.iload_n 2, 1) := by decide +kernel
theorem dX7_lineOf_8 : decode cX7_lineOf 8 = .ok (.invokestatic 73, 3) := by decide +kernel
theorem dX7_lineOf_11 : decode cX7_lineOf 11 = .ok (.istore 4, 2) := by decide +kernel
theorem dX7_lineOf_13 : decode cX7_lineOf 13 = .ok (.iconst 0, 1) := by decide +kernel
theorem dX7_lineOf_14 : decode cX7_lineOf 14 = .ok (.istore 5, 2) := by decide +kernel
theorem dX7_lineOf_16 : decode cX7_lineOf 16 = .ok (.iconst 0, 1) := by decide +kernel
theorem dX7_lineOf_17 : decode cX7_lineOf 17 = .ok (.istore 6, 2) := by decide +kernel
theorem dX7_lineOf_19 : decode cX7_lineOf 19 = .ok (.iload 6, 2) := by decide +kernel
theorem dX7_lineOf_21 : decode cX7_lineOf 21 = .ok (.iload_n 3, 1) := by decide +kernel
theorem dX7_lineOf_22 : decode cX7_lineOf 22 = .ok (.if_icmp .ge 20, 3) := by decide +kernel
theorem dX7_lineOf_25 : decode cX7_lineOf 25 = .ok (.iload 5, 2) := by decide +kernel
theorem dX7_lineOf_27 : decode cX7_lineOf 27 = .ok (.iload_n 0, 1) := by decide +kernel
theorem dX7_lineOf_28 : decode cX7_lineOf 28 = .ok (.iconst 1, 1) := by decide +kernel
theorem dX7_lineOf_29 : decode cX7_lineOf 29 = .ok (.isub, 1) := by decide +kernel
theorem dX7_lineOf_30 : decode cX7_lineOf 30 = .ok (.iload 6, 2) := by decide +kernel
theorem dX7_lineOf_32 : decode cX7_lineOf 32 = .ok (.isub, 1) := by decide +kernel
theorem dX7_lineOf_33 : decode cX7_lineOf 33 = .ok (.iadd, 1) := by decide +kernel
theorem dX7_lineOf_34 : decode cX7_lineOf 34 = .ok (.istore 5, 2) := by decide +kernel
theorem dX7_lineOf_36 : decode cX7_lineOf 36 = .ok (.iinc 6 1, 3) := by decide +kernel
theorem dX7_lineOf_39 : decode cX7_lineOf 39 = .ok (.goto (-20), 3) := by decide +kernel
theorem dX7_lineOf_42 : decode cX7_lineOf 42 = .ok (.iload 5, 2) := by decide +kernel
theorem dX7_lineOf_44 : decode cX7_lineOf 44 = .ok (.iload 4, 2) := by decide +kernel
theorem dX7_lineOf_46 : decode cX7_lineOf 46 = .ok (.iadd, 1) := by decide +kernel
theorem dX7_lineOf_47 : decode cX7_lineOf 47 = .ok (.iload_n 3, 1) := by decide +kernel
theorem dX7_lineOf_48 : decode cX7_lineOf 48 = .ok (.isub, 1) := by decide +kernel
theorem dX7_lineOf_49 : decode cX7_lineOf 49 = .ok (.iconst 1, 1) := by decide +kernel
theorem dX7_lineOf_50 : decode cX7_lineOf 50 = .ok (.isub, 1) := by decide +kernel
theorem dX7_lineOf_51 : decode cX7_lineOf 51 = .ok (.ireturn, 1) := by decide +kernel
theorem dX7_linesOf_0 : decode cX7_linesOf 0 = .ok (.lload_n 0, 1) := by decide +kernel
theorem dX7_linesOf_1 : decode cX7_linesOf 1 = .ok (.lload_n 0, 1) := by decide +kernel
theorem dX7_linesOf_2 : decode cX7_linesOf 2 = .ok (.lconst 1, 1) := by decide +kernel
theorem dX7_linesOf_3 : decode cX7_linesOf 3 = .ok (.lsub, 1) := by decide +kernel
theorem dX7_linesOf_4 : decode cX7_linesOf 4 = .ok (.lmul, 1) := by decide +kernel
theorem dX7_linesOf_5 : decode cX7_linesOf 5 = .ok (.ldc2_w 76, 3) := by decide +kernel
theorem dX7_linesOf_8 : decode cX7_linesOf 8 = .ok (.ldiv, 1) := by decide +kernel
theorem dX7_linesOf_9 : decode cX7_linesOf 9 = .ok (.l2i, 1) := by decide +kernel
theorem dX7_linesOf_10 : decode cX7_linesOf 10 = .ok (.ireturn, 1) := by decide +kernel
theorem dX7_allOf_0 : decode cX7_allOf 0 = .ok (.lconst 1, 1) := by decide +kernel
theorem dX7_allOf_1 : decode cX7_allOf 1 = .ok (.lload_n 0, 1) := by decide +kernel
theorem dX7_allOf_2 : decode cX7_allOf 2 = .ok (.invokestatic 78, 3) := by decide +kernel
theorem dX7_allOf_5 : decode cX7_allOf 5 = .ok (.lshl, 1) := by decide +kernel
theorem dX7_allOf_6 : decode cX7_allOf 6 = .ok (.lconst 1, 1) := by decide +kernel
theorem dX7_allOf_7 : decode cX7_allOf 7 = .ok (.lsub, 1) := by decide +kernel
theorem dX7_allOf_8 : decode cX7_allOf 8 = .ok (.lreturn, 1) := by decide +kernel
theorem dX7_ones_0 : decode cX7_ones 0 = .ok (.iconst 0, 1) := by decide +kernel
theorem dX7_ones_1 : decode cX7_ones 1 = .ok (.istore_n 2, 1) := by decide +kernel
theorem dX7_ones_2 : decode cX7_ones 2 = .ok (.iconst 0, 1) := by decide +kernel
theorem dX7_ones_3 : decode cX7_ones 3 = .ok (.istore_n 3, 1) := by decide +kernel
theorem dX7_ones_4 : decode cX7_ones 4 = .ok (.iload_n 3, 1) := by decide +kernel
theorem dX7_ones_5 : decode cX7_ones 5 = .ok (.bipush 55, 2) := by decide +kernel
theorem dX7_ones_7 : decode cX7_ones 7 = .ok (.if_icmp .ge 19, 3) := by decide +kernel
theorem dX7_ones_10 : decode cX7_ones 10 = .ok (.iload_n 2, 1) := by decide +kernel
theorem dX7_ones_11 : decode cX7_ones 11 = .ok (.i2l, 1) := by decide +kernel
theorem dX7_ones_12 : decode cX7_ones 12 = .ok (.lload_n 0, 1) := by decide +kernel
theorem dX7_ones_13 : decode cX7_ones 13 = .ok (.iload_n 3, 1) := by decide +kernel
theorem dX7_ones_14 : decode cX7_ones 14 = .ok (.lshr, 1) := by decide +kernel
theorem dX7_ones_15 : decode cX7_ones 15 = .ok (.lconst 1, 1) := by decide +kernel
theorem dX7_ones_16 : decode cX7_ones 16 = .ok (.land, 1) := by decide +kernel
theorem dX7_ones_17 : decode cX7_ones 17 = .ok (.ladd, 1) := by decide +kernel
theorem dX7_ones_18 : decode cX7_ones 18 = .ok (.l2i, 1) := by decide +kernel
theorem dX7_ones_19 : decode cX7_ones 19 = .ok (.istore_n 2, 1) := by decide +kernel
theorem dX7_ones_20 : decode cX7_ones 20 = .ok (.iinc 3 1, 3) := by decide +kernel
theorem dX7_ones_23 : decode cX7_ones 23 = .ok (.goto (-19), 3) := by decide +kernel
theorem dX7_ones_26 : decode cX7_ones 26 = .ok (.iload_n 2, 1) := by decide +kernel
theorem dX7_ones_27 : decode cX7_ones 27 = .ok (.ireturn, 1) := by decide +kernel
theorem dX7_leastOf_0 : decode cX7_leastOf 0 = .ok (.iconst 0, 1) := by decide +kernel
theorem dX7_leastOf_1 : decode cX7_leastOf 1 = .ok (.istore_n 2, 1) := by decide +kernel
theorem dX7_leastOf_2 : decode cX7_leastOf 2 = .ok (.lload_n 0, 1) := by decide +kernel
theorem dX7_leastOf_3 : decode cX7_leastOf 3 = .ok (.iload_n 2, 1) := by decide +kernel
theorem dX7_leastOf_4 : decode cX7_leastOf 4 = .ok (.lshr, 1) := by decide +kernel
theorem dX7_leastOf_5 : decode cX7_leastOf 5 = .ok (.lconst 1, 1) := by decide +kernel
theorem dX7_leastOf_6 : decode cX7_leastOf 6 = .ok (.land, 1) := by decide +kernel
theorem dX7_leastOf_7 : decode cX7_leastOf 7 = .ok (.lconst 0, 1) := by decide +kernel
theorem dX7_leastOf_8 : decode cX7_leastOf 8 = .ok (.lcmp, 1) := by decide +kernel
theorem dX7_leastOf_9 : decode cX7_leastOf 9 = .ok (.ifCond .ne 9, 3) := by decide +kernel
theorem dX7_leastOf_12 : decode cX7_leastOf 12 = .ok (.iinc 2 1, 3) := by decide +kernel
theorem dX7_leastOf_15 : decode cX7_leastOf 15 = .ok (.goto (-13), 3) := by decide +kernel
theorem dX7_leastOf_18 : decode cX7_leastOf 18 = .ok (.iload_n 2, 1) := by decide +kernel
theorem dX7_leastOf_19 : decode cX7_leastOf 19 = .ok (.ireturn, 1) := by decide +kernel
theorem dX7_isAhead_0 : decode cX7_isAhead 0 = .ok (.lload_n 0, 1) := by decide +kernel
theorem dX7_isAhead_1 : decode cX7_isAhead 1 = .ok (.lload_n 2, 1) := by decide +kernel
theorem dX7_isAhead_2 : decode cX7_isAhead 2 = .ok (.lxor, 1) := by decide +kernel
theorem dX7_isAhead_3 : decode cX7_isAhead 3 = .ok (.lstore 4, 2) := by decide +kernel
theorem dX7_isAhead_5 : decode cX7_isAhead 5 = .ok (.lload 4, 2) := by decide +kernel
theorem dX7_isAhead_7 : decode cX7_isAhead 7 = .ok (.lconst 0, 1) := by decide +kernel
theorem dX7_isAhead_8 : decode cX7_isAhead 8 = .ok (.lcmp, 1) := by decide +kernel
theorem dX7_isAhead_9 : decode cX7_isAhead 9 = .ok (.ifCond .eq 21, 3) := by decide +kernel
theorem dX7_isAhead_12 : decode cX7_isAhead 12 = .ok (.lload_n 0, 1) := by decide +kernel
theorem dX7_isAhead_13 : decode cX7_isAhead 13 = .ok (.lload 4, 2) := by decide +kernel
theorem dX7_isAhead_15 : decode cX7_isAhead 15 = .ok (.invokestatic 82, 3) := by decide +kernel
theorem dX7_isAhead_18 : decode cX7_isAhead 18 = .ok (.lshr, 1) := by decide +kernel
theorem dX7_isAhead_19 : decode cX7_isAhead 19 = .ok (.lconst 1, 1) := by decide +kernel
theorem dX7_isAhead_20 : decode cX7_isAhead 20 = .ok (.land, 1) := by decide +kernel
theorem dX7_isAhead_21 : decode cX7_isAhead 21 = .ok (.lconst 1, 1) := by decide +kernel
theorem dX7_isAhead_22 : decode cX7_isAhead 22 = .ok (.lcmp, 1) := by decide +kernel
theorem dX7_isAhead_23 : decode cX7_isAhead 23 = .ok (.ifCond .ne 7, 3) := by decide +kernel
theorem dX7_isAhead_26 : decode cX7_isAhead 26 = .ok (.iconst 1, 1) := by decide +kernel
theorem dX7_isAhead_27 : decode cX7_isAhead 27 = .ok (.goto 4, 3) := by decide +kernel
theorem dX7_isAhead_30 : decode cX7_isAhead 30 = .ok (.iconst 0, 1) := by decide +kernel
theorem dX7_isAhead_31 : decode cX7_isAhead 31 = .ok (.ireturn, 1) := by decide +kernel
theorem dX7_endsOf_0 : decode cX7_endsOf 0 = .ok (.lload_n 0, 1) := by decide +kernel
theorem dX7_endsOf_1 : decode cX7_endsOf 1 = .ok (.lconst 0, 1) := by decide +kernel
theorem dX7_endsOf_2 : decode cX7_endsOf 2 = .ok (.lcmp, 1) := by decide +kernel
theorem dX7_endsOf_3 : decode cX7_endsOf 3 = .ok (.ifCond .eq 11, 3) := by decide +kernel
theorem dX7_endsOf_6 : decode cX7_endsOf 6 = .ok (.lload_n 0, 1) := by decide +kernel
theorem dX7_endsOf_7 : decode cX7_endsOf 7 = .ok (.ldc2_w 59, 3) := by decide +kernel
theorem dX7_endsOf_10 : decode cX7_endsOf 10 = .ok (.lcmp, 1) := by decide +kernel
theorem dX7_endsOf_11 : decode cX7_endsOf 11 = .ok (.ifCond .ne 7, 3) := by decide +kernel
theorem dX7_endsOf_14 : decode cX7_endsOf 14 = .ok (.lload_n 2, 1) := by decide +kernel
theorem dX7_endsOf_15 : decode cX7_endsOf 15 = .ok (.goto 6, 3) := by decide +kernel
theorem dX7_endsOf_18 : decode cX7_endsOf 18 = .ok (.lload_n 2, 1) := by decide +kernel
theorem dX7_endsOf_19 : decode cX7_endsOf 19 = .ok (.lconst 1, 1) := by decide +kernel
theorem dX7_endsOf_20 : decode cX7_endsOf 20 = .ok (.ladd, 1) := by decide +kernel
theorem dX7_endsOf_21 : decode cX7_endsOf 21 = .ok (.l2i, 1) := by decide +kernel
theorem dX7_endsOf_22 : decode cX7_endsOf 22 = .ok (.ireturn, 1) := by decide +kernel
theorem dX7_partOf_0 : decode cX7_partOf 0 = .ok (.aload_n 1, 1) := by decide +kernel
theorem dX7_partOf_1 : decode cX7_partOf 1 = .ok (.iconst 0, 1) := by decide +kernel
theorem dX7_partOf_2 : decode cX7_partOf 2 = .ok (.laload, 1) := by decide +kernel
theorem dX7_partOf_3 : decode cX7_partOf 3 = .ok (.l2i, 1) := by decide +kernel
theorem dX7_partOf_4 : decode cX7_partOf 4 = .ok (.istore_n 2, 1) := by decide +kernel
theorem dX7_partOf_5 : decode cX7_partOf 5 = .ok (.aload_n 0, 1) := by decide +kernel
theorem dX7_partOf_6 : decode cX7_partOf 6 = .ok (.getfield 85, 3) := by decide +kernel
theorem dX7_partOf_9 : decode cX7_partOf 9 = .ok (.aload_n 1, 1) := by decide +kernel
theorem dX7_partOf_10 : decode cX7_partOf 10 = .ok (.iconst 1, 1) := by decide +kernel
theorem dX7_partOf_11 : decode cX7_partOf 11 = .ok (.laload, 1) := by decide +kernel
theorem dX7_partOf_12 : decode cX7_partOf 12 = .ok (.aload_n 1, 1) := by decide +kernel
theorem dX7_partOf_13 : decode cX7_partOf 13 = .ok (.iconst 2, 1) := by decide +kernel
theorem dX7_partOf_14 : decode cX7_partOf 14 = .ok (.laload, 1) := by decide +kernel
theorem dX7_partOf_15 : decode cX7_partOf 15 = .ok (.invokestatic 88, 3) := by decide +kernel
theorem dX7_partOf_18 : decode cX7_partOf 18 = .ok (.if_icmp .eq 5, 3) := by decide +kernel
theorem dX7_partOf_21 : decode cX7_partOf 21 = .ok (.lconst 0, 1) := by decide +kernel
theorem dX7_partOf_22 : decode cX7_partOf 22 = .ok (.lreturn, 1) := by decide +kernel
theorem dX7_partOf_23 : decode cX7_partOf 23 = .ok (.iconst 0, 1) := by decide +kernel
theorem dX7_partOf_24 : decode cX7_partOf 24 = .ok (.istore_n 3, 1) := by decide +kernel
theorem dX7_partOf_25 : decode cX7_partOf 25 = .ok (.iload_n 3, 1) := by decide +kernel
theorem dX7_partOf_26 : decode cX7_partOf 26 = .ok (.aload_n 0, 1) := by decide +kernel
theorem dX7_partOf_27 : decode cX7_partOf 27 = .ok (.getfield 85, 3) := by decide +kernel
theorem dX7_partOf_30 : decode cX7_partOf 30 = .ok (.if_icmp .ge 62, 3) := by decide +kernel
theorem dX7_partOf_33 : decode cX7_partOf 33 = .ok (.aload_n 0, 1) := by decide +kernel
theorem dX7_partOf_34 : decode cX7_partOf 34 = .ok (.getfield 32, 3) := by decide +kernel
theorem dX7_partOf_37 : decode cX7_partOf 37 = .ok (.iload_n 3, 1) := by decide +kernel
theorem dX7_partOf_38 : decode cX7_partOf 38 = .ok (.iaload, 1) := by decide +kernel
theorem dX7_partOf_39 : decode cX7_partOf 39 = .ok (.i2l, 1) := by decide +kernel
theorem dX7_partOf_40 : decode cX7_partOf 40 = .ok (.lconst 0, 1) := by decide +kernel
theorem dX7_partOf_41 : decode cX7_partOf 41 = .ok (.iload_n 2, 1) := by decide +kernel
theorem dX7_partOf_42 : decode cX7_partOf 42 = .ok (.iconst 1, 1) := by decide +kernel
theorem dX7_partOf_43 : decode cX7_partOf 43 = .ok (.isub, 1) := by decide +kernel
theorem dX7_partOf_44 : decode cX7_partOf 44 = .ok (.i2l, 1) := by decide +kernel
theorem dX7_partOf_45 : decode cX7_partOf 45 = .ok (.invokestatic 92, 3) := by decide +kernel
theorem dX7_partOf_48 : decode cX7_partOf 48 = .ok (.ifCond .ne 5, 3) := by decide +kernel
theorem dX7_partOf_51 : decode cX7_partOf 51 = .ok (.lconst 0, 1) := by decide +kernel
theorem dX7_partOf_52 : decode cX7_partOf 52 = .ok (.lreturn, 1) := by decide +kernel
theorem dX7_partOf_53 : decode cX7_partOf 53 = .ok (.iconst 0, 1) := by decide +kernel
theorem dX7_partOf_54 : decode cX7_partOf 54 = .ok (.istore 4, 2) := by decide +kernel
theorem dX7_partOf_56 : decode cX7_partOf 56 = .ok (.iload 4, 2) := by decide +kernel
theorem dX7_partOf_58 : decode cX7_partOf 58 = .ok (.iload_n 3, 1) := by decide +kernel
theorem dX7_partOf_59 : decode cX7_partOf 59 = .ok (.if_icmp .ge 27, 3) := by decide +kernel
theorem dX7_partOf_62 : decode cX7_partOf 62 = .ok (.aload_n 0, 1) := by decide +kernel
theorem dX7_partOf_63 : decode cX7_partOf 63 = .ok (.getfield 32, 3) := by decide +kernel
theorem dX7_partOf_66 : decode cX7_partOf 66 = .ok (.iload_n 3, 1) := by decide +kernel
theorem dX7_partOf_67 : decode cX7_partOf 67 = .ok (.iaload, 1) := by decide +kernel
theorem dX7_partOf_68 : decode cX7_partOf 68 = .ok (.aload_n 0, 1) := by decide +kernel
theorem dX7_partOf_69 : decode cX7_partOf 69 = .ok (.getfield 32, 3) := by decide +kernel
theorem dX7_partOf_72 : decode cX7_partOf 72 = .ok (.iload 4, 2) := by decide +kernel
theorem dX7_partOf_74 : decode cX7_partOf 74 = .ok (.iaload, 1) := by decide +kernel
theorem dX7_partOf_75 : decode cX7_partOf 75 = .ok (.if_icmp .ne 5, 3) := by decide +kernel
theorem dX7_partOf_78 : decode cX7_partOf 78 = .ok (.lconst 0, 1) := by decide +kernel
theorem dX7_partOf_79 : decode cX7_partOf 79 = .ok (.lreturn, 1) := by decide +kernel
theorem dX7_partOf_80 : decode cX7_partOf 80 = .ok (.iinc 4 1, 3) := by decide +kernel
theorem dX7_partOf_83 : decode cX7_partOf 83 = .ok (.goto (-27), 3) := by decide +kernel
theorem dX7_partOf_86 : decode cX7_partOf 86 = .ok (.iinc 3 1, 3) := by decide +kernel
theorem dX7_partOf_89 : decode cX7_partOf 89 = .ok (.goto (-64), 3) := by decide +kernel
theorem dX7_partOf_92 : decode cX7_partOf 92 = .ok (.lconst 0, 1) := by decide +kernel
theorem dX7_partOf_93 : decode cX7_partOf 93 = .ok (.lstore_n 3, 1) := by decide +kernel
theorem dX7_partOf_94 : decode cX7_partOf 94 = .ok (.iconst 1, 1) := by decide +kernel
theorem dX7_partOf_95 : decode cX7_partOf 95 = .ok (.istore 5, 2) := by decide +kernel
theorem dX7_partOf_97 : decode cX7_partOf 97 = .ok (.iload 5, 2) := by decide +kernel
theorem dX7_partOf_99 : decode cX7_partOf 99 = .ok (.aload_n 0, 1) := by decide +kernel
theorem dX7_partOf_100 : decode cX7_partOf 100 = .ok (.getfield 85, 3) := by decide +kernel
theorem dX7_partOf_103 : decode cX7_partOf 103 = .ok (.if_icmp .ge 48, 3) := by decide +kernel
theorem dX7_partOf_106 : decode cX7_partOf 106 = .ok (.lload_n 3, 1) := by decide +kernel
theorem dX7_partOf_107 : decode cX7_partOf 107 = .ok (.lconst 1, 1) := by decide +kernel
theorem dX7_partOf_108 : decode cX7_partOf 108 = .ok (.iload_n 2, 1) := by decide +kernel
theorem dX7_partOf_109 : decode cX7_partOf 109 = .ok (.aload_n 0, 1) := by decide +kernel
theorem dX7_partOf_110 : decode cX7_partOf 110 = .ok (.getfield 32, 3) := by decide +kernel
theorem dX7_partOf_113 : decode cX7_partOf 113 = .ok (.aload_n 1, 1) := by decide +kernel
theorem dX7_partOf_114 : decode cX7_partOf 114 = .ok (.iconst 1, 1) := by decide +kernel
theorem dX7_partOf_115 : decode cX7_partOf 115 = .ok (.laload, 1) := by decide +kernel
theorem dX7_partOf_116 : decode cX7_partOf 116 = .ok (.ldc2_w 76, 3) := by decide +kernel
theorem dX7_partOf_119 : decode cX7_partOf 119 = .ok (.lcmp, 1) := by decide +kernel
theorem dX7_partOf_120 : decode cX7_partOf 120 = .ok (.ifCond .ne 7, 3) := by decide +kernel
theorem dX7_partOf_123 : decode cX7_partOf 123 = .ok (.iconst 0, 1) := by decide +kernel
theorem dX7_partOf_124 : decode cX7_partOf 124 = .ok (.goto 7, 3) := by decide +kernel
theorem dX7_partOf_127 : decode cX7_partOf 127 = .ok (.iload 5, 2) := by decide +kernel
theorem dX7_partOf_129 : decode cX7_partOf 129 = .ok (.iconst 1, 1) := by decide +kernel
theorem dX7_partOf_130 : decode cX7_partOf 130 = .ok (.isub, 1) := by decide +kernel
theorem dX7_partOf_131 : decode cX7_partOf 131 = .ok (.iaload, 1) := by decide +kernel
theorem dX7_partOf_132 : decode cX7_partOf 132 = .ok (.aload_n 0, 1) := by decide +kernel
theorem dX7_partOf_133 : decode cX7_partOf 133 = .ok (.getfield 32, 3) := by decide +kernel
theorem dX7_partOf_136 : decode cX7_partOf 136 = .ok (.iload 5, 2) := by decide +kernel
theorem dX7_partOf_138 : decode cX7_partOf 138 = .ok (.iaload, 1) := by decide +kernel
theorem dX7_partOf_139 : decode cX7_partOf 139 = .ok (.invokestatic 96, 3) := by decide +kernel
theorem dX7_partOf_142 : decode cX7_partOf 142 = .ok (.lshl, 1) := by decide +kernel
theorem dX7_partOf_143 : decode cX7_partOf 143 = .ok (.lor, 1) := by decide +kernel
theorem dX7_partOf_144 : decode cX7_partOf 144 = .ok (.lstore_n 3, 1) := by decide +kernel
theorem dX7_partOf_145 : decode cX7_partOf 145 = .ok (.iinc 5 1, 3) := by decide +kernel
theorem dX7_partOf_148 : decode cX7_partOf 148 = .ok (.goto (-51), 3) := by decide +kernel
theorem dX7_partOf_151 : decode cX7_partOf 151 = .ok (.aload_n 1, 1) := by decide +kernel
theorem dX7_partOf_152 : decode cX7_partOf 152 = .ok (.iconst 1, 1) := by decide +kernel
theorem dX7_partOf_153 : decode cX7_partOf 153 = .ok (.laload, 1) := by decide +kernel
theorem dX7_partOf_154 : decode cX7_partOf 154 = .ok (.lconst 0, 1) := by decide +kernel
theorem dX7_partOf_155 : decode cX7_partOf 155 = .ok (.lcmp, 1) := by decide +kernel
theorem dX7_partOf_156 : decode cX7_partOf 156 = .ok (.ifCond .eq 13, 3) := by decide +kernel
theorem dX7_partOf_159 : decode cX7_partOf 159 = .ok (.aload_n 1, 1) := by decide +kernel
theorem dX7_partOf_160 : decode cX7_partOf 160 = .ok (.iconst 1, 1) := by decide +kernel
theorem dX7_partOf_161 : decode cX7_partOf 161 = .ok (.laload, 1) := by decide +kernel
theorem dX7_partOf_162 : decode cX7_partOf 162 = .ok (.ldc2_w 59, 3) := by decide +kernel
theorem dX7_partOf_165 : decode cX7_partOf 165 = .ok (.lcmp, 1) := by decide +kernel
theorem dX7_partOf_166 : decode cX7_partOf 166 = .ok (.ifCond .ne 31, 3) := by decide +kernel
theorem dX7_partOf_169 : decode cX7_partOf 169 = .ok (.lload_n 3, 1) := by decide +kernel
theorem dX7_partOf_170 : decode cX7_partOf 170 = .ok (.lconst 1, 1) := by decide +kernel
theorem dX7_partOf_171 : decode cX7_partOf 171 = .ok (.iload_n 2, 1) := by decide +kernel
theorem dX7_partOf_172 : decode cX7_partOf 172 = .ok (.aload_n 0, 1) := by decide +kernel
theorem dX7_partOf_173 : decode cX7_partOf 173 = .ok (.getfield 32, 3) := by decide +kernel
theorem dX7_partOf_176 : decode cX7_partOf 176 = .ok (.iconst 0, 1) := by decide +kernel
theorem dX7_partOf_177 : decode cX7_partOf 177 = .ok (.iaload, 1) := by decide +kernel
theorem dX7_partOf_178 : decode cX7_partOf 178 = .ok (.aload_n 0, 1) := by decide +kernel
theorem dX7_partOf_179 : decode cX7_partOf 179 = .ok (.getfield 32, 3) := by decide +kernel
theorem dX7_partOf_182 : decode cX7_partOf 182 = .ok (.aload_n 0, 1) := by decide +kernel
theorem dX7_partOf_183 : decode cX7_partOf 183 = .ok (.getfield 85, 3) := by decide +kernel
theorem dX7_partOf_186 : decode cX7_partOf 186 = .ok (.iconst 1, 1) := by decide +kernel
theorem dX7_partOf_187 : decode cX7_partOf 187 = .ok (.isub, 1) := by decide +kernel
theorem dX7_partOf_188 : decode cX7_partOf 188 = .ok (.iaload, 1) := by decide +kernel
theorem dX7_partOf_189 : decode cX7_partOf 189 = .ok (.invokestatic 96, 3) := by decide +kernel
theorem dX7_partOf_192 : decode cX7_partOf 192 = .ok (.lshl, 1) := by decide +kernel
theorem dX7_partOf_193 : decode cX7_partOf 193 = .ok (.lor, 1) := by decide +kernel
theorem dX7_partOf_194 : decode cX7_partOf 194 = .ok (.goto 4, 3) := by decide +kernel
theorem dX7_partOf_197 : decode cX7_partOf 197 = .ok (.lload_n 3, 1) := by decide +kernel
theorem dX7_partOf_198 : decode cX7_partOf 198 = .ok (.lreturn, 1) := by decide +kernel
theorem dX7_byteAt_0 : decode cX7_byteAt 0 = .ok (.iload_n 1, 1) := by decide +kernel
theorem dX7_byteAt_1 : decode cX7_byteAt 1 = .ok (.aload_n 0, 1) := by decide +kernel
theorem dX7_byteAt_2 : decode cX7_byteAt 2 = .ok (.getfield 100, 3) := by decide +kernel
theorem dX7_byteAt_5 : decode cX7_byteAt 5 = .ok (.if_icmp .lt 7, 3) := by decide +kernel
theorem dX7_byteAt_8 : decode cX7_byteAt 8 = .ok (.iconst (-1), 1) := by decide +kernel
theorem dX7_byteAt_9 : decode cX7_byteAt 9 = .ok (.goto 9, 3) := by decide +kernel
theorem dX7_byteAt_12 : decode cX7_byteAt 12 = .ok (.aload_n 0, 1) := by decide +kernel
theorem dX7_byteAt_13 : decode cX7_byteAt 13 = .ok (.getfield 17, 3) := by decide +kernel
theorem dX7_byteAt_16 : decode cX7_byteAt 16 = .ok (.iload_n 1, 1) := by decide +kernel
theorem dX7_byteAt_17 : decode cX7_byteAt 17 = .ok (.iaload, 1) := by decide +kernel
theorem dX7_byteAt_18 : decode cX7_byteAt 18 = .ok (.ireturn, 1) := by decide +kernel
theorem dX7_here_0 : decode cX7_here 0 = .ok (.aload_n 0, 1) := by decide +kernel
theorem dX7_here_1 : decode cX7_here 1 = .ok (.aload_n 0, 1) := by decide +kernel
theorem dX7_here_2 : decode cX7_here 2 = .ok (.getfield 103, 3) := by decide +kernel
theorem dX7_here_5 : decode cX7_here 5 = .ok (.invokevirtual 106, 3) := by decide +kernel
theorem dX7_here_8 : decode cX7_here 8 = .ok (.bipush 32, 2) := by decide +kernel
theorem dX7_here_10 : decode cX7_here 10 = .ok (.if_icmp .ne 16, 3) := by decide +kernel
theorem dX7_here_13 : decode cX7_here 13 = .ok (.aload_n 0, 1) := by decide +kernel
theorem dX7_here_14 : decode cX7_here 14 = .ok (.dup, 1) := by decide +kernel
theorem dX7_here_15 : decode cX7_here 15 = .ok (.getfield 103, 3) := by decide +kernel
theorem dX7_here_18 : decode cX7_here 18 = .ok (.iconst 1, 1) := by decide +kernel
theorem dX7_here_19 : decode cX7_here 19 = .ok (.iadd, 1) := by decide +kernel
theorem dX7_here_20 : decode cX7_here 20 = .ok (.putfield 103, 3) := by decide +kernel
theorem dX7_here_23 : decode cX7_here 23 = .ok (.goto (-23), 3) := by decide +kernel
theorem dX7_here_26 : decode cX7_here 26 = .ok (.aload_n 0, 1) := by decide +kernel
theorem dX7_here_27 : decode cX7_here 27 = .ok (.aload_n 0, 1) := by decide +kernel
theorem dX7_here_28 : decode cX7_here 28 = .ok (.getfield 103, 3) := by decide +kernel
theorem dX7_here_31 : decode cX7_here 31 = .ok (.invokevirtual 106, 3) := by decide +kernel
theorem dX7_here_34 : decode cX7_here 34 = .ok (.ireturn, 1) := by decide +kernel
theorem dX7_fine_0 : decode cX7_fine 0 = .ok (.aload_n 0, 1) := by decide +kernel
theorem dX7_fine_1 : decode cX7_fine 1 = .ok (.getfield 110, 3) := by decide +kernel
theorem dX7_fine_4 : decode cX7_fine 4 = .ok (.ifCond .ne 7, 3) := by decide +kernel
theorem dX7_fine_7 : decode cX7_fine 7 = .ok (.iconst 1, 1) := by decide +kernel
theorem dX7_fine_8 : decode cX7_fine 8 = .ok (.goto 4, 3) := by decide +kernel
theorem dX7_fine_11 : decode cX7_fine 11 = .ok (.iconst 0, 1) := by decide +kernel
theorem dX7_fine_12 : decode cX7_fine 12 = .ok (.ireturn, 1) := by decide +kernel
theorem dX7_wrong_0 : decode cX7_wrong 0 = .ok (.aload_n 0, 1) := by decide +kernel
theorem dX7_wrong_1 : decode cX7_wrong 1 = .ok (.getfield 110, 3) := by decide +kernel
theorem dX7_wrong_4 : decode cX7_wrong 4 = .ok (.ifCond .ne 13, 3) := by decide +kernel
theorem dX7_wrong_7 : decode cX7_wrong 7 = .ok (.aload_n 0, 1) := by decide +kernel
theorem dX7_wrong_8 : decode cX7_wrong 8 = .ok (.iload_n 1, 1) := by decide +kernel
theorem dX7_wrong_9 : decode cX7_wrong 9 = .ok (.putfield 110, 3) := by decide +kernel
theorem dX7_wrong_12 : decode cX7_wrong 12 = .ok (.aload_n 0, 1) := by decide +kernel
theorem dX7_wrong_13 : decode cX7_wrong 13 = .ok (.iload_n 2, 1) := by decide +kernel
theorem dX7_wrong_14 : decode cX7_wrong 14 = .ok (.putfield 113, 3) := by decide +kernel
theorem dX7_wrong_17 : decode cX7_wrong 17 = .ok (.return_, 1) := by decide +kernel
theorem dX7_isDigit_0 : decode cX7_isDigit 0 = .ok (.iload_n 0, 1) := by decide +kernel
theorem dX7_isDigit_1 : decode cX7_isDigit 1 = .ok (.bipush 48, 2) := by decide +kernel
theorem dX7_isDigit_3 : decode cX7_isDigit 3 = .ok (.if_icmp .lt 13, 3) := by decide +kernel
theorem dX7_isDigit_6 : decode cX7_isDigit 6 = .ok (.iload_n 0, 1) := by decide +kernel
theorem dX7_isDigit_7 : decode cX7_isDigit 7 = .ok (.bipush 57, 2) := by decide +kernel
theorem dX7_isDigit_9 : decode cX7_isDigit 9 = .ok (.if_icmp .gt 7, 3) := by decide +kernel
theorem dX7_isDigit_12 : decode cX7_isDigit 12 = .ok (.iconst 1, 1) := by decide +kernel
theorem dX7_isDigit_13 : decode cX7_isDigit 13 = .ok (.goto 4, 3) := by decide +kernel
theorem dX7_isDigit_16 : decode cX7_isDigit 16 = .ok (.iconst 0, 1) := by decide +kernel
theorem dX7_isDigit_17 : decode cX7_isDigit 17 = .ok (.ireturn, 1) := by decide +kernel
theorem dX7_takes_0 : decode cX7_takes 0 = .ok (.aload_n 0, 1) := by decide +kernel
theorem dX7_takes_1 : decode cX7_takes 1 = .ok (.invokevirtual 116, 3) := by decide +kernel
theorem dX7_takes_4 : decode cX7_takes 4 = .ok (.ifCond .ne 5, 3) := by decide +kernel
theorem dX7_takes_7 : decode cX7_takes 7 = .ok (.iconst 0, 1) := by decide +kernel
theorem dX7_takes_8 : decode cX7_takes 8 = .ok (.ireturn, 1) := by decide +kernel
theorem dX7_takes_9 : decode cX7_takes 9 = .ok (.aload_n 0, 1) := by decide +kernel
theorem dX7_takes_10 : decode cX7_takes 10 = .ok (.invokevirtual 120, 3) := by decide +kernel
theorem dX7_takes_13 : decode cX7_takes 13 = .ok (.pop, 1) := by decide +kernel
theorem dX7_takes_14 : decode cX7_takes 14 = .ok (.iconst 0, 1) := by decide +kernel
theorem dX7_takes_15 : decode cX7_takes 15 = .ok (.istore_n 2, 1) := by decide +kernel
theorem dX7_takes_16 : decode cX7_takes 16 = .ok (.iload_n 2, 1) := by decide +kernel
theorem dX7_takes_17 : decode cX7_takes 17 = .ok (.aload_n 1, 1) := by decide +kernel
theorem dX7_takes_18 : decode cX7_takes 18 = .ok (.invokevirtual 124, 3) := by decide +kernel
theorem dX7_takes_21 : decode cX7_takes 21 = .ok (.if_icmp .ge 27, 3) := by decide +kernel
theorem dX7_takes_24 : decode cX7_takes 24 = .ok (.aload_n 0, 1) := by decide +kernel
theorem dX7_takes_25 : decode cX7_takes 25 = .ok (.aload_n 0, 1) := by decide +kernel
theorem dX7_takes_26 : decode cX7_takes 26 = .ok (.getfield 103, 3) := by decide +kernel
theorem dX7_takes_29 : decode cX7_takes 29 = .ok (.iload_n 2, 1) := by decide +kernel
theorem dX7_takes_30 : decode cX7_takes 30 = .ok (.iadd, 1) := by decide +kernel
theorem dX7_takes_31 : decode cX7_takes 31 = .ok (.invokevirtual 106, 3) := by decide +kernel
theorem dX7_takes_34 : decode cX7_takes 34 = .ok (.aload_n 1, 1) := by decide +kernel
theorem dX7_takes_35 : decode cX7_takes 35 = .ok (.iload_n 2, 1) := by decide +kernel
theorem dX7_takes_36 : decode cX7_takes 36 = .ok (.invokevirtual 129, 3) := by decide +kernel
theorem dX7_takes_39 : decode cX7_takes 39 = .ok (.if_icmp .ne 9, 3) := by decide +kernel
theorem dX7_takes_42 : decode cX7_takes 42 = .ok (.iinc 2 1, 3) := by decide +kernel
theorem dX7_takes_45 : decode cX7_takes 45 = .ok (.goto (-29), 3) := by decide +kernel
theorem dX7_takes_48 : decode cX7_takes 48 = .ok (.iload_n 2, 1) := by decide +kernel
theorem dX7_takes_49 : decode cX7_takes 49 = .ok (.aload_n 1, 1) := by decide +kernel
theorem dX7_takes_50 : decode cX7_takes 50 = .ok (.invokevirtual 124, 3) := by decide +kernel
theorem dX7_takes_53 : decode cX7_takes 53 = .ok (.if_icmp .lt 26, 3) := by decide +kernel
theorem dX7_takes_56 : decode cX7_takes 56 = .ok (.aload_n 0, 1) := by decide +kernel
theorem dX7_takes_57 : decode cX7_takes 57 = .ok (.aload_n 0, 1) := by decide +kernel
theorem dX7_takes_58 : decode cX7_takes 58 = .ok (.getfield 103, 3) := by decide +kernel
theorem dX7_takes_61 : decode cX7_takes 61 = .ok (.iload_n 2, 1) := by decide +kernel
theorem dX7_takes_62 : decode cX7_takes 62 = .ok (.iadd, 1) := by decide +kernel
theorem dX7_takes_63 : decode cX7_takes 63 = .ok (.invokevirtual 106, 3) := by decide +kernel
theorem dX7_takes_66 : decode cX7_takes 66 = .ok (.i2l, 1) := by decide +kernel
theorem dX7_takes_67 : decode cX7_takes 67 = .ok (.ldc2_w 133, 3) := by decide +kernel
theorem dX7_takes_70 : decode cX7_takes 70 = .ok (.ldc2_w 135, 3) := by decide +kernel
theorem dX7_takes_73 : decode cX7_takes 73 = .ok (.invokestatic 92, 3) := by decide +kernel
theorem dX7_takes_76 : decode cX7_takes 76 = .ok (.ifCond .eq 5, 3) := by decide +kernel
theorem dX7_takes_79 : decode cX7_takes 79 = .ok (.iconst 0, 1) := by decide +kernel
theorem dX7_takes_80 : decode cX7_takes 80 = .ok (.ireturn, 1) := by decide +kernel
theorem dX7_takes_81 : decode cX7_takes 81 = .ok (.aload_n 0, 1) := by decide +kernel
theorem dX7_takes_82 : decode cX7_takes 82 = .ok (.dup, 1) := by decide +kernel
theorem dX7_takes_83 : decode cX7_takes 83 = .ok (.getfield 103, 3) := by decide +kernel
theorem dX7_takes_86 : decode cX7_takes 86 = .ok (.iload_n 2, 1) := by decide +kernel
theorem dX7_takes_87 : decode cX7_takes 87 = .ok (.iadd, 1) := by decide +kernel
theorem dX7_takes_88 : decode cX7_takes 88 = .ok (.putfield 103, 3) := by decide +kernel
theorem dX7_takes_91 : decode cX7_takes 91 = .ok (.iconst 1, 1) := by decide +kernel
theorem dX7_takes_92 : decode cX7_takes 92 = .ok (.ireturn, 1) := by decide +kernel
theorem dX7_must_0 : decode cX7_must 0 = .ok (.aload_n 0, 1) := by decide +kernel
theorem dX7_must_1 : decode cX7_must 1 = .ok (.invokevirtual 116, 3) := by decide +kernel
theorem dX7_must_4 : decode cX7_must 4 = .ok (.ifCond .ne 4, 3) := by decide +kernel
theorem dX7_must_7 : decode cX7_must 7 = .ok (.return_, 1) := by decide +kernel
theorem dX7_must_8 : decode cX7_must 8 = .ok (.aload_n 0, 1) := by decide +kernel
theorem dX7_must_9 : decode cX7_must 9 = .ok (.invokevirtual 120, 3) := by decide +kernel
theorem dX7_must_12 : decode cX7_must 12 = .ok (.iload_n 1, 1) := by decide +kernel
theorem dX7_must_13 : decode cX7_must 13 = .ok (.if_icmp .ne 16, 3) := by decide +kernel
theorem dX7_must_16 : decode cX7_must 16 = .ok (.aload_n 0, 1) := by decide +kernel
theorem dX7_must_17 : decode cX7_must 17 = .ok (.dup, 1) := by decide +kernel
theorem dX7_must_18 : decode cX7_must 18 = .ok (.getfield 103, 3) := by decide +kernel
theorem dX7_must_21 : decode cX7_must 21 = .ok (.iconst 1, 1) := by decide +kernel
theorem dX7_must_22 : decode cX7_must 22 = .ok (.iadd, 1) := by decide +kernel
theorem dX7_must_23 : decode cX7_must 23 = .ok (.putfield 103, 3) := by decide +kernel
theorem dX7_must_26 : decode cX7_must 26 = .ok (.goto 12, 3) := by decide +kernel
theorem dX7_must_29 : decode cX7_must 29 = .ok (.aload_n 0, 1) := by decide +kernel
theorem dX7_must_30 : decode cX7_must 30 = .ok (.iconst 1, 1) := by decide +kernel
theorem dX7_must_31 : decode cX7_must 31 = .ok (.aload_n 0, 1) := by decide +kernel
theorem dX7_must_32 : decode cX7_must 32 = .ok (.getfield 103, 3) := by decide +kernel
theorem dX7_must_35 : decode cX7_must 35 = .ok (.invokevirtual 137, 3) := by decide +kernel
theorem dX7_must_38 : decode cX7_must 38 = .ok (.return_, 1) := by decide +kernel
theorem dX7_number_0 : decode cX7_number 0 = .ok (.aload_n 0, 1) := by decide +kernel
theorem dX7_number_1 : decode cX7_number 1 = .ok (.invokevirtual 116, 3) := by decide +kernel
theorem dX7_number_4 : decode cX7_number 4 = .ok (.ifCond .ne 5, 3) := by decide +kernel
theorem dX7_number_7 : decode cX7_number 7 = .ok (.iconst 0, 1) := by decide +kernel
theorem dX7_number_8 : decode cX7_number 8 = .ok (.ireturn, 1) := by decide +kernel
theorem dX7_number_9 : decode cX7_number 9 = .ok (.aload_n 0, 1) := by decide +kernel
theorem dX7_number_10 : decode cX7_number 10 = .ok (.invokevirtual 120, 3) := by decide +kernel
theorem dX7_number_13 : decode cX7_number 13 = .ok (.invokestatic 141, 3) := by decide +kernel
theorem dX7_number_16 : decode cX7_number 16 = .ok (.ifCond .ne 14, 3) := by decide +kernel
theorem dX7_number_19 : decode cX7_number 19 = .ok (.aload_n 0, 1) := by decide +kernel
theorem dX7_number_20 : decode cX7_number 20 = .ok (.iconst 1, 1) := by decide +kernel
theorem dX7_number_21 : decode cX7_number 21 = .ok (.aload_n 0, 1) := by decide +kernel
theorem dX7_number_22 : decode cX7_number 22 = .ok (.getfield 103, 3) := by decide +kernel
theorem dX7_number_25 : decode cX7_number 25 = .ok (.invokevirtual 137, 3) := by decide +kernel
theorem dX7_number_28 : decode cX7_number 28 = .ok (.iconst 0, 1) := by decide +kernel
theorem dX7_number_29 : decode cX7_number 29 = .ok (.ireturn, 1) := by decide +kernel
theorem dX7_number_30 : decode cX7_number 30 = .ok (.aload_n 0, 1) := by decide +kernel
theorem dX7_number_31 : decode cX7_number 31 = .ok (.getfield 103, 3) := by decide +kernel
theorem dX7_number_34 : decode cX7_number 34 = .ok (.istore 4, 2) := by decide +kernel
theorem dX7_number_36 : decode cX7_number 36 = .ok (.iconst 0, 1) := by decide +kernel
theorem dX7_number_37 : decode cX7_number 37 = .ok (.istore 5, 2) := by decide +kernel
theorem dX7_number_39 : decode cX7_number 39 = .ok (.aload_n 0, 1) := by decide +kernel
theorem dX7_number_40 : decode cX7_number 40 = .ok (.aload_n 0, 1) := by decide +kernel
theorem dX7_number_41 : decode cX7_number 41 = .ok (.getfield 103, 3) := by decide +kernel
theorem dX7_number_44 : decode cX7_number 44 = .ok (.invokevirtual 106, 3) := by decide +kernel
theorem dX7_number_47 : decode cX7_number 47 = .ok (.invokestatic 141, 3) := by decide +kernel
theorem dX7_number_50 : decode cX7_number 50 = .ok (.ifCond .eq 40, 3) := by decide +kernel
theorem dX7_number_53 : decode cX7_number 53 = .ok (.ldc 145, 2) := by decide +kernel
theorem dX7_number_55 : decode cX7_number 55 = .ok (.bipush 10, 2) := by decide +kernel
theorem dX7_number_57 : decode cX7_number 57 = .ok (.iload 5, 2) := by decide +kernel
theorem dX7_number_59 : decode cX7_number 59 = .ok (.imul, 1) := by decide +kernel
theorem dX7_number_60 : decode cX7_number 60 = .ok (.aload_n 0, 1) := by decide +kernel
theorem dX7_number_61 : decode cX7_number 61 = .ok (.aload_n 0, 1) := by decide +kernel
theorem dX7_number_62 : decode cX7_number 62 = .ok (.getfield 103, 3) := by decide +kernel
theorem dX7_number_65 : decode cX7_number 65 = .ok (.invokevirtual 106, 3) := by decide +kernel
theorem dX7_number_68 : decode cX7_number 68 = .ok (.iadd, 1) := by decide +kernel
theorem dX7_number_69 : decode cX7_number 69 = .ok (.bipush 48, 2) := by decide +kernel
theorem dX7_number_71 : decode cX7_number 71 = .ok (.isub, 1) := by decide +kernel
theorem dX7_number_72 : decode cX7_number 72 = .ok (.invokestatic 69, 3) := by decide +kernel
theorem dX7_number_75 : decode cX7_number 75 = .ok (.istore 5, 2) := by decide +kernel
theorem dX7_number_77 : decode cX7_number 77 = .ok (.aload_n 0, 1) := by decide +kernel
theorem dX7_number_78 : decode cX7_number 78 = .ok (.dup, 1) := by decide +kernel
theorem dX7_number_79 : decode cX7_number 79 = .ok (.getfield 103, 3) := by decide +kernel
theorem dX7_number_82 : decode cX7_number 82 = .ok (.iconst 1, 1) := by decide +kernel
theorem dX7_number_83 : decode cX7_number 83 = .ok (.iadd, 1) := by decide +kernel
theorem dX7_number_84 : decode cX7_number 84 = .ok (.putfield 103, 3) := by decide +kernel
theorem dX7_number_87 : decode cX7_number 87 = .ok (.goto (-48), 3) := by decide +kernel
theorem dX7_number_90 : decode cX7_number 90 = .ok (.iload 5, 2) := by decide +kernel
theorem dX7_number_92 : decode cX7_number 92 = .ok (.i2l, 1) := by decide +kernel
theorem dX7_number_93 : decode cX7_number 93 = .ok (.iload_n 1, 1) := by decide +kernel
theorem dX7_number_94 : decode cX7_number 94 = .ok (.i2l, 1) := by decide +kernel
theorem dX7_number_95 : decode cX7_number 95 = .ok (.iload_n 2, 1) := by decide +kernel
theorem dX7_number_96 : decode cX7_number 96 = .ok (.i2l, 1) := by decide +kernel
theorem dX7_number_97 : decode cX7_number 97 = .ok (.invokestatic 92, 3) := by decide +kernel
theorem dX7_number_100 : decode cX7_number 100 = .ok (.ifCond .eq 9, 3) := by decide +kernel
theorem dX7_number_103 : decode cX7_number 103 = .ok (.iload 5, 2) := by decide +kernel
theorem dX7_number_105 : decode cX7_number 105 = .ok (.iload_n 3, 1) := by decide +kernel
theorem dX7_number_106 : decode cX7_number 106 = .ok (.if_icmp .ne 10, 3) := by decide +kernel
theorem dX7_number_109 : decode cX7_number 109 = .ok (.aload_n 0, 1) := by decide +kernel
theorem dX7_number_110 : decode cX7_number 110 = .ok (.iconst 2, 1) := by decide +kernel
theorem dX7_number_111 : decode cX7_number 111 = .ok (.iload 4, 2) := by decide +kernel
theorem dX7_number_113 : decode cX7_number 113 = .ok (.invokevirtual 137, 3) := by decide +kernel
theorem dX7_number_116 : decode cX7_number 116 = .ok (.iload 5, 2) := by decide +kernel
theorem dX7_number_118 : decode cX7_number 118 = .ok (.ireturn, 1) := by decide +kernel
theorem dX7_readsNodes_0 : decode cX7_readsNodes 0 = .ok (.aload_n 0, 1) := by decide +kernel
theorem dX7_readsNodes_1 : decode cX7_readsNodes 1 = .ok (.iconst 0, 1) := by decide +kernel
theorem dX7_readsNodes_2 : decode cX7_readsNodes 2 = .ok (.putfield 85, 3) := by decide +kernel
theorem dX7_readsNodes_5 : decode cX7_readsNodes 5 = .ok (.aload_n 0, 1) := by decide +kernel
theorem dX7_readsNodes_6 : decode cX7_readsNodes 6 = .ok (.invokevirtual 116, 3) := by decide +kernel
theorem dX7_readsNodes_9 : decode cX7_readsNodes 9 = .ok (.ifCond .eq 76, 3) := by decide +kernel
theorem dX7_readsNodes_12 : decode cX7_readsNodes 12 = .ok (.aload_n 0, 1) := by decide +kernel
theorem dX7_readsNodes_13 : decode cX7_readsNodes 13 = .ok (.getfield 85, 3) := by decide +kernel
theorem dX7_readsNodes_16 : decode cX7_readsNodes 16 = .ok (.ifCond .eq 13, 3) := by decide +kernel
theorem dX7_readsNodes_19 : decode cX7_readsNodes 19 = .ok (.aload_n 0, 1) := by decide +kernel
theorem dX7_readsNodes_20 : decode cX7_readsNodes 20 = .ok (.invokevirtual 120, 3) := by decide +kernel
theorem dX7_readsNodes_23 : decode cX7_readsNodes 23 = .ok (.invokestatic 141, 3) := by decide +kernel
theorem dX7_readsNodes_26 : decode cX7_readsNodes 26 = .ok (.ifCond .eq 59, 3) := by decide +kernel
theorem dX7_readsNodes_29 : decode cX7_readsNodes 29 = .ok (.aload_n 0, 1) := by decide +kernel
theorem dX7_readsNodes_30 : decode cX7_readsNodes 30 = .ok (.getfield 85, 3) := by decide +kernel
theorem dX7_readsNodes_33 : decode cX7_readsNodes 33 = .ok (.iconst 5, 1) := by decide +kernel
theorem dX7_readsNodes_34 : decode cX7_readsNodes 34 = .ok (.if_icmp .ne 12, 3) := by decide +kernel
theorem dX7_readsNodes_37 : decode cX7_readsNodes 37 = .ok (.aload_n 0, 1) := by decide +kernel
theorem dX7_readsNodes_38 : decode cX7_readsNodes 38 = .ok (.iconst 1, 1) := by decide +kernel
theorem dX7_readsNodes_39 : decode cX7_readsNodes 39 = .ok (.aload_n 0, 1) := by decide +kernel
theorem dX7_readsNodes_40 : decode cX7_readsNodes 40 = .ok (.getfield 103, 3) := by decide +kernel
theorem dX7_readsNodes_43 : decode cX7_readsNodes 43 = .ok (.invokevirtual 137, 3) := by decide +kernel
theorem dX7_readsNodes_46 : decode cX7_readsNodes 46 = .ok (.aload_n 0, 1) := by decide +kernel
theorem dX7_readsNodes_47 : decode cX7_readsNodes 47 = .ok (.iconst 0, 1) := by decide +kernel
theorem dX7_readsNodes_48 : decode cX7_readsNodes 48 = .ok (.iload_n 1, 1) := by decide +kernel
theorem dX7_readsNodes_49 : decode cX7_readsNodes 49 = .ok (.iconst (-1), 1) := by decide +kernel
theorem dX7_readsNodes_50 : decode cX7_readsNodes 50 = .ok (.invokevirtual 146, 3) := by decide +kernel
theorem dX7_readsNodes_53 : decode cX7_readsNodes 53 = .ok (.istore_n 2, 1) := by decide +kernel
theorem dX7_readsNodes_54 : decode cX7_readsNodes 54 = .ok (.aload_n 0, 1) := by decide +kernel
theorem dX7_readsNodes_55 : decode cX7_readsNodes 55 = .ok (.invokevirtual 116, 3) := by decide +kernel
theorem dX7_readsNodes_58 : decode cX7_readsNodes 58 = .ok (.ifCond .ne 4, 3) := by decide +kernel
theorem dX7_readsNodes_61 : decode cX7_readsNodes 61 = .ok (.return_, 1) := by decide +kernel
theorem dX7_readsNodes_62 : decode cX7_readsNodes 62 = .ok (.aload_n 0, 1) := by decide +kernel
theorem dX7_readsNodes_63 : decode cX7_readsNodes 63 = .ok (.getfield 32, 3) := by decide +kernel
theorem dX7_readsNodes_66 : decode cX7_readsNodes 66 = .ok (.aload_n 0, 1) := by decide +kernel
theorem dX7_readsNodes_67 : decode cX7_readsNodes 67 = .ok (.getfield 85, 3) := by decide +kernel
theorem dX7_readsNodes_70 : decode cX7_readsNodes 70 = .ok (.iload_n 2, 1) := by decide +kernel
theorem dX7_readsNodes_71 : decode cX7_readsNodes 71 = .ok (.iastore, 1) := by decide +kernel
theorem dX7_readsNodes_72 : decode cX7_readsNodes 72 = .ok (.aload_n 0, 1) := by decide +kernel
theorem dX7_readsNodes_73 : decode cX7_readsNodes 73 = .ok (.dup, 1) := by decide +kernel
theorem dX7_readsNodes_74 : decode cX7_readsNodes 74 = .ok (.getfield 85, 3) := by decide +kernel
theorem dX7_readsNodes_77 : decode cX7_readsNodes 77 = .ok (.iconst 1, 1) := by decide +kernel
theorem dX7_readsNodes_78 : decode cX7_readsNodes 78 = .ok (.iadd, 1) := by decide +kernel
theorem dX7_readsNodes_79 : decode cX7_readsNodes 79 = .ok (.putfield 85, 3) := by decide +kernel
theorem dX7_readsNodes_82 : decode cX7_readsNodes 82 = .ok (.goto (-77), 3) := by decide +kernel
theorem dX7_readsNodes_85 : decode cX7_readsNodes 85 = .ok (.return_, 1) := by decide +kernel
theorem dX7_readsShape_0 : decode cX7_readsShape 0 = .ok (.aload_n 0, 1) := by decide +kernel
theorem dX7_readsShape_1 : decode cX7_readsShape 1 = .ok (.iconst 1, 1) := by decide +kernel
theorem dX7_readsShape_2 : decode cX7_readsShape 2 = .ok (.putfield 149, 3) := by decide +kernel
theorem dX7_readsShape_5 : decode cX7_readsShape 5 = .ok (.aload_n 0, 1) := by decide +kernel
theorem dX7_readsShape_6 : decode cX7_readsShape 6 = .ok (.getfield 24, 3) := by decide +kernel
theorem dX7_readsShape_9 : decode cX7_readsShape 9 = .ok (.iconst 1, 1) := by decide +kernel
theorem dX7_readsShape_10 : decode cX7_readsShape 10 = .ok (.aload_n 0, 1) := by decide +kernel
theorem dX7_readsShape_11 : decode cX7_readsShape 11 = .ok (.ldc 153, 2) := by decide +kernel
theorem dX7_readsShape_13 : decode cX7_readsShape 13 = .ok (.invokevirtual 155, 3) := by decide +kernel
theorem dX7_readsShape_16 : decode cX7_readsShape 16 = .ok (.ifCond .eq 7, 3) := by decide +kernel
theorem dX7_readsShape_19 : decode cX7_readsShape 19 = .ok (.lconst 0, 1) := by decide +kernel
theorem dX7_readsShape_20 : decode cX7_readsShape 20 = .ok (.goto 49, 3) := by decide +kernel
theorem dX7_readsShape_23 : decode cX7_readsShape 23 = .ok (.aload_n 0, 1) := by decide +kernel
theorem dX7_readsShape_24 : decode cX7_readsShape 24 = .ok (.ldc 159, 2) := by decide +kernel
theorem dX7_readsShape_26 : decode cX7_readsShape 26 = .ok (.invokevirtual 155, 3) := by decide +kernel
theorem dX7_readsShape_29 : decode cX7_readsShape 29 = .ok (.ifCond .eq 7, 3) := by decide +kernel
theorem dX7_readsShape_32 : decode cX7_readsShape 32 = .ok (.lconst 1, 1) := by decide +kernel
theorem dX7_readsShape_33 : decode cX7_readsShape 33 = .ok (.goto 36, 3) := by decide +kernel
theorem dX7_readsShape_36 : decode cX7_readsShape 36 = .ok (.aload_n 0, 1) := by decide +kernel
theorem dX7_readsShape_37 : decode cX7_readsShape 37 = .ok (.ldc 161, 2) := by decide +kernel
theorem dX7_readsShape_39 : decode cX7_readsShape 39 = .ok (.invokevirtual 155, 3) := by decide +kernel
theorem dX7_readsShape_42 : decode cX7_readsShape 42 = .ok (.ifCond .eq 9, 3) := by decide +kernel
theorem dX7_readsShape_45 : decode cX7_readsShape 45 = .ok (.ldc2_w 76, 3) := by decide +kernel
theorem dX7_readsShape_48 : decode cX7_readsShape 48 = .ok (.goto 21, 3) := by decide +kernel
theorem dX7_readsShape_51 : decode cX7_readsShape 51 = .ok (.aload_n 0, 1) := by decide +kernel
theorem dX7_readsShape_52 : decode cX7_readsShape 52 = .ok (.ldc 163, 2) := by decide +kernel
theorem dX7_readsShape_54 : decode cX7_readsShape 54 = .ok (.invokevirtual 155, 3) := by decide +kernel
theorem dX7_readsShape_57 : decode cX7_readsShape 57 = .ok (.ifCond .eq 9, 3) := by decide +kernel
theorem dX7_readsShape_60 : decode cX7_readsShape 60 = .ok (.ldc2_w 59, 3) := by decide +kernel
theorem dX7_readsShape_63 : decode cX7_readsShape 63 = .ok (.goto 6, 3) := by decide +kernel
theorem dX7_readsShape_66 : decode cX7_readsShape 66 = .ok (.ldc2_w 165, 3) := by decide +kernel
theorem dX7_readsShape_69 : decode cX7_readsShape 69 = .ok (.lastore, 1) := by decide +kernel
theorem dX7_readsShape_70 : decode cX7_readsShape 70 = .ok (.aload_n 0, 1) := by decide +kernel
theorem dX7_readsShape_71 : decode cX7_readsShape 71 = .ok (.getfield 24, 3) := by decide +kernel
theorem dX7_readsShape_74 : decode cX7_readsShape 74 = .ok (.iconst 1, 1) := by decide +kernel
theorem dX7_readsShape_75 : decode cX7_readsShape 75 = .ok (.laload, 1) := by decide +kernel
theorem dX7_readsShape_76 : decode cX7_readsShape 76 = .ok (.ldc2_w 165, 3) := by decide +kernel
theorem dX7_readsShape_79 : decode cX7_readsShape 79 = .ok (.lcmp, 1) := by decide +kernel
theorem dX7_readsShape_80 : decode cX7_readsShape 80 = .ok (.ifCond .ne 12, 3) := by decide +kernel
theorem dX7_readsShape_83 : decode cX7_readsShape 83 = .ok (.aload_n 0, 1) := by decide +kernel
theorem dX7_readsShape_84 : decode cX7_readsShape 84 = .ok (.iconst 1, 1) := by decide +kernel
theorem dX7_readsShape_85 : decode cX7_readsShape 85 = .ok (.aload_n 0, 1) := by decide +kernel
theorem dX7_readsShape_86 : decode cX7_readsShape 86 = .ok (.getfield 103, 3) := by decide +kernel
theorem dX7_readsShape_89 : decode cX7_readsShape 89 = .ok (.invokevirtual 137, 3) := by decide +kernel
theorem dX7_readsShape_92 : decode cX7_readsShape 92 = .ok (.aload_n 0, 1) := by decide +kernel
theorem dX7_readsShape_93 : decode cX7_readsShape 93 = .ok (.getfield 24, 3) := by decide +kernel
theorem dX7_readsShape_96 : decode cX7_readsShape 96 = .ok (.iconst 2, 1) := by decide +kernel
theorem dX7_readsShape_97 : decode cX7_readsShape 97 = .ok (.aload_n 0, 1) := by decide +kernel
theorem dX7_readsShape_98 : decode cX7_readsShape 98 = .ok (.getfield 24, 3) := by decide +kernel
theorem dX7_readsShape_101 : decode cX7_readsShape 101 = .ok (.iconst 1, 1) := by decide +kernel
theorem dX7_readsShape_102 : decode cX7_readsShape 102 = .ok (.laload, 1) := by decide +kernel
theorem dX7_readsShape_103 : decode cX7_readsShape 103 = .ok (.lconst 0, 1) := by decide +kernel
theorem dX7_readsShape_104 : decode cX7_readsShape 104 = .ok (.lcmp, 1) := by decide +kernel
theorem dX7_readsShape_105 : decode cX7_readsShape 105 = .ok (.ifCond .ne 9, 3) := by decide +kernel
theorem dX7_readsShape_108 : decode cX7_readsShape 108 = .ok (.ldc2_w 59, 3) := by decide +kernel
theorem dX7_readsShape_111 : decode cX7_readsShape 111 = .ok (.goto 35, 3) := by decide +kernel
theorem dX7_readsShape_114 : decode cX7_readsShape 114 = .ok (.aload_n 0, 1) := by decide +kernel
theorem dX7_readsShape_115 : decode cX7_readsShape 115 = .ok (.getfield 24, 3) := by decide +kernel
theorem dX7_readsShape_118 : decode cX7_readsShape 118 = .ok (.iconst 1, 1) := by decide +kernel
theorem dX7_readsShape_119 : decode cX7_readsShape 119 = .ok (.laload, 1) := by decide +kernel
theorem dX7_readsShape_120 : decode cX7_readsShape 120 = .ok (.ldc2_w 59, 3) := by decide +kernel
theorem dX7_readsShape_123 : decode cX7_readsShape 123 = .ok (.lcmp, 1) := by decide +kernel
theorem dX7_readsShape_124 : decode cX7_readsShape 124 = .ok (.ifCond .ne 14, 3) := by decide +kernel
theorem dX7_readsShape_127 : decode cX7_readsShape 127 = .ok (.aload_n 0, 1) := by decide +kernel
theorem dX7_readsShape_128 : decode cX7_readsShape 128 = .ok (.iconst 3, 1) := by decide +kernel
theorem dX7_readsShape_129 : decode cX7_readsShape 129 = .ok (.iconst 5, 1) := by decide +kernel
theorem dX7_readsShape_130 : decode cX7_readsShape 130 = .ok (.iconst (-1), 1) := by decide +kernel
theorem dX7_readsShape_131 : decode cX7_readsShape 131 = .ok (.invokevirtual 146, 3) := by decide +kernel
theorem dX7_readsShape_134 : decode cX7_readsShape 134 = .ok (.i2l, 1) := by decide +kernel
theorem dX7_readsShape_135 : decode cX7_readsShape 135 = .ok (.goto 11, 3) := by decide +kernel
theorem dX7_readsShape_138 : decode cX7_readsShape 138 = .ok (.aload_n 0, 1) := by decide +kernel
theorem dX7_readsShape_139 : decode cX7_readsShape 139 = .ok (.iconst 1, 1) := by decide +kernel
theorem dX7_readsShape_140 : decode cX7_readsShape 140 = .ok (.iconst 4, 1) := by decide +kernel
theorem dX7_readsShape_141 : decode cX7_readsShape 141 = .ok (.iconst (-1), 1) := by decide +kernel
theorem dX7_readsShape_142 : decode cX7_readsShape 142 = .ok (.invokevirtual 146, 3) := by decide +kernel
theorem dX7_readsShape_145 : decode cX7_readsShape 145 = .ok (.i2l, 1) := by decide +kernel
theorem dX7_readsShape_146 : decode cX7_readsShape 146 = .ok (.lastore, 1) := by decide +kernel
theorem dX7_readsShape_147 : decode cX7_readsShape 147 = .ok (.return_, 1) := by decide +kernel
theorem dX7_readsBase_0 : decode cX7_readsBase 0 = .ok (.aload_n 0, 1) := by decide +kernel
theorem dX7_readsBase_1 : decode cX7_readsBase 1 = .ok (.getfield 24, 3) := by decide +kernel
theorem dX7_readsBase_4 : decode cX7_readsBase 4 = .ok (.iconst 4, 1) := by decide +kernel
theorem dX7_readsBase_5 : decode cX7_readsBase 5 = .ok (.laload, 1) := by decide +kernel
theorem dX7_readsBase_6 : decode cX7_readsBase 6 = .ok (.ldc2_w 167, 3) := by decide +kernel
theorem dX7_readsBase_9 : decode cX7_readsBase 9 = .ok (.lcmp, 1) := by decide +kernel
theorem dX7_readsBase_10 : decode cX7_readsBase 10 = .ok (.ifCond .ne 9, 3) := by decide +kernel
theorem dX7_readsBase_13 : decode cX7_readsBase 13 = .ok (.aload_n 0, 1) := by decide +kernel
theorem dX7_readsBase_14 : decode cX7_readsBase 14 = .ok (.iconst 3, 1) := by decide +kernel
theorem dX7_readsBase_15 : decode cX7_readsBase 15 = .ok (.iload_n 1, 1) := by decide +kernel
theorem dX7_readsBase_16 : decode cX7_readsBase 16 = .ok (.invokevirtual 137, 3) := by decide +kernel
theorem dX7_readsBase_19 : decode cX7_readsBase 19 = .ok (.aload_n 0, 1) := by decide +kernel
theorem dX7_readsBase_20 : decode cX7_readsBase 20 = .ok (.bipush 30, 2) := by decide +kernel
theorem dX7_readsBase_22 : decode cX7_readsBase 22 = .ok (.invokevirtual 169, 3) := by decide +kernel
theorem dX7_readsBase_25 : decode cX7_readsBase 25 = .ok (.aload_n 0, 1) := by decide +kernel
theorem dX7_readsBase_26 : decode cX7_readsBase 26 = .ok (.invokevirtual 116, 3) := by decide +kernel
theorem dX7_readsBase_29 : decode cX7_readsBase 29 = .ok (.ifCond .ne 4, 3) := by decide +kernel
theorem dX7_readsBase_32 : decode cX7_readsBase 32 = .ok (.return_, 1) := by decide +kernel
theorem dX7_readsBase_33 : decode cX7_readsBase 33 = .ok (.iconst 5, 1) := by decide +kernel
theorem dX7_readsBase_34 : decode cX7_readsBase 34 = .ok (.bipush 6, 2) := by decide +kernel
theorem dX7_readsBase_36 : decode cX7_readsBase 36 = .ok (.aload_n 0, 1) := by decide +kernel
theorem dX7_readsBase_37 : decode cX7_readsBase 37 = .ok (.getfield 24, 3) := by decide +kernel
theorem dX7_readsBase_40 : decode cX7_readsBase 40 = .ok (.iconst 4, 1) := by decide +kernel
theorem dX7_readsBase_41 : decode cX7_readsBase 41 = .ok (.laload, 1) := by decide +kernel
theorem dX7_readsBase_42 : decode cX7_readsBase 42 = .ok (.l2i, 1) := by decide +kernel
theorem dX7_readsBase_43 : decode cX7_readsBase 43 = .ok (.imul, 1) := by decide +kernel
theorem dX7_readsBase_44 : decode cX7_readsBase 44 = .ok (.iadd, 1) := by decide +kernel
theorem dX7_readsBase_45 : decode cX7_readsBase 45 = .ok (.istore_n 2, 1) := by decide +kernel
theorem dX7_readsBase_46 : decode cX7_readsBase 46 = .ok (.aload_n 0, 1) := by decide +kernel
theorem dX7_readsBase_47 : decode cX7_readsBase 47 = .ok (.getfield 24, 3) := by decide +kernel
theorem dX7_readsBase_50 : decode cX7_readsBase 50 = .ok (.iload_n 2, 1) := by decide +kernel
theorem dX7_readsBase_51 : decode cX7_readsBase 51 = .ok (.aload_n 0, 1) := by decide +kernel
theorem dX7_readsBase_52 : decode cX7_readsBase 52 = .ok (.getfield 85, 3) := by decide +kernel
theorem dX7_readsBase_55 : decode cX7_readsBase 55 = .ok (.i2l, 1) := by decide +kernel
theorem dX7_readsBase_56 : decode cX7_readsBase 56 = .ok (.lastore, 1) := by decide +kernel
theorem dX7_readsBase_57 : decode cX7_readsBase 57 = .ok (.iconst 0, 1) := by decide +kernel
theorem dX7_readsBase_58 : decode cX7_readsBase 58 = .ok (.istore_n 3, 1) := by decide +kernel
theorem dX7_readsBase_59 : decode cX7_readsBase 59 = .ok (.iload_n 3, 1) := by decide +kernel
theorem dX7_readsBase_60 : decode cX7_readsBase 60 = .ok (.aload_n 0, 1) := by decide +kernel
theorem dX7_readsBase_61 : decode cX7_readsBase 61 = .ok (.getfield 85, 3) := by decide +kernel
theorem dX7_readsBase_64 : decode cX7_readsBase 64 = .ok (.if_icmp .ge 26, 3) := by decide +kernel
theorem dX7_readsBase_67 : decode cX7_readsBase 67 = .ok (.aload_n 0, 1) := by decide +kernel
theorem dX7_readsBase_68 : decode cX7_readsBase 68 = .ok (.getfield 24, 3) := by decide +kernel
theorem dX7_readsBase_71 : decode cX7_readsBase 71 = .ok (.iload_n 2, 1) := by decide +kernel
theorem dX7_readsBase_72 : decode cX7_readsBase 72 = .ok (.iconst 1, 1) := by decide +kernel
theorem dX7_readsBase_73 : decode cX7_readsBase 73 = .ok (.iadd, 1) := by decide +kernel
theorem dX7_readsBase_74 : decode cX7_readsBase 74 = .ok (.iload_n 3, 1) := by decide +kernel
theorem dX7_readsBase_75 : decode cX7_readsBase 75 = .ok (.iadd, 1) := by decide +kernel
theorem dX7_readsBase_76 : decode cX7_readsBase 76 = .ok (.aload_n 0, 1) := by decide +kernel
theorem dX7_readsBase_77 : decode cX7_readsBase 77 = .ok (.getfield 32, 3) := by decide +kernel
theorem dX7_readsBase_80 : decode cX7_readsBase 80 = .ok (.iload_n 3, 1) := by decide +kernel
theorem dX7_readsBase_81 : decode cX7_readsBase 81 = .ok (.iaload, 1) := by decide +kernel
theorem dX7_readsBase_82 : decode cX7_readsBase 82 = .ok (.i2l, 1) := by decide +kernel
theorem dX7_readsBase_83 : decode cX7_readsBase 83 = .ok (.lastore, 1) := by decide +kernel
theorem dX7_readsBase_84 : decode cX7_readsBase 84 = .ok (.iinc 3 1, 3) := by decide +kernel
theorem dX7_readsBase_87 : decode cX7_readsBase 87 = .ok (.goto (-28), 3) := by decide +kernel
theorem dX7_readsBase_90 : decode cX7_readsBase 90 = .ok (.aload_n 0, 1) := by decide +kernel
theorem dX7_readsBase_91 : decode cX7_readsBase 91 = .ok (.getfield 24, 3) := by decide +kernel
theorem dX7_readsBase_94 : decode cX7_readsBase 94 = .ok (.iconst 4, 1) := by decide +kernel
theorem dX7_readsBase_95 : decode cX7_readsBase 95 = .ok (.dup2, 1) := by decide +kernel
theorem dX7_readsBase_96 : decode cX7_readsBase 96 = .ok (.laload, 1) := by decide +kernel
theorem dX7_readsBase_97 : decode cX7_readsBase 97 = .ok (.lconst 1, 1) := by decide +kernel
theorem dX7_readsBase_98 : decode cX7_readsBase 98 = .ok (.ladd, 1) := by decide +kernel
theorem dX7_readsBase_99 : decode cX7_readsBase 99 = .ok (.lastore, 1) := by decide +kernel
theorem dX7_readsBase_100 : decode cX7_readsBase 100 = .ok (.return_, 1) := by decide +kernel
theorem dX7_readsPart_0 : decode cX7_readsPart 0 = .ok (.aload_n 0, 1) := by decide +kernel
theorem dX7_readsPart_1 : decode cX7_readsPart 1 = .ok (.aload_n 0, 1) := by decide +kernel
theorem dX7_readsPart_2 : decode cX7_readsPart 2 = .ok (.getfield 24, 3) := by decide +kernel
theorem dX7_readsPart_5 : decode cX7_readsPart 5 = .ok (.iconst 0, 1) := by decide +kernel
theorem dX7_readsPart_6 : decode cX7_readsPart 6 = .ok (.laload, 1) := by decide +kernel
theorem dX7_readsPart_7 : decode cX7_readsPart 7 = .ok (.l2i, 1) := by decide +kernel
theorem dX7_readsPart_8 : decode cX7_readsPart 8 = .ok (.iconst 1, 1) := by decide +kernel
theorem dX7_readsPart_9 : decode cX7_readsPart 9 = .ok (.isub, 1) := by decide +kernel
theorem dX7_readsPart_10 : decode cX7_readsPart 10 = .ok (.invokevirtual 169, 3) := by decide +kernel
theorem dX7_readsPart_13 : decode cX7_readsPart 13 = .ok (.aload_n 0, 1) := by decide +kernel
theorem dX7_readsPart_14 : decode cX7_readsPart 14 = .ok (.invokevirtual 116, 3) := by decide +kernel
theorem dX7_readsPart_17 : decode cX7_readsPart 17 = .ok (.ifCond .ne 4, 3) := by decide +kernel
theorem dX7_readsPart_20 : decode cX7_readsPart 20 = .ok (.return_, 1) := by decide +kernel
theorem dX7_readsPart_21 : decode cX7_readsPart 21 = .ok (.aload_n 0, 1) := by decide +kernel
theorem dX7_readsPart_22 : decode cX7_readsPart 22 = .ok (.getfield 38, 3) := by decide +kernel
theorem dX7_readsPart_25 : decode cX7_readsPart 25 = .ok (.aload_n 0, 1) := by decide +kernel
theorem dX7_readsPart_26 : decode cX7_readsPart 26 = .ok (.getfield 173, 3) := by decide +kernel
theorem dX7_readsPart_29 : decode cX7_readsPart 29 = .ok (.aload_n 0, 1) := by decide +kernel
theorem dX7_readsPart_30 : decode cX7_readsPart 30 = .ok (.getfield 85, 3) := by decide +kernel
theorem dX7_readsPart_33 : decode cX7_readsPart 33 = .ok (.iastore, 1) := by decide +kernel
theorem dX7_readsPart_34 : decode cX7_readsPart 34 = .ok (.iconst 0, 1) := by decide +kernel
theorem dX7_readsPart_35 : decode cX7_readsPart 35 = .ok (.istore_n 1, 1) := by decide +kernel
theorem dX7_readsPart_36 : decode cX7_readsPart 36 = .ok (.iload_n 1, 1) := by decide +kernel
theorem dX7_readsPart_37 : decode cX7_readsPart 37 = .ok (.aload_n 0, 1) := by decide +kernel
theorem dX7_readsPart_38 : decode cX7_readsPart 38 = .ok (.getfield 85, 3) := by decide +kernel
theorem dX7_readsPart_41 : decode cX7_readsPart 41 = .ok (.if_icmp .ge 28, 3) := by decide +kernel
theorem dX7_readsPart_44 : decode cX7_readsPart 44 = .ok (.aload_n 0, 1) := by decide +kernel
theorem dX7_readsPart_45 : decode cX7_readsPart 45 = .ok (.getfield 35, 3) := by decide +kernel
theorem dX7_readsPart_48 : decode cX7_readsPart 48 = .ok (.iconst 5, 1) := by decide +kernel
theorem dX7_readsPart_49 : decode cX7_readsPart 49 = .ok (.aload_n 0, 1) := by decide +kernel
theorem dX7_readsPart_50 : decode cX7_readsPart 50 = .ok (.getfield 173, 3) := by decide +kernel
theorem dX7_readsPart_53 : decode cX7_readsPart 53 = .ok (.imul, 1) := by decide +kernel
theorem dX7_readsPart_54 : decode cX7_readsPart 54 = .ok (.iload_n 1, 1) := by decide +kernel
theorem dX7_readsPart_55 : decode cX7_readsPart 55 = .ok (.iadd, 1) := by decide +kernel
theorem dX7_readsPart_56 : decode cX7_readsPart 56 = .ok (.aload_n 0, 1) := by decide +kernel
theorem dX7_readsPart_57 : decode cX7_readsPart 57 = .ok (.getfield 32, 3) := by decide +kernel
theorem dX7_readsPart_60 : decode cX7_readsPart 60 = .ok (.iload_n 1, 1) := by decide +kernel
theorem dX7_readsPart_61 : decode cX7_readsPart 61 = .ok (.iaload, 1) := by decide +kernel
theorem dX7_readsPart_62 : decode cX7_readsPart 62 = .ok (.iastore, 1) := by decide +kernel
theorem dX7_readsPart_63 : decode cX7_readsPart 63 = .ok (.iinc 1 1, 3) := by decide +kernel
theorem dX7_readsPart_66 : decode cX7_readsPart 66 = .ok (.goto (-30), 3) := by decide +kernel
theorem dX7_readsPart_69 : decode cX7_readsPart 69 = .ok (.aload_n 0, 1) := by decide +kernel
theorem dX7_readsPart_70 : decode cX7_readsPart 70 = .ok (.dup, 1) := by decide +kernel
theorem dX7_readsPart_71 : decode cX7_readsPart 71 = .ok (.getfield 173, 3) := by decide +kernel
theorem dX7_readsPart_74 : decode cX7_readsPart 74 = .ok (.iconst 1, 1) := by decide +kernel
theorem dX7_readsPart_75 : decode cX7_readsPart 75 = .ok (.iadd, 1) := by decide +kernel
theorem dX7_readsPart_76 : decode cX7_readsPart 76 = .ok (.putfield 173, 3) := by decide +kernel
theorem dX7_readsPart_79 : decode cX7_readsPart 79 = .ok (.return_, 1) := by decide +kernel
theorem dX7_readsLine_0 : decode cX7_readsLine 0 = .ok (.aload_n 0, 1) := by decide +kernel
theorem dX7_readsLine_1 : decode cX7_readsLine 1 = .ok (.invokevirtual 120, 3) := by decide +kernel
theorem dX7_readsLine_4 : decode cX7_readsLine 4 = .ok (.pop, 1) := by decide +kernel
theorem dX7_readsLine_5 : decode cX7_readsLine 5 = .ok (.aload_n 0, 1) := by decide +kernel
theorem dX7_readsLine_6 : decode cX7_readsLine 6 = .ok (.getfield 103, 3) := by decide +kernel
theorem dX7_readsLine_9 : decode cX7_readsLine 9 = .ok (.istore_n 1, 1) := by decide +kernel
theorem dX7_readsLine_10 : decode cX7_readsLine 10 = .ok (.aload_n 0, 1) := by decide +kernel
theorem dX7_readsLine_11 : decode cX7_readsLine 11 = .ok (.getfield 24, 3) := by decide +kernel
theorem dX7_readsLine_14 : decode cX7_readsLine 14 = .ok (.iconst 0, 1) := by decide +kernel
theorem dX7_readsLine_15 : decode cX7_readsLine 15 = .ok (.laload, 1) := by decide +kernel
theorem dX7_readsLine_16 : decode cX7_readsLine 16 = .ok (.l2i, 1) := by decide +kernel
theorem dX7_readsLine_17 : decode cX7_readsLine 17 = .ok (.iconst 1, 1) := by decide +kernel
theorem dX7_readsLine_18 : decode cX7_readsLine 18 = .ok (.isub, 1) := by decide +kernel
theorem dX7_readsLine_19 : decode cX7_readsLine 19 = .ok (.istore_n 2, 1) := by decide +kernel
theorem dX7_readsLine_20 : decode cX7_readsLine 20 = .ok (.aload_n 0, 1) := by decide +kernel
theorem dX7_readsLine_21 : decode cX7_readsLine 21 = .ok (.ldc 176, 2) := by decide +kernel
theorem dX7_readsLine_23 : decode cX7_readsLine 23 = .ok (.invokevirtual 155, 3) := by decide +kernel
theorem dX7_readsLine_26 : decode cX7_readsLine 26 = .ok (.ifCond .eq 22, 3) := by decide +kernel
theorem dX7_readsLine_29 : decode cX7_readsLine 29 = .ok (.aload_n 0, 1) := by decide +kernel
theorem dX7_readsLine_30 : decode cX7_readsLine 30 = .ok (.getfield 24, 3) := by decide +kernel
theorem dX7_readsLine_33 : decode cX7_readsLine 33 = .ok (.bipush 29, 2) := by decide +kernel
theorem dX7_readsLine_35 : decode cX7_readsLine 35 = .ok (.aload_n 0, 1) := by decide +kernel
theorem dX7_readsLine_36 : decode cX7_readsLine 36 = .ok (.getfield 24, 3) := by decide +kernel
theorem dX7_readsLine_39 : decode cX7_readsLine 39 = .ok (.iconst 0, 1) := by decide +kernel
theorem dX7_readsLine_40 : decode cX7_readsLine 40 = .ok (.laload, 1) := by decide +kernel
theorem dX7_readsLine_41 : decode cX7_readsLine 41 = .ok (.invokestatic 177, 3) := by decide +kernel
theorem dX7_readsLine_44 : decode cX7_readsLine 44 = .ok (.lastore, 1) := by decide +kernel
theorem dX7_readsLine_45 : decode cX7_readsLine 45 = .ok (.goto 169, 3) := by decide +kernel
theorem dX7_readsLine_48 : decode cX7_readsLine 48 = .ok (.aload_n 0, 1) := by decide +kernel
theorem dX7_readsLine_49 : decode cX7_readsLine 49 = .ok (.ldc 181, 2) := by decide +kernel
theorem dX7_readsLine_51 : decode cX7_readsLine 51 = .ok (.invokevirtual 155, 3) := by decide +kernel
theorem dX7_readsLine_54 : decode cX7_readsLine 54 = .ok (.ifCond .eq 10, 3) := by decide +kernel
theorem dX7_readsLine_57 : decode cX7_readsLine 57 = .ok (.aload_n 0, 1) := by decide +kernel
theorem dX7_readsLine_58 : decode cX7_readsLine 58 = .ok (.invokevirtual 183, 3) := by decide +kernel
theorem dX7_readsLine_61 : decode cX7_readsLine 61 = .ok (.goto 153, 3) := by decide +kernel
theorem dX7_readsLine_64 : decode cX7_readsLine 64 = .ok (.aload_n 0, 1) := by decide +kernel
theorem dX7_readsLine_65 : decode cX7_readsLine 65 = .ok (.ldc 186, 2) := by decide +kernel
theorem dX7_readsLine_67 : decode cX7_readsLine 67 = .ok (.invokevirtual 155, 3) := by decide +kernel
theorem dX7_readsLine_70 : decode cX7_readsLine 70 = .ok (.ifCond .eq 11, 3) := by decide +kernel
theorem dX7_readsLine_73 : decode cX7_readsLine 73 = .ok (.aload_n 0, 1) := by decide +kernel
theorem dX7_readsLine_74 : decode cX7_readsLine 74 = .ok (.iload_n 1, 1) := by decide +kernel
theorem dX7_readsLine_75 : decode cX7_readsLine 75 = .ok (.invokevirtual 188, 3) := by decide +kernel
theorem dX7_readsLine_78 : decode cX7_readsLine 78 = .ok (.goto 136, 3) := by decide +kernel
theorem dX7_readsLine_81 : decode cX7_readsLine 81 = .ok (.aload_n 0, 1) := by decide +kernel
theorem dX7_readsLine_82 : decode cX7_readsLine 82 = .ok (.getfield 149, 3) := by decide +kernel
theorem dX7_readsLine_85 : decode cX7_readsLine 85 = .ok (.ifCond .ne 19, 3) := by decide +kernel
theorem dX7_readsLine_88 : decode cX7_readsLine 88 = .ok (.aload_n 0, 1) := by decide +kernel
theorem dX7_readsLine_89 : decode cX7_readsLine 89 = .ok (.ldc 191, 2) := by decide +kernel
theorem dX7_readsLine_91 : decode cX7_readsLine 91 = .ok (.invokevirtual 155, 3) := by decide +kernel
theorem dX7_readsLine_94 : decode cX7_readsLine 94 = .ok (.ifCond .eq 10, 3) := by decide +kernel
theorem dX7_readsLine_97 : decode cX7_readsLine 97 = .ok (.aload_n 0, 1) := by decide +kernel
theorem dX7_readsLine_98 : decode cX7_readsLine 98 = .ok (.invokevirtual 193, 3) := by decide +kernel
theorem dX7_readsLine_101 : decode cX7_readsLine 101 = .ok (.goto 113, 3) := by decide +kernel
theorem dX7_readsLine_104 : decode cX7_readsLine 104 = .ok (.aload_n 0, 1) := by decide +kernel
theorem dX7_readsLine_105 : decode cX7_readsLine 105 = .ok (.ldc 196, 2) := by decide +kernel
theorem dX7_readsLine_107 : decode cX7_readsLine 107 = .ok (.invokevirtual 155, 3) := by decide +kernel
theorem dX7_readsLine_110 : decode cX7_readsLine 110 = .ok (.istore_n 3, 1) := by decide +kernel
theorem dX7_readsLine_111 : decode cX7_readsLine 111 = .ok (.iload_n 3, 1) := by decide +kernel
theorem dX7_readsLine_112 : decode cX7_readsLine 112 = .ok (.ifCond .ne 18, 3) := by decide +kernel
theorem dX7_readsLine_115 : decode cX7_readsLine 115 = .ok (.aload_n 0, 1) := by decide +kernel
theorem dX7_readsLine_116 : decode cX7_readsLine 116 = .ok (.ldc 198, 2) := by decide +kernel
theorem dX7_readsLine_118 : decode cX7_readsLine 118 = .ok (.invokevirtual 155, 3) := by decide +kernel
theorem dX7_readsLine_121 : decode cX7_readsLine 121 = .ok (.ifCond .ne 9, 3) := by decide +kernel
theorem dX7_readsLine_124 : decode cX7_readsLine 124 = .ok (.aload_n 0, 1) := by decide +kernel
theorem dX7_readsLine_125 : decode cX7_readsLine 125 = .ok (.iconst 1, 1) := by decide +kernel
theorem dX7_readsLine_126 : decode cX7_readsLine 126 = .ok (.iload_n 1, 1) := by decide +kernel
theorem dX7_readsLine_127 : decode cX7_readsLine 127 = .ok (.invokevirtual 137, 3) := by decide +kernel
theorem dX7_readsLine_130 : decode cX7_readsLine 130 = .ok (.aload_n 0, 1) := by decide +kernel
theorem dX7_readsLine_131 : decode cX7_readsLine 131 = .ok (.iconst 0, 1) := by decide +kernel
theorem dX7_readsLine_132 : decode cX7_readsLine 132 = .ok (.iload_n 2, 1) := by decide +kernel
theorem dX7_readsLine_133 : decode cX7_readsLine 133 = .ok (.iconst (-1), 1) := by decide +kernel
theorem dX7_readsLine_134 : decode cX7_readsLine 134 = .ok (.invokevirtual 146, 3) := by decide +kernel
theorem dX7_readsLine_137 : decode cX7_readsLine 137 = .ok (.istore 4, 2) := by decide +kernel
theorem dX7_readsLine_139 : decode cX7_readsLine 139 = .ok (.aload_n 0, 1) := by decide +kernel
theorem dX7_readsLine_140 : decode cX7_readsLine 140 = .ok (.iconst 0, 1) := by decide +kernel
theorem dX7_readsLine_141 : decode cX7_readsLine 141 = .ok (.iload_n 2, 1) := by decide +kernel
theorem dX7_readsLine_142 : decode cX7_readsLine 142 = .ok (.iload 4, 2) := by decide +kernel
theorem dX7_readsLine_144 : decode cX7_readsLine 144 = .ok (.invokevirtual 146, 3) := by decide +kernel
theorem dX7_readsLine_147 : decode cX7_readsLine 147 = .ok (.istore 5, 2) := by decide +kernel
theorem dX7_readsLine_149 : decode cX7_readsLine 149 = .ok (.aload_n 0, 1) := by decide +kernel
theorem dX7_readsLine_150 : decode cX7_readsLine 150 = .ok (.invokevirtual 116, 3) := by decide +kernel
theorem dX7_readsLine_153 : decode cX7_readsLine 153 = .ok (.ifCond .eq 61, 3) := by decide +kernel
theorem dX7_readsLine_156 : decode cX7_readsLine 156 = .ok (.aload_n 0, 1) := by decide +kernel
theorem dX7_readsLine_157 : decode cX7_readsLine 157 = .ok (.getfield 24, 3) := by decide +kernel
theorem dX7_readsLine_160 : decode cX7_readsLine 160 = .ok (.bipush 29, 2) := by decide +kernel
theorem dX7_readsLine_162 : decode cX7_readsLine 162 = .ok (.iload_n 3, 1) := by decide +kernel
theorem dX7_readsLine_163 : decode cX7_readsLine 163 = .ok (.ifCond .eq 26, 3) := by decide +kernel
theorem dX7_readsLine_166 : decode cX7_readsLine 166 = .ok (.aload_n 0, 1) := by decide +kernel
theorem dX7_readsLine_167 : decode cX7_readsLine 167 = .ok (.getfield 24, 3) := by decide +kernel
theorem dX7_readsLine_170 : decode cX7_readsLine 170 = .ok (.bipush 29, 2) := by decide +kernel
theorem dX7_readsLine_172 : decode cX7_readsLine 172 = .ok (.laload, 1) := by decide +kernel
theorem dX7_readsLine_173 : decode cX7_readsLine 173 = .ok (.lconst 1, 1) := by decide +kernel
theorem dX7_readsLine_174 : decode cX7_readsLine 174 = .ok (.iload_n 2, 1) := by decide +kernel
theorem dX7_readsLine_175 : decode cX7_readsLine 175 = .ok (.iconst 1, 1) := by decide +kernel
theorem dX7_readsLine_176 : decode cX7_readsLine 176 = .ok (.iadd, 1) := by decide +kernel
theorem dX7_readsLine_177 : decode cX7_readsLine 177 = .ok (.iload 4, 2) := by decide +kernel
theorem dX7_readsLine_179 : decode cX7_readsLine 179 = .ok (.iload 5, 2) := by decide +kernel
theorem dX7_readsLine_181 : decode cX7_readsLine 181 = .ok (.invokestatic 96, 3) := by decide +kernel
theorem dX7_readsLine_184 : decode cX7_readsLine 184 = .ok (.lshl, 1) := by decide +kernel
theorem dX7_readsLine_185 : decode cX7_readsLine 185 = .ok (.lor, 1) := by decide +kernel
theorem dX7_readsLine_186 : decode cX7_readsLine 186 = .ok (.goto 27, 3) := by decide +kernel
theorem dX7_readsLine_189 : decode cX7_readsLine 189 = .ok (.aload_n 0, 1) := by decide +kernel
theorem dX7_readsLine_190 : decode cX7_readsLine 190 = .ok (.getfield 24, 3) := by decide +kernel
theorem dX7_readsLine_193 : decode cX7_readsLine 193 = .ok (.bipush 29, 2) := by decide +kernel
theorem dX7_readsLine_195 : decode cX7_readsLine 195 = .ok (.laload, 1) := by decide +kernel
theorem dX7_readsLine_196 : decode cX7_readsLine 196 = .ok (.lconst 1, 1) := by decide +kernel
theorem dX7_readsLine_197 : decode cX7_readsLine 197 = .ok (.iload_n 2, 1) := by decide +kernel
theorem dX7_readsLine_198 : decode cX7_readsLine 198 = .ok (.iconst 1, 1) := by decide +kernel
theorem dX7_readsLine_199 : decode cX7_readsLine 199 = .ok (.iadd, 1) := by decide +kernel
theorem dX7_readsLine_200 : decode cX7_readsLine 200 = .ok (.iload 4, 2) := by decide +kernel
theorem dX7_readsLine_202 : decode cX7_readsLine 202 = .ok (.iload 5, 2) := by decide +kernel
theorem dX7_readsLine_204 : decode cX7_readsLine 204 = .ok (.invokestatic 96, 3) := by decide +kernel
theorem dX7_readsLine_207 : decode cX7_readsLine 207 = .ok (.lshl, 1) := by decide +kernel
theorem dX7_readsLine_208 : decode cX7_readsLine 208 = .ok (.ldc2_w 165, 3) := by decide +kernel
theorem dX7_readsLine_211 : decode cX7_readsLine 211 = .ok (.lxor, 1) := by decide +kernel
theorem dX7_readsLine_212 : decode cX7_readsLine 212 = .ok (.land, 1) := by decide +kernel
theorem dX7_readsLine_213 : decode cX7_readsLine 213 = .ok (.lastore, 1) := by decide +kernel
theorem dX7_readsLine_214 : decode cX7_readsLine 214 = .ok (.aload_n 0, 1) := by decide +kernel
theorem dX7_readsLine_215 : decode cX7_readsLine 215 = .ok (.bipush 59, 2) := by decide +kernel
theorem dX7_readsLine_217 : decode cX7_readsLine 217 = .ok (.invokevirtual 199, 3) := by decide +kernel
theorem dX7_readsLine_220 : decode cX7_readsLine 220 = .ok (.return_, 1) := by decide +kernel
theorem dX7_areRight_0 : decode cX7_areRight 0 = .ok (.lconst 0, 1) := by decide +kernel
theorem dX7_areRight_1 : decode cX7_areRight 1 = .ok (.lstore_n 1, 1) := by decide +kernel
theorem dX7_areRight_2 : decode cX7_areRight 2 = .ok (.iconst 0, 1) := by decide +kernel
theorem dX7_areRight_3 : decode cX7_areRight 3 = .ok (.istore_n 3, 1) := by decide +kernel
theorem dX7_areRight_4 : decode cX7_areRight 4 = .ok (.iload_n 3, 1) := by decide +kernel
theorem dX7_areRight_5 : decode cX7_areRight 5 = .ok (.aload_n 0, 1) := by decide +kernel
theorem dX7_areRight_6 : decode cX7_areRight 6 = .ok (.getfield 173, 3) := by decide +kernel
theorem dX7_areRight_9 : decode cX7_areRight 9 = .ok (.if_icmp .ge 118, 3) := by decide +kernel
theorem dX7_areRight_12 : decode cX7_areRight 12 = .ok (.aload_n 0, 1) := by decide +kernel
theorem dX7_areRight_13 : decode cX7_areRight 13 = .ok (.aload_n 0, 1) := by decide +kernel
theorem dX7_areRight_14 : decode cX7_areRight 14 = .ok (.getfield 38, 3) := by decide +kernel
theorem dX7_areRight_17 : decode cX7_areRight 17 = .ok (.iload_n 3, 1) := by decide +kernel
theorem dX7_areRight_18 : decode cX7_areRight 18 = .ok (.iaload, 1) := by decide +kernel
theorem dX7_areRight_19 : decode cX7_areRight 19 = .ok (.putfield 85, 3) := by decide +kernel
theorem dX7_areRight_22 : decode cX7_areRight 22 = .ok (.iconst 0, 1) := by decide +kernel
theorem dX7_areRight_23 : decode cX7_areRight 23 = .ok (.istore 4, 2) := by decide +kernel
theorem dX7_areRight_25 : decode cX7_areRight 25 = .ok (.iload 4, 2) := by decide +kernel
theorem dX7_areRight_27 : decode cX7_areRight 27 = .ok (.aload_n 0, 1) := by decide +kernel
theorem dX7_areRight_28 : decode cX7_areRight 28 = .ok (.getfield 85, 3) := by decide +kernel
theorem dX7_areRight_31 : decode cX7_areRight 31 = .ok (.if_icmp .ge 27, 3) := by decide +kernel
theorem dX7_areRight_34 : decode cX7_areRight 34 = .ok (.aload_n 0, 1) := by decide +kernel
theorem dX7_areRight_35 : decode cX7_areRight 35 = .ok (.getfield 32, 3) := by decide +kernel
theorem dX7_areRight_38 : decode cX7_areRight 38 = .ok (.iload 4, 2) := by decide +kernel
theorem dX7_areRight_40 : decode cX7_areRight 40 = .ok (.aload_n 0, 1) := by decide +kernel
theorem dX7_areRight_41 : decode cX7_areRight 41 = .ok (.getfield 35, 3) := by decide +kernel
theorem dX7_areRight_44 : decode cX7_areRight 44 = .ok (.iconst 5, 1) := by decide +kernel
theorem dX7_areRight_45 : decode cX7_areRight 45 = .ok (.iload_n 3, 1) := by decide +kernel
theorem dX7_areRight_46 : decode cX7_areRight 46 = .ok (.imul, 1) := by decide +kernel
theorem dX7_areRight_47 : decode cX7_areRight 47 = .ok (.iload 4, 2) := by decide +kernel
theorem dX7_areRight_49 : decode cX7_areRight 49 = .ok (.iadd, 1) := by decide +kernel
theorem dX7_areRight_50 : decode cX7_areRight 50 = .ok (.iaload, 1) := by decide +kernel
theorem dX7_areRight_51 : decode cX7_areRight 51 = .ok (.iastore, 1) := by decide +kernel
theorem dX7_areRight_52 : decode cX7_areRight 52 = .ok (.iinc 4 1, 3) := by decide +kernel
theorem dX7_areRight_55 : decode cX7_areRight 55 = .ok (.goto (-30), 3) := by decide +kernel
theorem dX7_areRight_58 : decode cX7_areRight 58 = .ok (.aload_n 0, 1) := by decide +kernel
theorem dX7_areRight_59 : decode cX7_areRight 59 = .ok (.aload_n 0, 1) := by decide +kernel
theorem dX7_areRight_60 : decode cX7_areRight 60 = .ok (.getfield 24, 3) := by decide +kernel
theorem dX7_areRight_63 : decode cX7_areRight 63 = .ok (.invokevirtual 202, 3) := by decide +kernel
theorem dX7_areRight_66 : decode cX7_areRight 66 = .ok (.lstore 4, 2) := by decide +kernel
theorem dX7_areRight_68 : decode cX7_areRight 68 = .ok (.lload 4, 2) := by decide +kernel
theorem dX7_areRight_70 : decode cX7_areRight 70 = .ok (.lconst 0, 1) := by decide +kernel
theorem dX7_areRight_71 : decode cX7_areRight 71 = .ok (.lcmp, 1) := by decide +kernel
theorem dX7_areRight_72 : decode cX7_areRight 72 = .ok (.ifCond .eq 31, 3) := by decide +kernel
theorem dX7_areRight_75 : decode cX7_areRight 75 = .ok (.lload 4, 2) := by decide +kernel
theorem dX7_areRight_77 : decode cX7_areRight 77 = .ok (.aload_n 0, 1) := by decide +kernel
theorem dX7_areRight_78 : decode cX7_areRight 78 = .ok (.getfield 24, 3) := by decide +kernel
theorem dX7_areRight_81 : decode cX7_areRight 81 = .ok (.bipush 29, 2) := by decide +kernel
theorem dX7_areRight_83 : decode cX7_areRight 83 = .ok (.laload, 1) := by decide +kernel
theorem dX7_areRight_84 : decode cX7_areRight 84 = .ok (.ldc2_w 165, 3) := by decide +kernel
theorem dX7_areRight_87 : decode cX7_areRight 87 = .ok (.lxor, 1) := by decide +kernel
theorem dX7_areRight_88 : decode cX7_areRight 88 = .ok (.land, 1) := by decide +kernel
theorem dX7_areRight_89 : decode cX7_areRight 89 = .ok (.lconst 0, 1) := by decide +kernel
theorem dX7_areRight_90 : decode cX7_areRight 90 = .ok (.lcmp, 1) := by decide +kernel
theorem dX7_areRight_91 : decode cX7_areRight 91 = .ok (.ifCond .ne 12, 3) := by decide +kernel
theorem dX7_areRight_94 : decode cX7_areRight 94 = .ok (.lload 4, 2) := by decide +kernel
theorem dX7_areRight_96 : decode cX7_areRight 96 = .ok (.lload_n 1, 1) := by decide +kernel
theorem dX7_areRight_97 : decode cX7_areRight 97 = .ok (.land, 1) := by decide +kernel
theorem dX7_areRight_98 : decode cX7_areRight 98 = .ok (.lconst 0, 1) := by decide +kernel
theorem dX7_areRight_99 : decode cX7_areRight 99 = .ok (.lcmp, 1) := by decide +kernel
theorem dX7_areRight_100 : decode cX7_areRight 100 = .ok (.ifCond .eq 5, 3) := by decide +kernel
theorem dX7_areRight_103 : decode cX7_areRight 103 = .ok (.iconst 0, 1) := by decide +kernel
theorem dX7_areRight_104 : decode cX7_areRight 104 = .ok (.ireturn, 1) := by decide +kernel
theorem dX7_areRight_105 : decode cX7_areRight 105 = .ok (.lload_n 1, 1) := by decide +kernel
theorem dX7_areRight_106 : decode cX7_areRight 106 = .ok (.lload 4, 2) := by decide +kernel
theorem dX7_areRight_108 : decode cX7_areRight 108 = .ok (.lor, 1) := by decide +kernel
theorem dX7_areRight_109 : decode cX7_areRight 109 = .ok (.lstore_n 1, 1) := by decide +kernel
theorem dX7_areRight_110 : decode cX7_areRight 110 = .ok (.aload_n 0, 1) := by decide +kernel
theorem dX7_areRight_111 : decode cX7_areRight 111 = .ok (.getfield 24, 3) := by decide +kernel
theorem dX7_areRight_114 : decode cX7_areRight 114 = .ok (.bipush 30, 2) := by decide +kernel
theorem dX7_areRight_116 : decode cX7_areRight 116 = .ok (.iload_n 3, 1) := by decide +kernel
theorem dX7_areRight_117 : decode cX7_areRight 117 = .ok (.iadd, 1) := by decide +kernel
theorem dX7_areRight_118 : decode cX7_areRight 118 = .ok (.lload 4, 2) := by decide +kernel
theorem dX7_areRight_120 : decode cX7_areRight 120 = .ok (.lastore, 1) := by decide +kernel
theorem dX7_areRight_121 : decode cX7_areRight 121 = .ok (.iinc 3 1, 3) := by decide +kernel
theorem dX7_areRight_124 : decode cX7_areRight 124 = .ok (.goto (-120), 3) := by decide +kernel
theorem dX7_areRight_127 : decode cX7_areRight 127 = .ok (.aload_n 0, 1) := by decide +kernel
theorem dX7_areRight_128 : decode cX7_areRight 128 = .ok (.getfield 24, 3) := by decide +kernel
theorem dX7_areRight_131 : decode cX7_areRight 131 = .ok (.iconst 3, 1) := by decide +kernel
theorem dX7_areRight_132 : decode cX7_areRight 132 = .ok (.aload_n 0, 1) := by decide +kernel
theorem dX7_areRight_133 : decode cX7_areRight 133 = .ok (.getfield 173, 3) := by decide +kernel
theorem dX7_areRight_136 : decode cX7_areRight 136 = .ok (.i2l, 1) := by decide +kernel
theorem dX7_areRight_137 : decode cX7_areRight 137 = .ok (.lastore, 1) := by decide +kernel
theorem dX7_areRight_138 : decode cX7_areRight 138 = .ok (.iconst 0, 1) := by decide +kernel
theorem dX7_areRight_139 : decode cX7_areRight 139 = .ok (.istore_n 3, 1) := by decide +kernel
theorem dX7_areRight_140 : decode cX7_areRight 140 = .ok (.iload_n 3, 1) := by decide +kernel
theorem dX7_areRight_141 : decode cX7_areRight 141 = .ok (.i2l, 1) := by decide +kernel
theorem dX7_areRight_142 : decode cX7_areRight 142 = .ok (.aload_n 0, 1) := by decide +kernel
theorem dX7_areRight_143 : decode cX7_areRight 143 = .ok (.getfield 24, 3) := by decide +kernel
theorem dX7_areRight_146 : decode cX7_areRight 146 = .ok (.iconst 4, 1) := by decide +kernel
theorem dX7_areRight_147 : decode cX7_areRight 147 = .ok (.laload, 1) := by decide +kernel
theorem dX7_areRight_148 : decode cX7_areRight 148 = .ok (.lcmp, 1) := by decide +kernel
theorem dX7_areRight_149 : decode cX7_areRight 149 = .ok (.ifCond .ge 115, 3) := by decide +kernel
theorem dX7_areRight_152 : decode cX7_areRight 152 = .ok (.iconst 5, 1) := by decide +kernel
theorem dX7_areRight_153 : decode cX7_areRight 153 = .ok (.bipush 6, 2) := by decide +kernel
theorem dX7_areRight_155 : decode cX7_areRight 155 = .ok (.iload_n 3, 1) := by decide +kernel
theorem dX7_areRight_156 : decode cX7_areRight 156 = .ok (.imul, 1) := by decide +kernel
theorem dX7_areRight_157 : decode cX7_areRight 157 = .ok (.iadd, 1) := by decide +kernel
theorem dX7_areRight_158 : decode cX7_areRight 158 = .ok (.istore 4, 2) := by decide +kernel
theorem dX7_areRight_160 : decode cX7_areRight 160 = .ok (.aload_n 0, 1) := by decide +kernel
theorem dX7_areRight_161 : decode cX7_areRight 161 = .ok (.getfield 24, 3) := by decide +kernel
theorem dX7_areRight_164 : decode cX7_areRight 164 = .ok (.iload 4, 2) := by decide +kernel
theorem dX7_areRight_166 : decode cX7_areRight 166 = .ok (.laload, 1) := by decide +kernel
theorem dX7_areRight_167 : decode cX7_areRight 167 = .ok (.aload_n 0, 1) := by decide +kernel
theorem dX7_areRight_168 : decode cX7_areRight 168 = .ok (.getfield 24, 3) := by decide +kernel
theorem dX7_areRight_171 : decode cX7_areRight 171 = .ok (.iconst 1, 1) := by decide +kernel
theorem dX7_areRight_172 : decode cX7_areRight 172 = .ok (.laload, 1) := by decide +kernel
theorem dX7_areRight_173 : decode cX7_areRight 173 = .ok (.aload_n 0, 1) := by decide +kernel
theorem dX7_areRight_174 : decode cX7_areRight 174 = .ok (.getfield 24, 3) := by decide +kernel
theorem dX7_areRight_177 : decode cX7_areRight 177 = .ok (.iconst 2, 1) := by decide +kernel
theorem dX7_areRight_178 : decode cX7_areRight 178 = .ok (.laload, 1) := by decide +kernel
theorem dX7_areRight_179 : decode cX7_areRight 179 = .ok (.invokestatic 88, 3) := by decide +kernel
theorem dX7_areRight_182 : decode cX7_areRight 182 = .ok (.i2l, 1) := by decide +kernel
theorem dX7_areRight_183 : decode cX7_areRight 183 = .ok (.lcmp, 1) := by decide +kernel
theorem dX7_areRight_184 : decode cX7_areRight 184 = .ok (.ifCond .eq 5, 3) := by decide +kernel
theorem dX7_areRight_187 : decode cX7_areRight 187 = .ok (.iconst 0, 1) := by decide +kernel
theorem dX7_areRight_188 : decode cX7_areRight 188 = .ok (.ireturn, 1) := by decide +kernel
theorem dX7_areRight_189 : decode cX7_areRight 189 = .ok (.iconst 0, 1) := by decide +kernel
theorem dX7_areRight_190 : decode cX7_areRight 190 = .ok (.istore 5, 2) := by decide +kernel
theorem dX7_areRight_192 : decode cX7_areRight 192 = .ok (.iload 5, 2) := by decide +kernel
theorem dX7_areRight_194 : decode cX7_areRight 194 = .ok (.i2l, 1) := by decide +kernel
theorem dX7_areRight_195 : decode cX7_areRight 195 = .ok (.aload_n 0, 1) := by decide +kernel
theorem dX7_areRight_196 : decode cX7_areRight 196 = .ok (.getfield 24, 3) := by decide +kernel
theorem dX7_areRight_199 : decode cX7_areRight 199 = .ok (.iload 4, 2) := by decide +kernel
theorem dX7_areRight_201 : decode cX7_areRight 201 = .ok (.laload, 1) := by decide +kernel
theorem dX7_areRight_202 : decode cX7_areRight 202 = .ok (.lcmp, 1) := by decide +kernel
theorem dX7_areRight_203 : decode cX7_areRight 203 = .ok (.ifCond .ge 55, 3) := by decide +kernel
theorem dX7_areRight_206 : decode cX7_areRight 206 = .ok (.iconst 0, 1) := by decide +kernel
theorem dX7_areRight_207 : decode cX7_areRight 207 = .ok (.istore 6, 2) := by decide +kernel
theorem dX7_areRight_209 : decode cX7_areRight 209 = .ok (.iload 6, 2) := by decide +kernel
theorem dX7_areRight_211 : decode cX7_areRight 211 = .ok (.iload 5, 2) := by decide +kernel
theorem dX7_areRight_213 : decode cX7_areRight 213 = .ok (.if_icmp .ge 39, 3) := by decide +kernel
theorem dX7_areRight_216 : decode cX7_areRight 216 = .ok (.aload_n 0, 1) := by decide +kernel
theorem dX7_areRight_217 : decode cX7_areRight 217 = .ok (.getfield 24, 3) := by decide +kernel
theorem dX7_areRight_220 : decode cX7_areRight 220 = .ok (.iload 4, 2) := by decide +kernel
theorem dX7_areRight_222 : decode cX7_areRight 222 = .ok (.iconst 1, 1) := by decide +kernel
theorem dX7_areRight_223 : decode cX7_areRight 223 = .ok (.iadd, 1) := by decide +kernel
theorem dX7_areRight_224 : decode cX7_areRight 224 = .ok (.iload 5, 2) := by decide +kernel
theorem dX7_areRight_226 : decode cX7_areRight 226 = .ok (.iadd, 1) := by decide +kernel
theorem dX7_areRight_227 : decode cX7_areRight 227 = .ok (.laload, 1) := by decide +kernel
theorem dX7_areRight_228 : decode cX7_areRight 228 = .ok (.aload_n 0, 1) := by decide +kernel
theorem dX7_areRight_229 : decode cX7_areRight 229 = .ok (.getfield 24, 3) := by decide +kernel
theorem dX7_areRight_232 : decode cX7_areRight 232 = .ok (.iload 4, 2) := by decide +kernel
theorem dX7_areRight_234 : decode cX7_areRight 234 = .ok (.iconst 1, 1) := by decide +kernel
theorem dX7_areRight_235 : decode cX7_areRight 235 = .ok (.iadd, 1) := by decide +kernel
theorem dX7_areRight_236 : decode cX7_areRight 236 = .ok (.iload 6, 2) := by decide +kernel
theorem dX7_areRight_238 : decode cX7_areRight 238 = .ok (.iadd, 1) := by decide +kernel
theorem dX7_areRight_239 : decode cX7_areRight 239 = .ok (.laload, 1) := by decide +kernel
theorem dX7_areRight_240 : decode cX7_areRight 240 = .ok (.lcmp, 1) := by decide +kernel
theorem dX7_areRight_241 : decode cX7_areRight 241 = .ok (.ifCond .ne 5, 3) := by decide +kernel
theorem dX7_areRight_244 : decode cX7_areRight 244 = .ok (.iconst 0, 1) := by decide +kernel
theorem dX7_areRight_245 : decode cX7_areRight 245 = .ok (.ireturn, 1) := by decide +kernel
theorem dX7_areRight_246 : decode cX7_areRight 246 = .ok (.iinc 6 1, 3) := by decide +kernel
theorem dX7_areRight_249 : decode cX7_areRight 249 = .ok (.goto (-40), 3) := by decide +kernel
theorem dX7_areRight_252 : decode cX7_areRight 252 = .ok (.iinc 5 1, 3) := by decide +kernel
theorem dX7_areRight_255 : decode cX7_areRight 255 = .ok (.goto (-63), 3) := by decide +kernel
theorem dX7_areRight_258 : decode cX7_areRight 258 = .ok (.iinc 3 1, 3) := by decide +kernel
theorem dX7_areRight_261 : decode cX7_areRight 261 = .ok (.goto (-121), 3) := by decide +kernel
theorem dX7_areRight_264 : decode cX7_areRight 264 = .ok (.iconst 1, 1) := by decide +kernel
theorem dX7_areRight_265 : decode cX7_areRight 265 = .ok (.ireturn, 1) := by decide +kernel
theorem dX7_text_0 : decode cX7_text 0 = .ok (.aload_n 0, 1) := by decide +kernel
theorem dX7_text_1 : decode cX7_text 1 = .ok (.iconst 0, 1) := by decide +kernel
theorem dX7_text_2 : decode cX7_text 2 = .ok (.putfield 63, 3) := by decide +kernel
theorem dX7_text_5 : decode cX7_text 5 = .ok (.aload_n 0, 1) := by decide +kernel
theorem dX7_text_6 : decode cX7_text 6 = .ok (.iload_n 1, 1) := by decide +kernel
theorem dX7_text_7 : decode cX7_text 7 = .ok (.i2l, 1) := by decide +kernel
theorem dX7_text_8 : decode cX7_text 8 = .ok (.lconst 0, 1) := by decide +kernel
theorem dX7_text_9 : decode cX7_text 9 = .ok (.aload_n 0, 1) := by decide +kernel
theorem dX7_text_10 : decode cX7_text 10 = .ok (.getfield 66, 3) := by decide +kernel
theorem dX7_text_13 : decode cX7_text 13 = .ok (.i2l, 1) := by decide +kernel
theorem dX7_text_14 : decode cX7_text 14 = .ok (.invokestatic 92, 3) := by decide +kernel
theorem dX7_text_17 : decode cX7_text 17 = .ok (.ifCond .ne 7, 3) := by decide +kernel
theorem dX7_text_20 : decode cX7_text 20 = .ok (.iconst 1, 1) := by decide +kernel
theorem dX7_text_21 : decode cX7_text 21 = .ok (.goto 4, 3) := by decide +kernel
theorem dX7_text_24 : decode cX7_text 24 = .ok (.iconst 0, 1) := by decide +kernel
theorem dX7_text_25 : decode cX7_text 25 = .ok (.iconst 1, 1) := by decide +kernel
theorem dX7_text_26 : decode cX7_text 26 = .ok (.iconst 1, 1) := by decide +kernel
theorem dX7_text_27 : decode cX7_text 27 = .ok (.invokevirtual 206, 3) := by decide +kernel
theorem dX7_text_30 : decode cX7_text 30 = .ok (.ifCond .eq 5, 3) := by decide +kernel
theorem dX7_text_33 : decode cX7_text 33 = .ok (.iconst 0, 1) := by decide +kernel
theorem dX7_text_34 : decode cX7_text 34 = .ok (.ireturn, 1) := by decide +kernel
theorem dX7_text_35 : decode cX7_text 35 = .ok (.aload_n 0, 1) := by decide +kernel
theorem dX7_text_36 : decode cX7_text 36 = .ok (.iconst 0, 1) := by decide +kernel
theorem dX7_text_37 : decode cX7_text 37 = .ok (.putfield 66, 3) := by decide +kernel
theorem dX7_text_40 : decode cX7_text 40 = .ok (.aload_n 0, 1) := by decide +kernel
theorem dX7_text_41 : decode cX7_text 41 = .ok (.iload_n 1, 1) := by decide +kernel
theorem dX7_text_42 : decode cX7_text 42 = .ok (.putfield 100, 3) := by decide +kernel
theorem dX7_text_45 : decode cX7_text 45 = .ok (.aload_n 0, 1) := by decide +kernel
theorem dX7_text_46 : decode cX7_text 46 = .ok (.iconst 0, 1) := by decide +kernel
theorem dX7_text_47 : decode cX7_text 47 = .ok (.putfield 103, 3) := by decide +kernel
theorem dX7_text_50 : decode cX7_text 50 = .ok (.aload_n 0, 1) := by decide +kernel
theorem dX7_text_51 : decode cX7_text 51 = .ok (.iconst 0, 1) := by decide +kernel
theorem dX7_text_52 : decode cX7_text 52 = .ok (.putfield 110, 3) := by decide +kernel
theorem dX7_text_55 : decode cX7_text 55 = .ok (.aload_n 0, 1) := by decide +kernel
theorem dX7_text_56 : decode cX7_text 56 = .ok (.iconst (-1), 1) := by decide +kernel
theorem dX7_text_57 : decode cX7_text 57 = .ok (.putfield 113, 3) := by decide +kernel
theorem dX7_text_60 : decode cX7_text 60 = .ok (.aload_n 0, 1) := by decide +kernel
theorem dX7_text_61 : decode cX7_text 61 = .ok (.iconst 0, 1) := by decide +kernel
theorem dX7_text_62 : decode cX7_text 62 = .ok (.putfield 173, 3) := by decide +kernel
theorem dX7_text_65 : decode cX7_text 65 = .ok (.aload_n 0, 1) := by decide +kernel
theorem dX7_text_66 : decode cX7_text 66 = .ok (.iconst 0, 1) := by decide +kernel
theorem dX7_text_67 : decode cX7_text 67 = .ok (.putfield 149, 3) := by decide +kernel
theorem dX7_text_70 : decode cX7_text 70 = .ok (.iconst 0, 1) := by decide +kernel
theorem dX7_text_71 : decode cX7_text 71 = .ok (.istore_n 2, 1) := by decide +kernel
theorem dX7_text_72 : decode cX7_text 72 = .ok (.iload_n 2, 1) := by decide +kernel
theorem dX7_text_73 : decode cX7_text 73 = .ok (.bipush 90, 2) := by decide +kernel
theorem dX7_text_75 : decode cX7_text 75 = .ok (.if_icmp .ge 16, 3) := by decide +kernel
theorem dX7_text_78 : decode cX7_text 78 = .ok (.aload_n 0, 1) := by decide +kernel
theorem dX7_text_79 : decode cX7_text 79 = .ok (.getfield 24, 3) := by decide +kernel
theorem dX7_text_82 : decode cX7_text 82 = .ok (.iload_n 2, 1) := by decide +kernel
theorem dX7_text_83 : decode cX7_text 83 = .ok (.lconst 0, 1) := by decide +kernel
theorem dX7_text_84 : decode cX7_text 84 = .ok (.lastore, 1) := by decide +kernel
theorem dX7_text_85 : decode cX7_text 85 = .ok (.iinc 2 1, 3) := by decide +kernel
theorem dX7_text_88 : decode cX7_text 88 = .ok (.goto (-16), 3) := by decide +kernel
theorem dX7_text_91 : decode cX7_text 91 = .ok (.aload_n 0, 1) := by decide +kernel
theorem dX7_text_92 : decode cX7_text 92 = .ok (.getfield 24, 3) := by decide +kernel
theorem dX7_text_95 : decode cX7_text 95 = .ok (.iconst 2, 1) := by decide +kernel
theorem dX7_text_96 : decode cX7_text 96 = .ok (.ldc2_w 59, 3) := by decide +kernel
theorem dX7_text_99 : decode cX7_text 99 = .ok (.lastore, 1) := by decide +kernel
theorem dX7_text_100 : decode cX7_text 100 = .ok (.aload_n 0, 1) := by decide +kernel
theorem dX7_text_101 : decode cX7_text 101 = .ok (.ldc 210, 2) := by decide +kernel
theorem dX7_text_103 : decode cX7_text 103 = .ok (.invokevirtual 155, 3) := by decide +kernel
theorem dX7_text_106 : decode cX7_text 106 = .ok (.ifCond .ne 12, 3) := by decide +kernel
theorem dX7_text_109 : decode cX7_text 109 = .ok (.aload_n 0, 1) := by decide +kernel
theorem dX7_text_110 : decode cX7_text 110 = .ok (.iconst 1, 1) := by decide +kernel
theorem dX7_text_111 : decode cX7_text 111 = .ok (.aload_n 0, 1) := by decide +kernel
theorem dX7_text_112 : decode cX7_text 112 = .ok (.getfield 103, 3) := by decide +kernel
theorem dX7_text_115 : decode cX7_text 115 = .ok (.invokevirtual 137, 3) := by decide +kernel
theorem dX7_text_118 : decode cX7_text 118 = .ok (.aload_n 0, 1) := by decide +kernel
theorem dX7_text_119 : decode cX7_text 119 = .ok (.getfield 24, 3) := by decide +kernel
theorem dX7_text_122 : decode cX7_text 122 = .ok (.iconst 0, 1) := by decide +kernel
theorem dX7_text_123 : decode cX7_text 123 = .ok (.aload_n 0, 1) := by decide +kernel
theorem dX7_text_124 : decode cX7_text 124 = .ok (.iconst 2, 1) := by decide +kernel
theorem dX7_text_125 : decode cX7_text 125 = .ok (.bipush 11, 2) := by decide +kernel
theorem dX7_text_127 : decode cX7_text 127 = .ok (.iconst (-1), 1) := by decide +kernel
theorem dX7_text_128 : decode cX7_text 128 = .ok (.invokevirtual 146, 3) := by decide +kernel
theorem dX7_text_131 : decode cX7_text 131 = .ok (.i2l, 1) := by decide +kernel
theorem dX7_text_132 : decode cX7_text 132 = .ok (.lastore, 1) := by decide +kernel
theorem dX7_text_133 : decode cX7_text 133 = .ok (.aload_n 0, 1) := by decide +kernel
theorem dX7_text_134 : decode cX7_text 134 = .ok (.bipush 59, 2) := by decide +kernel
theorem dX7_text_136 : decode cX7_text 136 = .ok (.invokevirtual 199, 3) := by decide +kernel
theorem dX7_text_139 : decode cX7_text 139 = .ok (.aload_n 0, 1) := by decide +kernel
theorem dX7_text_140 : decode cX7_text 140 = .ok (.invokevirtual 116, 3) := by decide +kernel
theorem dX7_text_143 : decode cX7_text 143 = .ok (.ifCond .eq 18, 3) := by decide +kernel
theorem dX7_text_146 : decode cX7_text 146 = .ok (.aload_n 0, 1) := by decide +kernel
theorem dX7_text_147 : decode cX7_text 147 = .ok (.invokevirtual 120, 3) := by decide +kernel
theorem dX7_text_150 : decode cX7_text 150 = .ok (.iconst (-1), 1) := by decide +kernel
theorem dX7_text_151 : decode cX7_text 151 = .ok (.if_icmp .eq 10, 3) := by decide +kernel
theorem dX7_text_154 : decode cX7_text 154 = .ok (.aload_n 0, 1) := by decide +kernel
theorem dX7_text_155 : decode cX7_text 155 = .ok (.invokevirtual 212, 3) := by decide +kernel
theorem dX7_text_158 : decode cX7_text 158 = .ok (.goto (-19), 3) := by decide +kernel
theorem dX7_text_161 : decode cX7_text 161 = .ok (.aload_n 0, 1) := by decide +kernel
theorem dX7_text_162 : decode cX7_text 162 = .ok (.invokevirtual 116, 3) := by decide +kernel
theorem dX7_text_165 : decode cX7_text 165 = .ok (.ifCond .eq 19, 3) := by decide +kernel
theorem dX7_text_168 : decode cX7_text 168 = .ok (.aload_n 0, 1) := by decide +kernel
theorem dX7_text_169 : decode cX7_text 169 = .ok (.invokevirtual 215, 3) := by decide +kernel
theorem dX7_text_172 : decode cX7_text 172 = .ok (.ifCond .ne 12, 3) := by decide +kernel
theorem dX7_text_175 : decode cX7_text 175 = .ok (.aload_n 0, 1) := by decide +kernel
theorem dX7_text_176 : decode cX7_text 176 = .ok (.iconst 4, 1) := by decide +kernel
theorem dX7_text_177 : decode cX7_text 177 = .ok (.aload_n 0, 1) := by decide +kernel
theorem dX7_text_178 : decode cX7_text 178 = .ok (.getfield 100, 3) := by decide +kernel
theorem dX7_text_181 : decode cX7_text 181 = .ok (.invokevirtual 137, 3) := by decide +kernel
theorem dX7_text_184 : decode cX7_text 184 = .ok (.aload_n 0, 1) := by decide +kernel
theorem dX7_text_185 : decode cX7_text 185 = .ok (.aload_n 0, 1) := by decide +kernel
theorem dX7_text_186 : decode cX7_text 186 = .ok (.getfield 113, 3) := by decide +kernel
theorem dX7_text_189 : decode cX7_text 189 = .ok (.putfield 13, 3) := by decide +kernel
theorem dX7_text_192 : decode cX7_text 192 = .ok (.aload_n 0, 1) := by decide +kernel
theorem dX7_text_193 : decode cX7_text 193 = .ok (.invokevirtual 116, 3) := by decide +kernel
theorem dX7_text_196 : decode cX7_text 196 = .ok (.ifCond .ne 11, 3) := by decide +kernel
theorem dX7_text_199 : decode cX7_text 199 = .ok (.aload_n 0, 1) := by decide +kernel
theorem dX7_text_200 : decode cX7_text 200 = .ok (.getfield 110, 3) := by decide +kernel
theorem dX7_text_203 : decode cX7_text 203 = .ok (.bipush 10, 2) := by decide +kernel
theorem dX7_text_205 : decode cX7_text 205 = .ok (.isub, 1) := by decide +kernel
theorem dX7_text_206 : decode cX7_text 206 = .ok (.ireturn, 1) := by decide +kernel
theorem dX7_text_207 : decode cX7_text 207 = .ok (.aload_n 0, 1) := by decide +kernel
theorem dX7_text_208 : decode cX7_text 208 = .ok (.invokevirtual 218, 3) := by decide +kernel
theorem dX7_text_211 : decode cX7_text 211 = .ok (.aload_n 0, 1) := by decide +kernel
theorem dX7_text_212 : decode cX7_text 212 = .ok (.getfield 24, 3) := by decide +kernel
theorem dX7_text_215 : decode cX7_text 215 = .ok (.aload_n 0, 1) := by decide +kernel
theorem dX7_text_216 : decode cX7_text 216 = .ok (.getfield 20, 3) := by decide +kernel
theorem dX7_text_219 : decode cX7_text 219 = .ok (.invokestatic 221, 3) := by decide +kernel
theorem dX7_text_222 : decode cX7_text 222 = .ok (.aload_n 0, 1) := by decide +kernel
theorem dX7_text_223 : decode cX7_text 223 = .ok (.invokevirtual 225, 3) := by decide +kernel
theorem dX7_text_226 : decode cX7_text 226 = .ok (.invokestatic 229, 3) := by decide +kernel
theorem dX7_text_229 : decode cX7_text 229 = .ok (.ireturn, 1) := by decide +kernel
theorem dX7_fault_0 : decode cX7_fault 0 = .ok (.aload_n 0, 1) := by decide +kernel
theorem dX7_fault_1 : decode cX7_fault 1 = .ok (.iconst 0, 1) := by decide +kernel
theorem dX7_fault_2 : decode cX7_fault 2 = .ok (.putfield 63, 3) := by decide +kernel
theorem dX7_fault_5 : decode cX7_fault 5 = .ok (.aload_n 0, 1) := by decide +kernel
theorem dX7_fault_6 : decode cX7_fault 6 = .ok (.getfield 13, 3) := by decide +kernel
theorem dX7_fault_9 : decode cX7_fault 9 = .ok (.ireturn, 1) := by decide +kernel
theorem dX7_many_0 : decode cX7_many 0 = .ok (.aload_n 0, 1) := by decide +kernel
theorem dX7_many_1 : decode cX7_many 1 = .ok (.getfield 20, 3) := by decide +kernel
theorem dX7_many_4 : decode cX7_many 4 = .ok (.iconst 3, 1) := by decide +kernel
theorem dX7_many_5 : decode cX7_many 5 = .ok (.laload, 1) := by decide +kernel
theorem dX7_many_6 : decode cX7_many 6 = .ok (.l2i, 1) := by decide +kernel
theorem dX7_many_7 : decode cX7_many 7 = .ok (.ireturn, 1) := by decide +kernel
theorem dX7_taken_0 : decode cX7_taken 0 = .ok (.lconst 0, 1) := by decide +kernel
