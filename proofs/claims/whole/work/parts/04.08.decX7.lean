theorem dX7_taken_1 : decode cX7_taken 1 = .ok (.lstore_n 1, 1) := by decide +kernel
theorem dX7_taken_2 : decode cX7_taken 2 = .ok (.iconst 0, 1) := by decide +kernel
theorem dX7_taken_3 : decode cX7_taken 3 = .ok (.istore_n 3, 1) := by decide +kernel
theorem dX7_taken_4 : decode cX7_taken 4 = .ok (.iload_n 3, 1) := by decide +kernel
theorem dX7_taken_5 : decode cX7_taken 5 = .ok (.aload_n 0, 1) := by decide +kernel
theorem dX7_taken_6 : decode cX7_taken 6 = .ok (.invokevirtual 232, 3) := by decide +kernel
theorem dX7_taken_9 : decode cX7_taken 9 = .ok (.if_icmp .ge 21, 3) := by decide +kernel
theorem dX7_taken_12 : decode cX7_taken 12 = .ok (.lload_n 1, 1) := by decide +kernel
theorem dX7_taken_13 : decode cX7_taken 13 = .ok (.aload_n 0, 1) := by decide +kernel
theorem dX7_taken_14 : decode cX7_taken 14 = .ok (.getfield 20, 3) := by decide +kernel
theorem dX7_taken_17 : decode cX7_taken 17 = .ok (.bipush 30, 2) := by decide +kernel
theorem dX7_taken_19 : decode cX7_taken 19 = .ok (.iload_n 3, 1) := by decide +kernel
theorem dX7_taken_20 : decode cX7_taken 20 = .ok (.iadd, 1) := by decide +kernel
theorem dX7_taken_21 : decode cX7_taken 21 = .ok (.laload, 1) := by decide +kernel
theorem dX7_taken_22 : decode cX7_taken 22 = .ok (.lor, 1) := by decide +kernel
theorem dX7_taken_23 : decode cX7_taken 23 = .ok (.lstore_n 1, 1) := by decide +kernel
theorem dX7_taken_24 : decode cX7_taken 24 = .ok (.iinc 3 1, 3) := by decide +kernel
theorem dX7_taken_27 : decode cX7_taken 27 = .ok (.goto (-23), 3) := by decide +kernel
theorem dX7_taken_30 : decode cX7_taken 30 = .ok (.lload_n 1, 1) := by decide +kernel
theorem dX7_taken_31 : decode cX7_taken 31 = .ok (.lreturn, 1) := by decide +kernel
theorem dX7_leftNow_0 : decode cX7_leftNow 0 = .ok (.aload_n 0, 1) := by decide +kernel
theorem dX7_leftNow_1 : decode cX7_leftNow 1 = .ok (.getfield 20, 3) := by decide +kernel
theorem dX7_leftNow_4 : decode cX7_leftNow 4 = .ok (.bipush 29, 2) := by decide +kernel
theorem dX7_leftNow_6 : decode cX7_leftNow 6 = .ok (.laload, 1) := by decide +kernel
theorem dX7_leftNow_7 : decode cX7_leftNow 7 = .ok (.aload_n 0, 1) := by decide +kernel
theorem dX7_leftNow_8 : decode cX7_leftNow 8 = .ok (.invokevirtual 235, 3) := by decide +kernel
theorem dX7_leftNow_11 : decode cX7_leftNow 11 = .ok (.ldc2_w 165, 3) := by decide +kernel
theorem dX7_leftNow_14 : decode cX7_leftNow 14 = .ok (.lxor, 1) := by decide +kernel
theorem dX7_leftNow_15 : decode cX7_leftNow 15 = .ok (.land, 1) := by decide +kernel
theorem dX7_leftNow_16 : decode cX7_leftNow 16 = .ok (.lreturn, 1) := by decide +kernel
theorem dX7_nodesOf_0 : decode cX7_nodesOf 0 = .ok (.iconst 0, 1) := by decide +kernel
theorem dX7_nodesOf_1 : decode cX7_nodesOf 1 = .ok (.istore_n 3, 1) := by decide +kernel
theorem dX7_nodesOf_2 : decode cX7_nodesOf 2 = .ok (.aload_n 0, 1) := by decide +kernel
theorem dX7_nodesOf_3 : decode cX7_nodesOf 3 = .ok (.getfield 20, 3) := by decide +kernel
theorem dX7_nodesOf_6 : decode cX7_nodesOf 6 = .ok (.iconst 0, 1) := by decide +kernel
theorem dX7_nodesOf_7 : decode cX7_nodesOf 7 = .ok (.laload, 1) := by decide +kernel
theorem dX7_nodesOf_8 : decode cX7_nodesOf 8 = .ok (.l2i, 1) := by decide +kernel
theorem dX7_nodesOf_9 : decode cX7_nodesOf 9 = .ok (.istore 4, 2) := by decide +kernel
theorem dX7_nodesOf_11 : decode cX7_nodesOf 11 = .ok (.iconst 0, 1) := by decide +kernel
theorem dX7_nodesOf_12 : decode cX7_nodesOf 12 = .ok (.istore 5, 2) := by decide +kernel
theorem dX7_nodesOf_14 : decode cX7_nodesOf 14 = .ok (.iload 5, 2) := by decide +kernel
theorem dX7_nodesOf_16 : decode cX7_nodesOf 16 = .ok (.iload 4, 2) := by decide +kernel
theorem dX7_nodesOf_18 : decode cX7_nodesOf 18 = .ok (.if_icmp .ge 55, 3) := by decide +kernel
theorem dX7_nodesOf_21 : decode cX7_nodesOf 21 = .ok (.iconst 0, 1) := by decide +kernel
theorem dX7_nodesOf_22 : decode cX7_nodesOf 22 = .ok (.istore 6, 2) := by decide +kernel
theorem dX7_nodesOf_24 : decode cX7_nodesOf 24 = .ok (.iload 6, 2) := by decide +kernel
theorem dX7_nodesOf_26 : decode cX7_nodesOf 26 = .ok (.iload 5, 2) := by decide +kernel
theorem dX7_nodesOf_28 : decode cX7_nodesOf 28 = .ok (.if_icmp .ge 39, 3) := by decide +kernel
theorem dX7_nodesOf_31 : decode cX7_nodesOf 31 = .ok (.lload_n 1, 1) := by decide +kernel
theorem dX7_nodesOf_32 : decode cX7_nodesOf 32 = .ok (.iload 4, 2) := by decide +kernel
theorem dX7_nodesOf_34 : decode cX7_nodesOf 34 = .ok (.iload 5, 2) := by decide +kernel
theorem dX7_nodesOf_36 : decode cX7_nodesOf 36 = .ok (.iload 6, 2) := by decide +kernel
theorem dX7_nodesOf_38 : decode cX7_nodesOf 38 = .ok (.invokestatic 96, 3) := by decide +kernel
theorem dX7_nodesOf_41 : decode cX7_nodesOf 41 = .ok (.lshr, 1) := by decide +kernel
theorem dX7_nodesOf_42 : decode cX7_nodesOf 42 = .ok (.lconst 1, 1) := by decide +kernel
theorem dX7_nodesOf_43 : decode cX7_nodesOf 43 = .ok (.land, 1) := by decide +kernel
theorem dX7_nodesOf_44 : decode cX7_nodesOf 44 = .ok (.lconst 1, 1) := by decide +kernel
theorem dX7_nodesOf_45 : decode cX7_nodesOf 45 = .ok (.lcmp, 1) := by decide +kernel
theorem dX7_nodesOf_46 : decode cX7_nodesOf 46 = .ok (.ifCond .ne 15, 3) := by decide +kernel
theorem dX7_nodesOf_49 : decode cX7_nodesOf 49 = .ok (.iload_n 3, 1) := by decide +kernel
theorem dX7_nodesOf_50 : decode cX7_nodesOf 50 = .ok (.iconst 1, 1) := by decide +kernel
theorem dX7_nodesOf_51 : decode cX7_nodesOf 51 = .ok (.iload 5, 2) := by decide +kernel
theorem dX7_nodesOf_53 : decode cX7_nodesOf 53 = .ok (.ishl, 1) := by decide +kernel
theorem dX7_nodesOf_54 : decode cX7_nodesOf 54 = .ok (.iconst 1, 1) := by decide +kernel
theorem dX7_nodesOf_55 : decode cX7_nodesOf 55 = .ok (.iload 6, 2) := by decide +kernel
theorem dX7_nodesOf_57 : decode cX7_nodesOf 57 = .ok (.ishl, 1) := by decide +kernel
theorem dX7_nodesOf_58 : decode cX7_nodesOf 58 = .ok (.ior, 1) := by decide +kernel
theorem dX7_nodesOf_59 : decode cX7_nodesOf 59 = .ok (.ior, 1) := by decide +kernel
theorem dX7_nodesOf_60 : decode cX7_nodesOf 60 = .ok (.istore_n 3, 1) := by decide +kernel
theorem dX7_nodesOf_61 : decode cX7_nodesOf 61 = .ok (.iinc 6 1, 3) := by decide +kernel
theorem dX7_nodesOf_64 : decode cX7_nodesOf 64 = .ok (.goto (-40), 3) := by decide +kernel
theorem dX7_nodesOf_67 : decode cX7_nodesOf 67 = .ok (.iinc 5 1, 3) := by decide +kernel
theorem dX7_nodesOf_70 : decode cX7_nodesOf 70 = .ok (.goto (-56), 3) := by decide +kernel
theorem dX7_nodesOf_73 : decode cX7_nodesOf 73 = .ok (.iload_n 3, 1) := by decide +kernel
theorem dX7_nodesOf_74 : decode cX7_nodesOf 74 = .ok (.ireturn, 1) := by decide +kernel
theorem dX7_linesAt_0 : decode cX7_linesAt 0 = .ok (.iconst 0, 1) := by decide +kernel
theorem dX7_linesAt_1 : decode cX7_linesAt 1 = .ok (.istore 4, 2) := by decide +kernel
theorem dX7_linesAt_3 : decode cX7_linesAt 3 = .ok (.iconst 0, 1) := by decide +kernel
theorem dX7_linesAt_4 : decode cX7_linesAt 4 = .ok (.istore 5, 2) := by decide +kernel
theorem dX7_linesAt_6 : decode cX7_linesAt 6 = .ok (.iload 5, 2) := by decide +kernel
theorem dX7_linesAt_8 : decode cX7_linesAt 8 = .ok (.i2l, 1) := by decide +kernel
theorem dX7_linesAt_9 : decode cX7_linesAt 9 = .ok (.aload_n 0, 1) := by decide +kernel
theorem dX7_linesAt_10 : decode cX7_linesAt 10 = .ok (.getfield 20, 3) := by decide +kernel
theorem dX7_linesAt_13 : decode cX7_linesAt 13 = .ok (.iconst 0, 1) := by decide +kernel
theorem dX7_linesAt_14 : decode cX7_linesAt 14 = .ok (.laload, 1) := by decide +kernel
theorem dX7_linesAt_15 : decode cX7_linesAt 15 = .ok (.lcmp, 1) := by decide +kernel
theorem dX7_linesAt_16 : decode cX7_linesAt 16 = .ok (.ifCond .ge 39, 3) := by decide +kernel
theorem dX7_linesAt_19 : decode cX7_linesAt 19 = .ok (.iload 5, 2) := by decide +kernel
theorem dX7_linesAt_21 : decode cX7_linesAt 21 = .ok (.iload_n 3, 1) := by decide +kernel
theorem dX7_linesAt_22 : decode cX7_linesAt 22 = .ok (.if_icmp .eq 27, 3) := by decide +kernel
theorem dX7_linesAt_25 : decode cX7_linesAt 25 = .ok (.iload 4, 2) := by decide +kernel
theorem dX7_linesAt_27 : decode cX7_linesAt 27 = .ok (.i2l, 1) := by decide +kernel
theorem dX7_linesAt_28 : decode cX7_linesAt 28 = .ok (.lload_n 1, 1) := by decide +kernel
theorem dX7_linesAt_29 : decode cX7_linesAt 29 = .ok (.aload_n 0, 1) := by decide +kernel
theorem dX7_linesAt_30 : decode cX7_linesAt 30 = .ok (.getfield 20, 3) := by decide +kernel
theorem dX7_linesAt_33 : decode cX7_linesAt 33 = .ok (.iconst 0, 1) := by decide +kernel
theorem dX7_linesAt_34 : decode cX7_linesAt 34 = .ok (.laload, 1) := by decide +kernel
theorem dX7_linesAt_35 : decode cX7_linesAt 35 = .ok (.l2i, 1) := by decide +kernel
theorem dX7_linesAt_36 : decode cX7_linesAt 36 = .ok (.iload_n 3, 1) := by decide +kernel
theorem dX7_linesAt_37 : decode cX7_linesAt 37 = .ok (.iload 5, 2) := by decide +kernel
theorem dX7_linesAt_39 : decode cX7_linesAt 39 = .ok (.invokestatic 96, 3) := by decide +kernel
theorem dX7_linesAt_42 : decode cX7_linesAt 42 = .ok (.lshr, 1) := by decide +kernel
theorem dX7_linesAt_43 : decode cX7_linesAt 43 = .ok (.lconst 1, 1) := by decide +kernel
theorem dX7_linesAt_44 : decode cX7_linesAt 44 = .ok (.land, 1) := by decide +kernel
theorem dX7_linesAt_45 : decode cX7_linesAt 45 = .ok (.ladd, 1) := by decide +kernel
theorem dX7_linesAt_46 : decode cX7_linesAt 46 = .ok (.l2i, 1) := by decide +kernel
theorem dX7_linesAt_47 : decode cX7_linesAt 47 = .ok (.istore 4, 2) := by decide +kernel
theorem dX7_linesAt_49 : decode cX7_linesAt 49 = .ok (.iinc 5 1, 3) := by decide +kernel
theorem dX7_linesAt_52 : decode cX7_linesAt 52 = .ok (.goto (-46), 3) := by decide +kernel
theorem dX7_linesAt_55 : decode cX7_linesAt 55 = .ok (.iload 4, 2) := by decide +kernel
theorem dX7_linesAt_57 : decode cX7_linesAt 57 = .ok (.ireturn, 1) := by decide +kernel
theorem dX7_isFirst_0 : decode cX7_isFirst 0 = .ok (.aload_n 0, 1) := by decide +kernel
theorem dX7_isFirst_1 : decode cX7_isFirst 1 = .ok (.getfield 20, 3) := by decide +kernel
theorem dX7_isFirst_4 : decode cX7_isFirst 4 = .ok (.iconst 1, 1) := by decide +kernel
theorem dX7_isFirst_5 : decode cX7_isFirst 5 = .ok (.laload, 1) := by decide +kernel
theorem dX7_isFirst_6 : decode cX7_isFirst 6 = .ok (.lstore_n 1, 1) := by decide +kernel
theorem dX7_isFirst_7 : decode cX7_isFirst 7 = .ok (.lload_n 1, 1) := by decide +kernel
theorem dX7_isFirst_8 : decode cX7_isFirst 8 = .ok (.ldc2_w 76, 3) := by decide +kernel
theorem dX7_isFirst_11 : decode cX7_isFirst 11 = .ok (.lcmp, 1) := by decide +kernel
theorem dX7_isFirst_12 : decode cX7_isFirst 12 = .ok (.ifCond .ne 32, 3) := by decide +kernel
theorem dX7_isFirst_15 : decode cX7_isFirst 15 = .ok (.aload_n 0, 1) := by decide +kernel
theorem dX7_isFirst_16 : decode cX7_isFirst 16 = .ok (.getfield 85, 3) := by decide +kernel
theorem dX7_isFirst_19 : decode cX7_isFirst 19 = .ok (.iconst 2, 1) := by decide +kernel
theorem dX7_isFirst_20 : decode cX7_isFirst 20 = .ok (.if_icmp .gt 18, 3) := by decide +kernel
theorem dX7_isFirst_23 : decode cX7_isFirst 23 = .ok (.aload_n 0, 1) := by decide +kernel
theorem dX7_isFirst_24 : decode cX7_isFirst 24 = .ok (.getfield 32, 3) := by decide +kernel
theorem dX7_isFirst_27 : decode cX7_isFirst 27 = .ok (.iconst 0, 1) := by decide +kernel
theorem dX7_isFirst_28 : decode cX7_isFirst 28 = .ok (.iaload, 1) := by decide +kernel
theorem dX7_isFirst_29 : decode cX7_isFirst 29 = .ok (.aload_n 0, 1) := by decide +kernel
theorem dX7_isFirst_30 : decode cX7_isFirst 30 = .ok (.getfield 32, 3) := by decide +kernel
theorem dX7_isFirst_33 : decode cX7_isFirst 33 = .ok (.iconst 1, 1) := by decide +kernel
theorem dX7_isFirst_34 : decode cX7_isFirst 34 = .ok (.iaload, 1) := by decide +kernel
theorem dX7_isFirst_35 : decode cX7_isFirst 35 = .ok (.if_icmp .ge 7, 3) := by decide +kernel
theorem dX7_isFirst_38 : decode cX7_isFirst 38 = .ok (.iconst 1, 1) := by decide +kernel
theorem dX7_isFirst_39 : decode cX7_isFirst 39 = .ok (.goto 4, 3) := by decide +kernel
theorem dX7_isFirst_42 : decode cX7_isFirst 42 = .ok (.iconst 0, 1) := by decide +kernel
theorem dX7_isFirst_43 : decode cX7_isFirst 43 = .ok (.ireturn, 1) := by decide +kernel
theorem dX7_isFirst_44 : decode cX7_isFirst 44 = .ok (.lload_n 1, 1) := by decide +kernel
theorem dX7_isFirst_45 : decode cX7_isFirst 45 = .ok (.lconst 1, 1) := by decide +kernel
theorem dX7_isFirst_46 : decode cX7_isFirst 46 = .ok (.lcmp, 1) := by decide +kernel
theorem dX7_isFirst_47 : decode cX7_isFirst 47 = .ok (.ifCond .ne 29, 3) := by decide +kernel
theorem dX7_isFirst_50 : decode cX7_isFirst 50 = .ok (.aload_n 0, 1) := by decide +kernel
theorem dX7_isFirst_51 : decode cX7_isFirst 51 = .ok (.getfield 32, 3) := by decide +kernel
theorem dX7_isFirst_54 : decode cX7_isFirst 54 = .ok (.iconst 0, 1) := by decide +kernel
theorem dX7_isFirst_55 : decode cX7_isFirst 55 = .ok (.iaload, 1) := by decide +kernel
theorem dX7_isFirst_56 : decode cX7_isFirst 56 = .ok (.aload_n 0, 1) := by decide +kernel
theorem dX7_isFirst_57 : decode cX7_isFirst 57 = .ok (.getfield 32, 3) := by decide +kernel
theorem dX7_isFirst_60 : decode cX7_isFirst 60 = .ok (.aload_n 0, 1) := by decide +kernel
theorem dX7_isFirst_61 : decode cX7_isFirst 61 = .ok (.getfield 85, 3) := by decide +kernel
theorem dX7_isFirst_64 : decode cX7_isFirst 64 = .ok (.iconst 1, 1) := by decide +kernel
theorem dX7_isFirst_65 : decode cX7_isFirst 65 = .ok (.isub, 1) := by decide +kernel
theorem dX7_isFirst_66 : decode cX7_isFirst 66 = .ok (.iaload, 1) := by decide +kernel
theorem dX7_isFirst_67 : decode cX7_isFirst 67 = .ok (.if_icmp .ge 7, 3) := by decide +kernel
theorem dX7_isFirst_70 : decode cX7_isFirst 70 = .ok (.iconst 1, 1) := by decide +kernel
theorem dX7_isFirst_71 : decode cX7_isFirst 71 = .ok (.goto 4, 3) := by decide +kernel
theorem dX7_isFirst_74 : decode cX7_isFirst 74 = .ok (.iconst 0, 1) := by decide +kernel
theorem dX7_isFirst_75 : decode cX7_isFirst 75 = .ok (.ireturn, 1) := by decide +kernel
theorem dX7_isFirst_76 : decode cX7_isFirst 76 = .ok (.iconst 1, 1) := by decide +kernel
theorem dX7_isFirst_77 : decode cX7_isFirst 77 = .ok (.istore_n 3, 1) := by decide +kernel
theorem dX7_isFirst_78 : decode cX7_isFirst 78 = .ok (.iload_n 3, 1) := by decide +kernel
theorem dX7_isFirst_79 : decode cX7_isFirst 79 = .ok (.aload_n 0, 1) := by decide +kernel
theorem dX7_isFirst_80 : decode cX7_isFirst 80 = .ok (.getfield 85, 3) := by decide +kernel
theorem dX7_isFirst_83 : decode cX7_isFirst 83 = .ok (.if_icmp .ge 26, 3) := by decide +kernel
theorem dX7_isFirst_86 : decode cX7_isFirst 86 = .ok (.aload_n 0, 1) := by decide +kernel
theorem dX7_isFirst_87 : decode cX7_isFirst 87 = .ok (.getfield 32, 3) := by decide +kernel
theorem dX7_isFirst_90 : decode cX7_isFirst 90 = .ok (.iload_n 3, 1) := by decide +kernel
theorem dX7_isFirst_91 : decode cX7_isFirst 91 = .ok (.iaload, 1) := by decide +kernel
theorem dX7_isFirst_92 : decode cX7_isFirst 92 = .ok (.aload_n 0, 1) := by decide +kernel
theorem dX7_isFirst_93 : decode cX7_isFirst 93 = .ok (.getfield 32, 3) := by decide +kernel
theorem dX7_isFirst_96 : decode cX7_isFirst 96 = .ok (.iconst 0, 1) := by decide +kernel
theorem dX7_isFirst_97 : decode cX7_isFirst 97 = .ok (.iaload, 1) := by decide +kernel
theorem dX7_isFirst_98 : decode cX7_isFirst 98 = .ok (.if_icmp .ge 5, 3) := by decide +kernel
theorem dX7_isFirst_101 : decode cX7_isFirst 101 = .ok (.iconst 0, 1) := by decide +kernel
theorem dX7_isFirst_102 : decode cX7_isFirst 102 = .ok (.ireturn, 1) := by decide +kernel
theorem dX7_isFirst_103 : decode cX7_isFirst 103 = .ok (.iinc 3 1, 3) := by decide +kernel
theorem dX7_isFirst_106 : decode cX7_isFirst 106 = .ok (.goto (-28), 3) := by decide +kernel
theorem dX7_isFirst_109 : decode cX7_isFirst 109 = .ok (.aload_n 0, 1) := by decide +kernel
theorem dX7_isFirst_110 : decode cX7_isFirst 110 = .ok (.getfield 32, 3) := by decide +kernel
theorem dX7_isFirst_113 : decode cX7_isFirst 113 = .ok (.iconst 1, 1) := by decide +kernel
theorem dX7_isFirst_114 : decode cX7_isFirst 114 = .ok (.iaload, 1) := by decide +kernel
theorem dX7_isFirst_115 : decode cX7_isFirst 115 = .ok (.aload_n 0, 1) := by decide +kernel
theorem dX7_isFirst_116 : decode cX7_isFirst 116 = .ok (.getfield 32, 3) := by decide +kernel
theorem dX7_isFirst_119 : decode cX7_isFirst 119 = .ok (.aload_n 0, 1) := by decide +kernel
theorem dX7_isFirst_120 : decode cX7_isFirst 120 = .ok (.getfield 85, 3) := by decide +kernel
theorem dX7_isFirst_123 : decode cX7_isFirst 123 = .ok (.iconst 1, 1) := by decide +kernel
theorem dX7_isFirst_124 : decode cX7_isFirst 124 = .ok (.isub, 1) := by decide +kernel
theorem dX7_isFirst_125 : decode cX7_isFirst 125 = .ok (.iaload, 1) := by decide +kernel
theorem dX7_isFirst_126 : decode cX7_isFirst 126 = .ok (.if_icmp .ge 7, 3) := by decide +kernel
theorem dX7_isFirst_129 : decode cX7_isFirst 129 = .ok (.iconst 1, 1) := by decide +kernel
theorem dX7_isFirst_130 : decode cX7_isFirst 130 = .ok (.goto 4, 3) := by decide +kernel
theorem dX7_isFirst_133 : decode cX7_isFirst 133 = .ok (.iconst 0, 1) := by decide +kernel
theorem dX7_isFirst_134 : decode cX7_isFirst 134 = .ok (.ireturn, 1) := by decide +kernel
theorem dX7_seeks_0 : decode cX7_seeks 0 = .ok (.aload_n 0, 1) := by decide +kernel
theorem dX7_seeks_1 : decode cX7_seeks 1 = .ok (.getfield 85, 3) := by decide +kernel
theorem dX7_seeks_4 : decode cX7_seeks 4 = .ok (.aload_n 0, 1) := by decide +kernel
theorem dX7_seeks_5 : decode cX7_seeks 5 = .ok (.getfield 20, 3) := by decide +kernel
theorem dX7_seeks_8 : decode cX7_seeks 8 = .ok (.iconst 1, 1) := by decide +kernel
theorem dX7_seeks_9 : decode cX7_seeks 9 = .ok (.laload, 1) := by decide +kernel
theorem dX7_seeks_10 : decode cX7_seeks 10 = .ok (.aload_n 0, 1) := by decide +kernel
theorem dX7_seeks_11 : decode cX7_seeks 11 = .ok (.getfield 20, 3) := by decide +kernel
theorem dX7_seeks_14 : decode cX7_seeks 14 = .ok (.iconst 2, 1) := by decide +kernel
theorem dX7_seeks_15 : decode cX7_seeks 15 = .ok (.laload, 1) := by decide +kernel
theorem dX7_seeks_16 : decode cX7_seeks 16 = .ok (.invokestatic 88, 3) := by decide +kernel
theorem dX7_seeks_19 : decode cX7_seeks 19 = .ok (.if_icmp .ne 43, 3) := by decide +kernel
theorem dX7_seeks_22 : decode cX7_seeks 22 = .ok (.aload_n 0, 1) := by decide +kernel
theorem dX7_seeks_23 : decode cX7_seeks 23 = .ok (.invokevirtual 238, 3) := by decide +kernel
theorem dX7_seeks_26 : decode cX7_seeks 26 = .ok (.ifCond .ne 4, 3) := by decide +kernel
theorem dX7_seeks_29 : decode cX7_seeks 29 = .ok (.return_, 1) := by decide +kernel
theorem dX7_seeks_30 : decode cX7_seeks 30 = .ok (.iload_n 2, 1) := by decide +kernel
theorem dX7_seeks_31 : decode cX7_seeks 31 = .ok (.ifCond .eq 20, 3) := by decide +kernel
theorem dX7_seeks_34 : decode cX7_seeks 34 = .ok (.aload_n 0, 1) := by decide +kernel
theorem dX7_seeks_35 : decode cX7_seeks 35 = .ok (.getfield 41, 3) := by decide +kernel
theorem dX7_seeks_38 : decode cX7_seeks 38 = .ok (.aload_n 0, 1) := by decide +kernel
theorem dX7_seeks_39 : decode cX7_seeks 39 = .ok (.getfield 241, 3) := by decide +kernel
theorem dX7_seeks_42 : decode cX7_seeks 42 = .ok (.aload_n 0, 1) := by decide +kernel
theorem dX7_seeks_43 : decode cX7_seeks 43 = .ok (.aload_n 0, 1) := by decide +kernel
theorem dX7_seeks_44 : decode cX7_seeks 44 = .ok (.getfield 20, 3) := by decide +kernel
theorem dX7_seeks_47 : decode cX7_seeks 47 = .ok (.invokevirtual 202, 3) := by decide +kernel
theorem dX7_seeks_50 : decode cX7_seeks 50 = .ok (.lastore, 1) := by decide +kernel
theorem dX7_seeks_51 : decode cX7_seeks 51 = .ok (.aload_n 0, 1) := by decide +kernel
theorem dX7_seeks_52 : decode cX7_seeks 52 = .ok (.dup, 1) := by decide +kernel
theorem dX7_seeks_53 : decode cX7_seeks 53 = .ok (.getfield 241, 3) := by decide +kernel
theorem dX7_seeks_56 : decode cX7_seeks 56 = .ok (.iconst 1, 1) := by decide +kernel
theorem dX7_seeks_57 : decode cX7_seeks 57 = .ok (.iadd, 1) := by decide +kernel
theorem dX7_seeks_58 : decode cX7_seeks 58 = .ok (.putfield 241, 3) := by decide +kernel
theorem dX7_seeks_61 : decode cX7_seeks 61 = .ok (.return_, 1) := by decide +kernel
theorem dX7_seeks_62 : decode cX7_seeks 62 = .ok (.iconst 0, 1) := by decide +kernel
theorem dX7_seeks_63 : decode cX7_seeks 63 = .ok (.istore_n 3, 1) := by decide +kernel
theorem dX7_seeks_64 : decode cX7_seeks 64 = .ok (.iload_n 3, 1) := by decide +kernel
theorem dX7_seeks_65 : decode cX7_seeks 65 = .ok (.i2l, 1) := by decide +kernel
theorem dX7_seeks_66 : decode cX7_seeks 66 = .ok (.aload_n 0, 1) := by decide +kernel
theorem dX7_seeks_67 : decode cX7_seeks 67 = .ok (.getfield 20, 3) := by decide +kernel
theorem dX7_seeks_70 : decode cX7_seeks 70 = .ok (.iconst 0, 1) := by decide +kernel
theorem dX7_seeks_71 : decode cX7_seeks 71 = .ok (.laload, 1) := by decide +kernel
theorem dX7_seeks_72 : decode cX7_seeks 72 = .ok (.lcmp, 1) := by decide +kernel
theorem dX7_seeks_73 : decode cX7_seeks 73 = .ok (.ifCond .ge 97, 3) := by decide +kernel
theorem dX7_seeks_76 : decode cX7_seeks 76 = .ok (.iload_n 1, 1) := by decide +kernel
theorem dX7_seeks_77 : decode cX7_seeks 77 = .ok (.iload_n 3, 1) := by decide +kernel
theorem dX7_seeks_78 : decode cX7_seeks 78 = .ok (.ishr, 1) := by decide +kernel
theorem dX7_seeks_79 : decode cX7_seeks 79 = .ok (.iconst 1, 1) := by decide +kernel
theorem dX7_seeks_80 : decode cX7_seeks 80 = .ok (.iand, 1) := by decide +kernel
theorem dX7_seeks_81 : decode cX7_seeks 81 = .ok (.iconst 1, 1) := by decide +kernel
theorem dX7_seeks_82 : decode cX7_seeks 82 = .ok (.if_icmp .eq 82, 3) := by decide +kernel
theorem dX7_seeks_85 : decode cX7_seeks 85 = .ok (.aload_n 0, 1) := by decide +kernel
theorem dX7_seeks_86 : decode cX7_seeks 86 = .ok (.getfield 20, 3) := by decide +kernel
theorem dX7_seeks_89 : decode cX7_seeks 89 = .ok (.iconst 1, 1) := by decide +kernel
theorem dX7_seeks_90 : decode cX7_seeks 90 = .ok (.laload, 1) := by decide +kernel
theorem dX7_seeks_91 : decode cX7_seeks 91 = .ok (.ldc2_w 76, 3) := by decide +kernel
theorem dX7_seeks_94 : decode cX7_seeks 94 = .ok (.lcmp, 1) := by decide +kernel
theorem dX7_seeks_95 : decode cX7_seeks 95 = .ok (.ifCond .ne 29, 3) := by decide +kernel
theorem dX7_seeks_98 : decode cX7_seeks 98 = .ok (.aload_n 0, 1) := by decide +kernel
theorem dX7_seeks_99 : decode cX7_seeks 99 = .ok (.getfield 85, 3) := by decide +kernel
theorem dX7_seeks_102 : decode cX7_seeks 102 = .ok (.iconst 1, 1) := by decide +kernel
theorem dX7_seeks_103 : decode cX7_seeks 103 = .ok (.if_icmp .le 21, 3) := by decide +kernel
theorem dX7_seeks_106 : decode cX7_seeks 106 = .ok (.iload_n 3, 1) := by decide +kernel
theorem dX7_seeks_107 : decode cX7_seeks 107 = .ok (.aload_n 0, 1) := by decide +kernel
theorem dX7_seeks_108 : decode cX7_seeks 108 = .ok (.getfield 32, 3) := by decide +kernel
theorem dX7_seeks_111 : decode cX7_seeks 111 = .ok (.aload_n 0, 1) := by decide +kernel
theorem dX7_seeks_112 : decode cX7_seeks 112 = .ok (.getfield 85, 3) := by decide +kernel
theorem dX7_seeks_115 : decode cX7_seeks 115 = .ok (.iconst 1, 1) := by decide +kernel
theorem dX7_seeks_116 : decode cX7_seeks 116 = .ok (.isub, 1) := by decide +kernel
theorem dX7_seeks_117 : decode cX7_seeks 117 = .ok (.iaload, 1) := by decide +kernel
theorem dX7_seeks_118 : decode cX7_seeks 118 = .ok (.if_icmp .ge 6, 3) := by decide +kernel
theorem dX7_seeks_121 : decode cX7_seeks 121 = .ok (.goto 43, 3) := by decide +kernel
theorem dX7_seeks_124 : decode cX7_seeks 124 = .ok (.aload_n 0, 1) := by decide +kernel
theorem dX7_seeks_125 : decode cX7_seeks 125 = .ok (.getfield 32, 3) := by decide +kernel
theorem dX7_seeks_128 : decode cX7_seeks 128 = .ok (.aload_n 0, 1) := by decide +kernel
theorem dX7_seeks_129 : decode cX7_seeks 129 = .ok (.getfield 85, 3) := by decide +kernel
theorem dX7_seeks_132 : decode cX7_seeks 132 = .ok (.iload_n 3, 1) := by decide +kernel
theorem dX7_seeks_133 : decode cX7_seeks 133 = .ok (.iastore, 1) := by decide +kernel
theorem dX7_seeks_134 : decode cX7_seeks 134 = .ok (.aload_n 0, 1) := by decide +kernel
theorem dX7_seeks_135 : decode cX7_seeks 135 = .ok (.dup, 1) := by decide +kernel
theorem dX7_seeks_136 : decode cX7_seeks 136 = .ok (.getfield 85, 3) := by decide +kernel
theorem dX7_seeks_139 : decode cX7_seeks 139 = .ok (.iconst 1, 1) := by decide +kernel
theorem dX7_seeks_140 : decode cX7_seeks 140 = .ok (.iadd, 1) := by decide +kernel
theorem dX7_seeks_141 : decode cX7_seeks 141 = .ok (.putfield 85, 3) := by decide +kernel
theorem dX7_seeks_144 : decode cX7_seeks 144 = .ok (.aload_n 0, 1) := by decide +kernel
theorem dX7_seeks_145 : decode cX7_seeks 145 = .ok (.iload_n 1, 1) := by decide +kernel
theorem dX7_seeks_146 : decode cX7_seeks 146 = .ok (.iconst 1, 1) := by decide +kernel
theorem dX7_seeks_147 : decode cX7_seeks 147 = .ok (.iload_n 3, 1) := by decide +kernel
theorem dX7_seeks_148 : decode cX7_seeks 148 = .ok (.ishl, 1) := by decide +kernel
theorem dX7_seeks_149 : decode cX7_seeks 149 = .ok (.ior, 1) := by decide +kernel
theorem dX7_seeks_150 : decode cX7_seeks 150 = .ok (.iload_n 2, 1) := by decide +kernel
theorem dX7_seeks_151 : decode cX7_seeks 151 = .ok (.invokevirtual 244, 3) := by decide +kernel
theorem dX7_seeks_154 : decode cX7_seeks 154 = .ok (.aload_n 0, 1) := by decide +kernel
theorem dX7_seeks_155 : decode cX7_seeks 155 = .ok (.dup, 1) := by decide +kernel
theorem dX7_seeks_156 : decode cX7_seeks 156 = .ok (.getfield 85, 3) := by decide +kernel
theorem dX7_seeks_159 : decode cX7_seeks 159 = .ok (.iconst 1, 1) := by decide +kernel
theorem dX7_seeks_160 : decode cX7_seeks 160 = .ok (.isub, 1) := by decide +kernel
theorem dX7_seeks_161 : decode cX7_seeks 161 = .ok (.putfield 85, 3) := by decide +kernel
theorem dX7_seeks_164 : decode cX7_seeks 164 = .ok (.iinc 3 1, 3) := by decide +kernel
theorem dX7_seeks_167 : decode cX7_seeks 167 = .ok (.goto (-103), 3) := by decide +kernel
theorem dX7_seeks_170 : decode cX7_seeks 170 = .ok (.return_, 1) := by decide +kernel
theorem dX7_sorts_0 : decode cX7_sorts 0 = .ok (.iload_n 2, 1) := by decide +kernel
theorem dX7_sorts_1 : decode cX7_sorts 1 = .ok (.iload_n 1, 1) := by decide +kernel
theorem dX7_sorts_2 : decode cX7_sorts 2 = .ok (.isub, 1) := by decide +kernel
theorem dX7_sorts_3 : decode cX7_sorts 3 = .ok (.iconst 2, 1) := by decide +kernel
theorem dX7_sorts_4 : decode cX7_sorts 4 = .ok (.if_icmp .ge 4, 3) := by decide +kernel
theorem dX7_sorts_7 : decode cX7_sorts 7 = .ok (.return_, 1) := by decide +kernel
theorem dX7_sorts_8 : decode cX7_sorts 8 = .ok (.iload_n 1, 1) := by decide +kernel
theorem dX7_sorts_9 : decode cX7_sorts 9 = .ok (.iload_n 2, 1) := by decide +kernel
theorem dX7_sorts_10 : decode cX7_sorts 10 = .ok (.iadd, 1) := by decide +kernel
theorem dX7_sorts_11 : decode cX7_sorts 11 = .ok (.iconst 2, 1) := by decide +kernel
theorem dX7_sorts_12 : decode cX7_sorts 12 = .ok (.idiv, 1) := by decide +kernel
theorem dX7_sorts_13 : decode cX7_sorts 13 = .ok (.istore_n 3, 1) := by decide +kernel
theorem dX7_sorts_14 : decode cX7_sorts 14 = .ok (.iload_n 1, 1) := by decide +kernel
theorem dX7_sorts_15 : decode cX7_sorts 15 = .ok (.istore 4, 2) := by decide +kernel
theorem dX7_sorts_17 : decode cX7_sorts 17 = .ok (.iload_n 3, 1) := by decide +kernel
theorem dX7_sorts_18 : decode cX7_sorts 18 = .ok (.istore 5, 2) := by decide +kernel
theorem dX7_sorts_20 : decode cX7_sorts 20 = .ok (.aload_n 0, 1) := by decide +kernel
theorem dX7_sorts_21 : decode cX7_sorts 21 = .ok (.iload_n 1, 1) := by decide +kernel
theorem dX7_sorts_22 : decode cX7_sorts 22 = .ok (.iload_n 3, 1) := by decide +kernel
theorem dX7_sorts_23 : decode cX7_sorts 23 = .ok (.invokevirtual 248, 3) := by decide +kernel
theorem dX7_sorts_26 : decode cX7_sorts 26 = .ok (.aload_n 0, 1) := by decide +kernel
theorem dX7_sorts_27 : decode cX7_sorts 27 = .ok (.iload_n 3, 1) := by decide +kernel
theorem dX7_sorts_28 : decode cX7_sorts 28 = .ok (.iload_n 2, 1) := by decide +kernel
theorem dX7_sorts_29 : decode cX7_sorts 29 = .ok (.invokevirtual 248, 3) := by decide +kernel
theorem dX7_sorts_32 : decode cX7_sorts 32 = .ok (.iload_n 1, 1) := by decide +kernel
theorem dX7_sorts_33 : decode cX7_sorts 33 = .ok (.istore 6, 2) := by decide +kernel
theorem dX7_sorts_35 : decode cX7_sorts 35 = .ok (.iload 6, 2) := by decide +kernel
theorem dX7_sorts_37 : decode cX7_sorts 37 = .ok (.iload_n 2, 1) := by decide +kernel
theorem dX7_sorts_38 : decode cX7_sorts 38 = .ok (.if_icmp .ge 91, 3) := by decide +kernel
theorem dX7_sorts_41 : decode cX7_sorts 41 = .ok (.iload 5, 2) := by decide +kernel
theorem dX7_sorts_43 : decode cX7_sorts 43 = .ok (.iload_n 2, 1) := by decide +kernel
theorem dX7_sorts_44 : decode cX7_sorts 44 = .ok (.if_icmp .eq 29, 3) := by decide +kernel
theorem dX7_sorts_47 : decode cX7_sorts 47 = .ok (.iload 4, 2) := by decide +kernel
theorem dX7_sorts_49 : decode cX7_sorts 49 = .ok (.iload_n 3, 1) := by decide +kernel
theorem dX7_sorts_50 : decode cX7_sorts 50 = .ok (.if_icmp .ge 27, 3) := by decide +kernel
theorem dX7_sorts_53 : decode cX7_sorts 53 = .ok (.aload_n 0, 1) := by decide +kernel
theorem dX7_sorts_54 : decode cX7_sorts 54 = .ok (.getfield 41, 3) := by decide +kernel
theorem dX7_sorts_57 : decode cX7_sorts 57 = .ok (.iload 4, 2) := by decide +kernel
theorem dX7_sorts_59 : decode cX7_sorts 59 = .ok (.laload, 1) := by decide +kernel
theorem dX7_sorts_60 : decode cX7_sorts 60 = .ok (.aload_n 0, 1) := by decide +kernel
theorem dX7_sorts_61 : decode cX7_sorts 61 = .ok (.getfield 41, 3) := by decide +kernel
theorem dX7_sorts_64 : decode cX7_sorts 64 = .ok (.iload 5, 2) := by decide +kernel
theorem dX7_sorts_66 : decode cX7_sorts 66 = .ok (.laload, 1) := by decide +kernel
theorem dX7_sorts_67 : decode cX7_sorts 67 = .ok (.invokestatic 251, 3) := by decide +kernel
theorem dX7_sorts_70 : decode cX7_sorts 70 = .ok (.ifCond .eq 7, 3) := by decide +kernel
theorem dX7_sorts_73 : decode cX7_sorts 73 = .ok (.iconst 1, 1) := by decide +kernel
theorem dX7_sorts_74 : decode cX7_sorts 74 = .ok (.goto 4, 3) := by decide +kernel
theorem dX7_sorts_77 : decode cX7_sorts 77 = .ok (.iconst 0, 1) := by decide +kernel
theorem dX7_sorts_78 : decode cX7_sorts 78 = .ok (.istore 7, 2) := by decide +kernel
theorem dX7_sorts_80 : decode cX7_sorts 80 = .ok (.aload_n 0, 1) := by decide +kernel
theorem dX7_sorts_81 : decode cX7_sorts 81 = .ok (.getfield 44, 3) := by decide +kernel
theorem dX7_sorts_84 : decode cX7_sorts 84 = .ok (.iload 6, 2) := by decide +kernel
theorem dX7_sorts_86 : decode cX7_sorts 86 = .ok (.iload 7, 2) := by decide +kernel
theorem dX7_sorts_88 : decode cX7_sorts 88 = .ok (.ifCond .eq 13, 3) := by decide +kernel
theorem dX7_sorts_91 : decode cX7_sorts 91 = .ok (.aload_n 0, 1) := by decide +kernel
theorem dX7_sorts_92 : decode cX7_sorts 92 = .ok (.getfield 41, 3) := by decide +kernel
theorem dX7_sorts_95 : decode cX7_sorts 95 = .ok (.iload 4, 2) := by decide +kernel
theorem dX7_sorts_97 : decode cX7_sorts 97 = .ok (.laload, 1) := by decide +kernel
theorem dX7_sorts_98 : decode cX7_sorts 98 = .ok (.goto 10, 3) := by decide +kernel
theorem dX7_sorts_101 : decode cX7_sorts 101 = .ok (.aload_n 0, 1) := by decide +kernel
theorem dX7_sorts_102 : decode cX7_sorts 102 = .ok (.getfield 41, 3) := by decide +kernel
theorem dX7_sorts_105 : decode cX7_sorts 105 = .ok (.iload 5, 2) := by decide +kernel
theorem dX7_sorts_107 : decode cX7_sorts 107 = .ok (.laload, 1) := by decide +kernel
theorem dX7_sorts_108 : decode cX7_sorts 108 = .ok (.lastore, 1) := by decide +kernel
theorem dX7_sorts_109 : decode cX7_sorts 109 = .ok (.iload 7, 2) := by decide +kernel
theorem dX7_sorts_111 : decode cX7_sorts 111 = .ok (.ifCond .eq 9, 3) := by decide +kernel
theorem dX7_sorts_114 : decode cX7_sorts 114 = .ok (.iinc 4 1, 3) := by decide +kernel
theorem dX7_sorts_117 : decode cX7_sorts 117 = .ok (.goto 6, 3) := by decide +kernel
theorem dX7_sorts_120 : decode cX7_sorts 120 = .ok (.iinc 5 1, 3) := by decide +kernel
theorem dX7_sorts_123 : decode cX7_sorts 123 = .ok (.iinc 6 1, 3) := by decide +kernel
theorem dX7_sorts_126 : decode cX7_sorts 126 = .ok (.goto (-91), 3) := by decide +kernel
theorem dX7_sorts_129 : decode cX7_sorts 129 = .ok (.iload_n 1, 1) := by decide +kernel
theorem dX7_sorts_130 : decode cX7_sorts 130 = .ok (.istore 6, 2) := by decide +kernel
theorem dX7_sorts_132 : decode cX7_sorts 132 = .ok (.iload 6, 2) := by decide +kernel
theorem dX7_sorts_134 : decode cX7_sorts 134 = .ok (.iload_n 2, 1) := by decide +kernel
theorem dX7_sorts_135 : decode cX7_sorts 135 = .ok (.if_icmp .ge 23, 3) := by decide +kernel
theorem dX7_sorts_138 : decode cX7_sorts 138 = .ok (.aload_n 0, 1) := by decide +kernel
theorem dX7_sorts_139 : decode cX7_sorts 139 = .ok (.getfield 41, 3) := by decide +kernel
theorem dX7_sorts_142 : decode cX7_sorts 142 = .ok (.iload 6, 2) := by decide +kernel
theorem dX7_sorts_144 : decode cX7_sorts 144 = .ok (.aload_n 0, 1) := by decide +kernel
theorem dX7_sorts_145 : decode cX7_sorts 145 = .ok (.getfield 44, 3) := by decide +kernel
theorem dX7_sorts_148 : decode cX7_sorts 148 = .ok (.iload 6, 2) := by decide +kernel
theorem dX7_sorts_150 : decode cX7_sorts 150 = .ok (.laload, 1) := by decide +kernel
theorem dX7_sorts_151 : decode cX7_sorts 151 = .ok (.lastore, 1) := by decide +kernel
theorem dX7_sorts_152 : decode cX7_sorts 152 = .ok (.iinc 6 1, 3) := by decide +kernel
theorem dX7_sorts_155 : decode cX7_sorts 155 = .ok (.goto (-23), 3) := by decide +kernel
theorem dX7_sorts_158 : decode cX7_sorts 158 = .ok (.return_, 1) := by decide +kernel
theorem dX7_lays_0 : decode cX7_lays 0 = .ok (.aload_n 0, 1) := by decide +kernel
theorem dX7_lays_1 : decode cX7_lays 1 = .ok (.getfield 255, 3) := by decide +kernel
theorem dX7_lays_4 : decode cX7_lays 4 = .ok (.aload_n 0, 1) := by decide +kernel
theorem dX7_lays_5 : decode cX7_lays 5 = .ok (.getfield 20, 3) := by decide +kernel
theorem dX7_lays_8 : decode cX7_lays 8 = .ok (.iconst 0, 1) := by decide +kernel
theorem dX7_lays_9 : decode cX7_lays 9 = .ok (.laload, 1) := by decide +kernel
theorem dX7_lays_10 : decode cX7_lays 10 = .ok (.lcmp, 1) := by decide +kernel
theorem dX7_lays_11 : decode cX7_lays 11 = .ok (.ifCond .ne 32, 3) := by decide +kernel
theorem dX7_lays_14 : decode cX7_lays 14 = .ok (.aload_n 0, 1) := by decide +kernel
theorem dX7_lays_15 : decode cX7_lays 15 = .ok (.getfield 259, 3) := by decide +kernel
theorem dX7_lays_18 : decode cX7_lays 18 = .ok (.aload_n 0, 1) := by decide +kernel
theorem dX7_lays_19 : decode cX7_lays 19 = .ok (.getfield 20, 3) := by decide +kernel
theorem dX7_lays_22 : decode cX7_lays 22 = .ok (.iconst 1, 1) := by decide +kernel
theorem dX7_lays_23 : decode cX7_lays 23 = .ok (.laload, 1) := by decide +kernel
theorem dX7_lays_24 : decode cX7_lays 24 = .ok (.lcmp, 1) := by decide +kernel
theorem dX7_lays_25 : decode cX7_lays 25 = .ok (.ifCond .ne 18, 3) := by decide +kernel
theorem dX7_lays_28 : decode cX7_lays 28 = .ok (.aload_n 0, 1) := by decide +kernel
theorem dX7_lays_29 : decode cX7_lays 29 = .ok (.getfield 262, 3) := by decide +kernel
theorem dX7_lays_32 : decode cX7_lays 32 = .ok (.aload_n 0, 1) := by decide +kernel
theorem dX7_lays_33 : decode cX7_lays 33 = .ok (.getfield 20, 3) := by decide +kernel
theorem dX7_lays_36 : decode cX7_lays 36 = .ok (.iconst 2, 1) := by decide +kernel
theorem dX7_lays_37 : decode cX7_lays 37 = .ok (.laload, 1) := by decide +kernel
theorem dX7_lays_38 : decode cX7_lays 38 = .ok (.lcmp, 1) := by decide +kernel
theorem dX7_lays_39 : decode cX7_lays 39 = .ok (.ifCond .ne 4, 3) := by decide +kernel
theorem dX7_lays_42 : decode cX7_lays 42 = .ok (.return_, 1) := by decide +kernel
theorem dX7_lays_43 : decode cX7_lays 43 = .ok (.aload_n 0, 1) := by decide +kernel
theorem dX7_lays_44 : decode cX7_lays 44 = .ok (.aload_n 0, 1) := by decide +kernel
theorem dX7_lays_45 : decode cX7_lays 45 = .ok (.getfield 20, 3) := by decide +kernel
theorem dX7_lays_48 : decode cX7_lays 48 = .ok (.iconst 0, 1) := by decide +kernel
theorem dX7_lays_49 : decode cX7_lays 49 = .ok (.laload, 1) := by decide +kernel
theorem dX7_lays_50 : decode cX7_lays 50 = .ok (.putfield 255, 3) := by decide +kernel
theorem dX7_lays_53 : decode cX7_lays 53 = .ok (.aload_n 0, 1) := by decide +kernel
theorem dX7_lays_54 : decode cX7_lays 54 = .ok (.aload_n 0, 1) := by decide +kernel
theorem dX7_lays_55 : decode cX7_lays 55 = .ok (.getfield 20, 3) := by decide +kernel
theorem dX7_lays_58 : decode cX7_lays 58 = .ok (.iconst 1, 1) := by decide +kernel
theorem dX7_lays_59 : decode cX7_lays 59 = .ok (.laload, 1) := by decide +kernel
theorem dX7_lays_60 : decode cX7_lays 60 = .ok (.putfield 259, 3) := by decide +kernel
theorem dX7_lays_63 : decode cX7_lays 63 = .ok (.aload_n 0, 1) := by decide +kernel
theorem dX7_lays_64 : decode cX7_lays 64 = .ok (.aload_n 0, 1) := by decide +kernel
theorem dX7_lays_65 : decode cX7_lays 65 = .ok (.getfield 20, 3) := by decide +kernel
theorem dX7_lays_68 : decode cX7_lays 68 = .ok (.iconst 2, 1) := by decide +kernel
theorem dX7_lays_69 : decode cX7_lays 69 = .ok (.laload, 1) := by decide +kernel
theorem dX7_lays_70 : decode cX7_lays 70 = .ok (.putfield 262, 3) := by decide +kernel
theorem dX7_lays_73 : decode cX7_lays 73 = .ok (.aload_n 0, 1) := by decide +kernel
theorem dX7_lays_74 : decode cX7_lays 74 = .ok (.iconst 0, 1) := by decide +kernel
theorem dX7_lays_75 : decode cX7_lays 75 = .ok (.putfield 85, 3) := by decide +kernel
theorem dX7_lays_78 : decode cX7_lays 78 = .ok (.aload_n 0, 1) := by decide +kernel
theorem dX7_lays_79 : decode cX7_lays 79 = .ok (.iconst 0, 1) := by decide +kernel
theorem dX7_lays_80 : decode cX7_lays 80 = .ok (.putfield 241, 3) := by decide +kernel
theorem dX7_lays_83 : decode cX7_lays 83 = .ok (.aload_n 0, 1) := by decide +kernel
theorem dX7_lays_84 : decode cX7_lays 84 = .ok (.iconst 0, 1) := by decide +kernel
theorem dX7_lays_85 : decode cX7_lays 85 = .ok (.iconst 0, 1) := by decide +kernel
theorem dX7_lays_86 : decode cX7_lays 86 = .ok (.invokevirtual 244, 3) := by decide +kernel
theorem dX7_lays_89 : decode cX7_lays 89 = .ok (.aload_n 0, 1) := by decide +kernel
theorem dX7_lays_90 : decode cX7_lays 90 = .ok (.getfield 41, 3) := by decide +kernel
theorem dX7_lays_93 : decode cX7_lays 93 = .ok (.arraylength, 1) := by decide +kernel
theorem dX7_lays_94 : decode cX7_lays 94 = .ok (.aload_n 0, 1) := by decide +kernel
theorem dX7_lays_95 : decode cX7_lays 95 = .ok (.getfield 241, 3) := by decide +kernel
theorem dX7_lays_98 : decode cX7_lays 98 = .ok (.if_icmp .ge 23, 3) := by decide +kernel
theorem dX7_lays_101 : decode cX7_lays 101 = .ok (.aload_n 0, 1) := by decide +kernel
theorem dX7_lays_102 : decode cX7_lays 102 = .ok (.aload_n 0, 1) := by decide +kernel
theorem dX7_lays_103 : decode cX7_lays 103 = .ok (.getfield 241, 3) := by decide +kernel
theorem dX7_lays_106 : decode cX7_lays 106 = .ok (.newarray .long, 2) := by decide +kernel
theorem dX7_lays_108 : decode cX7_lays 108 = .ok (.putfield 41, 3) := by decide +kernel
theorem dX7_lays_111 : decode cX7_lays 111 = .ok (.aload_n 0, 1) := by decide +kernel
theorem dX7_lays_112 : decode cX7_lays 112 = .ok (.aload_n 0, 1) := by decide +kernel
theorem dX7_lays_113 : decode cX7_lays 113 = .ok (.getfield 241, 3) := by decide +kernel
theorem dX7_lays_116 : decode cX7_lays 116 = .ok (.newarray .long, 2) := by decide +kernel
theorem dX7_lays_118 : decode cX7_lays 118 = .ok (.putfield 44, 3) := by decide +kernel
theorem dX7_lays_121 : decode cX7_lays 121 = .ok (.aload_n 0, 1) := by decide +kernel
theorem dX7_lays_122 : decode cX7_lays 122 = .ok (.iconst 0, 1) := by decide +kernel
theorem dX7_lays_123 : decode cX7_lays 123 = .ok (.putfield 241, 3) := by decide +kernel
theorem dX7_lays_126 : decode cX7_lays 126 = .ok (.aload_n 0, 1) := by decide +kernel
theorem dX7_lays_127 : decode cX7_lays 127 = .ok (.iconst 0, 1) := by decide +kernel
theorem dX7_lays_128 : decode cX7_lays 128 = .ok (.iconst 1, 1) := by decide +kernel
theorem dX7_lays_129 : decode cX7_lays 129 = .ok (.invokevirtual 244, 3) := by decide +kernel
theorem dX7_lays_132 : decode cX7_lays 132 = .ok (.aload_n 0, 1) := by decide +kernel
theorem dX7_lays_133 : decode cX7_lays 133 = .ok (.iconst 0, 1) := by decide +kernel
theorem dX7_lays_134 : decode cX7_lays 134 = .ok (.aload_n 0, 1) := by decide +kernel
theorem dX7_lays_135 : decode cX7_lays 135 = .ok (.getfield 241, 3) := by decide +kernel
theorem dX7_lays_138 : decode cX7_lays 138 = .ok (.invokevirtual 248, 3) := by decide +kernel
theorem dX7_lays_141 : decode cX7_lays 141 = .ok (.iconst 0, 1) := by decide +kernel
theorem dX7_lays_142 : decode cX7_lays 142 = .ok (.istore_n 1, 1) := by decide +kernel
theorem dX7_lays_143 : decode cX7_lays 143 = .ok (.iconst 0, 1) := by decide +kernel
theorem dX7_lays_144 : decode cX7_lays 144 = .ok (.istore_n 2, 1) := by decide +kernel
theorem dX7_lays_145 : decode cX7_lays 145 = .ok (.iload_n 2, 1) := by decide +kernel
theorem dX7_lays_146 : decode cX7_lays 146 = .ok (.bipush 57, 2) := by decide +kernel
theorem dX7_lays_148 : decode cX7_lays 148 = .ok (.if_icmp .ge 43, 3) := by decide +kernel
theorem dX7_lays_151 : decode cX7_lays 151 = .ok (.iload_n 1, 1) := by decide +kernel
theorem dX7_lays_152 : decode cX7_lays 152 = .ok (.aload_n 0, 1) := by decide +kernel
theorem dX7_lays_153 : decode cX7_lays 153 = .ok (.getfield 241, 3) := by decide +kernel
theorem dX7_lays_156 : decode cX7_lays 156 = .ok (.if_icmp .ge 22, 3) := by decide +kernel
theorem dX7_lays_159 : decode cX7_lays 159 = .ok (.aload_n 0, 1) := by decide +kernel
theorem dX7_lays_160 : decode cX7_lays 160 = .ok (.getfield 41, 3) := by decide +kernel
theorem dX7_lays_163 : decode cX7_lays 163 = .ok (.iload_n 1, 1) := by decide +kernel
theorem dX7_lays_164 : decode cX7_lays 164 = .ok (.laload, 1) := by decide +kernel
theorem dX7_lays_165 : decode cX7_lays 165 = .ok (.invokestatic 82, 3) := by decide +kernel
theorem dX7_lays_168 : decode cX7_lays 168 = .ok (.iload_n 2, 1) := by decide +kernel
theorem dX7_lays_169 : decode cX7_lays 169 = .ok (.if_icmp .ge 9, 3) := by decide +kernel
theorem dX7_lays_172 : decode cX7_lays 172 = .ok (.iinc 1 1, 3) := by decide +kernel
theorem dX7_lays_175 : decode cX7_lays 175 = .ok (.goto (-24), 3) := by decide +kernel
theorem dX7_lays_178 : decode cX7_lays 178 = .ok (.aload_n 0, 1) := by decide +kernel
theorem dX7_lays_179 : decode cX7_lays 179 = .ok (.getfield 47, 3) := by decide +kernel
theorem dX7_lays_182 : decode cX7_lays 182 = .ok (.iload_n 2, 1) := by decide +kernel
theorem dX7_lays_183 : decode cX7_lays 183 = .ok (.iload_n 1, 1) := by decide +kernel
theorem dX7_lays_184 : decode cX7_lays 184 = .ok (.iastore, 1) := by decide +kernel
theorem dX7_lays_185 : decode cX7_lays 185 = .ok (.iinc 2 1, 3) := by decide +kernel
theorem dX7_lays_188 : decode cX7_lays 188 = .ok (.goto (-43), 3) := by decide +kernel
theorem dX7_lays_191 : decode cX7_lays 191 = .ok (.return_, 1) := by decide +kernel
theorem dX7_isPart_0 : decode cX7_isPart 0 = .ok (.lload_n 1, 1) := by decide +kernel
theorem dX7_isPart_1 : decode cX7_isPart 1 = .ok (.lconst 0, 1) := by decide +kernel
theorem dX7_isPart_2 : decode cX7_isPart 2 = .ok (.lcmp, 1) := by decide +kernel
theorem dX7_isPart_3 : decode cX7_isPart 3 = .ok (.ifCond .ne 5, 3) := by decide +kernel
theorem dX7_isPart_6 : decode cX7_isPart 6 = .ok (.iconst 0, 1) := by decide +kernel
theorem dX7_isPart_7 : decode cX7_isPart 7 = .ok (.ireturn, 1) := by decide +kernel
theorem dX7_isPart_8 : decode cX7_isPart 8 = .ok (.lload_n 1, 1) := by decide +kernel
theorem dX7_isPart_9 : decode cX7_isPart 9 = .ok (.invokestatic 82, 3) := by decide +kernel
theorem dX7_isPart_12 : decode cX7_isPart 12 = .ok (.istore_n 3, 1) := by decide +kernel
theorem dX7_isPart_13 : decode cX7_isPart 13 = .ok (.aload_n 0, 1) := by decide +kernel
theorem dX7_isPart_14 : decode cX7_isPart 14 = .ok (.getfield 47, 3) := by decide +kernel
theorem dX7_isPart_17 : decode cX7_isPart 17 = .ok (.iload_n 3, 1) := by decide +kernel
theorem dX7_isPart_18 : decode cX7_isPart 18 = .ok (.iaload, 1) := by decide +kernel
theorem dX7_isPart_19 : decode cX7_isPart 19 = .ok (.istore 4, 2) := by decide +kernel
theorem dX7_isPart_21 : decode cX7_isPart 21 = .ok (.iload 4, 2) := by decide +kernel
theorem dX7_isPart_23 : decode cX7_isPart 23 = .ok (.aload_n 0, 1) := by decide +kernel
theorem dX7_isPart_24 : decode cX7_isPart 24 = .ok (.getfield 47, 3) := by decide +kernel
theorem dX7_isPart_27 : decode cX7_isPart 27 = .ok (.iload_n 3, 1) := by decide +kernel
theorem dX7_isPart_28 : decode cX7_isPart 28 = .ok (.iconst 1, 1) := by decide +kernel
theorem dX7_isPart_29 : decode cX7_isPart 29 = .ok (.iadd, 1) := by decide +kernel
theorem dX7_isPart_30 : decode cX7_isPart 30 = .ok (.iaload, 1) := by decide +kernel
theorem dX7_isPart_31 : decode cX7_isPart 31 = .ok (.if_icmp .ge 23, 3) := by decide +kernel
theorem dX7_isPart_34 : decode cX7_isPart 34 = .ok (.aload_n 0, 1) := by decide +kernel
theorem dX7_isPart_35 : decode cX7_isPart 35 = .ok (.getfield 41, 3) := by decide +kernel
theorem dX7_isPart_38 : decode cX7_isPart 38 = .ok (.iload 4, 2) := by decide +kernel
theorem dX7_isPart_40 : decode cX7_isPart 40 = .ok (.laload, 1) := by decide +kernel
theorem dX7_isPart_41 : decode cX7_isPart 41 = .ok (.lload_n 1, 1) := by decide +kernel
theorem dX7_isPart_42 : decode cX7_isPart 42 = .ok (.lcmp, 1) := by decide +kernel
theorem dX7_isPart_43 : decode cX7_isPart 43 = .ok (.ifCond .ne 5, 3) := by decide +kernel
theorem dX7_isPart_46 : decode cX7_isPart 46 = .ok (.iconst 1, 1) := by decide +kernel
theorem dX7_isPart_47 : decode cX7_isPart 47 = .ok (.ireturn, 1) := by decide +kernel
theorem dX7_isPart_48 : decode cX7_isPart 48 = .ok (.iinc 4 1, 3) := by decide +kernel
theorem dX7_isPart_51 : decode cX7_isPart 51 = .ok (.goto (-30), 3) := by decide +kernel
theorem dX7_isPart_54 : decode cX7_isPart 54 = .ok (.iconst 0, 1) := by decide +kernel
theorem dX7_isPart_55 : decode cX7_isPart 55 = .ok (.ireturn, 1) := by decide +kernel
theorem dX7_partsOf_0 : decode cX7_partsOf 0 = .ok (.aload_n 0, 1) := by decide +kernel
theorem dX7_partsOf_1 : decode cX7_partsOf 1 = .ok (.invokevirtual 265, 3) := by decide +kernel
theorem dX7_partsOf_4 : decode cX7_partsOf 4 = .ok (.iconst 0, 1) := by decide +kernel
theorem dX7_partsOf_5 : decode cX7_partsOf 5 = .ok (.istore_n 3, 1) := by decide +kernel
theorem dX7_partsOf_6 : decode cX7_partsOf 6 = .ok (.iconst 0, 1) := by decide +kernel
theorem dX7_partsOf_7 : decode cX7_partsOf 7 = .ok (.istore 4, 2) := by decide +kernel
theorem dX7_partsOf_9 : decode cX7_partsOf 9 = .ok (.iload 4, 2) := by decide +kernel
theorem dX7_partsOf_11 : decode cX7_partsOf 11 = .ok (.aload_n 0, 1) := by decide +kernel
theorem dX7_partsOf_12 : decode cX7_partsOf 12 = .ok (.getfield 241, 3) := by decide +kernel
theorem dX7_partsOf_15 : decode cX7_partsOf 15 = .ok (.if_icmp .ge 35, 3) := by decide +kernel
theorem dX7_partsOf_18 : decode cX7_partsOf 18 = .ok (.iload_n 3, 1) := by decide +kernel
theorem dX7_partsOf_19 : decode cX7_partsOf 19 = .ok (.aload_n 0, 1) := by decide +kernel
theorem dX7_partsOf_20 : decode cX7_partsOf 20 = .ok (.getfield 41, 3) := by decide +kernel
theorem dX7_partsOf_23 : decode cX7_partsOf 23 = .ok (.iload 4, 2) := by decide +kernel
theorem dX7_partsOf_25 : decode cX7_partsOf 25 = .ok (.laload, 1) := by decide +kernel
theorem dX7_partsOf_26 : decode cX7_partsOf 26 = .ok (.lload_n 1, 1) := by decide +kernel
theorem dX7_partsOf_27 : decode cX7_partsOf 27 = .ok (.ldc2_w 165, 3) := by decide +kernel
theorem dX7_partsOf_30 : decode cX7_partsOf 30 = .ok (.lxor, 1) := by decide +kernel
theorem dX7_partsOf_31 : decode cX7_partsOf 31 = .ok (.land, 1) := by decide +kernel
theorem dX7_partsOf_32 : decode cX7_partsOf 32 = .ok (.lconst 0, 1) := by decide +kernel
theorem dX7_partsOf_33 : decode cX7_partsOf 33 = .ok (.lcmp, 1) := by decide +kernel
theorem dX7_partsOf_34 : decode cX7_partsOf 34 = .ok (.ifCond .ne 7, 3) := by decide +kernel
theorem dX7_partsOf_37 : decode cX7_partsOf 37 = .ok (.iconst 1, 1) := by decide +kernel
theorem dX7_partsOf_38 : decode cX7_partsOf 38 = .ok (.goto 4, 3) := by decide +kernel
theorem dX7_partsOf_41 : decode cX7_partsOf 41 = .ok (.iconst 0, 1) := by decide +kernel
theorem dX7_partsOf_42 : decode cX7_partsOf 42 = .ok (.iadd, 1) := by decide +kernel
theorem dX7_partsOf_43 : decode cX7_partsOf 43 = .ok (.istore_n 3, 1) := by decide +kernel
theorem dX7_partsOf_44 : decode cX7_partsOf 44 = .ok (.iinc 4 1, 3) := by decide +kernel
theorem dX7_partsOf_47 : decode cX7_partsOf 47 = .ok (.goto (-38), 3) := by decide +kernel
theorem dX7_partsOf_50 : decode cX7_partsOf 50 = .ok (.iload_n 3, 1) := by decide +kernel
theorem dX7_partsOf_51 : decode cX7_partsOf 51 = .ok (.ireturn, 1) := by decide +kernel
theorem dX7_remembers_0 : decode cX7_remembers 0 = .ok (.aload_n 0, 1) := by decide +kernel
theorem dX7_remembers_1 : decode cX7_remembers 1 = .ok (.getfield 268, 3) := by decide +kernel
theorem dX7_remembers_4 : decode cX7_remembers 4 = .ok (.bipush 8, 2) := by decide +kernel
theorem dX7_remembers_6 : decode cX7_remembers 6 = .ok (.if_icmp .ne 44, 3) := by decide +kernel
theorem dX7_remembers_9 : decode cX7_remembers 9 = .ok (.iconst 1, 1) := by decide +kernel
theorem dX7_remembers_10 : decode cX7_remembers 10 = .ok (.istore_n 1, 1) := by decide +kernel
theorem dX7_remembers_11 : decode cX7_remembers 11 = .ok (.iload_n 1, 1) := by decide +kernel
theorem dX7_remembers_12 : decode cX7_remembers 12 = .ok (.bipush 8, 2) := by decide +kernel
theorem dX7_remembers_14 : decode cX7_remembers 14 = .ok (.if_icmp .ge 26, 3) := by decide +kernel
theorem dX7_remembers_17 : decode cX7_remembers 17 = .ok (.aload_n 0, 1) := by decide +kernel
theorem dX7_remembers_18 : decode cX7_remembers 18 = .ok (.getfield 29, 3) := by decide +kernel
theorem dX7_remembers_21 : decode cX7_remembers 21 = .ok (.iload_n 1, 1) := by decide +kernel
theorem dX7_remembers_22 : decode cX7_remembers 22 = .ok (.aaload, 1) := by decide +kernel
theorem dX7_remembers_23 : decode cX7_remembers 23 = .ok (.aload_n 0, 1) := by decide +kernel
theorem dX7_remembers_24 : decode cX7_remembers 24 = .ok (.getfield 29, 3) := by decide +kernel
theorem dX7_remembers_27 : decode cX7_remembers 27 = .ok (.iload_n 1, 1) := by decide +kernel
theorem dX7_remembers_28 : decode cX7_remembers 28 = .ok (.iconst 1, 1) := by decide +kernel
theorem dX7_remembers_29 : decode cX7_remembers 29 = .ok (.isub, 1) := by decide +kernel
theorem dX7_remembers_30 : decode cX7_remembers 30 = .ok (.aaload, 1) := by decide +kernel
theorem dX7_remembers_31 : decode cX7_remembers 31 = .ok (.invokestatic 221, 3) := by decide +kernel
theorem dX7_remembers_34 : decode cX7_remembers 34 = .ok (.iinc 1 1, 3) := by decide +kernel
theorem dX7_remembers_37 : decode cX7_remembers 37 = .ok (.goto (-26), 3) := by decide +kernel
theorem dX7_remembers_40 : decode cX7_remembers 40 = .ok (.aload_n 0, 1) := by decide +kernel
theorem dX7_remembers_41 : decode cX7_remembers 41 = .ok (.dup, 1) := by decide +kernel
theorem dX7_remembers_42 : decode cX7_remembers 42 = .ok (.getfield 268, 3) := by decide +kernel
theorem dX7_remembers_45 : decode cX7_remembers 45 = .ok (.iconst 1, 1) := by decide +kernel
theorem dX7_remembers_46 : decode cX7_remembers 46 = .ok (.isub, 1) := by decide +kernel
theorem dX7_remembers_47 : decode cX7_remembers 47 = .ok (.putfield 268, 3) := by decide +kernel
theorem dX7_remembers_50 : decode cX7_remembers 50 = .ok (.aload_n 0, 1) := by decide +kernel
theorem dX7_remembers_51 : decode cX7_remembers 51 = .ok (.getfield 20, 3) := by decide +kernel
theorem dX7_remembers_54 : decode cX7_remembers 54 = .ok (.aload_n 0, 1) := by decide +kernel
theorem dX7_remembers_55 : decode cX7_remembers 55 = .ok (.getfield 29, 3) := by decide +kernel
theorem dX7_remembers_58 : decode cX7_remembers 58 = .ok (.aload_n 0, 1) := by decide +kernel
theorem dX7_remembers_59 : decode cX7_remembers 59 = .ok (.getfield 268, 3) := by decide +kernel
theorem dX7_remembers_62 : decode cX7_remembers 62 = .ok (.aaload, 1) := by decide +kernel
theorem dX7_remembers_63 : decode cX7_remembers 63 = .ok (.invokestatic 221, 3) := by decide +kernel
theorem dX7_remembers_66 : decode cX7_remembers 66 = .ok (.aload_n 0, 1) := by decide +kernel
theorem dX7_remembers_67 : decode cX7_remembers 67 = .ok (.dup, 1) := by decide +kernel
theorem dX7_remembers_68 : decode cX7_remembers 68 = .ok (.getfield 268, 3) := by decide +kernel
theorem dX7_remembers_71 : decode cX7_remembers 71 = .ok (.iconst 1, 1) := by decide +kernel
theorem dX7_remembers_72 : decode cX7_remembers 72 = .ok (.iadd, 1) := by decide +kernel
theorem dX7_remembers_73 : decode cX7_remembers 73 = .ok (.putfield 268, 3) := by decide +kernel
theorem dX7_remembers_76 : decode cX7_remembers 76 = .ok (.return_, 1) := by decide +kernel
theorem dX7_undo_0 : decode cX7_undo 0 = .ok (.aload_n 0, 1) := by decide +kernel
theorem dX7_undo_1 : decode cX7_undo 1 = .ok (.iconst 0, 1) := by decide +kernel
theorem dX7_undo_2 : decode cX7_undo 2 = .ok (.putfield 63, 3) := by decide +kernel
theorem dX7_undo_5 : decode cX7_undo 5 = .ok (.aload_n 0, 1) := by decide +kernel
theorem dX7_undo_6 : decode cX7_undo 6 = .ok (.getfield 268, 3) := by decide +kernel
theorem dX7_undo_9 : decode cX7_undo 9 = .ok (.ifCond .ne 5, 3) := by decide +kernel
theorem dX7_undo_12 : decode cX7_undo 12 = .ok (.iconst (-1), 1) := by decide +kernel
theorem dX7_undo_13 : decode cX7_undo 13 = .ok (.ireturn, 1) := by decide +kernel
theorem dX7_undo_14 : decode cX7_undo 14 = .ok (.aload_n 0, 1) := by decide +kernel
theorem dX7_undo_15 : decode cX7_undo 15 = .ok (.dup, 1) := by decide +kernel
theorem dX7_undo_16 : decode cX7_undo 16 = .ok (.getfield 268, 3) := by decide +kernel
theorem dX7_undo_19 : decode cX7_undo 19 = .ok (.iconst 1, 1) := by decide +kernel
theorem dX7_undo_20 : decode cX7_undo 20 = .ok (.isub, 1) := by decide +kernel
theorem dX7_undo_21 : decode cX7_undo 21 = .ok (.putfield 268, 3) := by decide +kernel
theorem dX7_undo_24 : decode cX7_undo 24 = .ok (.aload_n 0, 1) := by decide +kernel
theorem dX7_undo_25 : decode cX7_undo 25 = .ok (.getfield 29, 3) := by decide +kernel
theorem dX7_undo_28 : decode cX7_undo 28 = .ok (.aload_n 0, 1) := by decide +kernel
theorem dX7_undo_29 : decode cX7_undo 29 = .ok (.getfield 268, 3) := by decide +kernel
theorem dX7_undo_32 : decode cX7_undo 32 = .ok (.aaload, 1) := by decide +kernel
theorem dX7_undo_33 : decode cX7_undo 33 = .ok (.aload_n 0, 1) := by decide +kernel
theorem dX7_undo_34 : decode cX7_undo 34 = .ok (.getfield 20, 3) := by decide +kernel
theorem dX7_undo_37 : decode cX7_undo 37 = .ok (.invokestatic 221, 3) := by decide +kernel
theorem dX7_undo_40 : decode cX7_undo 40 = .ok (.aload_n 0, 1) := by decide +kernel
theorem dX7_undo_41 : decode cX7_undo 41 = .ok (.getfield 268, 3) := by decide +kernel
theorem dX7_undo_44 : decode cX7_undo 44 = .ok (.ireturn, 1) := by decide +kernel
theorem dX7_put_0 : decode cX7_put 0 = .ok (.aload_n 0, 1) := by decide +kernel
theorem dX7_put_1 : decode cX7_put 1 = .ok (.iconst 0, 1) := by decide +kernel
theorem dX7_put_2 : decode cX7_put 2 = .ok (.putfield 63, 3) := by decide +kernel
theorem dX7_put_5 : decode cX7_put 5 = .ok (.aload_n 0, 1) := by decide +kernel
theorem dX7_put_6 : decode cX7_put 6 = .ok (.iconst 0, 1) := by decide +kernel
theorem dX7_put_7 : decode cX7_put 7 = .ok (.putfield 85, 3) := by decide +kernel
theorem dX7_put_10 : decode cX7_put 10 = .ok (.iconst 0, 1) := by decide +kernel
theorem dX7_put_11 : decode cX7_put 11 = .ok (.istore 6, 2) := by decide +kernel
theorem dX7_put_13 : decode cX7_put 13 = .ok (.iconst 1, 1) := by decide +kernel
theorem dX7_put_14 : decode cX7_put 14 = .ok (.istore 7, 2) := by decide +kernel
theorem dX7_put_16 : decode cX7_put 16 = .ok (.iconst 0, 1) := by decide +kernel
theorem dX7_put_17 : decode cX7_put 17 = .ok (.istore 8, 2) := by decide +kernel
theorem dX7_put_19 : decode cX7_put 19 = .ok (.iload 8, 2) := by decide +kernel
theorem dX7_put_21 : decode cX7_put 21 = .ok (.iconst 5, 1) := by decide +kernel
theorem dX7_put_22 : decode cX7_put 22 = .ok (.if_icmp .ge 123, 3) := by decide +kernel
theorem dX7_put_25 : decode cX7_put 25 = .ok (.iload 8, 2) := by decide +kernel
theorem dX7_put_27 : decode cX7_put 27 = .ok (.ifCond .ne 7, 3) := by decide +kernel
theorem dX7_put_30 : decode cX7_put 30 = .ok (.iload_n 1, 1) := by decide +kernel
theorem dX7_put_31 : decode cX7_put 31 = .ok (.goto 36, 3) := by decide +kernel
theorem dX7_put_34 : decode cX7_put 34 = .ok (.iload 8, 2) := by decide +kernel
theorem dX7_put_36 : decode cX7_put 36 = .ok (.iconst 1, 1) := by decide +kernel
theorem dX7_put_37 : decode cX7_put 37 = .ok (.if_icmp .ne 7, 3) := by decide +kernel
theorem dX7_put_40 : decode cX7_put 40 = .ok (.iload_n 2, 1) := by decide +kernel
theorem dX7_put_41 : decode cX7_put 41 = .ok (.goto 26, 3) := by decide +kernel
theorem dX7_put_44 : decode cX7_put 44 = .ok (.iload 8, 2) := by decide +kernel
theorem dX7_put_46 : decode cX7_put 46 = .ok (.iconst 2, 1) := by decide +kernel
theorem dX7_put_47 : decode cX7_put 47 = .ok (.if_icmp .ne 7, 3) := by decide +kernel
theorem dX7_put_50 : decode cX7_put 50 = .ok (.iload_n 3, 1) := by decide +kernel
theorem dX7_put_51 : decode cX7_put 51 = .ok (.goto 16, 3) := by decide +kernel
theorem dX7_put_54 : decode cX7_put 54 = .ok (.iload 8, 2) := by decide +kernel
theorem dX7_put_56 : decode cX7_put 56 = .ok (.iconst 3, 1) := by decide +kernel
theorem dX7_put_57 : decode cX7_put 57 = .ok (.if_icmp .ne 8, 3) := by decide +kernel
theorem dX7_put_60 : decode cX7_put 60 = .ok (.iload 4, 2) := by decide +kernel
theorem dX7_put_62 : decode cX7_put 62 = .ok (.goto 5, 3) := by decide +kernel
theorem dX7_put_65 : decode cX7_put 65 = .ok (.iload 5, 2) := by decide +kernel
theorem dX7_put_67 : decode cX7_put 67 = .ok (.istore 9, 2) := by decide +kernel
theorem dX7_put_69 : decode cX7_put 69 = .ok (.iload 7, 2) := by decide +kernel
theorem dX7_put_71 : decode cX7_put 71 = .ok (.ifCond .eq 18, 3) := by decide +kernel
theorem dX7_put_74 : decode cX7_put 74 = .ok (.iload 6, 2) := by decide +kernel
theorem dX7_put_76 : decode cX7_put 76 = .ok (.ifCond .eq 9, 3) := by decide +kernel
theorem dX7_put_79 : decode cX7_put 79 = .ok (.iload 9, 2) := by decide +kernel
theorem dX7_put_81 : decode cX7_put 81 = .ok (.iconst (-1), 1) := by decide +kernel
theorem dX7_put_82 : decode cX7_put 82 = .ok (.if_icmp .ne 7, 3) := by decide +kernel
theorem dX7_put_85 : decode cX7_put 85 = .ok (.iconst 1, 1) := by decide +kernel
theorem dX7_put_86 : decode cX7_put 86 = .ok (.goto 4, 3) := by decide +kernel
theorem dX7_put_89 : decode cX7_put 89 = .ok (.iconst 0, 1) := by decide +kernel
theorem dX7_put_90 : decode cX7_put 90 = .ok (.istore 7, 2) := by decide +kernel
theorem dX7_put_92 : decode cX7_put 92 = .ok (.iload 6, 2) := by decide +kernel
theorem dX7_put_94 : decode cX7_put 94 = .ok (.ifCond .ne 9, 3) := by decide +kernel
theorem dX7_put_97 : decode cX7_put 97 = .ok (.iload 9, 2) := by decide +kernel
theorem dX7_put_99 : decode cX7_put 99 = .ok (.iconst (-1), 1) := by decide +kernel
theorem dX7_put_100 : decode cX7_put 100 = .ok (.if_icmp .ne 7, 3) := by decide +kernel
theorem dX7_put_103 : decode cX7_put 103 = .ok (.iconst 1, 1) := by decide +kernel
theorem dX7_put_104 : decode cX7_put 104 = .ok (.goto 4, 3) := by decide +kernel
theorem dX7_put_107 : decode cX7_put 107 = .ok (.iconst 0, 1) := by decide +kernel
theorem dX7_put_108 : decode cX7_put 108 = .ok (.istore 6, 2) := by decide +kernel
theorem dX7_put_110 : decode cX7_put 110 = .ok (.iload 6, 2) := by decide +kernel
theorem dX7_put_112 : decode cX7_put 112 = .ok (.ifCond .eq 6, 3) := by decide +kernel
theorem dX7_put_115 : decode cX7_put 115 = .ok (.goto 24, 3) := by decide +kernel
theorem dX7_put_118 : decode cX7_put 118 = .ok (.aload_n 0, 1) := by decide +kernel
theorem dX7_put_119 : decode cX7_put 119 = .ok (.getfield 32, 3) := by decide +kernel
theorem dX7_put_122 : decode cX7_put 122 = .ok (.aload_n 0, 1) := by decide +kernel
theorem dX7_put_123 : decode cX7_put 123 = .ok (.getfield 85, 3) := by decide +kernel
theorem dX7_put_126 : decode cX7_put 126 = .ok (.iload 9, 2) := by decide +kernel
theorem dX7_put_128 : decode cX7_put 128 = .ok (.iastore, 1) := by decide +kernel
theorem dX7_put_129 : decode cX7_put 129 = .ok (.aload_n 0, 1) := by decide +kernel
theorem dX7_put_130 : decode cX7_put 130 = .ok (.dup, 1) := by decide +kernel
theorem dX7_put_131 : decode cX7_put 131 = .ok (.getfield 85, 3) := by decide +kernel
theorem dX7_put_134 : decode cX7_put 134 = .ok (.iconst 1, 1) := by decide +kernel
theorem dX7_put_135 : decode cX7_put 135 = .ok (.iadd, 1) := by decide +kernel
theorem dX7_put_136 : decode cX7_put 136 = .ok (.putfield 85, 3) := by decide +kernel
theorem dX7_put_139 : decode cX7_put 139 = .ok (.iinc 8 1, 3) := by decide +kernel
theorem dX7_put_142 : decode cX7_put 142 = .ok (.goto (-123), 3) := by decide +kernel
theorem dX7_put_145 : decode cX7_put 145 = .ok (.iload 7, 2) := by decide +kernel
theorem dX7_put_147 : decode cX7_put 147 = .ok (.ifCond .eq 14, 3) := by decide +kernel
theorem dX7_put_150 : decode cX7_put 150 = .ok (.aload_n 0, 1) := by decide +kernel
theorem dX7_put_151 : decode cX7_put 151 = .ok (.aload_n 0, 1) := by decide +kernel
theorem dX7_put_152 : decode cX7_put 152 = .ok (.getfield 20, 3) := by decide +kernel
theorem dX7_put_155 : decode cX7_put 155 = .ok (.invokevirtual 202, 3) := by decide +kernel
theorem dX7_put_158 : decode cX7_put 158 = .ok (.goto 4, 3) := by decide +kernel
theorem dX7_put_161 : decode cX7_put 161 = .ok (.lconst 0, 1) := by decide +kernel
theorem dX7_put_162 : decode cX7_put 162 = .ok (.lstore 8, 2) := by decide +kernel
theorem dX7_put_164 : decode cX7_put 164 = .ok (.aload_n 0, 1) := by decide +kernel
theorem dX7_put_165 : decode cX7_put 165 = .ok (.lload 8, 2) := by decide +kernel
theorem dX7_put_167 : decode cX7_put 167 = .ok (.lconst 0, 1) := by decide +kernel
theorem dX7_put_168 : decode cX7_put 168 = .ok (.lcmp, 1) := by decide +kernel
theorem dX7_put_169 : decode cX7_put 169 = .ok (.ifCond .ne 7, 3) := by decide +kernel
theorem dX7_put_172 : decode cX7_put 172 = .ok (.iconst 1, 1) := by decide +kernel
theorem dX7_put_173 : decode cX7_put 173 = .ok (.goto 4, 3) := by decide +kernel
theorem dX7_put_176 : decode cX7_put 176 = .ok (.iconst 0, 1) := by decide +kernel
theorem dX7_put_177 : decode cX7_put 177 = .ok (.iconst 1, 1) := by decide +kernel
theorem dX7_put_178 : decode cX7_put 178 = .ok (.iconst 1, 1) := by decide +kernel
theorem dX7_put_179 : decode cX7_put 179 = .ok (.invokevirtual 206, 3) := by decide +kernel
theorem dX7_put_182 : decode cX7_put 182 = .ok (.ifCond .ne 33, 3) := by decide +kernel
theorem dX7_put_185 : decode cX7_put 185 = .ok (.aload_n 0, 1) := by decide +kernel
theorem dX7_put_186 : decode cX7_put 186 = .ok (.lload 8, 2) := by decide +kernel
theorem dX7_put_188 : decode cX7_put 188 = .ok (.aload_n 0, 1) := by decide +kernel
theorem dX7_put_189 : decode cX7_put 189 = .ok (.invokevirtual 225, 3) := by decide +kernel
theorem dX7_put_192 : decode cX7_put 192 = .ok (.ldc2_w 165, 3) := by decide +kernel
theorem dX7_put_195 : decode cX7_put 195 = .ok (.lxor, 1) := by decide +kernel
theorem dX7_put_196 : decode cX7_put 196 = .ok (.land, 1) := by decide +kernel
theorem dX7_put_197 : decode cX7_put 197 = .ok (.lconst 0, 1) := by decide +kernel
theorem dX7_put_198 : decode cX7_put 198 = .ok (.lcmp, 1) := by decide +kernel
theorem dX7_put_199 : decode cX7_put 199 = .ok (.ifCond .eq 7, 3) := by decide +kernel
theorem dX7_put_202 : decode cX7_put 202 = .ok (.iconst 1, 1) := by decide +kernel
theorem dX7_put_203 : decode cX7_put 203 = .ok (.goto 4, 3) := by decide +kernel
theorem dX7_put_206 : decode cX7_put 206 = .ok (.iconst 0, 1) := by decide +kernel
theorem dX7_put_207 : decode cX7_put 207 = .ok (.iconst 2, 1) := by decide +kernel
theorem dX7_put_208 : decode cX7_put 208 = .ok (.iconst 2, 1) := by decide +kernel
theorem dX7_put_209 : decode cX7_put 209 = .ok (.invokevirtual 206, 3) := by decide +kernel
theorem dX7_put_212 : decode cX7_put 212 = .ok (.ifCond .eq 5, 3) := by decide +kernel
theorem dX7_put_215 : decode cX7_put 215 = .ok (.iconst 0, 1) := by decide +kernel
theorem dX7_put_216 : decode cX7_put 216 = .ok (.ireturn, 1) := by decide +kernel
theorem dX7_put_217 : decode cX7_put 217 = .ok (.aload_n 0, 1) := by decide +kernel
theorem dX7_put_218 : decode cX7_put 218 = .ok (.invokevirtual 218, 3) := by decide +kernel
theorem dX7_put_221 : decode cX7_put 221 = .ok (.aload_n 0, 1) := by decide +kernel
theorem dX7_put_222 : decode cX7_put 222 = .ok (.lload 8, 2) := by decide +kernel
theorem dX7_put_224 : decode cX7_put 224 = .ok (.invokevirtual 271, 3) := by decide +kernel
theorem dX7_put_227 : decode cX7_put 227 = .ok (.aload_n 0, 1) := by decide +kernel
theorem dX7_put_228 : decode cX7_put 228 = .ok (.invokevirtual 232, 3) := by decide +kernel
theorem dX7_put_231 : decode cX7_put 231 = .ok (.ireturn, 1) := by decide +kernel
theorem dX7_comes_0 : decode cX7_comes 0 = .ok (.aload_n 0, 1) := by decide +kernel
theorem dX7_comes_1 : decode cX7_comes 1 = .ok (.getfield 20, 3) := by decide +kernel
theorem dX7_comes_4 : decode cX7_comes 4 = .ok (.bipush 30, 2) := by decide +kernel
theorem dX7_comes_6 : decode cX7_comes 6 = .ok (.aload_n 0, 1) := by decide +kernel
theorem dX7_comes_7 : decode cX7_comes 7 = .ok (.invokevirtual 232, 3) := by decide +kernel
theorem dX7_comes_10 : decode cX7_comes 10 = .ok (.iadd, 1) := by decide +kernel
theorem dX7_comes_11 : decode cX7_comes 11 = .ok (.lload_n 1, 1) := by decide +kernel
theorem dX7_comes_12 : decode cX7_comes 12 = .ok (.lastore, 1) := by decide +kernel
theorem dX7_comes_13 : decode cX7_comes 13 = .ok (.aload_n 0, 1) := by decide +kernel
theorem dX7_comes_14 : decode cX7_comes 14 = .ok (.getfield 20, 3) := by decide +kernel
theorem dX7_comes_17 : decode cX7_comes 17 = .ok (.iconst 3, 1) := by decide +kernel
theorem dX7_comes_18 : decode cX7_comes 18 = .ok (.dup2, 1) := by decide +kernel
theorem dX7_comes_19 : decode cX7_comes 19 = .ok (.laload, 1) := by decide +kernel
theorem dX7_comes_20 : decode cX7_comes 20 = .ok (.lconst 1, 1) := by decide +kernel
theorem dX7_comes_21 : decode cX7_comes 21 = .ok (.ladd, 1) := by decide +kernel
theorem dX7_comes_22 : decode cX7_comes 22 = .ok (.lastore, 1) := by decide +kernel
theorem dX7_comes_23 : decode cX7_comes 23 = .ok (.return_, 1) := by decide +kernel
theorem dX7_isThere_0 : decode cX7_isThere 0 = .ok (.iload_n 1, 1) := by decide +kernel
theorem dX7_isThere_1 : decode cX7_isThere 1 = .ok (.i2l, 1) := by decide +kernel
theorem dX7_isThere_2 : decode cX7_isThere 2 = .ok (.lconst 0, 1) := by decide +kernel
theorem dX7_isThere_3 : decode cX7_isThere 3 = .ok (.aload_n 0, 1) := by decide +kernel
theorem dX7_isThere_4 : decode cX7_isThere 4 = .ok (.invokevirtual 232, 3) := by decide +kernel
theorem dX7_isThere_7 : decode cX7_isThere 7 = .ok (.iconst 1, 1) := by decide +kernel
theorem dX7_isThere_8 : decode cX7_isThere 8 = .ok (.isub, 1) := by decide +kernel
theorem dX7_isThere_9 : decode cX7_isThere 9 = .ok (.i2l, 1) := by decide +kernel
theorem dX7_isThere_10 : decode cX7_isThere 10 = .ok (.invokestatic 92, 3) := by decide +kernel
theorem dX7_isThere_13 : decode cX7_isThere 13 = .ok (.ireturn, 1) := by decide +kernel
theorem dX7_take_0 : decode cX7_take 0 = .ok (.aload_n 0, 1) := by decide +kernel
theorem dX7_take_1 : decode cX7_take 1 = .ok (.iconst 0, 1) := by decide +kernel
theorem dX7_take_2 : decode cX7_take 2 = .ok (.putfield 63, 3) := by decide +kernel
theorem dX7_take_5 : decode cX7_take 5 = .ok (.aload_n 0, 1) := by decide +kernel
theorem dX7_take_6 : decode cX7_take 6 = .ok (.aload_n 0, 1) := by decide +kernel
theorem dX7_take_7 : decode cX7_take 7 = .ok (.iload_n 1, 1) := by decide +kernel
theorem dX7_take_8 : decode cX7_take 8 = .ok (.invokevirtual 275, 3) := by decide +kernel
theorem dX7_take_11 : decode cX7_take 11 = .ok (.ifCond .ne 7, 3) := by decide +kernel
theorem dX7_take_14 : decode cX7_take 14 = .ok (.iconst 1, 1) := by decide +kernel
theorem dX7_take_15 : decode cX7_take 15 = .ok (.goto 4, 3) := by decide +kernel
theorem dX7_take_18 : decode cX7_take 18 = .ok (.iconst 0, 1) := by decide +kernel
theorem dX7_take_19 : decode cX7_take 19 = .ok (.iconst 1, 1) := by decide +kernel
theorem dX7_take_20 : decode cX7_take 20 = .ok (.iconst 0, 1) := by decide +kernel
theorem dX7_take_21 : decode cX7_take 21 = .ok (.invokevirtual 206, 3) := by decide +kernel
theorem dX7_take_24 : decode cX7_take 24 = .ok (.ifCond .eq 5, 3) := by decide +kernel
theorem dX7_take_27 : decode cX7_take 27 = .ok (.iconst 0, 1) := by decide +kernel
theorem dX7_take_28 : decode cX7_take 28 = .ok (.ireturn, 1) := by decide +kernel
theorem dX7_take_29 : decode cX7_take 29 = .ok (.aload_n 0, 1) := by decide +kernel
theorem dX7_take_30 : decode cX7_take 30 = .ok (.invokevirtual 218, 3) := by decide +kernel
theorem dX7_take_33 : decode cX7_take 33 = .ok (.aload_n 0, 1) := by decide +kernel
theorem dX7_take_34 : decode cX7_take 34 = .ok (.getfield 20, 3) := by decide +kernel
theorem dX7_take_37 : decode cX7_take 37 = .ok (.iconst 3, 1) := by decide +kernel
theorem dX7_take_38 : decode cX7_take 38 = .ok (.dup2, 1) := by decide +kernel
theorem dX7_take_39 : decode cX7_take 39 = .ok (.laload, 1) := by decide +kernel
theorem dX7_take_40 : decode cX7_take 40 = .ok (.lconst 1, 1) := by decide +kernel
theorem dX7_take_41 : decode cX7_take 41 = .ok (.lsub, 1) := by decide +kernel
theorem dX7_take_42 : decode cX7_take 42 = .ok (.lastore, 1) := by decide +kernel
theorem dX7_take_43 : decode cX7_take 43 = .ok (.iload_n 1, 1) := by decide +kernel
theorem dX7_take_44 : decode cX7_take 44 = .ok (.istore_n 2, 1) := by decide +kernel
theorem dX7_take_45 : decode cX7_take 45 = .ok (.iload_n 2, 1) := by decide +kernel
theorem dX7_take_46 : decode cX7_take 46 = .ok (.aload_n 0, 1) := by decide +kernel
theorem dX7_take_47 : decode cX7_take 47 = .ok (.invokevirtual 232, 3) := by decide +kernel
theorem dX7_take_50 : decode cX7_take 50 = .ok (.if_icmp .ge 29, 3) := by decide +kernel
theorem dX7_take_53 : decode cX7_take 53 = .ok (.aload_n 0, 1) := by decide +kernel
theorem dX7_take_54 : decode cX7_take 54 = .ok (.getfield 20, 3) := by decide +kernel
theorem dX7_take_57 : decode cX7_take 57 = .ok (.bipush 30, 2) := by decide +kernel
theorem dX7_take_59 : decode cX7_take 59 = .ok (.iload_n 2, 1) := by decide +kernel
theorem dX7_take_60 : decode cX7_take 60 = .ok (.iadd, 1) := by decide +kernel
theorem dX7_take_61 : decode cX7_take 61 = .ok (.aload_n 0, 1) := by decide +kernel
theorem dX7_take_62 : decode cX7_take 62 = .ok (.getfield 20, 3) := by decide +kernel
theorem dX7_take_65 : decode cX7_take 65 = .ok (.bipush 30, 2) := by decide +kernel
theorem dX7_take_67 : decode cX7_take 67 = .ok (.iload_n 2, 1) := by decide +kernel
theorem dX7_take_68 : decode cX7_take 68 = .ok (.iadd, 1) := by decide +kernel
theorem dX7_take_69 : decode cX7_take 69 = .ok (.iconst 1, 1) := by decide +kernel
theorem dX7_take_70 : decode cX7_take 70 = .ok (.iadd, 1) := by decide +kernel
theorem dX7_take_71 : decode cX7_take 71 = .ok (.laload, 1) := by decide +kernel
theorem dX7_take_72 : decode cX7_take 72 = .ok (.lastore, 1) := by decide +kernel
theorem dX7_take_73 : decode cX7_take 73 = .ok (.iinc 2 1, 3) := by decide +kernel
theorem dX7_take_76 : decode cX7_take 76 = .ok (.goto (-31), 3) := by decide +kernel
theorem dX7_take_79 : decode cX7_take 79 = .ok (.aload_n 0, 1) := by decide +kernel
theorem dX7_take_80 : decode cX7_take 80 = .ok (.getfield 20, 3) := by decide +kernel
theorem dX7_take_83 : decode cX7_take 83 = .ok (.bipush 30, 2) := by decide +kernel
theorem dX7_take_85 : decode cX7_take 85 = .ok (.aload_n 0, 1) := by decide +kernel
theorem dX7_take_86 : decode cX7_take 86 = .ok (.invokevirtual 232, 3) := by decide +kernel
theorem dX7_take_89 : decode cX7_take 89 = .ok (.iadd, 1) := by decide +kernel
theorem dX7_take_90 : decode cX7_take 90 = .ok (.lconst 0, 1) := by decide +kernel
theorem dX7_take_91 : decode cX7_take 91 = .ok (.lastore, 1) := by decide +kernel
theorem dX7_take_92 : decode cX7_take 92 = .ok (.aload_n 0, 1) := by decide +kernel
theorem dX7_take_93 : decode cX7_take 93 = .ok (.invokevirtual 232, 3) := by decide +kernel
theorem dX7_take_96 : decode cX7_take 96 = .ok (.ireturn, 1) := by decide +kernel
theorem dX7_exchangesOf_0 : decode cX7_exchangesOf 0 = .ok (.aload_n 0, 1) := by decide +kernel
theorem dX7_exchangesOf_1 : decode cX7_exchangesOf 1 = .ok (.invokevirtual 265, 3) := by decide +kernel
theorem dX7_exchangesOf_4 : decode cX7_exchangesOf 4 = .ok (.aload_n 0, 1) := by decide +kernel
theorem dX7_exchangesOf_5 : decode cX7_exchangesOf 5 = .ok (.getfield 20, 3) := by decide +kernel
theorem dX7_exchangesOf_8 : decode cX7_exchangesOf 8 = .ok (.bipush 30, 2) := by decide +kernel
theorem dX7_exchangesOf_10 : decode cX7_exchangesOf 10 = .ok (.iload_n 1, 1) := by decide +kernel
theorem dX7_exchangesOf_11 : decode cX7_exchangesOf 11 = .ok (.iadd, 1) := by decide +kernel
theorem dX7_exchangesOf_12 : decode cX7_exchangesOf 12 = .ok (.laload, 1) := by decide +kernel
theorem dX7_exchangesOf_13 : decode cX7_exchangesOf 13 = .ok (.aload_n 0, 1) := by decide +kernel
theorem dX7_exchangesOf_14 : decode cX7_exchangesOf 14 = .ok (.getfield 20, 3) := by decide +kernel
theorem dX7_exchangesOf_17 : decode cX7_exchangesOf 17 = .ok (.bipush 30, 2) := by decide +kernel
theorem dX7_exchangesOf_19 : decode cX7_exchangesOf 19 = .ok (.iload_n 2, 1) := by decide +kernel
theorem dX7_exchangesOf_20 : decode cX7_exchangesOf 20 = .ok (.iadd, 1) := by decide +kernel
theorem dX7_exchangesOf_21 : decode cX7_exchangesOf 21 = .ok (.laload, 1) := by decide +kernel
theorem dX7_exchangesOf_22 : decode cX7_exchangesOf 22 = .ok (.lor, 1) := by decide +kernel
theorem dX7_exchangesOf_23 : decode cX7_exchangesOf 23 = .ok (.lstore 4, 2) := by decide +kernel
theorem dX7_exchangesOf_25 : decode cX7_exchangesOf 25 = .ok (.lload 4, 2) := by decide +kernel
theorem dX7_exchangesOf_27 : decode cX7_exchangesOf 27 = .ok (.invokestatic 82, 3) := by decide +kernel
theorem dX7_exchangesOf_30 : decode cX7_exchangesOf 30 = .ok (.istore 6, 2) := by decide +kernel
theorem dX7_exchangesOf_32 : decode cX7_exchangesOf 32 = .ok (.iconst 0, 1) := by decide +kernel
theorem dX7_exchangesOf_33 : decode cX7_exchangesOf 33 = .ok (.istore 7, 2) := by decide +kernel
theorem dX7_exchangesOf_35 : decode cX7_exchangesOf 35 = .ok (.aload_n 0, 1) := by decide +kernel
theorem dX7_exchangesOf_36 : decode cX7_exchangesOf 36 = .ok (.getfield 47, 3) := by decide +kernel
theorem dX7_exchangesOf_39 : decode cX7_exchangesOf 39 = .ok (.iload 6, 2) := by decide +kernel
theorem dX7_exchangesOf_41 : decode cX7_exchangesOf 41 = .ok (.iaload, 1) := by decide +kernel
theorem dX7_exchangesOf_42 : decode cX7_exchangesOf 42 = .ok (.istore 8, 2) := by decide +kernel
theorem dX7_exchangesOf_44 : decode cX7_exchangesOf 44 = .ok (.iload 8, 2) := by decide +kernel
theorem dX7_exchangesOf_46 : decode cX7_exchangesOf 46 = .ok (.aload_n 0, 1) := by decide +kernel
theorem dX7_exchangesOf_47 : decode cX7_exchangesOf 47 = .ok (.getfield 47, 3) := by decide +kernel
theorem dX7_exchangesOf_50 : decode cX7_exchangesOf 50 = .ok (.iload 6, 2) := by decide +kernel
theorem dX7_exchangesOf_52 : decode cX7_exchangesOf 52 = .ok (.iconst 1, 1) := by decide +kernel
theorem dX7_exchangesOf_53 : decode cX7_exchangesOf 53 = .ok (.iadd, 1) := by decide +kernel
theorem dX7_exchangesOf_54 : decode cX7_exchangesOf 54 = .ok (.iaload, 1) := by decide +kernel
theorem dX7_exchangesOf_55 : decode cX7_exchangesOf 55 = .ok (.if_icmp .ge 109, 3) := by decide +kernel
theorem dX7_exchangesOf_58 : decode cX7_exchangesOf 58 = .ok (.aload_n 0, 1) := by decide +kernel
theorem dX7_exchangesOf_59 : decode cX7_exchangesOf 59 = .ok (.getfield 41, 3) := by decide +kernel
theorem dX7_exchangesOf_62 : decode cX7_exchangesOf 62 = .ok (.iload 8, 2) := by decide +kernel
theorem dX7_exchangesOf_64 : decode cX7_exchangesOf 64 = .ok (.laload, 1) := by decide +kernel
theorem dX7_exchangesOf_65 : decode cX7_exchangesOf 65 = .ok (.lstore 9, 2) := by decide +kernel
theorem dX7_exchangesOf_67 : decode cX7_exchangesOf 67 = .ok (.lload 9, 2) := by decide +kernel
theorem dX7_exchangesOf_69 : decode cX7_exchangesOf 69 = .ok (.lload 4, 2) := by decide +kernel
theorem dX7_exchangesOf_71 : decode cX7_exchangesOf 71 = .ok (.ldc2_w 165, 3) := by decide +kernel
theorem dX7_exchangesOf_74 : decode cX7_exchangesOf 74 = .ok (.lxor, 1) := by decide +kernel
theorem dX7_exchangesOf_75 : decode cX7_exchangesOf 75 = .ok (.land, 1) := by decide +kernel
theorem dX7_exchangesOf_76 : decode cX7_exchangesOf 76 = .ok (.lconst 0, 1) := by decide +kernel
theorem dX7_exchangesOf_77 : decode cX7_exchangesOf 77 = .ok (.lcmp, 1) := by decide +kernel
theorem dX7_exchangesOf_78 : decode cX7_exchangesOf 78 = .ok (.ifCond .ne 80, 3) := by decide +kernel
theorem dX7_exchangesOf_81 : decode cX7_exchangesOf 81 = .ok (.lload 9, 2) := by decide +kernel
theorem dX7_exchangesOf_83 : decode cX7_exchangesOf 83 = .ok (.aload_n 0, 1) := by decide +kernel
theorem dX7_exchangesOf_84 : decode cX7_exchangesOf 84 = .ok (.getfield 20, 3) := by decide +kernel
theorem dX7_exchangesOf_87 : decode cX7_exchangesOf 87 = .ok (.bipush 30, 2) := by decide +kernel
theorem dX7_exchangesOf_89 : decode cX7_exchangesOf 89 = .ok (.iload_n 1, 1) := by decide +kernel
theorem dX7_exchangesOf_90 : decode cX7_exchangesOf 90 = .ok (.iadd, 1) := by decide +kernel
theorem dX7_exchangesOf_91 : decode cX7_exchangesOf 91 = .ok (.laload, 1) := by decide +kernel
theorem dX7_exchangesOf_92 : decode cX7_exchangesOf 92 = .ok (.lcmp, 1) := by decide +kernel
theorem dX7_exchangesOf_93 : decode cX7_exchangesOf 93 = .ok (.ifCond .eq 65, 3) := by decide +kernel
theorem dX7_exchangesOf_96 : decode cX7_exchangesOf 96 = .ok (.lload 9, 2) := by decide +kernel
theorem dX7_exchangesOf_98 : decode cX7_exchangesOf 98 = .ok (.aload_n 0, 1) := by decide +kernel
theorem dX7_exchangesOf_99 : decode cX7_exchangesOf 99 = .ok (.getfield 20, 3) := by decide +kernel
theorem dX7_exchangesOf_102 : decode cX7_exchangesOf 102 = .ok (.bipush 30, 2) := by decide +kernel
theorem dX7_exchangesOf_104 : decode cX7_exchangesOf 104 = .ok (.iload_n 2, 1) := by decide +kernel
theorem dX7_exchangesOf_105 : decode cX7_exchangesOf 105 = .ok (.iadd, 1) := by decide +kernel
theorem dX7_exchangesOf_106 : decode cX7_exchangesOf 106 = .ok (.laload, 1) := by decide +kernel
theorem dX7_exchangesOf_107 : decode cX7_exchangesOf 107 = .ok (.lcmp, 1) := by decide +kernel
theorem dX7_exchangesOf_108 : decode cX7_exchangesOf 108 = .ok (.ifCond .eq 50, 3) := by decide +kernel
theorem dX7_exchangesOf_111 : decode cX7_exchangesOf 111 = .ok (.aload_n 0, 1) := by decide +kernel
theorem dX7_exchangesOf_112 : decode cX7_exchangesOf 112 = .ok (.lload 4, 2) := by decide +kernel
theorem dX7_exchangesOf_114 : decode cX7_exchangesOf 114 = .ok (.lload 9, 2) := by decide +kernel
theorem dX7_exchangesOf_116 : decode cX7_exchangesOf 116 = .ok (.ldc2_w 165, 3) := by decide +kernel
theorem dX7_exchangesOf_119 : decode cX7_exchangesOf 119 = .ok (.lxor, 1) := by decide +kernel
theorem dX7_exchangesOf_120 : decode cX7_exchangesOf 120 = .ok (.land, 1) := by decide +kernel
theorem dX7_exchangesOf_121 : decode cX7_exchangesOf 121 = .ok (.invokevirtual 278, 3) := by decide +kernel
theorem dX7_exchangesOf_124 : decode cX7_exchangesOf 124 = .ok (.ifCond .ne 6, 3) := by decide +kernel
theorem dX7_exchangesOf_127 : decode cX7_exchangesOf 127 = .ok (.goto 31, 3) := by decide +kernel
theorem dX7_exchangesOf_130 : decode cX7_exchangesOf 130 = .ok (.iload 7, 2) := by decide +kernel
theorem dX7_exchangesOf_132 : decode cX7_exchangesOf 132 = .ok (.iload_n 3, 1) := by decide +kernel
theorem dX7_exchangesOf_133 : decode cX7_exchangesOf 133 = .ok (.if_icmp .ne 22, 3) := by decide +kernel
theorem dX7_exchangesOf_136 : decode cX7_exchangesOf 136 = .ok (.aload_n 0, 1) := by decide +kernel
theorem dX7_exchangesOf_137 : decode cX7_exchangesOf 137 = .ok (.lload 9, 2) := by decide +kernel
theorem dX7_exchangesOf_139 : decode cX7_exchangesOf 139 = .ok (.putfield 282, 3) := by decide +kernel
theorem dX7_exchangesOf_142 : decode cX7_exchangesOf 142 = .ok (.aload_n 0, 1) := by decide +kernel
theorem dX7_exchangesOf_143 : decode cX7_exchangesOf 143 = .ok (.lload 4, 2) := by decide +kernel
theorem dX7_exchangesOf_145 : decode cX7_exchangesOf 145 = .ok (.lload 9, 2) := by decide +kernel
theorem dX7_exchangesOf_147 : decode cX7_exchangesOf 147 = .ok (.ldc2_w 165, 3) := by decide +kernel
theorem dX7_exchangesOf_150 : decode cX7_exchangesOf 150 = .ok (.lxor, 1) := by decide +kernel
theorem dX7_exchangesOf_151 : decode cX7_exchangesOf 151 = .ok (.land, 1) := by decide +kernel
theorem dX7_exchangesOf_152 : decode cX7_exchangesOf 152 = .ok (.putfield 285, 3) := by decide +kernel
theorem dX7_exchangesOf_155 : decode cX7_exchangesOf 155 = .ok (.iinc 7 1, 3) := by decide +kernel
theorem dX7_exchangesOf_158 : decode cX7_exchangesOf 158 = .ok (.iinc 8 1, 3) := by decide +kernel
theorem dX7_exchangesOf_161 : decode cX7_exchangesOf 161 = .ok (.goto (-117), 3) := by decide +kernel
theorem dX7_exchangesOf_164 : decode cX7_exchangesOf 164 = .ok (.iload 7, 2) := by decide +kernel
theorem dX7_exchangesOf_166 : decode cX7_exchangesOf 166 = .ok (.ireturn, 1) := by decide +kernel
theorem dX7_exchange_0 : decode cX7_exchange 0 = .ok (.aload_n 0, 1) := by decide +kernel
theorem dX7_exchange_1 : decode cX7_exchange 1 = .ok (.iconst 0, 1) := by decide +kernel
theorem dX7_exchange_2 : decode cX7_exchange 2 = .ok (.putfield 63, 3) := by decide +kernel
theorem dX7_exchange_5 : decode cX7_exchange 5 = .ok (.aload_n 0, 1) := by decide +kernel
theorem dX7_exchange_6 : decode cX7_exchange 6 = .ok (.aload_n 0, 1) := by decide +kernel
theorem dX7_exchange_7 : decode cX7_exchange 7 = .ok (.iload_n 1, 1) := by decide +kernel
theorem dX7_exchange_8 : decode cX7_exchange 8 = .ok (.invokevirtual 275, 3) := by decide +kernel
theorem dX7_exchange_11 : decode cX7_exchange 11 = .ok (.ifCond .eq 11, 3) := by decide +kernel
theorem dX7_exchange_14 : decode cX7_exchange 14 = .ok (.aload_n 0, 1) := by decide +kernel
theorem dX7_exchange_15 : decode cX7_exchange 15 = .ok (.iload_n 2, 1) := by decide +kernel
theorem dX7_exchange_16 : decode cX7_exchange 16 = .ok (.invokevirtual 275, 3) := by decide +kernel
theorem dX7_exchange_19 : decode cX7_exchange 19 = .ok (.ifCond .ne 7, 3) := by decide +kernel
theorem dX7_exchange_22 : decode cX7_exchange 22 = .ok (.iconst 1, 1) := by decide +kernel
theorem dX7_exchange_23 : decode cX7_exchange 23 = .ok (.goto 4, 3) := by decide +kernel
theorem dX7_exchange_26 : decode cX7_exchange 26 = .ok (.iconst 0, 1) := by decide +kernel
theorem dX7_exchange_27 : decode cX7_exchange 27 = .ok (.iconst 1, 1) := by decide +kernel
theorem dX7_exchange_28 : decode cX7_exchange 28 = .ok (.iconst 0, 1) := by decide +kernel
theorem dX7_exchange_29 : decode cX7_exchange 29 = .ok (.invokevirtual 206, 3) := by decide +kernel
theorem dX7_exchange_32 : decode cX7_exchange 32 = .ok (.ifCond .ne 22, 3) := by decide +kernel
theorem dX7_exchange_35 : decode cX7_exchange 35 = .ok (.aload_n 0, 1) := by decide +kernel
theorem dX7_exchange_36 : decode cX7_exchange 36 = .ok (.iload_n 1, 1) := by decide +kernel
theorem dX7_exchange_37 : decode cX7_exchange 37 = .ok (.iload_n 2, 1) := by decide +kernel
theorem dX7_exchange_38 : decode cX7_exchange 38 = .ok (.if_icmp .ne 7, 3) := by decide +kernel
theorem dX7_exchange_41 : decode cX7_exchange 41 = .ok (.iconst 1, 1) := by decide +kernel
theorem dX7_exchange_42 : decode cX7_exchange 42 = .ok (.goto 4, 3) := by decide +kernel
theorem dX7_exchange_45 : decode cX7_exchange 45 = .ok (.iconst 0, 1) := by decide +kernel
theorem dX7_exchange_46 : decode cX7_exchange 46 = .ok (.iconst 2, 1) := by decide +kernel
theorem dX7_exchange_47 : decode cX7_exchange 47 = .ok (.iconst 1, 1) := by decide +kernel
theorem dX7_exchange_48 : decode cX7_exchange 48 = .ok (.invokevirtual 206, 3) := by decide +kernel
theorem dX7_exchange_51 : decode cX7_exchange 51 = .ok (.ifCond .eq 5, 3) := by decide +kernel
theorem dX7_exchange_54 : decode cX7_exchange 54 = .ok (.iconst 0, 1) := by decide +kernel
theorem dX7_exchange_55 : decode cX7_exchange 55 = .ok (.ireturn, 1) := by decide +kernel
theorem dX7_exchange_56 : decode cX7_exchange 56 = .ok (.aload_n 0, 1) := by decide +kernel
theorem dX7_exchange_57 : decode cX7_exchange 57 = .ok (.iload_n 1, 1) := by decide +kernel
theorem dX7_exchange_58 : decode cX7_exchange 58 = .ok (.iload_n 2, 1) := by decide +kernel
theorem dX7_exchange_59 : decode cX7_exchange 59 = .ok (.iload_n 3, 1) := by decide +kernel
theorem dX7_exchange_60 : decode cX7_exchange 60 = .ok (.invokevirtual 288, 3) := by decide +kernel
theorem dX7_exchange_63 : decode cX7_exchange 63 = .ok (.istore 4, 2) := by decide +kernel
theorem dX7_exchange_65 : decode cX7_exchange 65 = .ok (.aload_n 0, 1) := by decide +kernel
theorem dX7_exchange_66 : decode cX7_exchange 66 = .ok (.iload_n 3, 1) := by decide +kernel
theorem dX7_exchange_67 : decode cX7_exchange 67 = .ok (.i2l, 1) := by decide +kernel
theorem dX7_exchange_68 : decode cX7_exchange 68 = .ok (.lconst 0, 1) := by decide +kernel
theorem dX7_exchange_69 : decode cX7_exchange 69 = .ok (.iload 4, 2) := by decide +kernel
theorem dX7_exchange_71 : decode cX7_exchange 71 = .ok (.iconst 1, 1) := by decide +kernel
theorem dX7_exchange_72 : decode cX7_exchange 72 = .ok (.isub, 1) := by decide +kernel
theorem dX7_exchange_73 : decode cX7_exchange 73 = .ok (.i2l, 1) := by decide +kernel
theorem dX7_exchange_74 : decode cX7_exchange 74 = .ok (.invokestatic 92, 3) := by decide +kernel
theorem dX7_exchange_77 : decode cX7_exchange 77 = .ok (.ifCond .ne 7, 3) := by decide +kernel
theorem dX7_exchange_80 : decode cX7_exchange 80 = .ok (.iconst 1, 1) := by decide +kernel
theorem dX7_exchange_81 : decode cX7_exchange 81 = .ok (.goto 4, 3) := by decide +kernel
theorem dX7_exchange_84 : decode cX7_exchange 84 = .ok (.iconst 0, 1) := by decide +kernel
theorem dX7_exchange_85 : decode cX7_exchange 85 = .ok (.iconst 1, 1) := by decide +kernel
theorem dX7_exchange_86 : decode cX7_exchange 86 = .ok (.iconst 0, 1) := by decide +kernel
theorem dX7_exchange_87 : decode cX7_exchange 87 = .ok (.invokevirtual 206, 3) := by decide +kernel
theorem dX7_exchange_90 : decode cX7_exchange 90 = .ok (.ifCond .eq 5, 3) := by decide +kernel
theorem dX7_exchange_93 : decode cX7_exchange 93 = .ok (.iconst 0, 1) := by decide +kernel
theorem dX7_exchange_94 : decode cX7_exchange 94 = .ok (.ireturn, 1) := by decide +kernel
theorem dX7_exchange_95 : decode cX7_exchange 95 = .ok (.aload_n 0, 1) := by decide +kernel
theorem dX7_exchange_96 : decode cX7_exchange 96 = .ok (.invokevirtual 218, 3) := by decide +kernel
theorem dX7_exchange_99 : decode cX7_exchange 99 = .ok (.aload_n 0, 1) := by decide +kernel
theorem dX7_exchange_100 : decode cX7_exchange 100 = .ok (.getfield 20, 3) := by decide +kernel
theorem dX7_exchange_103 : decode cX7_exchange 103 = .ok (.bipush 30, 2) := by decide +kernel
theorem dX7_exchange_105 : decode cX7_exchange 105 = .ok (.iload_n 1, 1) := by decide +kernel
theorem dX7_exchange_106 : decode cX7_exchange 106 = .ok (.iadd, 1) := by decide +kernel
theorem dX7_exchange_107 : decode cX7_exchange 107 = .ok (.aload_n 0, 1) := by decide +kernel
theorem dX7_exchange_108 : decode cX7_exchange 108 = .ok (.getfield 282, 3) := by decide +kernel
theorem dX7_exchange_111 : decode cX7_exchange 111 = .ok (.lastore, 1) := by decide +kernel
theorem dX7_exchange_112 : decode cX7_exchange 112 = .ok (.aload_n 0, 1) := by decide +kernel
theorem dX7_exchange_113 : decode cX7_exchange 113 = .ok (.getfield 20, 3) := by decide +kernel
theorem dX7_exchange_116 : decode cX7_exchange 116 = .ok (.bipush 30, 2) := by decide +kernel
theorem dX7_exchange_118 : decode cX7_exchange 118 = .ok (.iload_n 2, 1) := by decide +kernel
theorem dX7_exchange_119 : decode cX7_exchange 119 = .ok (.iadd, 1) := by decide +kernel
theorem dX7_exchange_120 : decode cX7_exchange 120 = .ok (.aload_n 0, 1) := by decide +kernel
theorem dX7_exchange_121 : decode cX7_exchange 121 = .ok (.getfield 285, 3) := by decide +kernel
theorem dX7_exchange_124 : decode cX7_exchange 124 = .ok (.lastore, 1) := by decide +kernel
theorem dX7_exchange_125 : decode cX7_exchange 125 = .ok (.aload_n 0, 1) := by decide +kernel
theorem dX7_exchange_126 : decode cX7_exchange 126 = .ok (.iload_n 1, 1) := by decide +kernel
theorem dX7_exchange_127 : decode cX7_exchange 127 = .ok (.iload_n 2, 1) := by decide +kernel
theorem dX7_exchange_128 : decode cX7_exchange 128 = .ok (.iconst (-1), 1) := by decide +kernel
theorem dX7_exchange_129 : decode cX7_exchange 129 = .ok (.invokevirtual 288, 3) := by decide +kernel
theorem dX7_exchange_132 : decode cX7_exchange 132 = .ok (.ireturn, 1) := by decide +kernel
theorem dX7_exchanges_0 : decode cX7_exchanges 0 = .ok (.aload_n 0, 1) := by decide +kernel
theorem dX7_exchanges_1 : decode cX7_exchanges 1 = .ok (.iconst 0, 1) := by decide +kernel
theorem dX7_exchanges_2 : decode cX7_exchanges 2 = .ok (.putfield 63, 3) := by decide +kernel
theorem dX7_exchanges_5 : decode cX7_exchanges 5 = .ok (.aload_n 0, 1) := by decide +kernel
theorem dX7_exchanges_6 : decode cX7_exchanges 6 = .ok (.aload_n 0, 1) := by decide +kernel
theorem dX7_exchanges_7 : decode cX7_exchanges 7 = .ok (.iload_n 1, 1) := by decide +kernel
theorem dX7_exchanges_8 : decode cX7_exchanges 8 = .ok (.invokevirtual 275, 3) := by decide +kernel
theorem dX7_exchanges_11 : decode cX7_exchanges 11 = .ok (.ifCond .eq 11, 3) := by decide +kernel
theorem dX7_exchanges_14 : decode cX7_exchanges 14 = .ok (.aload_n 0, 1) := by decide +kernel
theorem dX7_exchanges_15 : decode cX7_exchanges 15 = .ok (.iload_n 2, 1) := by decide +kernel
theorem dX7_exchanges_16 : decode cX7_exchanges 16 = .ok (.invokevirtual 275, 3) := by decide +kernel
theorem dX7_exchanges_19 : decode cX7_exchanges 19 = .ok (.ifCond .ne 7, 3) := by decide +kernel
theorem dX7_exchanges_22 : decode cX7_exchanges 22 = .ok (.iconst 1, 1) := by decide +kernel
theorem dX7_exchanges_23 : decode cX7_exchanges 23 = .ok (.goto 4, 3) := by decide +kernel
theorem dX7_exchanges_26 : decode cX7_exchanges 26 = .ok (.iconst 0, 1) := by decide +kernel
theorem dX7_exchanges_27 : decode cX7_exchanges 27 = .ok (.iconst 1, 1) := by decide +kernel
theorem dX7_exchanges_28 : decode cX7_exchanges 28 = .ok (.iconst 0, 1) := by decide +kernel
theorem dX7_exchanges_29 : decode cX7_exchanges 29 = .ok (.invokevirtual 206, 3) := by decide +kernel
theorem dX7_exchanges_32 : decode cX7_exchanges 32 = .ok (.ifCond .ne 22, 3) := by decide +kernel
theorem dX7_exchanges_35 : decode cX7_exchanges 35 = .ok (.aload_n 0, 1) := by decide +kernel
theorem dX7_exchanges_36 : decode cX7_exchanges 36 = .ok (.iload_n 1, 1) := by decide +kernel
theorem dX7_exchanges_37 : decode cX7_exchanges 37 = .ok (.iload_n 2, 1) := by decide +kernel
theorem dX7_exchanges_38 : decode cX7_exchanges 38 = .ok (.if_icmp .ne 7, 3) := by decide +kernel
theorem dX7_exchanges_41 : decode cX7_exchanges 41 = .ok (.iconst 1, 1) := by decide +kernel
theorem dX7_exchanges_42 : decode cX7_exchanges 42 = .ok (.goto 4, 3) := by decide +kernel
theorem dX7_exchanges_45 : decode cX7_exchanges 45 = .ok (.iconst 0, 1) := by decide +kernel
theorem dX7_exchanges_46 : decode cX7_exchanges 46 = .ok (.iconst 2, 1) := by decide +kernel
theorem dX7_exchanges_47 : decode cX7_exchanges 47 = .ok (.iconst 1, 1) := by decide +kernel
theorem dX7_exchanges_48 : decode cX7_exchanges 48 = .ok (.invokevirtual 206, 3) := by decide +kernel
theorem dX7_exchanges_51 : decode cX7_exchanges 51 = .ok (.ifCond .eq 5, 3) := by decide +kernel
theorem dX7_exchanges_54 : decode cX7_exchanges 54 = .ok (.iconst 0, 1) := by decide +kernel
theorem dX7_exchanges_55 : decode cX7_exchanges 55 = .ok (.ireturn, 1) := by decide +kernel
theorem dX7_exchanges_56 : decode cX7_exchanges 56 = .ok (.aload_n 0, 1) := by decide +kernel
theorem dX7_exchanges_57 : decode cX7_exchanges 57 = .ok (.iload_n 1, 1) := by decide +kernel
theorem dX7_exchanges_58 : decode cX7_exchanges 58 = .ok (.iload_n 2, 1) := by decide +kernel
theorem dX7_exchanges_59 : decode cX7_exchanges 59 = .ok (.iconst (-1), 1) := by decide +kernel
theorem dX7_exchanges_60 : decode cX7_exchanges 60 = .ok (.invokevirtual 288, 3) := by decide +kernel
theorem dX7_exchanges_63 : decode cX7_exchanges 63 = .ok (.ireturn, 1) := by decide +kernel
theorem dX7_goes_0 : decode cX7_goes 0 = .ok (.lload_n 1, 1) := by decide +kernel
theorem dX7_goes_1 : decode cX7_goes 1 = .ok (.lconst 0, 1) := by decide +kernel
theorem dX7_goes_2 : decode cX7_goes 2 = .ok (.lcmp, 1) := by decide +kernel
theorem dX7_goes_3 : decode cX7_goes 3 = .ok (.ifCond .ne 57, 3) := by decide +kernel
theorem dX7_goes_6 : decode cX7_goes 6 = .ok (.aload_n 0, 1) := by decide +kernel
theorem dX7_goes_7 : decode cX7_goes 7 = .ok (.dup, 1) := by decide +kernel
theorem dX7_goes_8 : decode cX7_goes 8 = .ok (.getfield 291, 3) := by decide +kernel
theorem dX7_goes_11 : decode cX7_goes 11 = .ok (.iconst 1, 1) := by decide +kernel
theorem dX7_goes_12 : decode cX7_goes 12 = .ok (.iadd, 1) := by decide +kernel
theorem dX7_goes_13 : decode cX7_goes 13 = .ok (.putfield 291, 3) := by decide +kernel
theorem dX7_goes_16 : decode cX7_goes 16 = .ok (.aload_n 0, 1) := by decide +kernel
theorem dX7_goes_17 : decode cX7_goes 17 = .ok (.getfield 291, 3) := by decide +kernel
theorem dX7_goes_20 : decode cX7_goes 20 = .ok (.iconst 1, 1) := by decide +kernel
theorem dX7_goes_21 : decode cX7_goes 21 = .ok (.if_icmp .le 4, 3) := by decide +kernel
theorem dX7_goes_24 : decode cX7_goes 24 = .ok (.return_, 1) := by decide +kernel
theorem dX7_goes_25 : decode cX7_goes 25 = .ok (.aload_n 0, 1) := by decide +kernel
theorem dX7_goes_26 : decode cX7_goes 26 = .ok (.iload_n 3, 1) := by decide +kernel
theorem dX7_goes_27 : decode cX7_goes 27 = .ok (.putfield 294, 3) := by decide +kernel
theorem dX7_goes_30 : decode cX7_goes 30 = .ok (.iconst 0, 1) := by decide +kernel
theorem dX7_goes_31 : decode cX7_goes 31 = .ok (.istore 5, 2) := by decide +kernel
theorem dX7_goes_33 : decode cX7_goes 33 = .ok (.iload 5, 2) := by decide +kernel
theorem dX7_goes_35 : decode cX7_goes 35 = .ok (.iload_n 3, 1) := by decide +kernel
theorem dX7_goes_36 : decode cX7_goes 36 = .ok (.if_icmp .ge 23, 3) := by decide +kernel
theorem dX7_goes_39 : decode cX7_goes 39 = .ok (.aload_n 0, 1) := by decide +kernel
theorem dX7_goes_40 : decode cX7_goes 40 = .ok (.getfield 53, 3) := by decide +kernel
theorem dX7_goes_43 : decode cX7_goes 43 = .ok (.iload 5, 2) := by decide +kernel
theorem dX7_goes_45 : decode cX7_goes 45 = .ok (.aload_n 0, 1) := by decide +kernel
theorem dX7_goes_46 : decode cX7_goes 46 = .ok (.getfield 50, 3) := by decide +kernel
theorem dX7_goes_49 : decode cX7_goes 49 = .ok (.iload 5, 2) := by decide +kernel
theorem dX7_goes_51 : decode cX7_goes 51 = .ok (.laload, 1) := by decide +kernel
theorem dX7_goes_52 : decode cX7_goes 52 = .ok (.lastore, 1) := by decide +kernel
theorem dX7_goes_53 : decode cX7_goes 53 = .ok (.iinc 5 1, 3) := by decide +kernel
theorem dX7_goes_56 : decode cX7_goes 56 = .ok (.goto (-23), 3) := by decide +kernel
theorem dX7_goes_59 : decode cX7_goes 59 = .ok (.return_, 1) := by decide +kernel
theorem dX7_goes_60 : decode cX7_goes 60 = .ok (.lload_n 1, 1) := by decide +kernel
theorem dX7_goes_61 : decode cX7_goes 61 = .ok (.invokestatic 82, 3) := by decide +kernel
theorem dX7_goes_64 : decode cX7_goes 64 = .ok (.istore 5, 2) := by decide +kernel
theorem dX7_goes_66 : decode cX7_goes 66 = .ok (.aload_n 0, 1) := by decide +kernel
theorem dX7_goes_67 : decode cX7_goes 67 = .ok (.getfield 47, 3) := by decide +kernel
theorem dX7_goes_70 : decode cX7_goes 70 = .ok (.iload 5, 2) := by decide +kernel
theorem dX7_goes_72 : decode cX7_goes 72 = .ok (.iaload, 1) := by decide +kernel
theorem dX7_goes_73 : decode cX7_goes 73 = .ok (.istore 6, 2) := by decide +kernel
theorem dX7_goes_75 : decode cX7_goes 75 = .ok (.iload 6, 2) := by decide +kernel
theorem dX7_goes_77 : decode cX7_goes 77 = .ok (.aload_n 0, 1) := by decide +kernel
theorem dX7_goes_78 : decode cX7_goes 78 = .ok (.getfield 47, 3) := by decide +kernel
theorem dX7_goes_81 : decode cX7_goes 81 = .ok (.iload 5, 2) := by decide +kernel
theorem dX7_goes_83 : decode cX7_goes 83 = .ok (.iconst 1, 1) := by decide +kernel
theorem dX7_goes_84 : decode cX7_goes 84 = .ok (.iadd, 1) := by decide +kernel
theorem dX7_goes_85 : decode cX7_goes 85 = .ok (.iaload, 1) := by decide +kernel
theorem dX7_goes_86 : decode cX7_goes 86 = .ok (.if_icmp .ge 110, 3) := by decide +kernel
theorem dX7_goes_89 : decode cX7_goes 89 = .ok (.aload_n 0, 1) := by decide +kernel
theorem dX7_goes_90 : decode cX7_goes 90 = .ok (.getfield 297, 3) := by decide +kernel
theorem dX7_goes_93 : decode cX7_goes 93 = .ok (.ifCond .ne 103, 3) := by decide +kernel
theorem dX7_goes_96 : decode cX7_goes 96 = .ok (.iload 4, 2) := by decide +kernel
theorem dX7_goes_98 : decode cX7_goes 98 = .ok (.ifCond .eq 10, 3) := by decide +kernel
theorem dX7_goes_101 : decode cX7_goes 101 = .ok (.aload_n 0, 1) := by decide +kernel
theorem dX7_goes_102 : decode cX7_goes 102 = .ok (.getfield 291, 3) := by decide +kernel
theorem dX7_goes_105 : decode cX7_goes 105 = .ok (.ifCond .ne 91, 3) := by decide +kernel
theorem dX7_goes_108 : decode cX7_goes 108 = .ok (.aload_n 0, 1) := by decide +kernel
theorem dX7_goes_109 : decode cX7_goes 109 = .ok (.getfield 41, 3) := by decide +kernel
theorem dX7_goes_112 : decode cX7_goes 112 = .ok (.iload 6, 2) := by decide +kernel
theorem dX7_goes_114 : decode cX7_goes 114 = .ok (.laload, 1) := by decide +kernel
theorem dX7_goes_115 : decode cX7_goes 115 = .ok (.lload_n 1, 1) := by decide +kernel
theorem dX7_goes_116 : decode cX7_goes 116 = .ok (.ldc2_w 165, 3) := by decide +kernel
theorem dX7_goes_119 : decode cX7_goes 119 = .ok (.lxor, 1) := by decide +kernel
theorem dX7_goes_120 : decode cX7_goes 120 = .ok (.land, 1) := by decide +kernel
theorem dX7_goes_121 : decode cX7_goes 121 = .ok (.lconst 0, 1) := by decide +kernel
theorem dX7_goes_122 : decode cX7_goes 122 = .ok (.lcmp, 1) := by decide +kernel
theorem dX7_goes_123 : decode cX7_goes 123 = .ok (.ifCond .eq 6, 3) := by decide +kernel
theorem dX7_goes_126 : decode cX7_goes 126 = .ok (.goto 64, 3) := by decide +kernel
theorem dX7_goes_129 : decode cX7_goes 129 = .ok (.aload_n 0, 1) := by decide +kernel
theorem dX7_goes_130 : decode cX7_goes 130 = .ok (.getfield 300, 3) := by decide +kernel
theorem dX7_goes_133 : decode cX7_goes 133 = .ok (.sipush 20000, 3) := by decide +kernel
theorem dX7_goes_136 : decode cX7_goes 136 = .ok (.if_icmp .ne 9, 3) := by decide +kernel
theorem dX7_goes_139 : decode cX7_goes 139 = .ok (.aload_n 0, 1) := by decide +kernel
theorem dX7_goes_140 : decode cX7_goes 140 = .ok (.iconst 1, 1) := by decide +kernel
theorem dX7_goes_141 : decode cX7_goes 141 = .ok (.putfield 297, 3) := by decide +kernel
theorem dX7_goes_144 : decode cX7_goes 144 = .ok (.return_, 1) := by decide +kernel
theorem dX7_goes_145 : decode cX7_goes 145 = .ok (.aload_n 0, 1) := by decide +kernel
theorem dX7_goes_146 : decode cX7_goes 146 = .ok (.dup, 1) := by decide +kernel
theorem dX7_goes_147 : decode cX7_goes 147 = .ok (.getfield 300, 3) := by decide +kernel
theorem dX7_goes_150 : decode cX7_goes 150 = .ok (.iconst 1, 1) := by decide +kernel
theorem dX7_goes_151 : decode cX7_goes 151 = .ok (.iadd, 1) := by decide +kernel
theorem dX7_goes_152 : decode cX7_goes 152 = .ok (.putfield 300, 3) := by decide +kernel
theorem dX7_goes_155 : decode cX7_goes 155 = .ok (.aload_n 0, 1) := by decide +kernel
theorem dX7_goes_156 : decode cX7_goes 156 = .ok (.getfield 50, 3) := by decide +kernel
theorem dX7_goes_159 : decode cX7_goes 159 = .ok (.iload_n 3, 1) := by decide +kernel
theorem dX7_goes_160 : decode cX7_goes 160 = .ok (.aload_n 0, 1) := by decide +kernel
theorem dX7_goes_161 : decode cX7_goes 161 = .ok (.getfield 41, 3) := by decide +kernel
theorem dX7_goes_164 : decode cX7_goes 164 = .ok (.iload 6, 2) := by decide +kernel
theorem dX7_goes_166 : decode cX7_goes 166 = .ok (.laload, 1) := by decide +kernel
theorem dX7_goes_167 : decode cX7_goes 167 = .ok (.lastore, 1) := by decide +kernel
theorem dX7_goes_168 : decode cX7_goes 168 = .ok (.aload_n 0, 1) := by decide +kernel
theorem dX7_goes_169 : decode cX7_goes 169 = .ok (.lload_n 1, 1) := by decide +kernel
theorem dX7_goes_170 : decode cX7_goes 170 = .ok (.aload_n 0, 1) := by decide +kernel
theorem dX7_goes_171 : decode cX7_goes 171 = .ok (.getfield 41, 3) := by decide +kernel
theorem dX7_goes_174 : decode cX7_goes 174 = .ok (.iload 6, 2) := by decide +kernel
theorem dX7_goes_176 : decode cX7_goes 176 = .ok (.laload, 1) := by decide +kernel
theorem dX7_goes_177 : decode cX7_goes 177 = .ok (.ldc2_w 165, 3) := by decide +kernel
theorem dX7_goes_180 : decode cX7_goes 180 = .ok (.lxor, 1) := by decide +kernel
theorem dX7_goes_181 : decode cX7_goes 181 = .ok (.land, 1) := by decide +kernel
theorem dX7_goes_182 : decode cX7_goes 182 = .ok (.iload_n 3, 1) := by decide +kernel
theorem dX7_goes_183 : decode cX7_goes 183 = .ok (.iconst 1, 1) := by decide +kernel
theorem dX7_goes_184 : decode cX7_goes 184 = .ok (.iadd, 1) := by decide +kernel
theorem dX7_goes_185 : decode cX7_goes 185 = .ok (.iload 4, 2) := by decide +kernel
theorem dX7_goes_187 : decode cX7_goes 187 = .ok (.invokevirtual 303, 3) := by decide +kernel
theorem dX7_goes_190 : decode cX7_goes 190 = .ok (.iinc 6 1, 3) := by decide +kernel
theorem dX7_goes_193 : decode cX7_goes 193 = .ok (.goto (-118), 3) := by decide +kernel
theorem dX7_goes_196 : decode cX7_goes 196 = .ok (.return_, 1) := by decide +kernel
theorem dX7_searches_0 : decode cX7_searches 0 = .ok (.aload_n 0, 1) := by decide +kernel
theorem dX7_searches_1 : decode cX7_searches 1 = .ok (.invokevirtual 265, 3) := by decide +kernel
theorem dX7_searches_4 : decode cX7_searches 4 = .ok (.aload_n 0, 1) := by decide +kernel
theorem dX7_searches_5 : decode cX7_searches 5 = .ok (.iconst 0, 1) := by decide +kernel
theorem dX7_searches_6 : decode cX7_searches 6 = .ok (.putfield 291, 3) := by decide +kernel
theorem dX7_searches_9 : decode cX7_searches 9 = .ok (.aload_n 0, 1) := by decide +kernel
theorem dX7_searches_10 : decode cX7_searches 10 = .ok (.iconst 0, 1) := by decide +kernel
theorem dX7_searches_11 : decode cX7_searches 11 = .ok (.putfield 300, 3) := by decide +kernel
theorem dX7_searches_14 : decode cX7_searches 14 = .ok (.aload_n 0, 1) := by decide +kernel
theorem dX7_searches_15 : decode cX7_searches 15 = .ok (.iconst 0, 1) := by decide +kernel
theorem dX7_searches_16 : decode cX7_searches 16 = .ok (.putfield 294, 3) := by decide +kernel
theorem dX7_searches_19 : decode cX7_searches 19 = .ok (.aload_n 0, 1) := by decide +kernel
theorem dX7_searches_20 : decode cX7_searches 20 = .ok (.iconst 0, 1) := by decide +kernel
theorem dX7_searches_21 : decode cX7_searches 21 = .ok (.putfield 297, 3) := by decide +kernel
theorem dX7_searches_24 : decode cX7_searches 24 = .ok (.aload_n 0, 1) := by decide +kernel
theorem dX7_searches_25 : decode cX7_searches 25 = .ok (.aload_n 0, 1) := by decide +kernel
theorem dX7_searches_26 : decode cX7_searches 26 = .ok (.invokevirtual 225, 3) := by decide +kernel
theorem dX7_searches_29 : decode cX7_searches 29 = .ok (.iconst 0, 1) := by decide +kernel
theorem dX7_searches_30 : decode cX7_searches 30 = .ok (.iload_n 1, 1) := by decide +kernel
theorem dX7_searches_31 : decode cX7_searches 31 = .ok (.invokevirtual 303, 3) := by decide +kernel
theorem dX7_searches_34 : decode cX7_searches 34 = .ok (.return_, 1) := by decide +kernel
theorem dX7_finish_0 : decode cX7_finish 0 = .ok (.aload_n 0, 1) := by decide +kernel
theorem dX7_finish_1 : decode cX7_finish 1 = .ok (.iconst 0, 1) := by decide +kernel
theorem dX7_finish_2 : decode cX7_finish 2 = .ok (.putfield 63, 3) := by decide +kernel
theorem dX7_finish_5 : decode cX7_finish 5 = .ok (.aload_n 0, 1) := by decide +kernel
theorem dX7_finish_6 : decode cX7_finish 6 = .ok (.iconst 1, 1) := by decide +kernel
theorem dX7_finish_7 : decode cX7_finish 7 = .ok (.invokevirtual 307, 3) := by decide +kernel
theorem dX7_finish_10 : decode cX7_finish 10 = .ok (.aload_n 0, 1) := by decide +kernel
theorem dX7_finish_11 : decode cX7_finish 11 = .ok (.getfield 291, 3) := by decide +kernel
theorem dX7_finish_14 : decode cX7_finish 14 = .ok (.ifCond .ne 5, 3) := by decide +kernel
theorem dX7_finish_17 : decode cX7_finish 17 = .ok (.iconst (-1), 1) := by decide +kernel
theorem dX7_finish_18 : decode cX7_finish 18 = .ok (.ireturn, 1) := by decide +kernel
theorem dX7_finish_19 : decode cX7_finish 19 = .ok (.aload_n 0, 1) := by decide +kernel
theorem dX7_finish_20 : decode cX7_finish 20 = .ok (.invokevirtual 218, 3) := by decide +kernel
theorem dX7_finish_23 : decode cX7_finish 23 = .ok (.iconst 0, 1) := by decide +kernel
theorem dX7_finish_24 : decode cX7_finish 24 = .ok (.istore_n 1, 1) := by decide +kernel
theorem dX7_finish_25 : decode cX7_finish 25 = .ok (.iload_n 1, 1) := by decide +kernel
theorem dX7_finish_26 : decode cX7_finish 26 = .ok (.aload_n 0, 1) := by decide +kernel
theorem dX7_finish_27 : decode cX7_finish 27 = .ok (.getfield 294, 3) := by decide +kernel
theorem dX7_finish_30 : decode cX7_finish 30 = .ok (.if_icmp .ge 19, 3) := by decide +kernel
theorem dX7_finish_33 : decode cX7_finish 33 = .ok (.aload_n 0, 1) := by decide +kernel
theorem dX7_finish_34 : decode cX7_finish 34 = .ok (.aload_n 0, 1) := by decide +kernel
theorem dX7_finish_35 : decode cX7_finish 35 = .ok (.getfield 53, 3) := by decide +kernel
theorem dX7_finish_38 : decode cX7_finish 38 = .ok (.iload_n 1, 1) := by decide +kernel
theorem dX7_finish_39 : decode cX7_finish 39 = .ok (.laload, 1) := by decide +kernel
theorem dX7_finish_40 : decode cX7_finish 40 = .ok (.invokevirtual 271, 3) := by decide +kernel
theorem dX7_finish_43 : decode cX7_finish 43 = .ok (.iinc 1 1, 3) := by decide +kernel
theorem dX7_finish_46 : decode cX7_finish 46 = .ok (.goto (-21), 3) := by decide +kernel
theorem dX7_finish_49 : decode cX7_finish 49 = .ok (.aload_n 0, 1) := by decide +kernel
theorem dX7_finish_50 : decode cX7_finish 50 = .ok (.getfield 294, 3) := by decide +kernel
theorem dX7_finish_53 : decode cX7_finish 53 = .ok (.ireturn, 1) := by decide +kernel
theorem dX7_search_0 : decode cX7_search 0 = .ok (.aload_n 0, 1) := by decide +kernel
theorem dX7_search_1 : decode cX7_search 1 = .ok (.iconst 0, 1) := by decide +kernel
theorem dX7_search_2 : decode cX7_search 2 = .ok (.putfield 63, 3) := by decide +kernel
theorem dX7_search_5 : decode cX7_search 5 = .ok (.aload_n 0, 1) := by decide +kernel
theorem dX7_search_6 : decode cX7_search 6 = .ok (.iload_n 1, 1) := by decide +kernel
theorem dX7_search_7 : decode cX7_search 7 = .ok (.i2l, 1) := by decide +kernel
theorem dX7_search_8 : decode cX7_search 8 = .ok (.lconst 0, 1) := by decide +kernel
theorem dX7_search_9 : decode cX7_search 9 = .ok (.ldc2_w 76, 3) := by decide +kernel
theorem dX7_search_12 : decode cX7_search 12 = .ok (.invokestatic 92, 3) := by decide +kernel
theorem dX7_search_15 : decode cX7_search 15 = .ok (.ifCond .ne 7, 3) := by decide +kernel
theorem dX7_search_18 : decode cX7_search 18 = .ok (.iconst 1, 1) := by decide +kernel
theorem dX7_search_19 : decode cX7_search 19 = .ok (.goto 4, 3) := by decide +kernel
theorem dX7_search_22 : decode cX7_search 22 = .ok (.iconst 0, 1) := by decide +kernel
theorem dX7_search_23 : decode cX7_search 23 = .ok (.iconst 1, 1) := by decide +kernel
theorem dX7_search_24 : decode cX7_search 24 = .ok (.iconst 1, 1) := by decide +kernel
theorem dX7_search_25 : decode cX7_search 25 = .ok (.invokevirtual 206, 3) := by decide +kernel
theorem dX7_search_28 : decode cX7_search 28 = .ok (.ifCond .eq 5, 3) := by decide +kernel
theorem dX7_search_31 : decode cX7_search 31 = .ok (.iconst 0, 1) := by decide +kernel
theorem dX7_search_32 : decode cX7_search 32 = .ok (.ireturn, 1) := by decide +kernel
theorem dX7_search_33 : decode cX7_search 33 = .ok (.aload_n 0, 1) := by decide +kernel
theorem dX7_search_34 : decode cX7_search 34 = .ok (.iconst 0, 1) := by decide +kernel
theorem dX7_search_35 : decode cX7_search 35 = .ok (.invokevirtual 307, 3) := by decide +kernel
theorem dX7_search_38 : decode cX7_search 38 = .ok (.iload_n 1, 1) := by decide +kernel
theorem dX7_search_39 : decode cX7_search 39 = .ok (.ifCond .ne 10, 3) := by decide +kernel
theorem dX7_search_42 : decode cX7_search 42 = .ok (.aload_n 0, 1) := by decide +kernel
theorem dX7_search_43 : decode cX7_search 43 = .ok (.getfield 291, 3) := by decide +kernel
theorem dX7_search_46 : decode cX7_search 46 = .ok (.goto 27, 3) := by decide +kernel
theorem dX7_search_49 : decode cX7_search 49 = .ok (.iload_n 1, 1) := by decide +kernel
theorem dX7_search_50 : decode cX7_search 50 = .ok (.iconst 1, 1) := by decide +kernel
theorem dX7_search_51 : decode cX7_search 51 = .ok (.if_icmp .ne 10, 3) := by decide +kernel
theorem dX7_search_54 : decode cX7_search 54 = .ok (.aload_n 0, 1) := by decide +kernel
theorem dX7_search_55 : decode cX7_search 55 = .ok (.getfield 300, 3) := by decide +kernel
theorem dX7_search_58 : decode cX7_search 58 = .ok (.goto 15, 3) := by decide +kernel
theorem dX7_search_61 : decode cX7_search 61 = .ok (.aload_n 0, 1) := by decide +kernel
theorem dX7_search_62 : decode cX7_search 62 = .ok (.getfield 297, 3) := by decide +kernel
theorem dX7_search_65 : decode cX7_search 65 = .ok (.ifCond .eq 7, 3) := by decide +kernel
theorem dX7_search_68 : decode cX7_search 68 = .ok (.iconst 0, 1) := by decide +kernel
theorem dX7_search_69 : decode cX7_search 69 = .ok (.goto 4, 3) := by decide +kernel
theorem dX7_search_72 : decode cX7_search 72 = .ok (.iconst 1, 1) := by decide +kernel
theorem dX7_search_73 : decode cX7_search 73 = .ok (.ireturn, 1) := by decide +kernel
theorem dX7_baseLong_0 : decode cX7_baseLong 0 = .ok (.aload_n 0, 1) := by decide +kernel
theorem dX7_baseLong_1 : decode cX7_baseLong 1 = .ok (.getfield 20, 3) := by decide +kernel
theorem dX7_baseLong_4 : decode cX7_baseLong 4 = .ok (.iconst 5, 1) := by decide +kernel
theorem dX7_baseLong_5 : decode cX7_baseLong 5 = .ok (.bipush 6, 2) := by decide +kernel
theorem dX7_baseLong_7 : decode cX7_baseLong 7 = .ok (.iload_n 1, 1) := by decide +kernel
theorem dX7_baseLong_8 : decode cX7_baseLong 8 = .ok (.imul, 1) := by decide +kernel
theorem dX7_baseLong_9 : decode cX7_baseLong 9 = .ok (.iadd, 1) := by decide +kernel
theorem dX7_baseLong_10 : decode cX7_baseLong 10 = .ok (.laload, 1) := by decide +kernel
theorem dX7_baseLong_11 : decode cX7_baseLong 11 = .ok (.l2i, 1) := by decide +kernel
theorem dX7_baseLong_12 : decode cX7_baseLong 12 = .ok (.ireturn, 1) := by decide +kernel
theorem dX7_baseNode_0 : decode cX7_baseNode 0 = .ok (.aload_n 0, 1) := by decide +kernel
theorem dX7_baseNode_1 : decode cX7_baseNode 1 = .ok (.getfield 20, 3) := by decide +kernel
theorem dX7_baseNode_4 : decode cX7_baseNode 4 = .ok (.iconst 5, 1) := by decide +kernel
theorem dX7_baseNode_5 : decode cX7_baseNode 5 = .ok (.bipush 6, 2) := by decide +kernel
theorem dX7_baseNode_7 : decode cX7_baseNode 7 = .ok (.iload_n 1, 1) := by decide +kernel
theorem dX7_baseNode_8 : decode cX7_baseNode 8 = .ok (.imul, 1) := by decide +kernel
theorem dX7_baseNode_9 : decode cX7_baseNode 9 = .ok (.iadd, 1) := by decide +kernel
theorem dX7_baseNode_10 : decode cX7_baseNode 10 = .ok (.iconst 1, 1) := by decide +kernel
theorem dX7_baseNode_11 : decode cX7_baseNode 11 = .ok (.iadd, 1) := by decide +kernel
theorem dX7_baseNode_12 : decode cX7_baseNode 12 = .ok (.iload_n 2, 1) := by decide +kernel
theorem dX7_baseNode_13 : decode cX7_baseNode 13 = .ok (.iadd, 1) := by decide +kernel
theorem dX7_baseNode_14 : decode cX7_baseNode 14 = .ok (.laload, 1) := by decide +kernel
theorem dX7_baseNode_15 : decode cX7_baseNode 15 = .ok (.l2i, 1) := by decide +kernel
theorem dX7_baseNode_16 : decode cX7_baseNode 16 = .ok (.ireturn, 1) := by decide +kernel
theorem dX7_difference_0 : decode cX7_difference 0 = .ok (.iload_n 0, 1) := by decide +kernel
theorem dX7_difference_1 : decode cX7_difference 1 = .ok (.iload_n 1, 1) := by decide +kernel
theorem dX7_difference_2 : decode cX7_difference 2 = .ok (.isub, 1) := by decide +kernel
theorem dX7_difference_3 : decode cX7_difference 3 = .ok (.iload_n 2, 1) := by decide +kernel
theorem dX7_difference_4 : decode cX7_difference 4 = .ok (.bipush 31, 2) := by decide +kernel
theorem dX7_difference_6 : decode cX7_difference 6 = .ok (.imul, 1) := by decide +kernel
theorem dX7_difference_7 : decode cX7_difference 7 = .ok (.iadd, 1) := by decide +kernel
theorem dX7_difference_8 : decode cX7_difference 8 = .ok (.iload_n 2, 1) := by decide +kernel
theorem dX7_difference_9 : decode cX7_difference 9 = .ok (.irem, 1) := by decide +kernel
theorem dX7_difference_10 : decode cX7_difference 10 = .ok (.istore_n 3, 1) := by decide +kernel
theorem dX7_difference_11 : decode cX7_difference 11 = .ok (.iload_n 3, 1) := by decide +kernel
theorem dX7_difference_12 : decode cX7_difference 12 = .ok (.iload_n 2, 1) := by decide +kernel
theorem dX7_difference_13 : decode cX7_difference 13 = .ok (.iload_n 3, 1) := by decide +kernel
theorem dX7_difference_14 : decode cX7_difference 14 = .ok (.isub, 1) := by decide +kernel
theorem dX7_difference_15 : decode cX7_difference 15 = .ok (.iload_n 2, 1) := by decide +kernel
theorem dX7_difference_16 : decode cX7_difference 16 = .ok (.irem, 1) := by decide +kernel
theorem dX7_difference_17 : decode cX7_difference 17 = .ok (.invokestatic 69, 3) := by decide +kernel
theorem dX7_difference_20 : decode cX7_difference 20 = .ok (.ireturn, 1) := by decide +kernel
theorem dX7_coverOf_0 : decode cX7_coverOf 0 = .ok (.iconst 0, 1) := by decide +kernel
theorem dX7_coverOf_1 : decode cX7_coverOf 1 = .ok (.istore_n 3, 1) := by decide +kernel
theorem dX7_coverOf_2 : decode cX7_coverOf 2 = .ok (.iconst 0, 1) := by decide +kernel
theorem dX7_coverOf_3 : decode cX7_coverOf 3 = .ok (.istore 4, 2) := by decide +kernel
theorem dX7_coverOf_5 : decode cX7_coverOf 5 = .ok (.iload 4, 2) := by decide +kernel
theorem dX7_coverOf_7 : decode cX7_coverOf 7 = .ok (.i2l, 1) := by decide +kernel
theorem dX7_coverOf_8 : decode cX7_coverOf 8 = .ok (.aload_n 0, 1) := by decide +kernel
theorem dX7_coverOf_9 : decode cX7_coverOf 9 = .ok (.getfield 20, 3) := by decide +kernel
theorem dX7_coverOf_12 : decode cX7_coverOf 12 = .ok (.iconst 4, 1) := by decide +kernel
theorem dX7_coverOf_13 : decode cX7_coverOf 13 = .ok (.laload, 1) := by decide +kernel
theorem dX7_coverOf_14 : decode cX7_coverOf 14 = .ok (.lcmp, 1) := by decide +kernel
theorem dX7_coverOf_15 : decode cX7_coverOf 15 = .ok (.ifCond .ge 141, 3) := by decide +kernel
theorem dX7_coverOf_18 : decode cX7_coverOf 18 = .ok (.aload_n 0, 1) := by decide +kernel
theorem dX7_coverOf_19 : decode cX7_coverOf 19 = .ok (.iload 4, 2) := by decide +kernel
theorem dX7_coverOf_21 : decode cX7_coverOf 21 = .ok (.invokevirtual 311, 3) := by decide +kernel
theorem dX7_coverOf_24 : decode cX7_coverOf 24 = .ok (.istore 5, 2) := by decide +kernel
