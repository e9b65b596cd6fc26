theorem dX7_coverOf_26 : decode cX7_coverOf 26 = .ok (.iconst 1, 1) := by decide +kernel
theorem dX7_coverOf_27 : decode cX7_coverOf 27 = .ok (.istore 6, 2) := by decide +kernel
theorem dX7_coverOf_29 : decode cX7_coverOf 29 = .ok (.iload 6, 2) := by decide +kernel
theorem dX7_coverOf_31 : decode cX7_coverOf 31 = .ok (.iload 5, 2) := by decide +kernel
theorem dX7_coverOf_33 : decode cX7_coverOf 33 = .ok (.if_icmp .ge 60, 3) := by decide +kernel
theorem dX7_coverOf_36 : decode cX7_coverOf 36 = .ok (.iload_n 3, 1) := by decide +kernel
theorem dX7_coverOf_37 : decode cX7_coverOf 37 = .ok (.aload_n 0, 1) := by decide +kernel
theorem dX7_coverOf_38 : decode cX7_coverOf 38 = .ok (.iload 4, 2) := by decide +kernel
theorem dX7_coverOf_40 : decode cX7_coverOf 40 = .ok (.aload_n 0, 1) := by decide +kernel
theorem dX7_coverOf_41 : decode cX7_coverOf 41 = .ok (.getfield 20, 3) := by decide +kernel
theorem dX7_coverOf_44 : decode cX7_coverOf 44 = .ok (.iconst 1, 1) := by decide +kernel
theorem dX7_coverOf_45 : decode cX7_coverOf 45 = .ok (.laload, 1) := by decide +kernel
theorem dX7_coverOf_46 : decode cX7_coverOf 46 = .ok (.ldc2_w 76, 3) := by decide +kernel
theorem dX7_coverOf_49 : decode cX7_coverOf 49 = .ok (.lcmp, 1) := by decide +kernel
theorem dX7_coverOf_50 : decode cX7_coverOf 50 = .ok (.ifCond .ne 7, 3) := by decide +kernel
theorem dX7_coverOf_53 : decode cX7_coverOf 53 = .ok (.iconst 0, 1) := by decide +kernel
theorem dX7_coverOf_54 : decode cX7_coverOf 54 = .ok (.goto 7, 3) := by decide +kernel
theorem dX7_coverOf_57 : decode cX7_coverOf 57 = .ok (.iload 6, 2) := by decide +kernel
theorem dX7_coverOf_59 : decode cX7_coverOf 59 = .ok (.iconst 1, 1) := by decide +kernel
theorem dX7_coverOf_60 : decode cX7_coverOf 60 = .ok (.isub, 1) := by decide +kernel
theorem dX7_coverOf_61 : decode cX7_coverOf 61 = .ok (.invokevirtual 314, 3) := by decide +kernel
theorem dX7_coverOf_64 : decode cX7_coverOf 64 = .ok (.aload_n 0, 1) := by decide +kernel
theorem dX7_coverOf_65 : decode cX7_coverOf 65 = .ok (.iload 4, 2) := by decide +kernel
theorem dX7_coverOf_67 : decode cX7_coverOf 67 = .ok (.iload 6, 2) := by decide +kernel
theorem dX7_coverOf_69 : decode cX7_coverOf 69 = .ok (.invokevirtual 314, 3) := by decide +kernel
theorem dX7_coverOf_72 : decode cX7_coverOf 72 = .ok (.iload_n 1, 1) := by decide +kernel
theorem dX7_coverOf_73 : decode cX7_coverOf 73 = .ok (.invokestatic 317, 3) := by decide +kernel
theorem dX7_coverOf_76 : decode cX7_coverOf 76 = .ok (.iload_n 2, 1) := by decide +kernel
theorem dX7_coverOf_77 : decode cX7_coverOf 77 = .ok (.if_icmp .ne 7, 3) := by decide +kernel
theorem dX7_coverOf_80 : decode cX7_coverOf 80 = .ok (.iconst 1, 1) := by decide +kernel
theorem dX7_coverOf_81 : decode cX7_coverOf 81 = .ok (.goto 4, 3) := by decide +kernel
theorem dX7_coverOf_84 : decode cX7_coverOf 84 = .ok (.iconst 0, 1) := by decide +kernel
theorem dX7_coverOf_85 : decode cX7_coverOf 85 = .ok (.iadd, 1) := by decide +kernel
theorem dX7_coverOf_86 : decode cX7_coverOf 86 = .ok (.istore_n 3, 1) := by decide +kernel
theorem dX7_coverOf_87 : decode cX7_coverOf 87 = .ok (.iinc 6 1, 3) := by decide +kernel
theorem dX7_coverOf_90 : decode cX7_coverOf 90 = .ok (.goto (-61), 3) := by decide +kernel
theorem dX7_coverOf_93 : decode cX7_coverOf 93 = .ok (.aload_n 0, 1) := by decide +kernel
theorem dX7_coverOf_94 : decode cX7_coverOf 94 = .ok (.getfield 20, 3) := by decide +kernel
theorem dX7_coverOf_97 : decode cX7_coverOf 97 = .ok (.iconst 1, 1) := by decide +kernel
theorem dX7_coverOf_98 : decode cX7_coverOf 98 = .ok (.laload, 1) := by decide +kernel
theorem dX7_coverOf_99 : decode cX7_coverOf 99 = .ok (.lconst 0, 1) := by decide +kernel
theorem dX7_coverOf_100 : decode cX7_coverOf 100 = .ok (.lcmp, 1) := by decide +kernel
theorem dX7_coverOf_101 : decode cX7_coverOf 101 = .ok (.ifCond .eq 16, 3) := by decide +kernel
theorem dX7_coverOf_104 : decode cX7_coverOf 104 = .ok (.aload_n 0, 1) := by decide +kernel
theorem dX7_coverOf_105 : decode cX7_coverOf 105 = .ok (.getfield 20, 3) := by decide +kernel
theorem dX7_coverOf_108 : decode cX7_coverOf 108 = .ok (.iconst 1, 1) := by decide +kernel
theorem dX7_coverOf_109 : decode cX7_coverOf 109 = .ok (.laload, 1) := by decide +kernel
theorem dX7_coverOf_110 : decode cX7_coverOf 110 = .ok (.ldc2_w 59, 3) := by decide +kernel
theorem dX7_coverOf_113 : decode cX7_coverOf 113 = .ok (.lcmp, 1) := by decide +kernel
theorem dX7_coverOf_114 : decode cX7_coverOf 114 = .ok (.ifCond .ne 36, 3) := by decide +kernel
theorem dX7_coverOf_117 : decode cX7_coverOf 117 = .ok (.iload_n 3, 1) := by decide +kernel
theorem dX7_coverOf_118 : decode cX7_coverOf 118 = .ok (.aload_n 0, 1) := by decide +kernel
theorem dX7_coverOf_119 : decode cX7_coverOf 119 = .ok (.iload 4, 2) := by decide +kernel
theorem dX7_coverOf_121 : decode cX7_coverOf 121 = .ok (.iconst 0, 1) := by decide +kernel
theorem dX7_coverOf_122 : decode cX7_coverOf 122 = .ok (.invokevirtual 314, 3) := by decide +kernel
theorem dX7_coverOf_125 : decode cX7_coverOf 125 = .ok (.aload_n 0, 1) := by decide +kernel
theorem dX7_coverOf_126 : decode cX7_coverOf 126 = .ok (.iload 4, 2) := by decide +kernel
theorem dX7_coverOf_128 : decode cX7_coverOf 128 = .ok (.iload 5, 2) := by decide +kernel
theorem dX7_coverOf_130 : decode cX7_coverOf 130 = .ok (.iconst 1, 1) := by decide +kernel
theorem dX7_coverOf_131 : decode cX7_coverOf 131 = .ok (.isub, 1) := by decide +kernel
theorem dX7_coverOf_132 : decode cX7_coverOf 132 = .ok (.invokevirtual 314, 3) := by decide +kernel
theorem dX7_coverOf_135 : decode cX7_coverOf 135 = .ok (.iload_n 1, 1) := by decide +kernel
theorem dX7_coverOf_136 : decode cX7_coverOf 136 = .ok (.invokestatic 317, 3) := by decide +kernel
theorem dX7_coverOf_139 : decode cX7_coverOf 139 = .ok (.iload_n 2, 1) := by decide +kernel
theorem dX7_coverOf_140 : decode cX7_coverOf 140 = .ok (.if_icmp .ne 7, 3) := by decide +kernel
theorem dX7_coverOf_143 : decode cX7_coverOf 143 = .ok (.iconst 1, 1) := by decide +kernel
theorem dX7_coverOf_144 : decode cX7_coverOf 144 = .ok (.goto 4, 3) := by decide +kernel
theorem dX7_coverOf_147 : decode cX7_coverOf 147 = .ok (.iconst 0, 1) := by decide +kernel
theorem dX7_coverOf_148 : decode cX7_coverOf 148 = .ok (.iadd, 1) := by decide +kernel
theorem dX7_coverOf_149 : decode cX7_coverOf 149 = .ok (.istore_n 3, 1) := by decide +kernel
theorem dX7_coverOf_150 : decode cX7_coverOf 150 = .ok (.iinc 4 1, 3) := by decide +kernel
theorem dX7_coverOf_153 : decode cX7_coverOf 153 = .ok (.goto (-148), 3) := by decide +kernel
theorem dX7_coverOf_156 : decode cX7_coverOf 156 = .ok (.iload_n 3, 1) := by decide +kernel
theorem dX7_coverOf_157 : decode cX7_coverOf 157 = .ok (.ireturn, 1) := by decide +kernel
theorem dX7_wrongIn_0 : decode cX7_wrongIn 0 = .ok (.aload_n 0, 1) := by decide +kernel
theorem dX7_wrongIn_1 : decode cX7_wrongIn 1 = .ok (.iload_n 1, 1) := by decide +kernel
theorem dX7_wrongIn_2 : decode cX7_wrongIn 2 = .ok (.iconst 0, 1) := by decide +kernel
theorem dX7_wrongIn_3 : decode cX7_wrongIn 3 = .ok (.invokevirtual 320, 3) := by decide +kernel
theorem dX7_wrongIn_6 : decode cX7_wrongIn 6 = .ok (.ifCond .le 5, 3) := by decide +kernel
theorem dX7_wrongIn_9 : decode cX7_wrongIn 9 = .ok (.iconst 0, 1) := by decide +kernel
theorem dX7_wrongIn_10 : decode cX7_wrongIn 10 = .ok (.ireturn, 1) := by decide +kernel
theorem dX7_wrongIn_11 : decode cX7_wrongIn 11 = .ok (.iconst 1, 1) := by decide +kernel
theorem dX7_wrongIn_12 : decode cX7_wrongIn 12 = .ok (.istore_n 2, 1) := by decide +kernel
theorem dX7_wrongIn_13 : decode cX7_wrongIn 13 = .ok (.iconst 2, 1) := by decide +kernel
theorem dX7_wrongIn_14 : decode cX7_wrongIn 14 = .ok (.iload_n 2, 1) := by decide +kernel
theorem dX7_wrongIn_15 : decode cX7_wrongIn 15 = .ok (.imul, 1) := by decide +kernel
theorem dX7_wrongIn_16 : decode cX7_wrongIn 16 = .ok (.iload_n 1, 1) := by decide +kernel
theorem dX7_wrongIn_17 : decode cX7_wrongIn 17 = .ok (.if_icmp .gt 32, 3) := by decide +kernel
theorem dX7_wrongIn_20 : decode cX7_wrongIn 20 = .ok (.aload_n 0, 1) := by decide +kernel
theorem dX7_wrongIn_21 : decode cX7_wrongIn 21 = .ok (.iload_n 1, 1) := by decide +kernel
theorem dX7_wrongIn_22 : decode cX7_wrongIn 22 = .ok (.iload_n 2, 1) := by decide +kernel
theorem dX7_wrongIn_23 : decode cX7_wrongIn 23 = .ok (.invokevirtual 320, 3) := by decide +kernel
theorem dX7_wrongIn_26 : decode cX7_wrongIn 26 = .ok (.iconst 2, 1) := by decide +kernel
theorem dX7_wrongIn_27 : decode cX7_wrongIn 27 = .ok (.iload_n 2, 1) := by decide +kernel
theorem dX7_wrongIn_28 : decode cX7_wrongIn 28 = .ok (.imul, 1) := by decide +kernel
theorem dX7_wrongIn_29 : decode cX7_wrongIn 29 = .ok (.iload_n 1, 1) := by decide +kernel
theorem dX7_wrongIn_30 : decode cX7_wrongIn 30 = .ok (.if_icmp .ne 7, 3) := by decide +kernel
theorem dX7_wrongIn_33 : decode cX7_wrongIn 33 = .ok (.iconst 0, 1) := by decide +kernel
theorem dX7_wrongIn_34 : decode cX7_wrongIn 34 = .ok (.goto 4, 3) := by decide +kernel
theorem dX7_wrongIn_37 : decode cX7_wrongIn 37 = .ok (.iconst 1, 1) := by decide +kernel
theorem dX7_wrongIn_38 : decode cX7_wrongIn 38 = .ok (.if_icmp .eq 5, 3) := by decide +kernel
theorem dX7_wrongIn_41 : decode cX7_wrongIn 41 = .ok (.iload_n 2, 1) := by decide +kernel
theorem dX7_wrongIn_42 : decode cX7_wrongIn 42 = .ok (.ireturn, 1) := by decide +kernel
theorem dX7_wrongIn_43 : decode cX7_wrongIn 43 = .ok (.iinc 2 1, 3) := by decide +kernel
theorem dX7_wrongIn_46 : decode cX7_wrongIn 46 = .ok (.goto (-33), 3) := by decide +kernel
theorem dX7_wrongIn_49 : decode cX7_wrongIn 49 = .ok (.iconst (-1), 1) := by decide +kernel
theorem dX7_wrongIn_50 : decode cX7_wrongIn 50 = .ok (.ireturn, 1) := by decide +kernel
theorem dX7_cover_0 : decode cX7_cover 0 = .ok (.aload_n 0, 1) := by decide +kernel
theorem dX7_cover_1 : decode cX7_cover 1 = .ok (.iconst 0, 1) := by decide +kernel
theorem dX7_cover_2 : decode cX7_cover 2 = .ok (.putfield 63, 3) := by decide +kernel
theorem dX7_cover_5 : decode cX7_cover 5 = .ok (.aload_n 0, 1) := by decide +kernel
theorem dX7_cover_6 : decode cX7_cover 6 = .ok (.iload_n 1, 1) := by decide +kernel
theorem dX7_cover_7 : decode cX7_cover 7 = .ok (.i2l, 1) := by decide +kernel
theorem dX7_cover_8 : decode cX7_cover 8 = .ok (.ldc2_w 59, 3) := by decide +kernel
theorem dX7_cover_11 : decode cX7_cover 11 = .ok (.ldc2_w 323, 3) := by decide +kernel
theorem dX7_cover_14 : decode cX7_cover 14 = .ok (.invokestatic 92, 3) := by decide +kernel
theorem dX7_cover_17 : decode cX7_cover 17 = .ok (.ifCond .eq 16, 3) := by decide +kernel
theorem dX7_cover_20 : decode cX7_cover 20 = .ok (.iload_n 2, 1) := by decide +kernel
theorem dX7_cover_21 : decode cX7_cover 21 = .ok (.i2l, 1) := by decide +kernel
theorem dX7_cover_22 : decode cX7_cover 22 = .ok (.lconst 1, 1) := by decide +kernel
theorem dX7_cover_23 : decode cX7_cover 23 = .ok (.iload_n 1, 1) := by decide +kernel
theorem dX7_cover_24 : decode cX7_cover 24 = .ok (.iconst 2, 1) := by decide +kernel
theorem dX7_cover_25 : decode cX7_cover 25 = .ok (.idiv, 1) := by decide +kernel
theorem dX7_cover_26 : decode cX7_cover 26 = .ok (.i2l, 1) := by decide +kernel
theorem dX7_cover_27 : decode cX7_cover 27 = .ok (.invokestatic 92, 3) := by decide +kernel
theorem dX7_cover_30 : decode cX7_cover 30 = .ok (.ifCond .ne 7, 3) := by decide +kernel
theorem dX7_cover_33 : decode cX7_cover 33 = .ok (.iconst 1, 1) := by decide +kernel
theorem dX7_cover_34 : decode cX7_cover 34 = .ok (.goto 4, 3) := by decide +kernel
theorem dX7_cover_37 : decode cX7_cover 37 = .ok (.iconst 0, 1) := by decide +kernel
theorem dX7_cover_38 : decode cX7_cover 38 = .ok (.iconst 1, 1) := by decide +kernel
theorem dX7_cover_39 : decode cX7_cover 39 = .ok (.iconst 1, 1) := by decide +kernel
theorem dX7_cover_40 : decode cX7_cover 40 = .ok (.invokevirtual 206, 3) := by decide +kernel
theorem dX7_cover_43 : decode cX7_cover 43 = .ok (.ifCond .eq 7, 3) := by decide +kernel
theorem dX7_cover_46 : decode cX7_cover 46 = .ok (.iconst 0, 1) := by decide +kernel
theorem dX7_cover_47 : decode cX7_cover 47 = .ok (.goto 9, 3) := by decide +kernel
theorem dX7_cover_50 : decode cX7_cover 50 = .ok (.aload_n 0, 1) := by decide +kernel
theorem dX7_cover_51 : decode cX7_cover 51 = .ok (.iload_n 1, 1) := by decide +kernel
theorem dX7_cover_52 : decode cX7_cover 52 = .ok (.iload_n 2, 1) := by decide +kernel
theorem dX7_cover_53 : decode cX7_cover 53 = .ok (.invokevirtual 320, 3) := by decide +kernel
theorem dX7_cover_56 : decode cX7_cover 56 = .ok (.ireturn, 1) := by decide +kernel
theorem dX7_good_0 : decode cX7_good 0 = .ok (.aload_n 0, 1) := by decide +kernel
theorem dX7_good_1 : decode cX7_good 1 = .ok (.iconst 0, 1) := by decide +kernel
theorem dX7_good_2 : decode cX7_good 2 = .ok (.putfield 63, 3) := by decide +kernel
theorem dX7_good_5 : decode cX7_good 5 = .ok (.aload_n 0, 1) := by decide +kernel
theorem dX7_good_6 : decode cX7_good 6 = .ok (.iload_n 1, 1) := by decide +kernel
theorem dX7_good_7 : decode cX7_good 7 = .ok (.i2l, 1) := by decide +kernel
theorem dX7_good_8 : decode cX7_good 8 = .ok (.ldc2_w 59, 3) := by decide +kernel
theorem dX7_good_11 : decode cX7_good 11 = .ok (.ldc2_w 323, 3) := by decide +kernel
theorem dX7_good_14 : decode cX7_good 14 = .ok (.invokestatic 92, 3) := by decide +kernel
theorem dX7_good_17 : decode cX7_good 17 = .ok (.ifCond .ne 7, 3) := by decide +kernel
theorem dX7_good_20 : decode cX7_good 20 = .ok (.iconst 1, 1) := by decide +kernel
theorem dX7_good_21 : decode cX7_good 21 = .ok (.goto 4, 3) := by decide +kernel
theorem dX7_good_24 : decode cX7_good 24 = .ok (.iconst 0, 1) := by decide +kernel
theorem dX7_good_25 : decode cX7_good 25 = .ok (.iconst 1, 1) := by decide +kernel
theorem dX7_good_26 : decode cX7_good 26 = .ok (.iconst 1, 1) := by decide +kernel
theorem dX7_good_27 : decode cX7_good 27 = .ok (.invokevirtual 206, 3) := by decide +kernel
theorem dX7_good_30 : decode cX7_good 30 = .ok (.ifCond .eq 7, 3) := by decide +kernel
theorem dX7_good_33 : decode cX7_good 33 = .ok (.iconst 0, 1) := by decide +kernel
theorem dX7_good_34 : decode cX7_good 34 = .ok (.goto 8, 3) := by decide +kernel
theorem dX7_good_37 : decode cX7_good 37 = .ok (.aload_n 0, 1) := by decide +kernel
theorem dX7_good_38 : decode cX7_good 38 = .ok (.iload_n 1, 1) := by decide +kernel
theorem dX7_good_39 : decode cX7_good 39 = .ok (.invokevirtual 325, 3) := by decide +kernel
theorem dX7_good_42 : decode cX7_good 42 = .ok (.ireturn, 1) := by decide +kernel
theorem dX7_areUnlike_0 : decode cX7_areUnlike 0 = .ok (.iconst 0, 1) := by decide +kernel
theorem dX7_areUnlike_1 : decode cX7_areUnlike 1 = .ok (.istore_n 2, 1) := by decide +kernel
theorem dX7_areUnlike_2 : decode cX7_areUnlike 2 = .ok (.iload_n 2, 1) := by decide +kernel
theorem dX7_areUnlike_3 : decode cX7_areUnlike 3 = .ok (.i2l, 1) := by decide +kernel
theorem dX7_areUnlike_4 : decode cX7_areUnlike 4 = .ok (.aload_n 0, 1) := by decide +kernel
theorem dX7_areUnlike_5 : decode cX7_areUnlike 5 = .ok (.getfield 20, 3) := by decide +kernel
theorem dX7_areUnlike_8 : decode cX7_areUnlike 8 = .ok (.iconst 4, 1) := by decide +kernel
theorem dX7_areUnlike_9 : decode cX7_areUnlike 9 = .ok (.laload, 1) := by decide +kernel
theorem dX7_areUnlike_10 : decode cX7_areUnlike 10 = .ok (.lcmp, 1) := by decide +kernel
theorem dX7_areUnlike_11 : decode cX7_areUnlike 11 = .ok (.ifCond .ge 63, 3) := by decide +kernel
theorem dX7_areUnlike_14 : decode cX7_areUnlike 14 = .ok (.iconst 0, 1) := by decide +kernel
theorem dX7_areUnlike_15 : decode cX7_areUnlike 15 = .ok (.istore_n 3, 1) := by decide +kernel
theorem dX7_areUnlike_16 : decode cX7_areUnlike 16 = .ok (.iload_n 3, 1) := by decide +kernel
theorem dX7_areUnlike_17 : decode cX7_areUnlike 17 = .ok (.aload_n 0, 1) := by decide +kernel
theorem dX7_areUnlike_18 : decode cX7_areUnlike 18 = .ok (.iload_n 2, 1) := by decide +kernel
theorem dX7_areUnlike_19 : decode cX7_areUnlike 19 = .ok (.invokevirtual 311, 3) := by decide +kernel
theorem dX7_areUnlike_22 : decode cX7_areUnlike 22 = .ok (.if_icmp .ge 46, 3) := by decide +kernel
theorem dX7_areUnlike_25 : decode cX7_areUnlike 25 = .ok (.iconst 0, 1) := by decide +kernel
theorem dX7_areUnlike_26 : decode cX7_areUnlike 26 = .ok (.istore 4, 2) := by decide +kernel
theorem dX7_areUnlike_28 : decode cX7_areUnlike 28 = .ok (.iload 4, 2) := by decide +kernel
theorem dX7_areUnlike_30 : decode cX7_areUnlike 30 = .ok (.iload_n 3, 1) := by decide +kernel
theorem dX7_areUnlike_31 : decode cX7_areUnlike 31 = .ok (.if_icmp .ge 31, 3) := by decide +kernel
theorem dX7_areUnlike_34 : decode cX7_areUnlike 34 = .ok (.aload_n 0, 1) := by decide +kernel
theorem dX7_areUnlike_35 : decode cX7_areUnlike 35 = .ok (.iload_n 2, 1) := by decide +kernel
theorem dX7_areUnlike_36 : decode cX7_areUnlike 36 = .ok (.iload_n 3, 1) := by decide +kernel
theorem dX7_areUnlike_37 : decode cX7_areUnlike 37 = .ok (.invokevirtual 314, 3) := by decide +kernel
theorem dX7_areUnlike_40 : decode cX7_areUnlike 40 = .ok (.iload_n 1, 1) := by decide +kernel
theorem dX7_areUnlike_41 : decode cX7_areUnlike 41 = .ok (.irem, 1) := by decide +kernel
theorem dX7_areUnlike_42 : decode cX7_areUnlike 42 = .ok (.aload_n 0, 1) := by decide +kernel
theorem dX7_areUnlike_43 : decode cX7_areUnlike 43 = .ok (.iload_n 2, 1) := by decide +kernel
theorem dX7_areUnlike_44 : decode cX7_areUnlike 44 = .ok (.iload 4, 2) := by decide +kernel
theorem dX7_areUnlike_46 : decode cX7_areUnlike 46 = .ok (.invokevirtual 314, 3) := by decide +kernel
theorem dX7_areUnlike_49 : decode cX7_areUnlike 49 = .ok (.iload_n 1, 1) := by decide +kernel
theorem dX7_areUnlike_50 : decode cX7_areUnlike 50 = .ok (.irem, 1) := by decide +kernel
theorem dX7_areUnlike_51 : decode cX7_areUnlike 51 = .ok (.if_icmp .ne 5, 3) := by decide +kernel
theorem dX7_areUnlike_54 : decode cX7_areUnlike 54 = .ok (.iconst 0, 1) := by decide +kernel
theorem dX7_areUnlike_55 : decode cX7_areUnlike 55 = .ok (.ireturn, 1) := by decide +kernel
theorem dX7_areUnlike_56 : decode cX7_areUnlike 56 = .ok (.iinc 4 1, 3) := by decide +kernel
theorem dX7_areUnlike_59 : decode cX7_areUnlike 59 = .ok (.goto (-31), 3) := by decide +kernel
theorem dX7_areUnlike_62 : decode cX7_areUnlike 62 = .ok (.iinc 3 1, 3) := by decide +kernel
theorem dX7_areUnlike_65 : decode cX7_areUnlike 65 = .ok (.goto (-49), 3) := by decide +kernel
theorem dX7_areUnlike_68 : decode cX7_areUnlike 68 = .ok (.iinc 2 1, 3) := by decide +kernel
theorem dX7_areUnlike_71 : decode cX7_areUnlike 71 = .ok (.goto (-69), 3) := by decide +kernel
theorem dX7_areUnlike_74 : decode cX7_areUnlike 74 = .ok (.iconst 1, 1) := by decide +kernel
theorem dX7_areUnlike_75 : decode cX7_areUnlike 75 = .ok (.ireturn, 1) := by decide +kernel
theorem dX7_develop_0 : decode cX7_develop 0 = .ok (.aload_n 0, 1) := by decide +kernel
theorem dX7_develop_1 : decode cX7_develop 1 = .ok (.iconst 0, 1) := by decide +kernel
theorem dX7_develop_2 : decode cX7_develop 2 = .ok (.putfield 63, 3) := by decide +kernel
theorem dX7_develop_5 : decode cX7_develop 5 = .ok (.aload_n 0, 1) := by decide +kernel
theorem dX7_develop_6 : decode cX7_develop 6 = .ok (.getfield 20, 3) := by decide +kernel
theorem dX7_develop_9 : decode cX7_develop 9 = .ok (.iconst 0, 1) := by decide +kernel
theorem dX7_develop_10 : decode cX7_develop 10 = .ok (.laload, 1) := by decide +kernel
theorem dX7_develop_11 : decode cX7_develop 11 = .ok (.l2i, 1) := by decide +kernel
theorem dX7_develop_12 : decode cX7_develop 12 = .ok (.istore_n 1, 1) := by decide +kernel
theorem dX7_develop_13 : decode cX7_develop 13 = .ok (.aload_n 0, 1) := by decide +kernel
theorem dX7_develop_14 : decode cX7_develop 14 = .ok (.iload_n 1, 1) := by decide +kernel
theorem dX7_develop_15 : decode cX7_develop 15 = .ok (.iconst 3, 1) := by decide +kernel
theorem dX7_develop_16 : decode cX7_develop 16 = .ok (.if_icmp .lt 31, 3) := by decide +kernel
theorem dX7_develop_19 : decode cX7_develop 19 = .ok (.aload_n 0, 1) := by decide +kernel
theorem dX7_develop_20 : decode cX7_develop 20 = .ok (.getfield 20, 3) := by decide +kernel
theorem dX7_develop_23 : decode cX7_develop 23 = .ok (.iconst 4, 1) := by decide +kernel
theorem dX7_develop_24 : decode cX7_develop 24 = .ok (.laload, 1) := by decide +kernel
theorem dX7_develop_25 : decode cX7_develop 25 = .ok (.lconst 0, 1) := by decide +kernel
theorem dX7_develop_26 : decode cX7_develop 26 = .ok (.lcmp, 1) := by decide +kernel
theorem dX7_develop_27 : decode cX7_develop 27 = .ok (.ifCond .eq 20, 3) := by decide +kernel
theorem dX7_develop_30 : decode cX7_develop 30 = .ok (.aload_n 0, 1) := by decide +kernel
theorem dX7_develop_31 : decode cX7_develop 31 = .ok (.iload_n 1, 1) := by decide +kernel
theorem dX7_develop_32 : decode cX7_develop 32 = .ok (.invokevirtual 325, 3) := by decide +kernel
theorem dX7_develop_35 : decode cX7_develop 35 = .ok (.iconst (-1), 1) := by decide +kernel
theorem dX7_develop_36 : decode cX7_develop 36 = .ok (.if_icmp .ne 11, 3) := by decide +kernel
theorem dX7_develop_39 : decode cX7_develop 39 = .ok (.aload_n 0, 1) := by decide +kernel
theorem dX7_develop_40 : decode cX7_develop 40 = .ok (.iload_n 1, 1) := by decide +kernel
theorem dX7_develop_41 : decode cX7_develop 41 = .ok (.invokevirtual 328, 3) := by decide +kernel
theorem dX7_develop_44 : decode cX7_develop 44 = .ok (.ifCond .ne 7, 3) := by decide +kernel
theorem dX7_develop_47 : decode cX7_develop 47 = .ok (.iconst 1, 1) := by decide +kernel
theorem dX7_develop_48 : decode cX7_develop 48 = .ok (.goto 4, 3) := by decide +kernel
theorem dX7_develop_51 : decode cX7_develop 51 = .ok (.iconst 0, 1) := by decide +kernel
theorem dX7_develop_52 : decode cX7_develop 52 = .ok (.iconst 1, 1) := by decide +kernel
theorem dX7_develop_53 : decode cX7_develop 53 = .ok (.iconst 2, 1) := by decide +kernel
theorem dX7_develop_54 : decode cX7_develop 54 = .ok (.invokevirtual 206, 3) := by decide +kernel
theorem dX7_develop_57 : decode cX7_develop 57 = .ok (.ifCond .eq 5, 3) := by decide +kernel
theorem dX7_develop_60 : decode cX7_develop 60 = .ok (.iconst 0, 1) := by decide +kernel
theorem dX7_develop_61 : decode cX7_develop 61 = .ok (.ireturn, 1) := by decide +kernel
theorem dX7_develop_62 : decode cX7_develop 62 = .ok (.aload_n 0, 1) := by decide +kernel
theorem dX7_develop_63 : decode cX7_develop 63 = .ok (.invokevirtual 218, 3) := by decide +kernel
theorem dX7_develop_66 : decode cX7_develop 66 = .ok (.aload_n 0, 1) := by decide +kernel
theorem dX7_develop_67 : decode cX7_develop 67 = .ok (.getfield 20, 3) := by decide +kernel
theorem dX7_develop_70 : decode cX7_develop 70 = .ok (.iconst 3, 1) := by decide +kernel
theorem dX7_develop_71 : decode cX7_develop 71 = .ok (.lconst 0, 1) := by decide +kernel
theorem dX7_develop_72 : decode cX7_develop 72 = .ok (.lastore, 1) := by decide +kernel
theorem dX7_develop_73 : decode cX7_develop 73 = .ok (.aload_n 0, 1) := by decide +kernel
theorem dX7_develop_74 : decode cX7_develop 74 = .ok (.getfield 20, 3) := by decide +kernel
theorem dX7_develop_77 : decode cX7_develop 77 = .ok (.bipush 29, 2) := by decide +kernel
theorem dX7_develop_79 : decode cX7_develop 79 = .ok (.lconst 0, 1) := by decide +kernel
theorem dX7_develop_80 : decode cX7_develop 80 = .ok (.lastore, 1) := by decide +kernel
theorem dX7_develop_81 : decode cX7_develop 81 = .ok (.iconst 0, 1) := by decide +kernel
theorem dX7_develop_82 : decode cX7_develop 82 = .ok (.istore_n 2, 1) := by decide +kernel
theorem dX7_develop_83 : decode cX7_develop 83 = .ok (.iload_n 2, 1) := by decide +kernel
theorem dX7_develop_84 : decode cX7_develop 84 = .ok (.bipush 60, 2) := by decide +kernel
theorem dX7_develop_86 : decode cX7_develop 86 = .ok (.if_icmp .ge 19, 3) := by decide +kernel
theorem dX7_develop_89 : decode cX7_develop 89 = .ok (.aload_n 0, 1) := by decide +kernel
theorem dX7_develop_90 : decode cX7_develop 90 = .ok (.getfield 20, 3) := by decide +kernel
theorem dX7_develop_93 : decode cX7_develop 93 = .ok (.bipush 30, 2) := by decide +kernel
theorem dX7_develop_95 : decode cX7_develop 95 = .ok (.iload_n 2, 1) := by decide +kernel
theorem dX7_develop_96 : decode cX7_develop 96 = .ok (.iadd, 1) := by decide +kernel
theorem dX7_develop_97 : decode cX7_develop 97 = .ok (.lconst 0, 1) := by decide +kernel
theorem dX7_develop_98 : decode cX7_develop 98 = .ok (.lastore, 1) := by decide +kernel
theorem dX7_develop_99 : decode cX7_develop 99 = .ok (.iinc 2 1, 3) := by decide +kernel
theorem dX7_develop_102 : decode cX7_develop 102 = .ok (.goto (-19), 3) := by decide +kernel
theorem dX7_develop_105 : decode cX7_develop 105 = .ok (.iconst 0, 1) := by decide +kernel
theorem dX7_develop_106 : decode cX7_develop 106 = .ok (.istore_n 2, 1) := by decide +kernel
theorem dX7_develop_107 : decode cX7_develop 107 = .ok (.iload_n 2, 1) := by decide +kernel
theorem dX7_develop_108 : decode cX7_develop 108 = .ok (.i2l, 1) := by decide +kernel
theorem dX7_develop_109 : decode cX7_develop 109 = .ok (.aload_n 0, 1) := by decide +kernel
theorem dX7_develop_110 : decode cX7_develop 110 = .ok (.getfield 20, 3) := by decide +kernel
theorem dX7_develop_113 : decode cX7_develop 113 = .ok (.iconst 4, 1) := by decide +kernel
theorem dX7_develop_114 : decode cX7_develop 114 = .ok (.laload, 1) := by decide +kernel
theorem dX7_develop_115 : decode cX7_develop 115 = .ok (.lcmp, 1) := by decide +kernel
theorem dX7_develop_116 : decode cX7_develop 116 = .ok (.ifCond .ge 95, 3) := by decide +kernel
theorem dX7_develop_119 : decode cX7_develop 119 = .ok (.iconst 0, 1) := by decide +kernel
theorem dX7_develop_120 : decode cX7_develop 120 = .ok (.istore_n 3, 1) := by decide +kernel
theorem dX7_develop_121 : decode cX7_develop 121 = .ok (.iload_n 3, 1) := by decide +kernel
theorem dX7_develop_122 : decode cX7_develop 122 = .ok (.iload_n 1, 1) := by decide +kernel
theorem dX7_develop_123 : decode cX7_develop 123 = .ok (.if_icmp .ge 82, 3) := by decide +kernel
theorem dX7_develop_126 : decode cX7_develop 126 = .ok (.aload_n 0, 1) := by decide +kernel
theorem dX7_develop_127 : decode cX7_develop 127 = .ok (.aload_n 0, 1) := by decide +kernel
theorem dX7_develop_128 : decode cX7_develop 128 = .ok (.iload_n 2, 1) := by decide +kernel
theorem dX7_develop_129 : decode cX7_develop 129 = .ok (.invokevirtual 311, 3) := by decide +kernel
theorem dX7_develop_132 : decode cX7_develop 132 = .ok (.putfield 85, 3) := by decide +kernel
theorem dX7_develop_135 : decode cX7_develop 135 = .ok (.iconst 0, 1) := by decide +kernel
theorem dX7_develop_136 : decode cX7_develop 136 = .ok (.istore 4, 2) := by decide +kernel
theorem dX7_develop_138 : decode cX7_develop 138 = .ok (.iload 4, 2) := by decide +kernel
theorem dX7_develop_140 : decode cX7_develop 140 = .ok (.aload_n 0, 1) := by decide +kernel
theorem dX7_develop_141 : decode cX7_develop 141 = .ok (.getfield 85, 3) := by decide +kernel
theorem dX7_develop_144 : decode cX7_develop 144 = .ok (.if_icmp .ge 27, 3) := by decide +kernel
theorem dX7_develop_147 : decode cX7_develop 147 = .ok (.aload_n 0, 1) := by decide +kernel
theorem dX7_develop_148 : decode cX7_develop 148 = .ok (.getfield 32, 3) := by decide +kernel
theorem dX7_develop_151 : decode cX7_develop 151 = .ok (.iload 4, 2) := by decide +kernel
theorem dX7_develop_153 : decode cX7_develop 153 = .ok (.aload_n 0, 1) := by decide +kernel
theorem dX7_develop_154 : decode cX7_develop 154 = .ok (.iload_n 2, 1) := by decide +kernel
theorem dX7_develop_155 : decode cX7_develop 155 = .ok (.iload 4, 2) := by decide +kernel
theorem dX7_develop_157 : decode cX7_develop 157 = .ok (.invokevirtual 314, 3) := by decide +kernel
theorem dX7_develop_160 : decode cX7_develop 160 = .ok (.iload_n 3, 1) := by decide +kernel
theorem dX7_develop_161 : decode cX7_develop 161 = .ok (.iadd, 1) := by decide +kernel
theorem dX7_develop_162 : decode cX7_develop 162 = .ok (.iload_n 1, 1) := by decide +kernel
theorem dX7_develop_163 : decode cX7_develop 163 = .ok (.irem, 1) := by decide +kernel
theorem dX7_develop_164 : decode cX7_develop 164 = .ok (.iastore, 1) := by decide +kernel
theorem dX7_develop_165 : decode cX7_develop 165 = .ok (.iinc 4 1, 3) := by decide +kernel
theorem dX7_develop_168 : decode cX7_develop 168 = .ok (.goto (-30), 3) := by decide +kernel
theorem dX7_develop_171 : decode cX7_develop 171 = .ok (.aload_n 0, 1) := by decide +kernel
theorem dX7_develop_172 : decode cX7_develop 172 = .ok (.aload_n 0, 1) := by decide +kernel
theorem dX7_develop_173 : decode cX7_develop 173 = .ok (.getfield 20, 3) := by decide +kernel
theorem dX7_develop_176 : decode cX7_develop 176 = .ok (.invokevirtual 202, 3) := by decide +kernel
theorem dX7_develop_179 : decode cX7_develop 179 = .ok (.lstore 4, 2) := by decide +kernel
theorem dX7_develop_181 : decode cX7_develop 181 = .ok (.aload_n 0, 1) := by decide +kernel
theorem dX7_develop_182 : decode cX7_develop 182 = .ok (.getfield 20, 3) := by decide +kernel
theorem dX7_develop_185 : decode cX7_develop 185 = .ok (.bipush 29, 2) := by decide +kernel
theorem dX7_develop_187 : decode cX7_develop 187 = .ok (.dup2, 1) := by decide +kernel
theorem dX7_develop_188 : decode cX7_develop 188 = .ok (.laload, 1) := by decide +kernel
theorem dX7_develop_189 : decode cX7_develop 189 = .ok (.lload 4, 2) := by decide +kernel
theorem dX7_develop_191 : decode cX7_develop 191 = .ok (.lor, 1) := by decide +kernel
theorem dX7_develop_192 : decode cX7_develop 192 = .ok (.lastore, 1) := by decide +kernel
theorem dX7_develop_193 : decode cX7_develop 193 = .ok (.aload_n 0, 1) := by decide +kernel
theorem dX7_develop_194 : decode cX7_develop 194 = .ok (.lload 4, 2) := by decide +kernel
theorem dX7_develop_196 : decode cX7_develop 196 = .ok (.invokevirtual 271, 3) := by decide +kernel
theorem dX7_develop_199 : decode cX7_develop 199 = .ok (.iinc 3 1, 3) := by decide +kernel
theorem dX7_develop_202 : decode cX7_develop 202 = .ok (.goto (-81), 3) := by decide +kernel
theorem dX7_develop_205 : decode cX7_develop 205 = .ok (.iinc 2 1, 3) := by decide +kernel
theorem dX7_develop_208 : decode cX7_develop 208 = .ok (.goto (-101), 3) := by decide +kernel
theorem dX7_develop_211 : decode cX7_develop 211 = .ok (.aload_n 0, 1) := by decide +kernel
theorem dX7_develop_212 : decode cX7_develop 212 = .ok (.invokevirtual 232, 3) := by decide +kernel
theorem dX7_develop_215 : decode cX7_develop 215 = .ok (.ireturn, 1) := by decide +kernel
theorem dX7_told_0 : decode cX7_told 0 = .ok (.aload_n 0, 1) := by decide +kernel
theorem dX7_told_1 : decode cX7_told 1 = .ok (.iconst 0, 1) := by decide +kernel
theorem dX7_told_2 : decode cX7_told 2 = .ok (.putfield 63, 3) := by decide +kernel
theorem dX7_told_5 : decode cX7_told 5 = .ok (.aload_n 0, 1) := by decide +kernel
theorem dX7_told_6 : decode cX7_told 6 = .ok (.iload_n 1, 1) := by decide +kernel
theorem dX7_told_7 : decode cX7_told 7 = .ok (.i2l, 1) := by decide +kernel
theorem dX7_told_8 : decode cX7_told 8 = .ok (.lconst 0, 1) := by decide +kernel
theorem dX7_told_9 : decode cX7_told 9 = .ok (.ldc2_w 331, 3) := by decide +kernel
theorem dX7_told_12 : decode cX7_told 12 = .ok (.invokestatic 92, 3) := by decide +kernel
theorem dX7_told_15 : decode cX7_told 15 = .ok (.ifCond .ne 7, 3) := by decide +kernel
theorem dX7_told_18 : decode cX7_told 18 = .ok (.iconst 1, 1) := by decide +kernel
theorem dX7_told_19 : decode cX7_told 19 = .ok (.goto 4, 3) := by decide +kernel
theorem dX7_told_22 : decode cX7_told 22 = .ok (.iconst 0, 1) := by decide +kernel
theorem dX7_told_23 : decode cX7_told 23 = .ok (.iconst 1, 1) := by decide +kernel
theorem dX7_told_24 : decode cX7_told 24 = .ok (.iconst 1, 1) := by decide +kernel
theorem dX7_told_25 : decode cX7_told 25 = .ok (.invokevirtual 206, 3) := by decide +kernel
theorem dX7_told_28 : decode cX7_told 28 = .ok (.ifCond .eq 5, 3) := by decide +kernel
theorem dX7_told_31 : decode cX7_told 31 = .ok (.iconst 0, 1) := by decide +kernel
theorem dX7_told_32 : decode cX7_told 32 = .ok (.ireturn, 1) := by decide +kernel
theorem dX7_told_33 : decode cX7_told 33 = .ok (.iload_n 1, 1) := by decide +kernel
theorem dX7_told_34 : decode cX7_told 34 = .ok (.tableswitch 107 0 7 #[46, 54, 65, 73, 81, 86, 94, 102], 46) := by decide +kernel
theorem dX7_told_80 : decode cX7_told 80 = .ok (.aload_n 0, 1) := by decide +kernel
theorem dX7_told_81 : decode cX7_told 81 = .ok (.getfield 20, 3) := by decide +kernel
theorem dX7_told_84 : decode cX7_told 84 = .ok (.iconst 0, 1) := by decide +kernel
theorem dX7_told_85 : decode cX7_told 85 = .ok (.laload, 1) := by decide +kernel
theorem dX7_told_86 : decode cX7_told 86 = .ok (.l2i, 1) := by decide +kernel
theorem dX7_told_87 : decode cX7_told 87 = .ok (.ireturn, 1) := by decide +kernel
theorem dX7_told_88 : decode cX7_told 88 = .ok (.aload_n 0, 1) := by decide +kernel
theorem dX7_told_89 : decode cX7_told 89 = .ok (.getfield 20, 3) := by decide +kernel
theorem dX7_told_92 : decode cX7_told 92 = .ok (.bipush 29, 2) := by decide +kernel
theorem dX7_told_94 : decode cX7_told 94 = .ok (.laload, 1) := by decide +kernel
theorem dX7_told_95 : decode cX7_told 95 = .ok (.invokestatic 229, 3) := by decide +kernel
theorem dX7_told_98 : decode cX7_told 98 = .ok (.ireturn, 1) := by decide +kernel
theorem dX7_told_99 : decode cX7_told 99 = .ok (.aload_n 0, 1) := by decide +kernel
theorem dX7_told_100 : decode cX7_told 100 = .ok (.getfield 20, 3) := by decide +kernel
theorem dX7_told_103 : decode cX7_told 103 = .ok (.iconst 1, 1) := by decide +kernel
theorem dX7_told_104 : decode cX7_told 104 = .ok (.laload, 1) := by decide +kernel
theorem dX7_told_105 : decode cX7_told 105 = .ok (.l2i, 1) := by decide +kernel
theorem dX7_told_106 : decode cX7_told 106 = .ok (.ireturn, 1) := by decide +kernel
theorem dX7_told_107 : decode cX7_told 107 = .ok (.aload_n 0, 1) := by decide +kernel
theorem dX7_told_108 : decode cX7_told 108 = .ok (.getfield 20, 3) := by decide +kernel
theorem dX7_told_111 : decode cX7_told 111 = .ok (.iconst 2, 1) := by decide +kernel
theorem dX7_told_112 : decode cX7_told 112 = .ok (.laload, 1) := by decide +kernel
theorem dX7_told_113 : decode cX7_told 113 = .ok (.l2i, 1) := by decide +kernel
theorem dX7_told_114 : decode cX7_told 114 = .ok (.ireturn, 1) := by decide +kernel
theorem dX7_told_115 : decode cX7_told 115 = .ok (.aload_n 0, 1) := by decide +kernel
theorem dX7_told_116 : decode cX7_told 116 = .ok (.invokevirtual 232, 3) := by decide +kernel
theorem dX7_told_119 : decode cX7_told 119 = .ok (.ireturn, 1) := by decide +kernel
theorem dX7_told_120 : decode cX7_told 120 = .ok (.aload_n 0, 1) := by decide +kernel
theorem dX7_told_121 : decode cX7_told 121 = .ok (.invokevirtual 225, 3) := by decide +kernel
theorem dX7_told_124 : decode cX7_told 124 = .ok (.invokestatic 229, 3) := by decide +kernel
theorem dX7_told_127 : decode cX7_told 127 = .ok (.ireturn, 1) := by decide +kernel
theorem dX7_told_128 : decode cX7_told 128 = .ok (.aload_n 0, 1) := by decide +kernel
theorem dX7_told_129 : decode cX7_told 129 = .ok (.getfield 20, 3) := by decide +kernel
theorem dX7_told_132 : decode cX7_told 132 = .ok (.iconst 4, 1) := by decide +kernel
theorem dX7_told_133 : decode cX7_told 133 = .ok (.laload, 1) := by decide +kernel
theorem dX7_told_134 : decode cX7_told 134 = .ok (.l2i, 1) := by decide +kernel
theorem dX7_told_135 : decode cX7_told 135 = .ok (.ireturn, 1) := by decide +kernel
theorem dX7_told_136 : decode cX7_told 136 = .ok (.aload_n 0, 1) := by decide +kernel
theorem dX7_told_137 : decode cX7_told 137 = .ok (.getfield 66, 3) := by decide +kernel
theorem dX7_told_140 : decode cX7_told 140 = .ok (.ireturn, 1) := by decide +kernel
theorem dX7_told_141 : decode cX7_told 141 = .ok (.aload_n 0, 1) := by decide +kernel
theorem dX7_told_142 : decode cX7_told 142 = .ok (.getfield 268, 3) := by decide +kernel
theorem dX7_told_145 : decode cX7_told 145 = .ok (.ireturn, 1) := by decide +kernel
theorem dX7_isNode_0 : decode cX7_isNode 0 = .ok (.iload_n 1, 1) := by decide +kernel
theorem dX7_isNode_1 : decode cX7_isNode 1 = .ok (.i2l, 1) := by decide +kernel
theorem dX7_isNode_2 : decode cX7_isNode 2 = .ok (.lconst 0, 1) := by decide +kernel
theorem dX7_isNode_3 : decode cX7_isNode 3 = .ok (.aload_n 0, 1) := by decide +kernel
theorem dX7_isNode_4 : decode cX7_isNode 4 = .ok (.getfield 20, 3) := by decide +kernel
theorem dX7_isNode_7 : decode cX7_isNode 7 = .ok (.iconst 0, 1) := by decide +kernel
theorem dX7_isNode_8 : decode cX7_isNode 8 = .ok (.laload, 1) := by decide +kernel
theorem dX7_isNode_9 : decode cX7_isNode 9 = .ok (.lconst 1, 1) := by decide +kernel
theorem dX7_isNode_10 : decode cX7_isNode 10 = .ok (.lsub, 1) := by decide +kernel
theorem dX7_isNode_11 : decode cX7_isNode 11 = .ok (.invokestatic 92, 3) := by decide +kernel
theorem dX7_isNode_14 : decode cX7_isNode 14 = .ok (.ireturn, 1) := by decide +kernel
theorem dX7_line_0 : decode cX7_line 0 = .ok (.aload_n 0, 1) := by decide +kernel
theorem dX7_line_1 : decode cX7_line 1 = .ok (.iconst 0, 1) := by decide +kernel
theorem dX7_line_2 : decode cX7_line 2 = .ok (.putfield 63, 3) := by decide +kernel
theorem dX7_line_5 : decode cX7_line 5 = .ok (.aload_n 0, 1) := by decide +kernel
theorem dX7_line_6 : decode cX7_line 6 = .ok (.aload_n 0, 1) := by decide +kernel
theorem dX7_line_7 : decode cX7_line 7 = .ok (.iload_n 1, 1) := by decide +kernel
theorem dX7_line_8 : decode cX7_line 8 = .ok (.invokevirtual 333, 3) := by decide +kernel
theorem dX7_line_11 : decode cX7_line 11 = .ok (.ifCond .eq 11, 3) := by decide +kernel
theorem dX7_line_14 : decode cX7_line 14 = .ok (.aload_n 0, 1) := by decide +kernel
theorem dX7_line_15 : decode cX7_line 15 = .ok (.iload_n 2, 1) := by decide +kernel
theorem dX7_line_16 : decode cX7_line 16 = .ok (.invokevirtual 333, 3) := by decide +kernel
theorem dX7_line_19 : decode cX7_line 19 = .ok (.ifCond .ne 7, 3) := by decide +kernel
theorem dX7_line_22 : decode cX7_line 22 = .ok (.iconst 1, 1) := by decide +kernel
theorem dX7_line_23 : decode cX7_line 23 = .ok (.goto 4, 3) := by decide +kernel
theorem dX7_line_26 : decode cX7_line 26 = .ok (.iconst 0, 1) := by decide +kernel
theorem dX7_line_27 : decode cX7_line 27 = .ok (.iconst 1, 1) := by decide +kernel
theorem dX7_line_28 : decode cX7_line 28 = .ok (.iconst 0, 1) := by decide +kernel
theorem dX7_line_29 : decode cX7_line 29 = .ok (.invokevirtual 206, 3) := by decide +kernel
theorem dX7_line_32 : decode cX7_line 32 = .ok (.ifCond .ne 34, 3) := by decide +kernel
theorem dX7_line_35 : decode cX7_line 35 = .ok (.aload_n 0, 1) := by decide +kernel
theorem dX7_line_36 : decode cX7_line 36 = .ok (.iload_n 1, 1) := by decide +kernel
theorem dX7_line_37 : decode cX7_line 37 = .ok (.iload_n 2, 1) := by decide +kernel
theorem dX7_line_38 : decode cX7_line 38 = .ok (.if_icmp .eq 15, 3) := by decide +kernel
theorem dX7_line_41 : decode cX7_line 41 = .ok (.iload_n 3, 1) := by decide +kernel
theorem dX7_line_42 : decode cX7_line 42 = .ok (.i2l, 1) := by decide +kernel
theorem dX7_line_43 : decode cX7_line 43 = .ok (.lconst 0, 1) := by decide +kernel
theorem dX7_line_44 : decode cX7_line 44 = .ok (.ldc2_w 76, 3) := by decide +kernel
theorem dX7_line_47 : decode cX7_line 47 = .ok (.invokestatic 92, 3) := by decide +kernel
theorem dX7_line_50 : decode cX7_line 50 = .ok (.ifCond .ne 7, 3) := by decide +kernel
theorem dX7_line_53 : decode cX7_line 53 = .ok (.iconst 1, 1) := by decide +kernel
theorem dX7_line_54 : decode cX7_line 54 = .ok (.goto 4, 3) := by decide +kernel
theorem dX7_line_57 : decode cX7_line 57 = .ok (.iconst 0, 1) := by decide +kernel
theorem dX7_line_58 : decode cX7_line 58 = .ok (.iconst 2, 1) := by decide +kernel
theorem dX7_line_59 : decode cX7_line 59 = .ok (.iconst 1, 1) := by decide +kernel
theorem dX7_line_60 : decode cX7_line 60 = .ok (.invokevirtual 206, 3) := by decide +kernel
theorem dX7_line_63 : decode cX7_line 63 = .ok (.ifCond .eq 5, 3) := by decide +kernel
theorem dX7_line_66 : decode cX7_line 66 = .ok (.iconst 0, 1) := by decide +kernel
theorem dX7_line_67 : decode cX7_line 67 = .ok (.ireturn, 1) := by decide +kernel
theorem dX7_line_68 : decode cX7_line 68 = .ok (.aload_n 0, 1) := by decide +kernel
theorem dX7_line_69 : decode cX7_line 69 = .ok (.getfield 20, 3) := by decide +kernel
theorem dX7_line_72 : decode cX7_line 72 = .ok (.iconst 0, 1) := by decide +kernel
theorem dX7_line_73 : decode cX7_line 73 = .ok (.laload, 1) := by decide +kernel
theorem dX7_line_74 : decode cX7_line 74 = .ok (.l2i, 1) := by decide +kernel
theorem dX7_line_75 : decode cX7_line 75 = .ok (.iload_n 1, 1) := by decide +kernel
theorem dX7_line_76 : decode cX7_line 76 = .ok (.iload_n 2, 1) := by decide +kernel
theorem dX7_line_77 : decode cX7_line 77 = .ok (.invokestatic 96, 3) := by decide +kernel
theorem dX7_line_80 : decode cX7_line 80 = .ok (.istore 4, 2) := by decide +kernel
theorem dX7_line_82 : decode cX7_line 82 = .ok (.iload_n 3, 1) := by decide +kernel
theorem dX7_line_83 : decode cX7_line 83 = .ok (.iconst 2, 1) := by decide +kernel
theorem dX7_line_84 : decode cX7_line 84 = .ok (.if_icmp .ge 26, 3) := by decide +kernel
theorem dX7_line_87 : decode cX7_line 87 = .ok (.iload_n 3, 1) := by decide +kernel
theorem dX7_line_88 : decode cX7_line 88 = .ok (.ifCond .ne 8, 3) := by decide +kernel
theorem dX7_line_91 : decode cX7_line 91 = .ok (.iload 4, 2) := by decide +kernel
theorem dX7_line_93 : decode cX7_line 93 = .ok (.goto 16, 3) := by decide +kernel
theorem dX7_line_96 : decode cX7_line 96 = .ok (.aload_n 0, 1) := by decide +kernel
theorem dX7_line_97 : decode cX7_line 97 = .ok (.getfield 20, 3) := by decide +kernel
theorem dX7_line_100 : decode cX7_line 100 = .ok (.bipush 29, 2) := by decide +kernel
theorem dX7_line_102 : decode cX7_line 102 = .ok (.laload, 1) := by decide +kernel
theorem dX7_line_103 : decode cX7_line 103 = .ok (.iload 4, 2) := by decide +kernel
theorem dX7_line_105 : decode cX7_line 105 = .ok (.lshr, 1) := by decide +kernel
theorem dX7_line_106 : decode cX7_line 106 = .ok (.lconst 1, 1) := by decide +kernel
theorem dX7_line_107 : decode cX7_line 107 = .ok (.land, 1) := by decide +kernel
theorem dX7_line_108 : decode cX7_line 108 = .ok (.l2i, 1) := by decide +kernel
theorem dX7_line_109 : decode cX7_line 109 = .ok (.ireturn, 1) := by decide +kernel
theorem dX7_line_110 : decode cX7_line 110 = .ok (.iconst 0, 1) := by decide +kernel
theorem dX7_line_111 : decode cX7_line 111 = .ok (.istore 5, 2) := by decide +kernel
theorem dX7_line_113 : decode cX7_line 113 = .ok (.iload 5, 2) := by decide +kernel
theorem dX7_line_115 : decode cX7_line 115 = .ok (.aload_n 0, 1) := by decide +kernel
theorem dX7_line_116 : decode cX7_line 116 = .ok (.invokevirtual 232, 3) := by decide +kernel
theorem dX7_line_119 : decode cX7_line 119 = .ok (.if_icmp .ge 32, 3) := by decide +kernel
theorem dX7_line_122 : decode cX7_line 122 = .ok (.aload_n 0, 1) := by decide +kernel
theorem dX7_line_123 : decode cX7_line 123 = .ok (.getfield 20, 3) := by decide +kernel
theorem dX7_line_126 : decode cX7_line 126 = .ok (.bipush 30, 2) := by decide +kernel
theorem dX7_line_128 : decode cX7_line 128 = .ok (.iload 5, 2) := by decide +kernel
theorem dX7_line_130 : decode cX7_line 130 = .ok (.iadd, 1) := by decide +kernel
theorem dX7_line_131 : decode cX7_line 131 = .ok (.laload, 1) := by decide +kernel
theorem dX7_line_132 : decode cX7_line 132 = .ok (.iload 4, 2) := by decide +kernel
theorem dX7_line_134 : decode cX7_line 134 = .ok (.lshr, 1) := by decide +kernel
theorem dX7_line_135 : decode cX7_line 135 = .ok (.lconst 1, 1) := by decide +kernel
theorem dX7_line_136 : decode cX7_line 136 = .ok (.land, 1) := by decide +kernel
theorem dX7_line_137 : decode cX7_line 137 = .ok (.lconst 1, 1) := by decide +kernel
theorem dX7_line_138 : decode cX7_line 138 = .ok (.lcmp, 1) := by decide +kernel
theorem dX7_line_139 : decode cX7_line 139 = .ok (.ifCond .ne 6, 3) := by decide +kernel
theorem dX7_line_142 : decode cX7_line 142 = .ok (.iload 5, 2) := by decide +kernel
theorem dX7_line_144 : decode cX7_line 144 = .ok (.ireturn, 1) := by decide +kernel
theorem dX7_line_145 : decode cX7_line 145 = .ok (.iinc 5 1, 3) := by decide +kernel
theorem dX7_line_148 : decode cX7_line 148 = .ok (.goto (-35), 3) := by decide +kernel
theorem dX7_line_151 : decode cX7_line 151 = .ok (.iconst (-1), 1) := by decide +kernel
theorem dX7_line_152 : decode cX7_line 152 = .ok (.ireturn, 1) := by decide +kernel
theorem dX7_node_0 : decode cX7_node 0 = .ok (.aload_n 0, 1) := by decide +kernel
theorem dX7_node_1 : decode cX7_node 1 = .ok (.iconst 0, 1) := by decide +kernel
theorem dX7_node_2 : decode cX7_node 2 = .ok (.putfield 63, 3) := by decide +kernel
theorem dX7_node_5 : decode cX7_node 5 = .ok (.aload_n 0, 1) := by decide +kernel
theorem dX7_node_6 : decode cX7_node 6 = .ok (.aload_n 0, 1) := by decide +kernel
theorem dX7_node_7 : decode cX7_node 7 = .ok (.iload_n 1, 1) := by decide +kernel
theorem dX7_node_8 : decode cX7_node 8 = .ok (.invokevirtual 333, 3) := by decide +kernel
theorem dX7_node_11 : decode cX7_node 11 = .ok (.ifCond .ne 7, 3) := by decide +kernel
theorem dX7_node_14 : decode cX7_node 14 = .ok (.iconst 1, 1) := by decide +kernel
theorem dX7_node_15 : decode cX7_node 15 = .ok (.goto 4, 3) := by decide +kernel
theorem dX7_node_18 : decode cX7_node 18 = .ok (.iconst 0, 1) := by decide +kernel
theorem dX7_node_19 : decode cX7_node 19 = .ok (.iconst 1, 1) := by decide +kernel
theorem dX7_node_20 : decode cX7_node 20 = .ok (.iconst 0, 1) := by decide +kernel
theorem dX7_node_21 : decode cX7_node 21 = .ok (.invokevirtual 206, 3) := by decide +kernel
theorem dX7_node_24 : decode cX7_node 24 = .ok (.ifCond .ne 29, 3) := by decide +kernel
theorem dX7_node_27 : decode cX7_node 27 = .ok (.aload_n 0, 1) := by decide +kernel
theorem dX7_node_28 : decode cX7_node 28 = .ok (.iload_n 2, 1) := by decide +kernel
theorem dX7_node_29 : decode cX7_node 29 = .ok (.i2l, 1) := by decide +kernel
theorem dX7_node_30 : decode cX7_node 30 = .ok (.lconst 0, 1) := by decide +kernel
theorem dX7_node_31 : decode cX7_node 31 = .ok (.ldc2_w 76, 3) := by decide +kernel
theorem dX7_node_34 : decode cX7_node 34 = .ok (.invokestatic 92, 3) := by decide +kernel
theorem dX7_node_37 : decode cX7_node 37 = .ok (.ifCond .ne 7, 3) := by decide +kernel
theorem dX7_node_40 : decode cX7_node 40 = .ok (.iconst 1, 1) := by decide +kernel
theorem dX7_node_41 : decode cX7_node 41 = .ok (.goto 4, 3) := by decide +kernel
theorem dX7_node_44 : decode cX7_node 44 = .ok (.iconst 0, 1) := by decide +kernel
theorem dX7_node_45 : decode cX7_node 45 = .ok (.iconst 2, 1) := by decide +kernel
theorem dX7_node_46 : decode cX7_node 46 = .ok (.iconst 1, 1) := by decide +kernel
theorem dX7_node_47 : decode cX7_node 47 = .ok (.invokevirtual 206, 3) := by decide +kernel
theorem dX7_node_50 : decode cX7_node 50 = .ok (.ifCond .eq 5, 3) := by decide +kernel
theorem dX7_node_53 : decode cX7_node 53 = .ok (.iconst 0, 1) := by decide +kernel
theorem dX7_node_54 : decode cX7_node 54 = .ok (.ireturn, 1) := by decide +kernel
theorem dX7_node_55 : decode cX7_node 55 = .ok (.iload_n 2, 1) := by decide +kernel
theorem dX7_node_56 : decode cX7_node 56 = .ok (.iconst 2, 1) := by decide +kernel
theorem dX7_node_57 : decode cX7_node 57 = .ok (.if_icmp .ge 27, 3) := by decide +kernel
theorem dX7_node_60 : decode cX7_node 60 = .ok (.aload_n 0, 1) := by decide +kernel
theorem dX7_node_61 : decode cX7_node 61 = .ok (.iload_n 2, 1) := by decide +kernel
theorem dX7_node_62 : decode cX7_node 62 = .ok (.ifCond .ne 13, 3) := by decide +kernel
theorem dX7_node_65 : decode cX7_node 65 = .ok (.aload_n 0, 1) := by decide +kernel
theorem dX7_node_66 : decode cX7_node 66 = .ok (.getfield 20, 3) := by decide +kernel
theorem dX7_node_69 : decode cX7_node 69 = .ok (.bipush 29, 2) := by decide +kernel
theorem dX7_node_71 : decode cX7_node 71 = .ok (.laload, 1) := by decide +kernel
theorem dX7_node_72 : decode cX7_node 72 = .ok (.goto 7, 3) := by decide +kernel
theorem dX7_node_75 : decode cX7_node 75 = .ok (.aload_n 0, 1) := by decide +kernel
theorem dX7_node_76 : decode cX7_node 76 = .ok (.invokevirtual 225, 3) := by decide +kernel
theorem dX7_node_79 : decode cX7_node 79 = .ok (.iload_n 1, 1) := by decide +kernel
theorem dX7_node_80 : decode cX7_node 80 = .ok (.invokevirtual 336, 3) := by decide +kernel
theorem dX7_node_83 : decode cX7_node 83 = .ok (.ireturn, 1) := by decide +kernel
theorem dX7_node_84 : decode cX7_node 84 = .ok (.iconst 0, 1) := by decide +kernel
theorem dX7_node_85 : decode cX7_node 85 = .ok (.istore_n 3, 1) := by decide +kernel
theorem dX7_node_86 : decode cX7_node 86 = .ok (.iconst 0, 1) := by decide +kernel
theorem dX7_node_87 : decode cX7_node 87 = .ok (.istore 4, 2) := by decide +kernel
theorem dX7_node_89 : decode cX7_node 89 = .ok (.iload 4, 2) := by decide +kernel
theorem dX7_node_91 : decode cX7_node 91 = .ok (.aload_n 0, 1) := by decide +kernel
theorem dX7_node_92 : decode cX7_node 92 = .ok (.invokevirtual 232, 3) := by decide +kernel
theorem dX7_node_95 : decode cX7_node 95 = .ok (.if_icmp .ge 30, 3) := by decide +kernel
theorem dX7_node_98 : decode cX7_node 98 = .ok (.iload_n 3, 1) := by decide +kernel
theorem dX7_node_99 : decode cX7_node 99 = .ok (.aload_n 0, 1) := by decide +kernel
theorem dX7_node_100 : decode cX7_node 100 = .ok (.aload_n 0, 1) := by decide +kernel
theorem dX7_node_101 : decode cX7_node 101 = .ok (.getfield 20, 3) := by decide +kernel
theorem dX7_node_104 : decode cX7_node 104 = .ok (.bipush 30, 2) := by decide +kernel
theorem dX7_node_106 : decode cX7_node 106 = .ok (.iload 4, 2) := by decide +kernel
theorem dX7_node_108 : decode cX7_node 108 = .ok (.iadd, 1) := by decide +kernel
theorem dX7_node_109 : decode cX7_node 109 = .ok (.laload, 1) := by decide +kernel
theorem dX7_node_110 : decode cX7_node 110 = .ok (.invokevirtual 340, 3) := by decide +kernel
theorem dX7_node_113 : decode cX7_node 113 = .ok (.iload_n 1, 1) := by decide +kernel
theorem dX7_node_114 : decode cX7_node 114 = .ok (.ishr, 1) := by decide +kernel
theorem dX7_node_115 : decode cX7_node 115 = .ok (.iconst 1, 1) := by decide +kernel
theorem dX7_node_116 : decode cX7_node 116 = .ok (.iand, 1) := by decide +kernel
theorem dX7_node_117 : decode cX7_node 117 = .ok (.iadd, 1) := by decide +kernel
theorem dX7_node_118 : decode cX7_node 118 = .ok (.istore_n 3, 1) := by decide +kernel
theorem dX7_node_119 : decode cX7_node 119 = .ok (.iinc 4 1, 3) := by decide +kernel
theorem dX7_node_122 : decode cX7_node 122 = .ok (.goto (-33), 3) := by decide +kernel
theorem dX7_node_125 : decode cX7_node 125 = .ok (.iload_n 3, 1) := by decide +kernel
theorem dX7_node_126 : decode cX7_node 126 = .ok (.ireturn, 1) := by decide +kernel
theorem dX7_part_0 : decode cX7_part 0 = .ok (.aload_n 0, 1) := by decide +kernel
theorem dX7_part_1 : decode cX7_part 1 = .ok (.iconst 0, 1) := by decide +kernel
theorem dX7_part_2 : decode cX7_part 2 = .ok (.putfield 63, 3) := by decide +kernel
theorem dX7_part_5 : decode cX7_part 5 = .ok (.aload_n 0, 1) := by decide +kernel
theorem dX7_part_6 : decode cX7_part 6 = .ok (.aload_n 0, 1) := by decide +kernel
theorem dX7_part_7 : decode cX7_part 7 = .ok (.iload_n 1, 1) := by decide +kernel
theorem dX7_part_8 : decode cX7_part 8 = .ok (.invokevirtual 275, 3) := by decide +kernel
theorem dX7_part_11 : decode cX7_part 11 = .ok (.ifCond .ne 7, 3) := by decide +kernel
theorem dX7_part_14 : decode cX7_part 14 = .ok (.iconst 1, 1) := by decide +kernel
theorem dX7_part_15 : decode cX7_part 15 = .ok (.goto 4, 3) := by decide +kernel
theorem dX7_part_18 : decode cX7_part 18 = .ok (.iconst 0, 1) := by decide +kernel
theorem dX7_part_19 : decode cX7_part 19 = .ok (.iconst 1, 1) := by decide +kernel
theorem dX7_part_20 : decode cX7_part 20 = .ok (.iconst 0, 1) := by decide +kernel
theorem dX7_part_21 : decode cX7_part 21 = .ok (.invokevirtual 206, 3) := by decide +kernel
theorem dX7_part_24 : decode cX7_part 24 = .ok (.ifCond .eq 5, 3) := by decide +kernel
theorem dX7_part_27 : decode cX7_part 27 = .ok (.iconst 0, 1) := by decide +kernel
theorem dX7_part_28 : decode cX7_part 28 = .ok (.ireturn, 1) := by decide +kernel
theorem dX7_part_29 : decode cX7_part 29 = .ok (.aload_n 0, 1) := by decide +kernel
theorem dX7_part_30 : decode cX7_part 30 = .ok (.getfield 20, 3) := by decide +kernel
theorem dX7_part_33 : decode cX7_part 33 = .ok (.bipush 30, 2) := by decide +kernel
theorem dX7_part_35 : decode cX7_part 35 = .ok (.iload_n 1, 1) := by decide +kernel
theorem dX7_part_36 : decode cX7_part 36 = .ok (.iadd, 1) := by decide +kernel
theorem dX7_part_37 : decode cX7_part 37 = .ok (.laload, 1) := by decide +kernel
theorem dX7_part_38 : decode cX7_part 38 = .ok (.lstore_n 3, 1) := by decide +kernel
theorem dX7_part_39 : decode cX7_part 39 = .ok (.iconst 0, 1) := by decide +kernel
theorem dX7_part_40 : decode cX7_part 40 = .ok (.istore 5, 2) := by decide +kernel
theorem dX7_part_42 : decode cX7_part 42 = .ok (.iload 5, 2) := by decide +kernel
theorem dX7_part_44 : decode cX7_part 44 = .ok (.iload_n 2, 1) := by decide +kernel
theorem dX7_part_45 : decode cX7_part 45 = .ok (.if_icmp .ge 21, 3) := by decide +kernel
theorem dX7_part_48 : decode cX7_part 48 = .ok (.lload_n 3, 1) := by decide +kernel
theorem dX7_part_49 : decode cX7_part 49 = .ok (.lconst 0, 1) := by decide +kernel
theorem dX7_part_50 : decode cX7_part 50 = .ok (.lcmp, 1) := by decide +kernel
theorem dX7_part_51 : decode cX7_part 51 = .ok (.ifCond .eq 15, 3) := by decide +kernel
theorem dX7_part_54 : decode cX7_part 54 = .ok (.lload_n 3, 1) := by decide +kernel
theorem dX7_part_55 : decode cX7_part 55 = .ok (.lload_n 3, 1) := by decide +kernel
theorem dX7_part_56 : decode cX7_part 56 = .ok (.lconst 1, 1) := by decide +kernel
theorem dX7_part_57 : decode cX7_part 57 = .ok (.lsub, 1) := by decide +kernel
theorem dX7_part_58 : decode cX7_part 58 = .ok (.land, 1) := by decide +kernel
theorem dX7_part_59 : decode cX7_part 59 = .ok (.lstore_n 3, 1) := by decide +kernel
theorem dX7_part_60 : decode cX7_part 60 = .ok (.iinc 5 1, 3) := by decide +kernel
theorem dX7_part_63 : decode cX7_part 63 = .ok (.goto (-21), 3) := by decide +kernel
theorem dX7_part_66 : decode cX7_part 66 = .ok (.iload_n 2, 1) := by decide +kernel
theorem dX7_part_67 : decode cX7_part 67 = .ok (.ifCond .lt 9, 3) := by decide +kernel
theorem dX7_part_70 : decode cX7_part 70 = .ok (.lload_n 3, 1) := by decide +kernel
theorem dX7_part_71 : decode cX7_part 71 = .ok (.lconst 0, 1) := by decide +kernel
theorem dX7_part_72 : decode cX7_part 72 = .ok (.lcmp, 1) := by decide +kernel
theorem dX7_part_73 : decode cX7_part 73 = .ok (.ifCond .ne 7, 3) := by decide +kernel
theorem dX7_part_76 : decode cX7_part 76 = .ok (.iconst (-1), 1) := by decide +kernel
theorem dX7_part_77 : decode cX7_part 77 = .ok (.goto 7, 3) := by decide +kernel
theorem dX7_part_80 : decode cX7_part 80 = .ok (.lload_n 3, 1) := by decide +kernel
theorem dX7_part_81 : decode cX7_part 81 = .ok (.invokestatic 82, 3) := by decide +kernel
theorem dX7_part_84 : decode cX7_part 84 = .ok (.ireturn, 1) := by decide +kernel
theorem dX7_left_0 : decode cX7_left 0 = .ok (.aload_n 0, 1) := by decide +kernel
theorem dX7_left_1 : decode cX7_left 1 = .ok (.iconst 0, 1) := by decide +kernel
theorem dX7_left_2 : decode cX7_left 2 = .ok (.putfield 63, 3) := by decide +kernel
theorem dX7_left_5 : decode cX7_left 5 = .ok (.aload_n 0, 1) := by decide +kernel
theorem dX7_left_6 : decode cX7_left 6 = .ok (.invokevirtual 225, 3) := by decide +kernel
theorem dX7_left_9 : decode cX7_left 9 = .ok (.lreturn, 1) := by decide +kernel
theorem dX7_parts_0 : decode cX7_parts 0 = .ok (.aload_n 0, 1) := by decide +kernel
theorem dX7_parts_1 : decode cX7_parts 1 = .ok (.iconst 0, 1) := by decide +kernel
theorem dX7_parts_2 : decode cX7_parts 2 = .ok (.putfield 63, 3) := by decide +kernel
theorem dX7_parts_5 : decode cX7_parts 5 = .ok (.aload_n 0, 1) := by decide +kernel
theorem dX7_parts_6 : decode cX7_parts 6 = .ok (.iload_n 1, 1) := by decide +kernel
theorem dX7_parts_7 : decode cX7_parts 7 = .ok (.i2l, 1) := by decide +kernel
theorem dX7_parts_8 : decode cX7_parts 8 = .ok (.lconst 0, 1) := by decide +kernel
theorem dX7_parts_9 : decode cX7_parts 9 = .ok (.lconst 1, 1) := by decide +kernel
theorem dX7_parts_10 : decode cX7_parts 10 = .ok (.invokestatic 92, 3) := by decide +kernel
theorem dX7_parts_13 : decode cX7_parts 13 = .ok (.ifCond .ne 7, 3) := by decide +kernel
theorem dX7_parts_16 : decode cX7_parts 16 = .ok (.iconst 1, 1) := by decide +kernel
theorem dX7_parts_17 : decode cX7_parts 17 = .ok (.goto 4, 3) := by decide +kernel
theorem dX7_parts_20 : decode cX7_parts 20 = .ok (.iconst 0, 1) := by decide +kernel
theorem dX7_parts_21 : decode cX7_parts 21 = .ok (.iconst 1, 1) := by decide +kernel
theorem dX7_parts_22 : decode cX7_parts 22 = .ok (.iconst 1, 1) := by decide +kernel
theorem dX7_parts_23 : decode cX7_parts 23 = .ok (.invokevirtual 206, 3) := by decide +kernel
theorem dX7_parts_26 : decode cX7_parts 26 = .ok (.ifCond .eq 7, 3) := by decide +kernel
theorem dX7_parts_29 : decode cX7_parts 29 = .ok (.iconst 0, 1) := by decide +kernel
theorem dX7_parts_30 : decode cX7_parts 30 = .ok (.goto 25, 3) := by decide +kernel
theorem dX7_parts_33 : decode cX7_parts 33 = .ok (.aload_n 0, 1) := by decide +kernel
theorem dX7_parts_34 : decode cX7_parts 34 = .ok (.iload_n 1, 1) := by decide +kernel
theorem dX7_parts_35 : decode cX7_parts 35 = .ok (.ifCond .ne 13, 3) := by decide +kernel
theorem dX7_parts_38 : decode cX7_parts 38 = .ok (.aload_n 0, 1) := by decide +kernel
theorem dX7_parts_39 : decode cX7_parts 39 = .ok (.getfield 20, 3) := by decide +kernel
theorem dX7_parts_42 : decode cX7_parts 42 = .ok (.bipush 29, 2) := by decide +kernel
theorem dX7_parts_44 : decode cX7_parts 44 = .ok (.laload, 1) := by decide +kernel
theorem dX7_parts_45 : decode cX7_parts 45 = .ok (.goto 7, 3) := by decide +kernel
theorem dX7_parts_48 : decode cX7_parts 48 = .ok (.aload_n 0, 1) := by decide +kernel
theorem dX7_parts_49 : decode cX7_parts 49 = .ok (.invokevirtual 225, 3) := by decide +kernel
theorem dX7_parts_52 : decode cX7_parts 52 = .ok (.invokevirtual 343, 3) := by decide +kernel
theorem dX7_parts_55 : decode cX7_parts 55 = .ok (.ireturn, 1) := by decide +kernel
theorem dX7_partAt_0 : decode cX7_partAt 0 = .ok (.aload_n 0, 1) := by decide +kernel
theorem dX7_partAt_1 : decode cX7_partAt 1 = .ok (.iconst 0, 1) := by decide +kernel
theorem dX7_partAt_2 : decode cX7_partAt 2 = .ok (.putfield 63, 3) := by decide +kernel
theorem dX7_partAt_5 : decode cX7_partAt 5 = .ok (.aload_n 0, 1) := by decide +kernel
theorem dX7_partAt_6 : decode cX7_partAt 6 = .ok (.invokevirtual 265, 3) := by decide +kernel
theorem dX7_partAt_9 : decode cX7_partAt 9 = .ok (.aload_n 0, 1) := by decide +kernel
theorem dX7_partAt_10 : decode cX7_partAt 10 = .ok (.invokevirtual 225, 3) := by decide +kernel
theorem dX7_partAt_13 : decode cX7_partAt 13 = .ok (.lstore_n 2, 1) := by decide +kernel
theorem dX7_partAt_14 : decode cX7_partAt 14 = .ok (.iconst 0, 1) := by decide +kernel
theorem dX7_partAt_15 : decode cX7_partAt 15 = .ok (.istore 4, 2) := by decide +kernel
theorem dX7_partAt_17 : decode cX7_partAt 17 = .ok (.iconst 0, 1) := by decide +kernel
theorem dX7_partAt_18 : decode cX7_partAt 18 = .ok (.istore 5, 2) := by decide +kernel
theorem dX7_partAt_20 : decode cX7_partAt 20 = .ok (.iload 5, 2) := by decide +kernel
theorem dX7_partAt_22 : decode cX7_partAt 22 = .ok (.aload_n 0, 1) := by decide +kernel
theorem dX7_partAt_23 : decode cX7_partAt 23 = .ok (.getfield 241, 3) := by decide +kernel
theorem dX7_partAt_26 : decode cX7_partAt 26 = .ok (.if_icmp .ge 47, 3) := by decide +kernel
theorem dX7_partAt_29 : decode cX7_partAt 29 = .ok (.aload_n 0, 1) := by decide +kernel
theorem dX7_partAt_30 : decode cX7_partAt 30 = .ok (.getfield 41, 3) := by decide +kernel
theorem dX7_partAt_33 : decode cX7_partAt 33 = .ok (.iload 5, 2) := by decide +kernel
theorem dX7_partAt_35 : decode cX7_partAt 35 = .ok (.laload, 1) := by decide +kernel
theorem dX7_partAt_36 : decode cX7_partAt 36 = .ok (.lload_n 2, 1) := by decide +kernel
theorem dX7_partAt_37 : decode cX7_partAt 37 = .ok (.ldc2_w 165, 3) := by decide +kernel
theorem dX7_partAt_40 : decode cX7_partAt 40 = .ok (.lxor, 1) := by decide +kernel
theorem dX7_partAt_41 : decode cX7_partAt 41 = .ok (.land, 1) := by decide +kernel
theorem dX7_partAt_42 : decode cX7_partAt 42 = .ok (.lconst 0, 1) := by decide +kernel
theorem dX7_partAt_43 : decode cX7_partAt 43 = .ok (.lcmp, 1) := by decide +kernel
theorem dX7_partAt_44 : decode cX7_partAt 44 = .ok (.ifCond .eq 6, 3) := by decide +kernel
theorem dX7_partAt_47 : decode cX7_partAt 47 = .ok (.goto 20, 3) := by decide +kernel
theorem dX7_partAt_50 : decode cX7_partAt 50 = .ok (.iload 4, 2) := by decide +kernel
theorem dX7_partAt_52 : decode cX7_partAt 52 = .ok (.iload_n 1, 1) := by decide +kernel
theorem dX7_partAt_53 : decode cX7_partAt 53 = .ok (.if_icmp .ne 11, 3) := by decide +kernel
theorem dX7_partAt_56 : decode cX7_partAt 56 = .ok (.aload_n 0, 1) := by decide +kernel
theorem dX7_partAt_57 : decode cX7_partAt 57 = .ok (.getfield 41, 3) := by decide +kernel
theorem dX7_partAt_60 : decode cX7_partAt 60 = .ok (.iload 5, 2) := by decide +kernel
theorem dX7_partAt_62 : decode cX7_partAt 62 = .ok (.laload, 1) := by decide +kernel
theorem dX7_partAt_63 : decode cX7_partAt 63 = .ok (.lreturn, 1) := by decide +kernel
theorem dX7_partAt_64 : decode cX7_partAt 64 = .ok (.iinc 4 1, 3) := by decide +kernel
theorem dX7_partAt_67 : decode cX7_partAt 67 = .ok (.iinc 5 1, 3) := by decide +kernel
theorem dX7_partAt_70 : decode cX7_partAt 70 = .ok (.goto (-50), 3) := by decide +kernel
theorem dX7_partAt_73 : decode cX7_partAt 73 = .ok (.aload_n 0, 1) := by decide +kernel
theorem dX7_partAt_74 : decode cX7_partAt 74 = .ok (.iconst 1, 1) := by decide +kernel
theorem dX7_partAt_75 : decode cX7_partAt 75 = .ok (.iconst 1, 1) := by decide +kernel
theorem dX7_partAt_76 : decode cX7_partAt 76 = .ok (.iconst 0, 1) := by decide +kernel
theorem dX7_partAt_77 : decode cX7_partAt 77 = .ok (.invokevirtual 206, 3) := by decide +kernel
theorem dX7_partAt_80 : decode cX7_partAt 80 = .ok (.istore 5, 2) := by decide +kernel
theorem dX7_partAt_82 : decode cX7_partAt 82 = .ok (.lconst 0, 1) := by decide +kernel
theorem dX7_partAt_83 : decode cX7_partAt 83 = .ok (.lreturn, 1) := by decide +kernel
theorem dX7_tests_0 : decode cX7_tests 0 = .ok (.aload_n 0, 1) := by decide +kernel
theorem dX7_tests_1 : decode cX7_tests 1 = .ok (.iconst 0, 1) := by decide +kernel
theorem dX7_tests_2 : decode cX7_tests 2 = .ok (.putfield 63, 3) := by decide +kernel
theorem dX7_tests_5 : decode cX7_tests 5 = .ok (.aload_n 0, 1) := by decide +kernel
theorem dX7_tests_6 : decode cX7_tests 6 = .ok (.invokevirtual 225, 3) := by decide +kernel
theorem dX7_tests_9 : decode cX7_tests 9 = .ok (.lstore_n 1, 1) := by decide +kernel
theorem dX7_tests_10 : decode cX7_tests 10 = .ok (.lload_n 1, 1) := by decide +kernel
theorem dX7_tests_11 : decode cX7_tests 11 = .ok (.invokestatic 229, 3) := by decide +kernel
theorem dX7_tests_14 : decode cX7_tests 14 = .ok (.aload_n 0, 1) := by decide +kernel
theorem dX7_tests_15 : decode cX7_tests 15 = .ok (.getfield 20, 3) := by decide +kernel
theorem dX7_tests_18 : decode cX7_tests 18 = .ok (.iconst 2, 1) := by decide +kernel
theorem dX7_tests_19 : decode cX7_tests 19 = .ok (.laload, 1) := by decide +kernel
theorem dX7_tests_20 : decode cX7_tests 20 = .ok (.l2i, 1) := by decide +kernel
theorem dX7_tests_21 : decode cX7_tests 21 = .ok (.irem, 1) := by decide +kernel
theorem dX7_tests_22 : decode cX7_tests 22 = .ok (.ifCond .ne 7, 3) := by decide +kernel
theorem dX7_tests_25 : decode cX7_tests 25 = .ok (.iconst 0, 1) := by decide +kernel
theorem dX7_tests_26 : decode cX7_tests 26 = .ok (.goto 4, 3) := by decide +kernel
theorem dX7_tests_29 : decode cX7_tests 29 = .ok (.iconst 1, 1) := by decide +kernel
theorem dX7_tests_30 : decode cX7_tests 30 = .ok (.istore_n 3, 1) := by decide +kernel
theorem dX7_tests_31 : decode cX7_tests 31 = .ok (.aload_n 0, 1) := by decide +kernel
theorem dX7_tests_32 : decode cX7_tests 32 = .ok (.getfield 20, 3) := by decide +kernel
theorem dX7_tests_35 : decode cX7_tests 35 = .ok (.iconst 1, 1) := by decide +kernel
theorem dX7_tests_36 : decode cX7_tests 36 = .ok (.laload, 1) := by decide +kernel
theorem dX7_tests_37 : decode cX7_tests 37 = .ok (.lconst 1, 1) := by decide +kernel
theorem dX7_tests_38 : decode cX7_tests 38 = .ok (.lcmp, 1) := by decide +kernel
theorem dX7_tests_39 : decode cX7_tests 39 = .ok (.ifCond .eq 16, 3) := by decide +kernel
theorem dX7_tests_42 : decode cX7_tests 42 = .ok (.aload_n 0, 1) := by decide +kernel
theorem dX7_tests_43 : decode cX7_tests 43 = .ok (.getfield 20, 3) := by decide +kernel
theorem dX7_tests_46 : decode cX7_tests 46 = .ok (.iconst 1, 1) := by decide +kernel
theorem dX7_tests_47 : decode cX7_tests 47 = .ok (.laload, 1) := by decide +kernel
theorem dX7_tests_48 : decode cX7_tests 48 = .ok (.ldc2_w 76, 3) := by decide +kernel
theorem dX7_tests_51 : decode cX7_tests 51 = .ok (.lcmp, 1) := by decide +kernel
theorem dX7_tests_52 : decode cX7_tests 52 = .ok (.ifCond .ne 5, 3) := by decide +kernel
theorem dX7_tests_55 : decode cX7_tests 55 = .ok (.iload_n 3, 1) := by decide +kernel
theorem dX7_tests_56 : decode cX7_tests 56 = .ok (.ireturn, 1) := by decide +kernel
theorem dX7_tests_57 : decode cX7_tests 57 = .ok (.iconst 0, 1) := by decide +kernel
theorem dX7_tests_58 : decode cX7_tests 58 = .ok (.istore 4, 2) := by decide +kernel
theorem dX7_tests_60 : decode cX7_tests 60 = .ok (.iload 4, 2) := by decide +kernel
theorem dX7_tests_62 : decode cX7_tests 62 = .ok (.i2l, 1) := by decide +kernel
theorem dX7_tests_63 : decode cX7_tests 63 = .ok (.aload_n 0, 1) := by decide +kernel
theorem dX7_tests_64 : decode cX7_tests 64 = .ok (.getfield 20, 3) := by decide +kernel
theorem dX7_tests_67 : decode cX7_tests 67 = .ok (.iconst 0, 1) := by decide +kernel
theorem dX7_tests_68 : decode cX7_tests 68 = .ok (.laload, 1) := by decide +kernel
theorem dX7_tests_69 : decode cX7_tests 69 = .ok (.lcmp, 1) := by decide +kernel
theorem dX7_tests_70 : decode cX7_tests 70 = .ok (.ifCond .ge 30, 3) := by decide +kernel
theorem dX7_tests_73 : decode cX7_tests 73 = .ok (.iload_n 3, 1) := by decide +kernel
theorem dX7_tests_74 : decode cX7_tests 74 = .ok (.aload_n 0, 1) := by decide +kernel
theorem dX7_tests_75 : decode cX7_tests 75 = .ok (.lload_n 1, 1) := by decide +kernel
theorem dX7_tests_76 : decode cX7_tests 76 = .ok (.iload 4, 2) := by decide +kernel
theorem dX7_tests_78 : decode cX7_tests 78 = .ok (.invokevirtual 336, 3) := by decide +kernel
theorem dX7_tests_81 : decode cX7_tests 81 = .ok (.iconst 2, 1) := by decide +kernel
theorem dX7_tests_82 : decode cX7_tests 82 = .ok (.irem, 1) := by decide +kernel
theorem dX7_tests_83 : decode cX7_tests 83 = .ok (.iconst 1, 1) := by decide +kernel
theorem dX7_tests_84 : decode cX7_tests 84 = .ok (.if_icmp .ne 7, 3) := by decide +kernel
theorem dX7_tests_87 : decode cX7_tests 87 = .ok (.iconst 2, 1) := by decide +kernel
theorem dX7_tests_88 : decode cX7_tests 88 = .ok (.goto 4, 3) := by decide +kernel
theorem dX7_tests_91 : decode cX7_tests 91 = .ok (.iconst 0, 1) := by decide +kernel
theorem dX7_tests_92 : decode cX7_tests 92 = .ok (.ior, 1) := by decide +kernel
theorem dX7_tests_93 : decode cX7_tests 93 = .ok (.istore_n 3, 1) := by decide +kernel
theorem dX7_tests_94 : decode cX7_tests 94 = .ok (.iinc 4 1, 3) := by decide +kernel
theorem dX7_tests_97 : decode cX7_tests 97 = .ok (.goto (-37), 3) := by decide +kernel
theorem dX7_tests_100 : decode cX7_tests 100 = .ok (.iload_n 3, 1) := by decide +kernel
theorem dX7_tests_101 : decode cX7_tests 101 = .ok (.ireturn, 1) := by decide +kernel
theorem dX7_classesOn_0 : decode cX7_classesOn 0 = .ok (.iload_n 2, 1) := by decide +kernel
theorem dX7_classesOn_1 : decode cX7_classesOn 1 = .ok (.aload_n 0, 1) := by decide +kernel
theorem dX7_classesOn_2 : decode cX7_classesOn 2 = .ok (.getfield 346, 3) := by decide +kernel
theorem dX7_classesOn_5 : decode cX7_classesOn 5 = .ok (.if_icmp .lt 4, 3) := by decide +kernel
theorem dX7_classesOn_8 : decode cX7_classesOn 8 = .ok (.return_, 1) := by decide +kernel
theorem dX7_classesOn_9 : decode cX7_classesOn 9 = .ok (.iload_n 1, 1) := by decide +kernel
theorem dX7_classesOn_10 : decode cX7_classesOn 10 = .ok (.aload_n 0, 1) := by decide +kernel
theorem dX7_classesOn_11 : decode cX7_classesOn 11 = .ok (.invokevirtual 232, 3) := by decide +kernel
theorem dX7_classesOn_14 : decode cX7_classesOn 14 = .ok (.if_icmp .ne 9, 3) := by decide +kernel
theorem dX7_classesOn_17 : decode cX7_classesOn 17 = .ok (.aload_n 0, 1) := by decide +kernel
theorem dX7_classesOn_18 : decode cX7_classesOn 18 = .ok (.iload_n 2, 1) := by decide +kernel
theorem dX7_classesOn_19 : decode cX7_classesOn 19 = .ok (.putfield 346, 3) := by decide +kernel
theorem dX7_classesOn_22 : decode cX7_classesOn 22 = .ok (.return_, 1) := by decide +kernel
theorem dX7_classesOn_23 : decode cX7_classesOn 23 = .ok (.aload_n 0, 1) := by decide +kernel
theorem dX7_classesOn_24 : decode cX7_classesOn 24 = .ok (.aload_n 0, 1) := by decide +kernel
theorem dX7_classesOn_25 : decode cX7_classesOn 25 = .ok (.getfield 20, 3) := by decide +kernel
theorem dX7_classesOn_28 : decode cX7_classesOn 28 = .ok (.bipush 30, 2) := by decide +kernel
theorem dX7_classesOn_30 : decode cX7_classesOn 30 = .ok (.iload_n 1, 1) := by decide +kernel
theorem dX7_classesOn_31 : decode cX7_classesOn 31 = .ok (.iadd, 1) := by decide +kernel
theorem dX7_classesOn_32 : decode cX7_classesOn 32 = .ok (.laload, 1) := by decide +kernel
theorem dX7_classesOn_33 : decode cX7_classesOn 33 = .ok (.invokevirtual 340, 3) := by decide +kernel
theorem dX7_classesOn_36 : decode cX7_classesOn 36 = .ok (.istore_n 3, 1) := by decide +kernel
theorem dX7_classesOn_37 : decode cX7_classesOn 37 = .ok (.iconst 0, 1) := by decide +kernel
theorem dX7_classesOn_38 : decode cX7_classesOn 38 = .ok (.istore 4, 2) := by decide +kernel
theorem dX7_classesOn_40 : decode cX7_classesOn 40 = .ok (.iload 4, 2) := by decide +kernel
theorem dX7_classesOn_42 : decode cX7_classesOn 42 = .ok (.iload_n 2, 1) := by decide +kernel
theorem dX7_classesOn_43 : decode cX7_classesOn 43 = .ok (.if_icmp .gt 84, 3) := by decide +kernel
theorem dX7_classesOn_46 : decode cX7_classesOn 46 = .ok (.aload_n 0, 1) := by decide +kernel
theorem dX7_classesOn_47 : decode cX7_classesOn 47 = .ok (.getfield 56, 3) := by decide +kernel
theorem dX7_classesOn_50 : decode cX7_classesOn 50 = .ok (.iload 4, 2) := by decide +kernel
theorem dX7_classesOn_52 : decode cX7_classesOn 52 = .ok (.iaload, 1) := by decide +kernel
theorem dX7_classesOn_53 : decode cX7_classesOn 53 = .ok (.istore 5, 2) := by decide +kernel
theorem dX7_classesOn_55 : decode cX7_classesOn 55 = .ok (.iload 4, 2) := by decide +kernel
theorem dX7_classesOn_57 : decode cX7_classesOn 57 = .ok (.iload_n 2, 1) := by decide +kernel
theorem dX7_classesOn_58 : decode cX7_classesOn 58 = .ok (.if_icmp .ge 13, 3) := by decide +kernel
theorem dX7_classesOn_61 : decode cX7_classesOn 61 = .ok (.iload 5, 2) := by decide +kernel
theorem dX7_classesOn_63 : decode cX7_classesOn 63 = .ok (.iload_n 3, 1) := by decide +kernel
theorem dX7_classesOn_64 : decode cX7_classesOn 64 = .ok (.iand, 1) := by decide +kernel
theorem dX7_classesOn_65 : decode cX7_classesOn 65 = .ok (.ifCond .eq 6, 3) := by decide +kernel
theorem dX7_classesOn_68 : decode cX7_classesOn 68 = .ok (.goto 53, 3) := by decide +kernel
theorem dX7_classesOn_71 : decode cX7_classesOn 71 = .ok (.aload_n 0, 1) := by decide +kernel
theorem dX7_classesOn_72 : decode cX7_classesOn 72 = .ok (.getfield 56, 3) := by decide +kernel
theorem dX7_classesOn_75 : decode cX7_classesOn 75 = .ok (.iload 4, 2) := by decide +kernel
theorem dX7_classesOn_77 : decode cX7_classesOn 77 = .ok (.iload 4, 2) := by decide +kernel
theorem dX7_classesOn_79 : decode cX7_classesOn 79 = .ok (.iload_n 2, 1) := by decide +kernel
theorem dX7_classesOn_80 : decode cX7_classesOn 80 = .ok (.if_icmp .ne 7, 3) := by decide +kernel
theorem dX7_classesOn_83 : decode cX7_classesOn 83 = .ok (.iload_n 3, 1) := by decide +kernel
theorem dX7_classesOn_84 : decode cX7_classesOn 84 = .ok (.goto 7, 3) := by decide +kernel
theorem dX7_classesOn_87 : decode cX7_classesOn 87 = .ok (.iload 5, 2) := by decide +kernel
theorem dX7_classesOn_89 : decode cX7_classesOn 89 = .ok (.iload_n 3, 1) := by decide +kernel
theorem dX7_classesOn_90 : decode cX7_classesOn 90 = .ok (.ior, 1) := by decide +kernel
theorem dX7_classesOn_91 : decode cX7_classesOn 91 = .ok (.iastore, 1) := by decide +kernel
theorem dX7_classesOn_92 : decode cX7_classesOn 92 = .ok (.aload_n 0, 1) := by decide +kernel
theorem dX7_classesOn_93 : decode cX7_classesOn 93 = .ok (.iload_n 1, 1) := by decide +kernel
theorem dX7_classesOn_94 : decode cX7_classesOn 94 = .ok (.iconst 1, 1) := by decide +kernel
theorem dX7_classesOn_95 : decode cX7_classesOn 95 = .ok (.iadd, 1) := by decide +kernel
theorem dX7_classesOn_96 : decode cX7_classesOn 96 = .ok (.iload 4, 2) := by decide +kernel
theorem dX7_classesOn_98 : decode cX7_classesOn 98 = .ok (.iload_n 2, 1) := by decide +kernel
theorem dX7_classesOn_99 : decode cX7_classesOn 99 = .ok (.if_icmp .ne 9, 3) := by decide +kernel
theorem dX7_classesOn_102 : decode cX7_classesOn 102 = .ok (.iload_n 2, 1) := by decide +kernel
theorem dX7_classesOn_103 : decode cX7_classesOn 103 = .ok (.iconst 1, 1) := by decide +kernel
theorem dX7_classesOn_104 : decode cX7_classesOn 104 = .ok (.iadd, 1) := by decide +kernel
theorem dX7_classesOn_105 : decode cX7_classesOn 105 = .ok (.goto 4, 3) := by decide +kernel
theorem dX7_classesOn_108 : decode cX7_classesOn 108 = .ok (.iload_n 2, 1) := by decide +kernel
theorem dX7_classesOn_109 : decode cX7_classesOn 109 = .ok (.invokevirtual 349, 3) := by decide +kernel
theorem dX7_classesOn_112 : decode cX7_classesOn 112 = .ok (.aload_n 0, 1) := by decide +kernel
theorem dX7_classesOn_113 : decode cX7_classesOn 113 = .ok (.getfield 56, 3) := by decide +kernel
theorem dX7_classesOn_116 : decode cX7_classesOn 116 = .ok (.iload 4, 2) := by decide +kernel
theorem dX7_classesOn_118 : decode cX7_classesOn 118 = .ok (.iload 5, 2) := by decide +kernel
theorem dX7_classesOn_120 : decode cX7_classesOn 120 = .ok (.iastore, 1) := by decide +kernel
theorem dX7_classesOn_121 : decode cX7_classesOn 121 = .ok (.iinc 4 1, 3) := by decide +kernel
theorem dX7_classesOn_124 : decode cX7_classesOn 124 = .ok (.goto (-84), 3) := by decide +kernel
theorem dX7_classesOn_127 : decode cX7_classesOn 127 = .ok (.return_, 1) := by decide +kernel
theorem dX7_classes_0 : decode cX7_classes 0 = .ok (.aload_n 0, 1) := by decide +kernel
theorem dX7_classes_1 : decode cX7_classes 1 = .ok (.iconst 0, 1) := by decide +kernel
theorem dX7_classes_2 : decode cX7_classes 2 = .ok (.putfield 63, 3) := by decide +kernel
theorem dX7_classes_5 : decode cX7_classes 5 = .ok (.aload_n 0, 1) := by decide +kernel
theorem dX7_classes_6 : decode cX7_classes 6 = .ok (.aload_n 0, 1) := by decide +kernel
theorem dX7_classes_7 : decode cX7_classes 7 = .ok (.invokevirtual 232, 3) := by decide +kernel
theorem dX7_classes_10 : decode cX7_classes 10 = .ok (.bipush 14, 2) := by decide +kernel
theorem dX7_classes_12 : decode cX7_classes 12 = .ok (.if_icmp .le 7, 3) := by decide +kernel
theorem dX7_classes_15 : decode cX7_classes 15 = .ok (.iconst 1, 1) := by decide +kernel
theorem dX7_classes_16 : decode cX7_classes 16 = .ok (.goto 4, 3) := by decide +kernel
theorem dX7_classes_19 : decode cX7_classes 19 = .ok (.iconst 0, 1) := by decide +kernel
theorem dX7_classes_20 : decode cX7_classes 20 = .ok (.iconst 1, 1) := by decide +kernel
theorem dX7_classes_21 : decode cX7_classes 21 = .ok (.iconst 2, 1) := by decide +kernel
theorem dX7_classes_22 : decode cX7_classes 22 = .ok (.invokevirtual 206, 3) := by decide +kernel
theorem dX7_classes_25 : decode cX7_classes 25 = .ok (.ifCond .eq 5, 3) := by decide +kernel
theorem dX7_classes_28 : decode cX7_classes 28 = .ok (.iconst 0, 1) := by decide +kernel
theorem dX7_classes_29 : decode cX7_classes 29 = .ok (.ireturn, 1) := by decide +kernel
theorem dX7_classes_30 : decode cX7_classes 30 = .ok (.aload_n 0, 1) := by decide +kernel
theorem dX7_classes_31 : decode cX7_classes 31 = .ok (.bipush 15, 2) := by decide +kernel
theorem dX7_classes_33 : decode cX7_classes 33 = .ok (.putfield 346, 3) := by decide +kernel
theorem dX7_classes_36 : decode cX7_classes 36 = .ok (.aload_n 0, 1) := by decide +kernel
theorem dX7_classes_37 : decode cX7_classes 37 = .ok (.iconst 0, 1) := by decide +kernel
theorem dX7_classes_38 : decode cX7_classes 38 = .ok (.iconst 0, 1) := by decide +kernel
theorem dX7_classes_39 : decode cX7_classes 39 = .ok (.invokevirtual 349, 3) := by decide +kernel
theorem dX7_classes_42 : decode cX7_classes 42 = .ok (.aload_n 0, 1) := by decide +kernel
theorem dX7_classes_43 : decode cX7_classes 43 = .ok (.getfield 346, 3) := by decide +kernel
theorem dX7_classes_46 : decode cX7_classes 46 = .ok (.ireturn, 1) := by decide +kernel
theorem dX7_isBase_0 : decode cX7_isBase 0 = .ok (.iload_n 1, 1) := by decide +kernel
theorem dX7_isBase_1 : decode cX7_isBase 1 = .ok (.i2l, 1) := by decide +kernel
theorem dX7_isBase_2 : decode cX7_isBase 2 = .ok (.lconst 0, 1) := by decide +kernel
theorem dX7_isBase_3 : decode cX7_isBase 3 = .ok (.aload_n 0, 1) := by decide +kernel
theorem dX7_isBase_4 : decode cX7_isBase 4 = .ok (.getfield 20, 3) := by decide +kernel
theorem dX7_isBase_7 : decode cX7_isBase 7 = .ok (.iconst 4, 1) := by decide +kernel
theorem dX7_isBase_8 : decode cX7_isBase 8 = .ok (.laload, 1) := by decide +kernel
theorem dX7_isBase_9 : decode cX7_isBase 9 = .ok (.lconst 1, 1) := by decide +kernel
theorem dX7_isBase_10 : decode cX7_isBase 10 = .ok (.lsub, 1) := by decide +kernel
theorem dX7_isBase_11 : decode cX7_isBase 11 = .ok (.invokestatic 92, 3) := by decide +kernel
theorem dX7_isBase_14 : decode cX7_isBase 14 = .ok (.ireturn, 1) := by decide +kernel
theorem dX7_base_0 : decode cX7_base 0 = .ok (.aload_n 0, 1) := by decide +kernel
theorem dX7_base_1 : decode cX7_base 1 = .ok (.iconst 0, 1) := by decide +kernel
theorem dX7_base_2 : decode cX7_base 2 = .ok (.putfield 63, 3) := by decide +kernel
theorem dX7_base_5 : decode cX7_base 5 = .ok (.aload_n 0, 1) := by decide +kernel
theorem dX7_base_6 : decode cX7_base 6 = .ok (.aload_n 0, 1) := by decide +kernel
theorem dX7_base_7 : decode cX7_base 7 = .ok (.iload_n 1, 1) := by decide +kernel
theorem dX7_base_8 : decode cX7_base 8 = .ok (.invokevirtual 352, 3) := by decide +kernel
theorem dX7_base_11 : decode cX7_base 11 = .ok (.ifCond .ne 7, 3) := by decide +kernel
theorem dX7_base_14 : decode cX7_base 14 = .ok (.iconst 1, 1) := by decide +kernel
theorem dX7_base_15 : decode cX7_base 15 = .ok (.goto 4, 3) := by decide +kernel
theorem dX7_base_18 : decode cX7_base 18 = .ok (.iconst 0, 1) := by decide +kernel
theorem dX7_base_19 : decode cX7_base 19 = .ok (.iconst 1, 1) := by decide +kernel
theorem dX7_base_20 : decode cX7_base 20 = .ok (.iconst 0, 1) := by decide +kernel
theorem dX7_base_21 : decode cX7_base 21 = .ok (.invokevirtual 206, 3) := by decide +kernel
theorem dX7_base_24 : decode cX7_base 24 = .ok (.ifCond .eq 7, 3) := by decide +kernel
theorem dX7_base_27 : decode cX7_base 27 = .ok (.iconst 0, 1) := by decide +kernel
theorem dX7_base_28 : decode cX7_base 28 = .ok (.goto 30, 3) := by decide +kernel
theorem dX7_base_31 : decode cX7_base 31 = .ok (.iload_n 2, 1) := by decide +kernel
theorem dX7_base_32 : decode cX7_base 32 = .ok (.i2l, 1) := by decide +kernel
theorem dX7_base_33 : decode cX7_base 33 = .ok (.lconst 0, 1) := by decide +kernel
theorem dX7_base_34 : decode cX7_base 34 = .ok (.aload_n 0, 1) := by decide +kernel
theorem dX7_base_35 : decode cX7_base 35 = .ok (.iload_n 1, 1) := by decide +kernel
theorem dX7_base_36 : decode cX7_base 36 = .ok (.invokevirtual 311, 3) := by decide +kernel
theorem dX7_base_39 : decode cX7_base 39 = .ok (.iconst 1, 1) := by decide +kernel
theorem dX7_base_40 : decode cX7_base 40 = .ok (.isub, 1) := by decide +kernel
theorem dX7_base_41 : decode cX7_base 41 = .ok (.i2l, 1) := by decide +kernel
theorem dX7_base_42 : decode cX7_base 42 = .ok (.invokestatic 92, 3) := by decide +kernel
theorem dX7_base_45 : decode cX7_base 45 = .ok (.ifCond .eq 12, 3) := by decide +kernel
theorem dX7_base_48 : decode cX7_base 48 = .ok (.aload_n 0, 1) := by decide +kernel
theorem dX7_base_49 : decode cX7_base 49 = .ok (.iload_n 1, 1) := by decide +kernel
theorem dX7_base_50 : decode cX7_base 50 = .ok (.iload_n 2, 1) := by decide +kernel
theorem dX7_base_51 : decode cX7_base 51 = .ok (.invokevirtual 314, 3) := by decide +kernel
theorem dX7_base_54 : decode cX7_base 54 = .ok (.goto 4, 3) := by decide +kernel
theorem dX7_base_57 : decode cX7_base 57 = .ok (.iconst (-1), 1) := by decide +kernel
theorem dX7_base_58 : decode cX7_base 58 = .ok (.ireturn, 1) := by decide +kernel
theorem dX7_print_0 : decode cX7_print 0 = .ok (.aload_n 0, 1) := by decide +kernel
theorem dX7_print_1 : decode cX7_print 1 = .ok (.iconst 0, 1) := by decide +kernel
theorem dX7_print_2 : decode cX7_print 2 = .ok (.putfield 63, 3) := by decide +kernel
theorem dX7_print_5 : decode cX7_print 5 = .ok (.aload_n 0, 1) := by decide +kernel
theorem dX7_print_6 : decode cX7_print 6 = .ok (.invokevirtual 225, 3) := by decide +kernel
theorem dX7_print_9 : decode cX7_print 9 = .ok (.lstore_n 1, 1) := by decide +kernel
theorem dX7_print_10 : decode cX7_print 10 = .ok (.iconst 0, 1) := by decide +kernel
theorem dX7_print_11 : decode cX7_print 11 = .ok (.istore_n 3, 1) := by decide +kernel
theorem dX7_print_12 : decode cX7_print 12 = .ok (.iload_n 3, 1) := by decide +kernel
theorem dX7_print_13 : decode cX7_print 13 = .ok (.aload_n 0, 1) := by decide +kernel
theorem dX7_print_14 : decode cX7_print 14 = .ok (.invokevirtual 232, 3) := by decide +kernel
theorem dX7_print_17 : decode cX7_print 17 = .ok (.if_icmp .ge 25, 3) := by decide +kernel
theorem dX7_print_20 : decode cX7_print 20 = .ok (.ldc2_w 323, 3) := by decide +kernel
theorem dX7_print_23 : decode cX7_print 23 = .ok (.lload_n 1, 1) := by decide +kernel
theorem dX7_print_24 : decode cX7_print 24 = .ok (.lmul, 1) := by decide +kernel
theorem dX7_print_25 : decode cX7_print 25 = .ok (.aload_n 0, 1) := by decide +kernel
theorem dX7_print_26 : decode cX7_print 26 = .ok (.getfield 20, 3) := by decide +kernel
theorem dX7_print_29 : decode cX7_print 29 = .ok (.bipush 30, 2) := by decide +kernel
theorem dX7_print_31 : decode cX7_print 31 = .ok (.iload_n 3, 1) := by decide +kernel
theorem dX7_print_32 : decode cX7_print 32 = .ok (.iadd, 1) := by decide +kernel
theorem dX7_print_33 : decode cX7_print 33 = .ok (.laload, 1) := by decide +kernel
theorem dX7_print_34 : decode cX7_print 34 = .ok (.ladd, 1) := by decide +kernel
theorem dX7_print_35 : decode cX7_print 35 = .ok (.lstore_n 1, 1) := by decide +kernel
theorem dX7_print_36 : decode cX7_print 36 = .ok (.iinc 3 1, 3) := by decide +kernel
theorem dX7_print_39 : decode cX7_print 39 = .ok (.goto (-27), 3) := by decide +kernel
theorem dX7_print_42 : decode cX7_print 42 = .ok (.lload_n 1, 1) := by decide +kernel
theorem dX7_print_43 : decode cX7_print 43 = .ok (.lreturn, 1) := by decide +kernel
theorem dX7_status_0 : decode cX7_status 0 = .ok (.aload_n 0, 1) := by decide +kernel
theorem dX7_status_1 : decode cX7_status 1 = .ok (.iconst 0, 1) := by decide +kernel
theorem dX7_status_2 : decode cX7_status 2 = .ok (.putfield 63, 3) := by decide +kernel
theorem dX7_status_5 : decode cX7_status 5 = .ok (.iload_n 1, 1) := by decide +kernel
theorem dX7_status_6 : decode cX7_status 6 = .ok (.i2l, 1) := by decide +kernel
theorem dX7_status_7 : decode cX7_status 7 = .ok (.lconst 0, 1) := by decide +kernel
theorem dX7_status_8 : decode cX7_status 8 = .ok (.ldc2_w 76, 3) := by decide +kernel
theorem dX7_status_11 : decode cX7_status 11 = .ok (.invokestatic 92, 3) := by decide +kernel
theorem dX7_status_14 : decode cX7_status 14 = .ok (.ifCond .eq 12, 3) := by decide +kernel
theorem dX7_status_17 : decode cX7_status 17 = .ok (.aload_n 0, 1) := by decide +kernel
theorem dX7_status_18 : decode cX7_status 18 = .ok (.getfield 9, 3) := by decide +kernel
theorem dX7_status_21 : decode cX7_status 21 = .ok (.iload_n 1, 1) := by decide +kernel
theorem dX7_status_22 : decode cX7_status 22 = .ok (.iaload, 1) := by decide +kernel
theorem dX7_status_23 : decode cX7_status 23 = .ok (.goto 4, 3) := by decide +kernel
theorem dX7_status_26 : decode cX7_status 26 = .ok (.iconst (-1), 1) := by decide +kernel
theorem dX7_status_27 : decode cX7_status 27 = .ok (.ireturn, 1) := by decide +kernel
