theorem dX4_init_0 : decode cX4_init 0 = .ok (.aload_n 0, 1) := by decide +kernel
theorem dX4_init_1 : decode cX4_init 1 = .ok (.invokespecial 3, 3) := by decide +kernel
theorem dX4_init_4 : decode cX4_init 4 = .ok (.aload_n 0, 1) := by decide +kernel
theorem dX4_init_5 : decode cX4_init 5 = .ok (.bipush 14, 2) := by decide +kernel
theorem dX4_init_7 : decode cX4_init 7 = .ok (.newarray .int, 2) := by decide +kernel
theorem dX4_init_9 : decode cX4_init 9 = .ok (.putfield 9, 3) := by decide +kernel
theorem dX4_init_12 : decode cX4_init 12 = .ok (.aload_n 0, 1) := by decide +kernel
theorem dX4_init_13 : decode cX4_init 13 = .ok (.bipush 14, 2) := by decide +kernel
theorem dX4_init_15 : decode cX4_init 15 = .ok (.newarray .int, 2) := by decide +kernel
theorem dX4_init_17 : decode cX4_init 17 = .ok (.putfield 15, 3) := by decide +kernel
theorem dX4_init_20 : decode cX4_init 20 = .ok (.aload_n 0, 1) := by decide +kernel
theorem dX4_init_21 : decode cX4_init 21 = .ok (.iconst 0, 1) := by decide +kernel
theorem dX4_init_22 : decode cX4_init 22 = .ok (.putfield 18, 3) := by decide +kernel
theorem dX4_init_25 : decode cX4_init 25 = .ok (.return_, 1) := by decide +kernel
theorem dX4_fewest_0 : decode cX4_fewest 0 = .ok (.aload_n 0, 1) := by decide +kernel
theorem dX4_fewest_1 : decode cX4_fewest 1 = .ok (.aload_n 1, 1) := by decide +kernel
theorem dX4_fewest_2 : decode cX4_fewest 2 = .ok (.getfield 22, 3) := by decide +kernel
theorem dX4_fewest_5 : decode cX4_fewest 5 = .ok (.bipush 14, 2) := by decide +kernel
theorem dX4_fewest_7 : decode cX4_fewest 7 = .ok (.invokestatic 27, 3) := by decide +kernel
theorem dX4_fewest_10 : decode cX4_fewest 10 = .ok (.putfield 18, 3) := by decide +kernel
theorem dX4_fewest_13 : decode cX4_fewest 13 = .ok (.iconst 0, 1) := by decide +kernel
theorem dX4_fewest_14 : decode cX4_fewest 14 = .ok (.istore_n 2, 1) := by decide +kernel
theorem dX4_fewest_15 : decode cX4_fewest 15 = .ok (.iconst 0, 1) := by decide +kernel
theorem dX4_fewest_16 : decode cX4_fewest 16 = .ok (.istore_n 3, 1) := by decide +kernel
theorem dX4_fewest_17 : decode cX4_fewest 17 = .ok (.iload_n 3, 1) := by decide +kernel
theorem dX4_fewest_18 : decode cX4_fewest 18 = .ok (.aload_n 0, 1) := by decide +kernel
theorem dX4_fewest_19 : decode cX4_fewest 19 = .ok (.getfield 18, 3) := by decide +kernel
theorem dX4_fewest_22 : decode cX4_fewest 22 = .ok (.if_icmp .ge 16, 3) := by decide +kernel
theorem dX4_fewest_25 : decode cX4_fewest 25 = .ok (.aload_n 0, 1) := by decide +kernel
theorem dX4_fewest_26 : decode cX4_fewest 26 = .ok (.getfield 9, 3) := by decide +kernel
theorem dX4_fewest_29 : decode cX4_fewest 29 = .ok (.iload_n 3, 1) := by decide +kernel
theorem dX4_fewest_30 : decode cX4_fewest 30 = .ok (.iconst 0, 1) := by decide +kernel
theorem dX4_fewest_31 : decode cX4_fewest 31 = .ok (.iastore, 1) := by decide +kernel
theorem dX4_fewest_32 : decode cX4_fewest 32 = .ok (.iinc 3 1, 3) := by decide +kernel
theorem dX4_fewest_35 : decode cX4_fewest 35 = .ok (.goto (-18), 3) := by decide +kernel
theorem dX4_fewest_38 : decode cX4_fewest 38 = .ok (.iconst 0, 1) := by decide +kernel
theorem dX4_fewest_39 : decode cX4_fewest 39 = .ok (.istore_n 3, 1) := by decide +kernel
theorem dX4_fewest_40 : decode cX4_fewest 40 = .ok (.iload_n 3, 1) := by decide +kernel
theorem dX4_fewest_41 : decode cX4_fewest 41 = .ok (.aload_n 1, 1) := by decide +kernel
theorem dX4_fewest_42 : decode cX4_fewest 42 = .ok (.getfield 33, 3) := by decide +kernel
theorem dX4_fewest_45 : decode cX4_fewest 45 = .ok (.if_icmp .ge 73, 3) := by decide +kernel
theorem dX4_fewest_48 : decode cX4_fewest 48 = .ok (.aload_n 1, 1) := by decide +kernel
theorem dX4_fewest_49 : decode cX4_fewest 49 = .ok (.iload_n 3, 1) := by decide +kernel
theorem dX4_fewest_50 : decode cX4_fewest 50 = .ok (.invokevirtual 36, 3) := by decide +kernel
theorem dX4_fewest_53 : decode cX4_fewest 53 = .ok (.lstore 4, 2) := by decide +kernel
theorem dX4_fewest_55 : decode cX4_fewest 55 = .ok (.iload_n 2, 1) := by decide +kernel
theorem dX4_fewest_56 : decode cX4_fewest 56 = .ok (.aload_n 1, 1) := by decide +kernel
theorem dX4_fewest_57 : decode cX4_fewest 57 = .ok (.lload 4, 2) := by decide +kernel
theorem dX4_fewest_59 : decode cX4_fewest 59 = .ok (.invokevirtual 40, 3) := by decide +kernel
theorem dX4_fewest_62 : decode cX4_fewest 62 = .ok (.invokestatic 44, 3) := by decide +kernel
theorem dX4_fewest_65 : decode cX4_fewest 65 = .ok (.istore_n 2, 1) := by decide +kernel
theorem dX4_fewest_66 : decode cX4_fewest 66 = .ok (.iconst 0, 1) := by decide +kernel
theorem dX4_fewest_67 : decode cX4_fewest 67 = .ok (.istore 6, 2) := by decide +kernel
theorem dX4_fewest_69 : decode cX4_fewest 69 = .ok (.iload 6, 2) := by decide +kernel
theorem dX4_fewest_71 : decode cX4_fewest 71 = .ok (.aload_n 0, 1) := by decide +kernel
theorem dX4_fewest_72 : decode cX4_fewest 72 = .ok (.getfield 18, 3) := by decide +kernel
theorem dX4_fewest_75 : decode cX4_fewest 75 = .ok (.if_icmp .ge 37, 3) := by decide +kernel
theorem dX4_fewest_78 : decode cX4_fewest 78 = .ok (.aload_n 1, 1) := by decide +kernel
theorem dX4_fewest_79 : decode cX4_fewest 79 = .ok (.getfield 47, 3) := by decide +kernel
theorem dX4_fewest_82 : decode cX4_fewest 82 = .ok (.iload 6, 2) := by decide +kernel
theorem dX4_fewest_84 : decode cX4_fewest 84 = .ok (.laload, 1) := by decide +kernel
theorem dX4_fewest_85 : decode cX4_fewest 85 = .ok (.lload 4, 2) := by decide +kernel
theorem dX4_fewest_87 : decode cX4_fewest 87 = .ok (.land, 1) := by decide +kernel
theorem dX4_fewest_88 : decode cX4_fewest 88 = .ok (.lconst 0, 1) := by decide +kernel
theorem dX4_fewest_89 : decode cX4_fewest 89 = .ok (.lcmp, 1) := by decide +kernel
theorem dX4_fewest_90 : decode cX4_fewest 90 = .ok (.ifCond .eq 16, 3) := by decide +kernel
theorem dX4_fewest_93 : decode cX4_fewest 93 = .ok (.aload_n 0, 1) := by decide +kernel
theorem dX4_fewest_94 : decode cX4_fewest 94 = .ok (.getfield 9, 3) := by decide +kernel
theorem dX4_fewest_97 : decode cX4_fewest 97 = .ok (.iload 6, 2) := by decide +kernel
theorem dX4_fewest_99 : decode cX4_fewest 99 = .ok (.dup2, 1) := by decide +kernel
theorem dX4_fewest_100 : decode cX4_fewest 100 = .ok (.iaload, 1) := by decide +kernel
theorem dX4_fewest_101 : decode cX4_fewest 101 = .ok (.iconst 1, 1) := by decide +kernel
theorem dX4_fewest_102 : decode cX4_fewest 102 = .ok (.iload_n 3, 1) := by decide +kernel
theorem dX4_fewest_103 : decode cX4_fewest 103 = .ok (.ishl, 1) := by decide +kernel
theorem dX4_fewest_104 : decode cX4_fewest 104 = .ok (.ior, 1) := by decide +kernel
theorem dX4_fewest_105 : decode cX4_fewest 105 = .ok (.iastore, 1) := by decide +kernel
theorem dX4_fewest_106 : decode cX4_fewest 106 = .ok (.iinc 6 1, 3) := by decide +kernel
theorem dX4_fewest_109 : decode cX4_fewest 109 = .ok (.goto (-40), 3) := by decide +kernel
theorem dX4_fewest_112 : decode cX4_fewest 112 = .ok (.iinc 3 1, 3) := by decide +kernel
theorem dX4_fewest_115 : decode cX4_fewest 115 = .ok (.goto (-75), 3) := by decide +kernel
theorem dX4_fewest_118 : decode cX4_fewest 118 = .ok (.iload_n 2, 1) := by decide +kernel
theorem dX4_fewest_119 : decode cX4_fewest 119 = .ok (.istore_n 3, 1) := by decide +kernel
theorem dX4_fewest_120 : decode cX4_fewest 120 = .ok (.iload_n 3, 1) := by decide +kernel
theorem dX4_fewest_121 : decode cX4_fewest 121 = .ok (.aload_n 0, 1) := by decide +kernel
theorem dX4_fewest_122 : decode cX4_fewest 122 = .ok (.getfield 18, 3) := by decide +kernel
theorem dX4_fewest_125 : decode cX4_fewest 125 = .ok (.if_icmp .ge 29, 3) := by decide +kernel
theorem dX4_fewest_128 : decode cX4_fewest 128 = .ok (.aload_n 0, 1) := by decide +kernel
theorem dX4_fewest_129 : decode cX4_fewest 129 = .ok (.getfield 15, 3) := by decide +kernel
theorem dX4_fewest_132 : decode cX4_fewest 132 = .ok (.iconst 0, 1) := by decide +kernel
theorem dX4_fewest_133 : decode cX4_fewest 133 = .ok (.invokestatic 50, 3) := by decide +kernel
theorem dX4_fewest_136 : decode cX4_fewest 136 = .ok (.aload_n 0, 1) := by decide +kernel
theorem dX4_fewest_137 : decode cX4_fewest 137 = .ok (.iconst 0, 1) := by decide +kernel
theorem dX4_fewest_138 : decode cX4_fewest 138 = .ok (.iconst 0, 1) := by decide +kernel
theorem dX4_fewest_139 : decode cX4_fewest 139 = .ok (.iload_n 3, 1) := by decide +kernel
theorem dX4_fewest_140 : decode cX4_fewest 140 = .ok (.invokevirtual 56, 3) := by decide +kernel
theorem dX4_fewest_143 : decode cX4_fewest 143 = .ok (.ifCond .eq 5, 3) := by decide +kernel
theorem dX4_fewest_146 : decode cX4_fewest 146 = .ok (.iload_n 3, 1) := by decide +kernel
theorem dX4_fewest_147 : decode cX4_fewest 147 = .ok (.ireturn, 1) := by decide +kernel
theorem dX4_fewest_148 : decode cX4_fewest 148 = .ok (.iinc 3 1, 3) := by decide +kernel
theorem dX4_fewest_151 : decode cX4_fewest 151 = .ok (.goto (-31), 3) := by decide +kernel
theorem dX4_fewest_154 : decode cX4_fewest 154 = .ok (.aload_n 0, 1) := by decide +kernel
theorem dX4_fewest_155 : decode cX4_fewest 155 = .ok (.getfield 18, 3) := by decide +kernel
theorem dX4_fewest_158 : decode cX4_fewest 158 = .ok (.ireturn, 1) := by decide +kernel
theorem dX4_place_0 : decode cX4_place 0 = .ok (.iload_n 1, 1) := by decide +kernel
theorem dX4_place_1 : decode cX4_place 1 = .ok (.aload_n 0, 1) := by decide +kernel
theorem dX4_place_2 : decode cX4_place 2 = .ok (.getfield 18, 3) := by decide +kernel
theorem dX4_place_5 : decode cX4_place 5 = .ok (.if_icmp .ge 12, 3) := by decide +kernel
theorem dX4_place_8 : decode cX4_place 8 = .ok (.iload_n 1, 1) := by decide +kernel
theorem dX4_place_9 : decode cX4_place 9 = .ok (.aload_n 0, 1) := by decide +kernel
theorem dX4_place_10 : decode cX4_place 10 = .ok (.getfield 9, 3) := by decide +kernel
theorem dX4_place_13 : decode cX4_place 13 = .ok (.arraylength, 1) := by decide +kernel
theorem dX4_place_14 : decode cX4_place 14 = .ok (.if_icmp .lt 5, 3) := by decide +kernel
theorem dX4_place_17 : decode cX4_place 17 = .ok (.iconst 1, 1) := by decide +kernel
theorem dX4_place_18 : decode cX4_place 18 = .ok (.ireturn, 1) := by decide +kernel
theorem dX4_place_19 : decode cX4_place 19 = .ok (.iconst 0, 1) := by decide +kernel
theorem dX4_place_20 : decode cX4_place 20 = .ok (.istore 4, 2) := by decide +kernel
theorem dX4_place_22 : decode cX4_place 22 = .ok (.iload 4, 2) := by decide +kernel
theorem dX4_place_24 : decode cX4_place 24 = .ok (.iload_n 2, 1) := by decide +kernel
theorem dX4_place_25 : decode cX4_place 25 = .ok (.if_icmp .gt 97, 3) := by decide +kernel
theorem dX4_place_28 : decode cX4_place 28 = .ok (.iload 4, 2) := by decide +kernel
theorem dX4_place_30 : decode cX4_place 30 = .ok (.iload_n 3, 1) := by decide +kernel
theorem dX4_place_31 : decode cX4_place 31 = .ok (.if_icmp .ge 91, 3) := by decide +kernel
theorem dX4_place_34 : decode cX4_place 34 = .ok (.iload 4, 2) := by decide +kernel
theorem dX4_place_36 : decode cX4_place 36 = .ok (.aload_n 0, 1) := by decide +kernel
theorem dX4_place_37 : decode cX4_place 37 = .ok (.getfield 15, 3) := by decide +kernel
theorem dX4_place_40 : decode cX4_place 40 = .ok (.arraylength, 1) := by decide +kernel
theorem dX4_place_41 : decode cX4_place 41 = .ok (.if_icmp .ge 81, 3) := by decide +kernel
theorem dX4_place_44 : decode cX4_place 44 = .ok (.aload_n 0, 1) := by decide +kernel
theorem dX4_place_45 : decode cX4_place 45 = .ok (.getfield 15, 3) := by decide +kernel
theorem dX4_place_48 : decode cX4_place 48 = .ok (.iload 4, 2) := by decide +kernel
theorem dX4_place_50 : decode cX4_place 50 = .ok (.iaload, 1) := by decide +kernel
theorem dX4_place_51 : decode cX4_place 51 = .ok (.aload_n 0, 1) := by decide +kernel
theorem dX4_place_52 : decode cX4_place 52 = .ok (.getfield 9, 3) := by decide +kernel
theorem dX4_place_55 : decode cX4_place 55 = .ok (.iload_n 1, 1) := by decide +kernel
theorem dX4_place_56 : decode cX4_place 56 = .ok (.iaload, 1) := by decide +kernel
theorem dX4_place_57 : decode cX4_place 57 = .ok (.iand, 1) := by decide +kernel
theorem dX4_place_58 : decode cX4_place 58 = .ok (.ifCond .ne 58, 3) := by decide +kernel
theorem dX4_place_61 : decode cX4_place 61 = .ok (.aload_n 0, 1) := by decide +kernel
theorem dX4_place_62 : decode cX4_place 62 = .ok (.getfield 15, 3) := by decide +kernel
theorem dX4_place_65 : decode cX4_place 65 = .ok (.iload 4, 2) := by decide +kernel
theorem dX4_place_67 : decode cX4_place 67 = .ok (.dup2, 1) := by decide +kernel
theorem dX4_place_68 : decode cX4_place 68 = .ok (.iaload, 1) := by decide +kernel
theorem dX4_place_69 : decode cX4_place 69 = .ok (.aload_n 0, 1) := by decide +kernel
theorem dX4_place_70 : decode cX4_place 70 = .ok (.getfield 9, 3) := by decide +kernel
theorem dX4_place_73 : decode cX4_place 73 = .ok (.iload_n 1, 1) := by decide +kernel
theorem dX4_place_74 : decode cX4_place 74 = .ok (.iaload, 1) := by decide +kernel
theorem dX4_place_75 : decode cX4_place 75 = .ok (.ior, 1) := by decide +kernel
theorem dX4_place_76 : decode cX4_place 76 = .ok (.iastore, 1) := by decide +kernel
theorem dX4_place_77 : decode cX4_place 77 = .ok (.aload_n 0, 1) := by decide +kernel
theorem dX4_place_78 : decode cX4_place 78 = .ok (.iload_n 1, 1) := by decide +kernel
theorem dX4_place_79 : decode cX4_place 79 = .ok (.iconst 1, 1) := by decide +kernel
theorem dX4_place_80 : decode cX4_place 80 = .ok (.iadd, 1) := by decide +kernel
theorem dX4_place_81 : decode cX4_place 81 = .ok (.iload_n 2, 1) := by decide +kernel
theorem dX4_place_82 : decode cX4_place 82 = .ok (.iload 4, 2) := by decide +kernel
theorem dX4_place_84 : decode cX4_place 84 = .ok (.iconst 1, 1) := by decide +kernel
theorem dX4_place_85 : decode cX4_place 85 = .ok (.iadd, 1) := by decide +kernel
theorem dX4_place_86 : decode cX4_place 86 = .ok (.invokestatic 44, 3) := by decide +kernel
theorem dX4_place_89 : decode cX4_place 89 = .ok (.iload_n 3, 1) := by decide +kernel
theorem dX4_place_90 : decode cX4_place 90 = .ok (.invokevirtual 56, 3) := by decide +kernel
theorem dX4_place_93 : decode cX4_place 93 = .ok (.ifCond .eq 5, 3) := by decide +kernel
theorem dX4_place_96 : decode cX4_place 96 = .ok (.iconst 1, 1) := by decide +kernel
theorem dX4_place_97 : decode cX4_place 97 = .ok (.ireturn, 1) := by decide +kernel
theorem dX4_place_98 : decode cX4_place 98 = .ok (.aload_n 0, 1) := by decide +kernel
theorem dX4_place_99 : decode cX4_place 99 = .ok (.getfield 15, 3) := by decide +kernel
theorem dX4_place_102 : decode cX4_place 102 = .ok (.iload 4, 2) := by decide +kernel
theorem dX4_place_104 : decode cX4_place 104 = .ok (.dup2, 1) := by decide +kernel
theorem dX4_place_105 : decode cX4_place 105 = .ok (.iaload, 1) := by decide +kernel
theorem dX4_place_106 : decode cX4_place 106 = .ok (.aload_n 0, 1) := by decide +kernel
theorem dX4_place_107 : decode cX4_place 107 = .ok (.getfield 9, 3) := by decide +kernel
theorem dX4_place_110 : decode cX4_place 110 = .ok (.iload_n 1, 1) := by decide +kernel
theorem dX4_place_111 : decode cX4_place 111 = .ok (.iaload, 1) := by decide +kernel
theorem dX4_place_112 : decode cX4_place 112 = .ok (.iconst (-1), 1) := by decide +kernel
theorem dX4_place_113 : decode cX4_place 113 = .ok (.ixor, 1) := by decide +kernel
theorem dX4_place_114 : decode cX4_place 114 = .ok (.iand, 1) := by decide +kernel
theorem dX4_place_115 : decode cX4_place 115 = .ok (.iastore, 1) := by decide +kernel
theorem dX4_place_116 : decode cX4_place 116 = .ok (.iinc 4 1, 3) := by decide +kernel
theorem dX4_place_119 : decode cX4_place 119 = .ok (.goto (-97), 3) := by decide +kernel
theorem dX4_place_122 : decode cX4_place 122 = .ok (.iconst 0, 1) := by decide +kernel
theorem dX4_place_123 : decode cX4_place 123 = .ok (.ireturn, 1) := by decide +kernel
