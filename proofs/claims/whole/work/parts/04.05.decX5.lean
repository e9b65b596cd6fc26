theorem dX5_init_0 : decode cX5_init 0 = .ok (.aload_n 0, 1) := by decide +kernel
theorem dX5_init_1 : decode cX5_init 1 = .ok (.invokespecial 3, 3) := by decide +kernel
theorem dX5_init_4 : decode cX5_init 4 = .ok (.aload_n 0, 1) := by decide +kernel
theorem dX5_init_5 : decode cX5_init 5 = .ok (.iconst 0, 1) := by decide +kernel
theorem dX5_init_6 : decode cX5_init 6 = .ok (.putfield 9, 3) := by decide +kernel
theorem dX5_init_9 : decode cX5_init 9 = .ok (.aload_n 0, 1) := by decide +kernel
theorem dX5_init_10 : decode cX5_init 10 = .ok (.iconst 0, 1) := by decide +kernel
theorem dX5_init_11 : decode cX5_init 11 = .ok (.putfield 15, 3) := by decide +kernel
theorem dX5_init_14 : decode cX5_init 14 = .ok (.aload_n 0, 1) := by decide +kernel
theorem dX5_init_15 : decode cX5_init 15 = .ok (.iconst 0, 1) := by decide +kernel
theorem dX5_init_16 : decode cX5_init 16 = .ok (.putfield 18, 3) := by decide +kernel
theorem dX5_init_19 : decode cX5_init 19 = .ok (.aload_n 0, 1) := by decide +kernel
theorem dX5_init_20 : decode cX5_init 20 = .ok (.iconst 0, 1) := by decide +kernel
theorem dX5_init_21 : decode cX5_init 21 = .ok (.putfield 22, 3) := by decide +kernel
theorem dX5_init_24 : decode cX5_init 24 = .ok (.aload_n 0, 1) := by decide +kernel
theorem dX5_init_25 : decode cX5_init 25 = .ok (.bipush 55, 2) := by decide +kernel
theorem dX5_init_27 : decode cX5_init 27 = .ok (.newarray .long, 2) := by decide +kernel
theorem dX5_init_29 : decode cX5_init 29 = .ok (.putfield 25, 3) := by decide +kernel
theorem dX5_init_32 : decode cX5_init 32 = .ok (.aload_n 0, 1) := by decide +kernel
theorem dX5_init_33 : decode cX5_init 33 = .ok (.bipush 55, 2) := by decide +kernel
theorem dX5_init_35 : decode cX5_init 35 = .ok (.newarray .int, 2) := by decide +kernel
theorem dX5_init_37 : decode cX5_init 37 = .ok (.putfield 29, 3) := by decide +kernel
theorem dX5_init_40 : decode cX5_init 40 = .ok (.aload_n 0, 1) := by decide +kernel
theorem dX5_init_41 : decode cX5_init 41 = .ok (.iconst 0, 1) := by decide +kernel
theorem dX5_init_42 : decode cX5_init 42 = .ok (.putfield 33, 3) := by decide +kernel
theorem dX5_init_45 : decode cX5_init 45 = .ok (.aload_n 0, 1) := by decide +kernel
theorem dX5_init_46 : decode cX5_init 46 = .ok (.lconst 0, 1) := by decide +kernel
theorem dX5_init_47 : decode cX5_init 47 = .ok (.putfield 36, 3) := by decide +kernel
theorem dX5_init_50 : decode cX5_init 50 = .ok (.aload_n 0, 1) := by decide +kernel
theorem dX5_init_51 : decode cX5_init 51 = .ok (.iconst 0, 1) := by decide +kernel
theorem dX5_init_52 : decode cX5_init 52 = .ok (.putfield 40, 3) := by decide +kernel
theorem dX5_init_55 : decode cX5_init 55 = .ok (.aload_n 0, 1) := by decide +kernel
theorem dX5_init_56 : decode cX5_init 56 = .ok (.iconst 0, 1) := by decide +kernel
theorem dX5_init_57 : decode cX5_init 57 = .ok (.putfield 43, 3) := by decide +kernel
theorem dX5_init_60 : decode cX5_init 60 = .ok (.aload_n 0, 1) := by decide +kernel
theorem dX5_init_61 : decode cX5_init 61 = .ok (.iconst 0, 1) := by decide +kernel
theorem dX5_init_62 : decode cX5_init 62 = .ok (.putfield 46, 3) := by decide +kernel
theorem dX5_init_65 : decode cX5_init 65 = .ok (.return_, 1) := by decide +kernel
theorem dX5_go_0 : decode cX5_go 0 = .ok (.lload_n 2, 1) := by decide +kernel
theorem dX5_go_1 : decode cX5_go 1 = .ok (.aload_n 0, 1) := by decide +kernel
theorem dX5_go_2 : decode cX5_go 2 = .ok (.getfield 36, 3) := by decide +kernel
theorem dX5_go_5 : decode cX5_go 5 = .ok (.lcmp, 1) := by decide +kernel
theorem dX5_go_6 : decode cX5_go 6 = .ok (.ifCond .ne 40, 3) := by decide +kernel
theorem dX5_go_9 : decode cX5_go 9 = .ok (.aload_n 1, 1) := by decide +kernel
theorem dX5_go_10 : decode cX5_go 10 = .ok (.getfield 49, 3) := by decide +kernel
theorem dX5_go_13 : decode cX5_go 13 = .ok (.aload_n 0, 1) := by decide +kernel
theorem dX5_go_14 : decode cX5_go 14 = .ok (.getfield 40, 3) := by decide +kernel
theorem dX5_go_17 : decode cX5_go 17 = .ok (.if_icmp .ne 29, 3) := by decide +kernel
theorem dX5_go_20 : decode cX5_go 20 = .ok (.aload_n 1, 1) := by decide +kernel
theorem dX5_go_21 : decode cX5_go 21 = .ok (.getfield 52, 3) := by decide +kernel
theorem dX5_go_24 : decode cX5_go 24 = .ok (.aload_n 0, 1) := by decide +kernel
theorem dX5_go_25 : decode cX5_go 25 = .ok (.getfield 43, 3) := by decide +kernel
theorem dX5_go_28 : decode cX5_go 28 = .ok (.if_icmp .ne 18, 3) := by decide +kernel
theorem dX5_go_31 : decode cX5_go 31 = .ok (.aload_n 1, 1) := by decide +kernel
theorem dX5_go_32 : decode cX5_go 32 = .ok (.getfield 53, 3) := by decide +kernel
theorem dX5_go_35 : decode cX5_go 35 = .ok (.aload_n 0, 1) := by decide +kernel
theorem dX5_go_36 : decode cX5_go 36 = .ok (.getfield 46, 3) := by decide +kernel
theorem dX5_go_39 : decode cX5_go 39 = .ok (.if_icmp .ne 7, 3) := by decide +kernel
theorem dX5_go_42 : decode cX5_go 42 = .ok (.iconst 1, 1) := by decide +kernel
theorem dX5_go_43 : decode cX5_go 43 = .ok (.goto 4, 3) := by decide +kernel
theorem dX5_go_46 : decode cX5_go 46 = .ok (.iconst 0, 1) := by decide +kernel
theorem dX5_go_47 : decode cX5_go 47 = .ok (.istore 5, 2) := by decide +kernel
theorem dX5_go_49 : decode cX5_go 49 = .ok (.aload_n 0, 1) := by decide +kernel
theorem dX5_go_50 : decode cX5_go 50 = .ok (.getfield 33, 3) := by decide +kernel
theorem dX5_go_53 : decode cX5_go 53 = .ok (.ifCond .eq 9, 3) := by decide +kernel
theorem dX5_go_56 : decode cX5_go 56 = .ok (.iload 5, 2) := by decide +kernel
theorem dX5_go_58 : decode cX5_go 58 = .ok (.ifCond .eq 4, 3) := by decide +kernel
theorem dX5_go_61 : decode cX5_go 61 = .ok (.return_, 1) := by decide +kernel
theorem dX5_go_62 : decode cX5_go 62 = .ok (.aload_n 0, 1) := by decide +kernel
theorem dX5_go_63 : decode cX5_go 63 = .ok (.aload_n 1, 1) := by decide +kernel
theorem dX5_go_64 : decode cX5_go 64 = .ok (.getfield 49, 3) := by decide +kernel
theorem dX5_go_67 : decode cX5_go 67 = .ok (.putfield 40, 3) := by decide +kernel
theorem dX5_go_70 : decode cX5_go 70 = .ok (.aload_n 0, 1) := by decide +kernel
theorem dX5_go_71 : decode cX5_go 71 = .ok (.aload_n 1, 1) := by decide +kernel
theorem dX5_go_72 : decode cX5_go 72 = .ok (.getfield 52, 3) := by decide +kernel
theorem dX5_go_75 : decode cX5_go 75 = .ok (.putfield 43, 3) := by decide +kernel
theorem dX5_go_78 : decode cX5_go 78 = .ok (.aload_n 0, 1) := by decide +kernel
theorem dX5_go_79 : decode cX5_go 79 = .ok (.aload_n 1, 1) := by decide +kernel
theorem dX5_go_80 : decode cX5_go 80 = .ok (.getfield 53, 3) := by decide +kernel
theorem dX5_go_83 : decode cX5_go 83 = .ok (.putfield 46, 3) := by decide +kernel
theorem dX5_go_86 : decode cX5_go 86 = .ok (.aload_n 0, 1) := by decide +kernel
theorem dX5_go_87 : decode cX5_go 87 = .ok (.lload_n 2, 1) := by decide +kernel
theorem dX5_go_88 : decode cX5_go 88 = .ok (.putfield 36, 3) := by decide +kernel
theorem dX5_go_91 : decode cX5_go 91 = .ok (.aload_n 0, 1) := by decide +kernel
theorem dX5_go_92 : decode cX5_go 92 = .ok (.iload 4, 2) := by decide +kernel
theorem dX5_go_94 : decode cX5_go 94 = .ok (.ifCond .ne 7, 3) := by decide +kernel
theorem dX5_go_97 : decode cX5_go 97 = .ok (.iconst 1, 1) := by decide +kernel
theorem dX5_go_98 : decode cX5_go 98 = .ok (.goto 4, 3) := by decide +kernel
theorem dX5_go_101 : decode cX5_go 101 = .ok (.iconst 0, 1) := by decide +kernel
theorem dX5_go_102 : decode cX5_go 102 = .ok (.putfield 33, 3) := by decide +kernel
theorem dX5_go_105 : decode cX5_go 105 = .ok (.aload_n 0, 1) := by decide +kernel
theorem dX5_go_106 : decode cX5_go 106 = .ok (.iconst 0, 1) := by decide +kernel
theorem dX5_go_107 : decode cX5_go 107 = .ok (.putfield 9, 3) := by decide +kernel
theorem dX5_go_110 : decode cX5_go 110 = .ok (.aload_n 0, 1) := by decide +kernel
theorem dX5_go_111 : decode cX5_go 111 = .ok (.iconst 0, 1) := by decide +kernel
theorem dX5_go_112 : decode cX5_go 112 = .ok (.putfield 15, 3) := by decide +kernel
theorem dX5_go_115 : decode cX5_go 115 = .ok (.aload_n 0, 1) := by decide +kernel
theorem dX5_go_116 : decode cX5_go 116 = .ok (.iconst 0, 1) := by decide +kernel
theorem dX5_go_117 : decode cX5_go 117 = .ok (.putfield 18, 3) := by decide +kernel
theorem dX5_go_120 : decode cX5_go 120 = .ok (.aload_n 0, 1) := by decide +kernel
theorem dX5_go_121 : decode cX5_go 121 = .ok (.iconst 0, 1) := by decide +kernel
theorem dX5_go_122 : decode cX5_go 122 = .ok (.putfield 22, 3) := by decide +kernel
theorem dX5_go_125 : decode cX5_go 125 = .ok (.lload_n 2, 1) := by decide +kernel
theorem dX5_go_126 : decode cX5_go 126 = .ok (.lconst 0, 1) := by decide +kernel
theorem dX5_go_127 : decode cX5_go 127 = .ok (.lcmp, 1) := by decide +kernel
theorem dX5_go_128 : decode cX5_go 128 = .ok (.ifCond .ne 11, 3) := by decide +kernel
theorem dX5_go_131 : decode cX5_go 131 = .ok (.aload_n 0, 1) := by decide +kernel
theorem dX5_go_132 : decode cX5_go 132 = .ok (.iconst 1, 1) := by decide +kernel
theorem dX5_go_133 : decode cX5_go 133 = .ok (.putfield 9, 3) := by decide +kernel
theorem dX5_go_136 : decode cX5_go 136 = .ok (.goto 10, 3) := by decide +kernel
theorem dX5_go_139 : decode cX5_go 139 = .ok (.aload_n 0, 1) := by decide +kernel
theorem dX5_go_140 : decode cX5_go 140 = .ok (.aload_n 1, 1) := by decide +kernel
theorem dX5_go_141 : decode cX5_go 141 = .ok (.iload 4, 2) := by decide +kernel
theorem dX5_go_143 : decode cX5_go 143 = .ok (.invokevirtual 54, 3) := by decide +kernel
theorem dX5_go_146 : decode cX5_go 146 = .ok (.return_, 1) := by decide +kernel
theorem dX5_step_0 : decode cX5_step 0 = .ok (.aload_n 0, 1) := by decide +kernel
theorem dX5_step_1 : decode cX5_step 1 = .ok (.getfield 36, 3) := by decide +kernel
theorem dX5_step_4 : decode cX5_step 4 = .ok (.lstore_n 3, 1) := by decide +kernel
theorem dX5_step_5 : decode cX5_step 5 = .ok (.iconst 0, 1) := by decide +kernel
theorem dX5_step_6 : decode cX5_step 6 = .ok (.istore 5, 2) := by decide +kernel
theorem dX5_step_8 : decode cX5_step 8 = .ok (.aload_n 1, 1) := by decide +kernel
theorem dX5_step_9 : decode cX5_step 9 = .ok (.lload_n 3, 1) := by decide +kernel
theorem dX5_step_10 : decode cX5_step 10 = .ok (.invokestatic 58, 3) := by decide +kernel
theorem dX5_step_13 : decode cX5_step 13 = .ok (.istore 6, 2) := by decide +kernel
theorem dX5_step_15 : decode cX5_step 15 = .ok (.iconst 0, 1) := by decide +kernel
theorem dX5_step_16 : decode cX5_step 16 = .ok (.istore 7, 2) := by decide +kernel
theorem dX5_step_18 : decode cX5_step 18 = .ok (.iload 7, 2) := by decide +kernel
theorem dX5_step_20 : decode cX5_step 20 = .ok (.ldc 62, 2) := by decide +kernel
theorem dX5_step_22 : decode cX5_step 22 = .ok (.if_icmp .ge 186, 3) := by decide +kernel
theorem dX5_step_25 : decode cX5_step 25 = .ok (.aload_n 1, 1) := by decide +kernel
theorem dX5_step_26 : decode cX5_step 26 = .ok (.lload_n 3, 1) := by decide +kernel
theorem dX5_step_27 : decode cX5_step 27 = .ok (.iload 6, 2) := by decide +kernel
theorem dX5_step_29 : decode cX5_step 29 = .ok (.invokestatic 63, 3) := by decide +kernel
theorem dX5_step_32 : decode cX5_step 32 = .ok (.istore 8, 2) := by decide +kernel
theorem dX5_step_34 : decode cX5_step 34 = .ok (.iload 8, 2) := by decide +kernel
theorem dX5_step_36 : decode cX5_step 36 = .ok (.iconst (-1), 1) := by decide +kernel
theorem dX5_step_37 : decode cX5_step 37 = .ok (.if_icmp .eq 19, 3) := by decide +kernel
theorem dX5_step_40 : decode cX5_step 40 = .ok (.aload_n 0, 1) := by decide +kernel
theorem dX5_step_41 : decode cX5_step 41 = .ok (.getfield 15, 3) := by decide +kernel
theorem dX5_step_44 : decode cX5_step 44 = .ok (.sipush 20000, 3) := by decide +kernel
theorem dX5_step_47 : decode cX5_step 47 = .ok (.if_icmp .ne 9, 3) := by decide +kernel
theorem dX5_step_50 : decode cX5_step 50 = .ok (.aload_n 0, 1) := by decide +kernel
theorem dX5_step_51 : decode cX5_step 51 = .ok (.iconst 1, 1) := by decide +kernel
theorem dX5_step_52 : decode cX5_step 52 = .ok (.putfield 18, 3) := by decide +kernel
theorem dX5_step_55 : decode cX5_step 55 = .ok (.return_, 1) := by decide +kernel
theorem dX5_step_56 : decode cX5_step 56 = .ok (.iload 8, 2) := by decide +kernel
theorem dX5_step_58 : decode cX5_step 58 = .ok (.iconst (-1), 1) := by decide +kernel
theorem dX5_step_59 : decode cX5_step 59 = .ok (.if_icmp .eq 81, 3) := by decide +kernel
theorem dX5_step_62 : decode cX5_step 62 = .ok (.iload 5, 2) := by decide +kernel
theorem dX5_step_64 : decode cX5_step 64 = .ok (.aload_n 0, 1) := by decide +kernel
theorem dX5_step_65 : decode cX5_step 65 = .ok (.getfield 29, 3) := by decide +kernel
theorem dX5_step_68 : decode cX5_step 68 = .ok (.arraylength, 1) := by decide +kernel
theorem dX5_step_69 : decode cX5_step 69 = .ok (.if_icmp .ge 71, 3) := by decide +kernel
theorem dX5_step_72 : decode cX5_step 72 = .ok (.aload_n 0, 1) := by decide +kernel
theorem dX5_step_73 : decode cX5_step 73 = .ok (.dup, 1) := by decide +kernel
theorem dX5_step_74 : decode cX5_step 74 = .ok (.getfield 15, 3) := by decide +kernel
theorem dX5_step_77 : decode cX5_step 77 = .ok (.iconst 1, 1) := by decide +kernel
theorem dX5_step_78 : decode cX5_step 78 = .ok (.iadd, 1) := by decide +kernel
theorem dX5_step_79 : decode cX5_step 79 = .ok (.putfield 15, 3) := by decide +kernel
theorem dX5_step_82 : decode cX5_step 82 = .ok (.aload_n 0, 1) := by decide +kernel
theorem dX5_step_83 : decode cX5_step 83 = .ok (.getfield 29, 3) := by decide +kernel
theorem dX5_step_86 : decode cX5_step 86 = .ok (.iload 5, 2) := by decide +kernel
theorem dX5_step_88 : decode cX5_step 88 = .ok (.iload 8, 2) := by decide +kernel
theorem dX5_step_90 : decode cX5_step 90 = .ok (.iastore, 1) := by decide +kernel
theorem dX5_step_91 : decode cX5_step 91 = .ok (.iinc 5 1, 3) := by decide +kernel
theorem dX5_step_94 : decode cX5_step 94 = .ok (.lload_n 3, 1) := by decide +kernel
theorem dX5_step_95 : decode cX5_step 95 = .ok (.aload_n 1, 1) := by decide +kernel
theorem dX5_step_96 : decode cX5_step 96 = .ok (.getfield 67, 3) := by decide +kernel
theorem dX5_step_99 : decode cX5_step 99 = .ok (.iload 8, 2) := by decide +kernel
theorem dX5_step_101 : decode cX5_step 101 = .ok (.laload, 1) := by decide +kernel
theorem dX5_step_102 : decode cX5_step 102 = .ok (.ldc2_w 70, 3) := by decide +kernel
theorem dX5_step_105 : decode cX5_step 105 = .ok (.lxor, 1) := by decide +kernel
theorem dX5_step_106 : decode cX5_step 106 = .ok (.land, 1) := by decide +kernel
theorem dX5_step_107 : decode cX5_step 107 = .ok (.lstore_n 3, 1) := by decide +kernel
theorem dX5_step_108 : decode cX5_step 108 = .ok (.aload_n 1, 1) := by decide +kernel
theorem dX5_step_109 : decode cX5_step 109 = .ok (.lload_n 3, 1) := by decide +kernel
theorem dX5_step_110 : decode cX5_step 110 = .ok (.invokestatic 58, 3) := by decide +kernel
theorem dX5_step_113 : decode cX5_step 113 = .ok (.istore 6, 2) := by decide +kernel
theorem dX5_step_115 : decode cX5_step 115 = .ok (.lload_n 3, 1) := by decide +kernel
theorem dX5_step_116 : decode cX5_step 116 = .ok (.lconst 0, 1) := by decide +kernel
theorem dX5_step_117 : decode cX5_step 117 = .ok (.lcmp, 1) := by decide +kernel
theorem dX5_step_118 : decode cX5_step 118 = .ok (.ifCond .ne 10, 3) := by decide +kernel
theorem dX5_step_121 : decode cX5_step 121 = .ok (.aload_n 0, 1) := by decide +kernel
theorem dX5_step_122 : decode cX5_step 122 = .ok (.aload_n 1, 1) := by decide +kernel
theorem dX5_step_123 : decode cX5_step 123 = .ok (.iload 5, 2) := by decide +kernel
theorem dX5_step_125 : decode cX5_step 125 = .ok (.invokevirtual 72, 3) := by decide +kernel
theorem dX5_step_128 : decode cX5_step 128 = .ok (.iload_n 2, 1) := by decide +kernel
theorem dX5_step_129 : decode cX5_step 129 = .ok (.ifCond .eq 73, 3) := by decide +kernel
theorem dX5_step_132 : decode cX5_step 132 = .ok (.aload_n 0, 1) := by decide +kernel
theorem dX5_step_133 : decode cX5_step 133 = .ok (.getfield 9, 3) := by decide +kernel
theorem dX5_step_136 : decode cX5_step 136 = .ok (.ifCond .le 66, 3) := by decide +kernel
theorem dX5_step_139 : decode cX5_step 139 = .ok (.return_, 1) := by decide +kernel
theorem dX5_step_140 : decode cX5_step 140 = .ok (.iload 5, 2) := by decide +kernel
theorem dX5_step_142 : decode cX5_step 142 = .ok (.ifCond .le 59, 3) := by decide +kernel
theorem dX5_step_145 : decode cX5_step 145 = .ok (.iload 5, 2) := by decide +kernel
theorem dX5_step_147 : decode cX5_step 147 = .ok (.aload_n 0, 1) := by decide +kernel
theorem dX5_step_148 : decode cX5_step 148 = .ok (.getfield 29, 3) := by decide +kernel
theorem dX5_step_151 : decode cX5_step 151 = .ok (.arraylength, 1) := by decide +kernel
theorem dX5_step_152 : decode cX5_step 152 = .ok (.if_icmp .gt 49, 3) := by decide +kernel
theorem dX5_step_155 : decode cX5_step 155 = .ok (.iinc 5 (-1), 3) := by decide +kernel
theorem dX5_step_158 : decode cX5_step 158 = .ok (.aload_n 0, 1) := by decide +kernel
theorem dX5_step_159 : decode cX5_step 159 = .ok (.getfield 29, 3) := by decide +kernel
theorem dX5_step_162 : decode cX5_step 162 = .ok (.iload 5, 2) := by decide +kernel
theorem dX5_step_164 : decode cX5_step 164 = .ok (.iaload, 1) := by decide +kernel
theorem dX5_step_165 : decode cX5_step 165 = .ok (.istore 9, 2) := by decide +kernel
theorem dX5_step_167 : decode cX5_step 167 = .ok (.iload 9, 2) := by decide +kernel
theorem dX5_step_169 : decode cX5_step 169 = .ok (.ifCond .lt 23, 3) := by decide +kernel
theorem dX5_step_172 : decode cX5_step 172 = .ok (.iload 9, 2) := by decide +kernel
theorem dX5_step_174 : decode cX5_step 174 = .ok (.aload_n 1, 1) := by decide +kernel
theorem dX5_step_175 : decode cX5_step 175 = .ok (.getfield 67, 3) := by decide +kernel
theorem dX5_step_178 : decode cX5_step 178 = .ok (.arraylength, 1) := by decide +kernel
theorem dX5_step_179 : decode cX5_step 179 = .ok (.if_icmp .ge 13, 3) := by decide +kernel
theorem dX5_step_182 : decode cX5_step 182 = .ok (.lload_n 3, 1) := by decide +kernel
theorem dX5_step_183 : decode cX5_step 183 = .ok (.aload_n 1, 1) := by decide +kernel
theorem dX5_step_184 : decode cX5_step 184 = .ok (.getfield 67, 3) := by decide +kernel
theorem dX5_step_187 : decode cX5_step 187 = .ok (.iload 9, 2) := by decide +kernel
theorem dX5_step_189 : decode cX5_step 189 = .ok (.laload, 1) := by decide +kernel
theorem dX5_step_190 : decode cX5_step 190 = .ok (.lor, 1) := by decide +kernel
theorem dX5_step_191 : decode cX5_step 191 = .ok (.lstore_n 3, 1) := by decide +kernel
theorem dX5_step_192 : decode cX5_step 192 = .ok (.iload 9, 2) := by decide +kernel
theorem dX5_step_194 : decode cX5_step 194 = .ok (.iconst 1, 1) := by decide +kernel
theorem dX5_step_195 : decode cX5_step 195 = .ok (.iadd, 1) := by decide +kernel
theorem dX5_step_196 : decode cX5_step 196 = .ok (.istore 6, 2) := by decide +kernel
theorem dX5_step_198 : decode cX5_step 198 = .ok (.goto 4, 3) := by decide +kernel
theorem dX5_step_201 : decode cX5_step 201 = .ok (.return_, 1) := by decide +kernel
theorem dX5_step_202 : decode cX5_step 202 = .ok (.iinc 7 1, 3) := by decide +kernel
theorem dX5_step_205 : decode cX5_step 205 = .ok (.goto (-187), 3) := by decide +kernel
theorem dX5_step_208 : decode cX5_step 208 = .ok (.return_, 1) := by decide +kernel
theorem dX5_arrive_0 : decode cX5_arrive 0 = .ok (.aload_n 0, 1) := by decide +kernel
theorem dX5_arrive_1 : decode cX5_arrive 1 = .ok (.getfield 9, 3) := by decide +kernel
theorem dX5_arrive_4 : decode cX5_arrive 4 = .ok (.ifCond .ne 66, 3) := by decide +kernel
theorem dX5_arrive_7 : decode cX5_arrive 7 = .ok (.aload_n 0, 1) := by decide +kernel
theorem dX5_arrive_8 : decode cX5_arrive 8 = .ok (.iload_n 2, 1) := by decide +kernel
theorem dX5_arrive_9 : decode cX5_arrive 9 = .ok (.putfield 22, 3) := by decide +kernel
theorem dX5_arrive_12 : decode cX5_arrive 12 = .ok (.iconst 0, 1) := by decide +kernel
theorem dX5_arrive_13 : decode cX5_arrive 13 = .ok (.istore_n 3, 1) := by decide +kernel
theorem dX5_arrive_14 : decode cX5_arrive 14 = .ok (.iload_n 3, 1) := by decide +kernel
theorem dX5_arrive_15 : decode cX5_arrive 15 = .ok (.iload_n 2, 1) := by decide +kernel
theorem dX5_arrive_16 : decode cX5_arrive 16 = .ok (.if_icmp .ge 54, 3) := by decide +kernel
theorem dX5_arrive_19 : decode cX5_arrive 19 = .ok (.iload_n 3, 1) := by decide +kernel
theorem dX5_arrive_20 : decode cX5_arrive 20 = .ok (.aload_n 0, 1) := by decide +kernel
theorem dX5_arrive_21 : decode cX5_arrive 21 = .ok (.getfield 29, 3) := by decide +kernel
theorem dX5_arrive_24 : decode cX5_arrive 24 = .ok (.arraylength, 1) := by decide +kernel
theorem dX5_arrive_25 : decode cX5_arrive 25 = .ok (.if_icmp .ge 45, 3) := by decide +kernel
theorem dX5_arrive_28 : decode cX5_arrive 28 = .ok (.aload_n 0, 1) := by decide +kernel
theorem dX5_arrive_29 : decode cX5_arrive 29 = .ok (.getfield 29, 3) := by decide +kernel
theorem dX5_arrive_32 : decode cX5_arrive 32 = .ok (.iload_n 3, 1) := by decide +kernel
theorem dX5_arrive_33 : decode cX5_arrive 33 = .ok (.iaload, 1) := by decide +kernel
theorem dX5_arrive_34 : decode cX5_arrive 34 = .ok (.istore 4, 2) := by decide +kernel
theorem dX5_arrive_36 : decode cX5_arrive 36 = .ok (.iload 4, 2) := by decide +kernel
theorem dX5_arrive_38 : decode cX5_arrive 38 = .ok (.ifCond .lt 26, 3) := by decide +kernel
theorem dX5_arrive_41 : decode cX5_arrive 41 = .ok (.iload 4, 2) := by decide +kernel
theorem dX5_arrive_43 : decode cX5_arrive 43 = .ok (.aload_n 1, 1) := by decide +kernel
theorem dX5_arrive_44 : decode cX5_arrive 44 = .ok (.getfield 67, 3) := by decide +kernel
theorem dX5_arrive_47 : decode cX5_arrive 47 = .ok (.arraylength, 1) := by decide +kernel
theorem dX5_arrive_48 : decode cX5_arrive 48 = .ok (.if_icmp .ge 16, 3) := by decide +kernel
theorem dX5_arrive_51 : decode cX5_arrive 51 = .ok (.aload_n 0, 1) := by decide +kernel
theorem dX5_arrive_52 : decode cX5_arrive 52 = .ok (.getfield 25, 3) := by decide +kernel
theorem dX5_arrive_55 : decode cX5_arrive 55 = .ok (.iload_n 3, 1) := by decide +kernel
theorem dX5_arrive_56 : decode cX5_arrive 56 = .ok (.aload_n 1, 1) := by decide +kernel
theorem dX5_arrive_57 : decode cX5_arrive 57 = .ok (.getfield 67, 3) := by decide +kernel
theorem dX5_arrive_60 : decode cX5_arrive 60 = .ok (.iload 4, 2) := by decide +kernel
theorem dX5_arrive_62 : decode cX5_arrive 62 = .ok (.laload, 1) := by decide +kernel
theorem dX5_arrive_63 : decode cX5_arrive 63 = .ok (.lastore, 1) := by decide +kernel
theorem dX5_arrive_64 : decode cX5_arrive 64 = .ok (.iinc 3 1, 3) := by decide +kernel
theorem dX5_arrive_67 : decode cX5_arrive 67 = .ok (.goto (-53), 3) := by decide +kernel
theorem dX5_arrive_70 : decode cX5_arrive 70 = .ok (.aload_n 0, 1) := by decide +kernel
theorem dX5_arrive_71 : decode cX5_arrive 71 = .ok (.dup, 1) := by decide +kernel
theorem dX5_arrive_72 : decode cX5_arrive 72 = .ok (.getfield 9, 3) := by decide +kernel
theorem dX5_arrive_75 : decode cX5_arrive 75 = .ok (.iconst 1, 1) := by decide +kernel
theorem dX5_arrive_76 : decode cX5_arrive 76 = .ok (.iadd, 1) := by decide +kernel
theorem dX5_arrive_77 : decode cX5_arrive 77 = .ok (.putfield 9, 3) := by decide +kernel
theorem dX5_arrive_80 : decode cX5_arrive 80 = .ok (.return_, 1) := by decide +kernel
theorem dX5_firstRow_0 : decode cX5_firstRow 0 = .ok (.lload_n 1, 1) := by decide +kernel
theorem dX5_firstRow_1 : decode cX5_firstRow 1 = .ok (.invokestatic 76, 3) := by decide +kernel
theorem dX5_firstRow_4 : decode cX5_firstRow 4 = .ok (.istore_n 3, 1) := by decide +kernel
theorem dX5_firstRow_5 : decode cX5_firstRow 5 = .ok (.iload_n 3, 1) := by decide +kernel
theorem dX5_firstRow_6 : decode cX5_firstRow 6 = .ok (.ifCond .lt 21, 3) := by decide +kernel
theorem dX5_firstRow_9 : decode cX5_firstRow 9 = .ok (.iload_n 3, 1) := by decide +kernel
theorem dX5_firstRow_10 : decode cX5_firstRow 10 = .ok (.aload_n 0, 1) := by decide +kernel
theorem dX5_firstRow_11 : decode cX5_firstRow 11 = .ok (.getfield 80, 3) := by decide +kernel
theorem dX5_firstRow_14 : decode cX5_firstRow 14 = .ok (.arraylength, 1) := by decide +kernel
theorem dX5_firstRow_15 : decode cX5_firstRow 15 = .ok (.if_icmp .ge 12, 3) := by decide +kernel
theorem dX5_firstRow_18 : decode cX5_firstRow 18 = .ok (.aload_n 0, 1) := by decide +kernel
theorem dX5_firstRow_19 : decode cX5_firstRow 19 = .ok (.getfield 80, 3) := by decide +kernel
theorem dX5_firstRow_22 : decode cX5_firstRow 22 = .ok (.iload_n 3, 1) := by decide +kernel
theorem dX5_firstRow_23 : decode cX5_firstRow 23 = .ok (.iaload, 1) := by decide +kernel
theorem dX5_firstRow_24 : decode cX5_firstRow 24 = .ok (.goto 7, 3) := by decide +kernel
theorem dX5_firstRow_27 : decode cX5_firstRow 27 = .ok (.aload_n 0, 1) := by decide +kernel
theorem dX5_firstRow_28 : decode cX5_firstRow 28 = .ok (.getfield 83, 3) := by decide +kernel
theorem dX5_firstRow_31 : decode cX5_firstRow 31 = .ok (.ireturn, 1) := by decide +kernel
theorem dX5_nextRow_0 : decode cX5_nextRow 0 = .ok (.lload_n 1, 1) := by decide +kernel
theorem dX5_nextRow_1 : decode cX5_nextRow 1 = .ok (.invokestatic 76, 3) := by decide +kernel
theorem dX5_nextRow_4 : decode cX5_nextRow 4 = .ok (.istore 4, 2) := by decide +kernel
theorem dX5_nextRow_6 : decode cX5_nextRow 6 = .ok (.iload 4, 2) := by decide +kernel
theorem dX5_nextRow_8 : decode cX5_nextRow 8 = .ok (.ifCond .lt 19, 3) := by decide +kernel
theorem dX5_nextRow_11 : decode cX5_nextRow 11 = .ok (.iload 4, 2) := by decide +kernel
theorem dX5_nextRow_13 : decode cX5_nextRow 13 = .ok (.iconst 1, 1) := by decide +kernel
theorem dX5_nextRow_14 : decode cX5_nextRow 14 = .ok (.iadd, 1) := by decide +kernel
theorem dX5_nextRow_15 : decode cX5_nextRow 15 = .ok (.aload_n 0, 1) := by decide +kernel
theorem dX5_nextRow_16 : decode cX5_nextRow 16 = .ok (.getfield 80, 3) := by decide +kernel
theorem dX5_nextRow_19 : decode cX5_nextRow 19 = .ok (.arraylength, 1) := by decide +kernel
theorem dX5_nextRow_20 : decode cX5_nextRow 20 = .ok (.if_icmp .ge 7, 3) := by decide +kernel
theorem dX5_nextRow_23 : decode cX5_nextRow 23 = .ok (.iload_n 3, 1) := by decide +kernel
theorem dX5_nextRow_24 : decode cX5_nextRow 24 = .ok (.ifCond .ge 5, 3) := by decide +kernel
theorem dX5_nextRow_27 : decode cX5_nextRow 27 = .ok (.iconst (-1), 1) := by decide +kernel
theorem dX5_nextRow_28 : decode cX5_nextRow 28 = .ok (.ireturn, 1) := by decide +kernel
theorem dX5_nextRow_29 : decode cX5_nextRow 29 = .ok (.aload_n 0, 1) := by decide +kernel
theorem dX5_nextRow_30 : decode cX5_nextRow 30 = .ok (.getfield 80, 3) := by decide +kernel
theorem dX5_nextRow_33 : decode cX5_nextRow 33 = .ok (.iload 4, 2) := by decide +kernel
theorem dX5_nextRow_35 : decode cX5_nextRow 35 = .ok (.iconst 1, 1) := by decide +kernel
theorem dX5_nextRow_36 : decode cX5_nextRow 36 = .ok (.iadd, 1) := by decide +kernel
theorem dX5_nextRow_37 : decode cX5_nextRow 37 = .ok (.iaload, 1) := by decide +kernel
theorem dX5_nextRow_38 : decode cX5_nextRow 38 = .ok (.aload_n 0, 1) := by decide +kernel
theorem dX5_nextRow_39 : decode cX5_nextRow 39 = .ok (.getfield 67, 3) := by decide +kernel
theorem dX5_nextRow_42 : decode cX5_nextRow 42 = .ok (.arraylength, 1) := by decide +kernel
theorem dX5_nextRow_43 : decode cX5_nextRow 43 = .ok (.invokestatic 86, 3) := by decide +kernel
theorem dX5_nextRow_46 : decode cX5_nextRow 46 = .ok (.istore 5, 2) := by decide +kernel
theorem dX5_nextRow_48 : decode cX5_nextRow 48 = .ok (.iload_n 3, 1) := by decide +kernel
theorem dX5_nextRow_49 : decode cX5_nextRow 49 = .ok (.istore 6, 2) := by decide +kernel
theorem dX5_nextRow_51 : decode cX5_nextRow 51 = .ok (.iload 6, 2) := by decide +kernel
theorem dX5_nextRow_53 : decode cX5_nextRow 53 = .ok (.iload 5, 2) := by decide +kernel
theorem dX5_nextRow_55 : decode cX5_nextRow 55 = .ok (.if_icmp .ge 30, 3) := by decide +kernel
theorem dX5_nextRow_58 : decode cX5_nextRow 58 = .ok (.aload_n 0, 1) := by decide +kernel
theorem dX5_nextRow_59 : decode cX5_nextRow 59 = .ok (.getfield 67, 3) := by decide +kernel
theorem dX5_nextRow_62 : decode cX5_nextRow 62 = .ok (.iload 6, 2) := by decide +kernel
theorem dX5_nextRow_64 : decode cX5_nextRow 64 = .ok (.laload, 1) := by decide +kernel
theorem dX5_nextRow_65 : decode cX5_nextRow 65 = .ok (.lload_n 1, 1) := by decide +kernel
theorem dX5_nextRow_66 : decode cX5_nextRow 66 = .ok (.ldc2_w 70, 3) := by decide +kernel
theorem dX5_nextRow_69 : decode cX5_nextRow 69 = .ok (.lxor, 1) := by decide +kernel
theorem dX5_nextRow_70 : decode cX5_nextRow 70 = .ok (.land, 1) := by decide +kernel
theorem dX5_nextRow_71 : decode cX5_nextRow 71 = .ok (.lconst 0, 1) := by decide +kernel
theorem dX5_nextRow_72 : decode cX5_nextRow 72 = .ok (.lcmp, 1) := by decide +kernel
theorem dX5_nextRow_73 : decode cX5_nextRow 73 = .ok (.ifCond .ne 6, 3) := by decide +kernel
theorem dX5_nextRow_76 : decode cX5_nextRow 76 = .ok (.iload 6, 2) := by decide +kernel
theorem dX5_nextRow_78 : decode cX5_nextRow 78 = .ok (.ireturn, 1) := by decide +kernel
theorem dX5_nextRow_79 : decode cX5_nextRow 79 = .ok (.iinc 6 1, 3) := by decide +kernel
theorem dX5_nextRow_82 : decode cX5_nextRow 82 = .ok (.goto (-31), 3) := by decide +kernel
theorem dX5_nextRow_85 : decode cX5_nextRow 85 = .ok (.iconst (-1), 1) := by decide +kernel
theorem dX5_nextRow_86 : decode cX5_nextRow 86 = .ok (.ireturn, 1) := by decide +kernel
