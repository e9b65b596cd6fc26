theorem dX3_init_0 : decode cX3_init 0 = .ok (.aload_n 0, 1) := by decide +kernel
theorem dX3_init_1 : decode cX3_init 1 = .ok (.invokespecial 3, 3) := by decide +kernel
theorem dX3_init_4 : decode cX3_init 4 = .ok (.aload_n 0, 1) := by decide +kernel
theorem dX3_init_5 : decode cX3_init 5 = .ok (.new 9, 3) := by decide +kernel
theorem dX3_init_8 : decode cX3_init 8 = .ok (.dup, 1) := by decide +kernel
theorem dX3_init_9 : decode cX3_init 9 = .ok (.invokespecial 11, 3) := by decide +kernel
theorem dX3_init_12 : decode cX3_init 12 = .ok (.putfield 12, 3) := by decide +kernel
theorem dX3_init_15 : decode cX3_init 15 = .ok (.aload_n 0, 1) := by decide +kernel
theorem dX3_init_16 : decode cX3_init 16 = .ok (.iconst (-1), 1) := by decide +kernel
theorem dX3_init_17 : decode cX3_init 17 = .ok (.putfield 18, 3) := by decide +kernel
theorem dX3_init_20 : decode cX3_init 20 = .ok (.aload_n 0, 1) := by decide +kernel
theorem dX3_init_21 : decode cX3_init 21 = .ok (.iconst 0, 1) := by decide +kernel
theorem dX3_init_22 : decode cX3_init 22 = .ok (.putfield 22, 3) := by decide +kernel
theorem dX3_init_25 : decode cX3_init 25 = .ok (.aload_n 0, 1) := by decide +kernel
theorem dX3_init_26 : decode cX3_init 26 = .ok (.iconst 0, 1) := by decide +kernel
theorem dX3_init_27 : decode cX3_init 27 = .ok (.newarray .byte, 2) := by decide +kernel
theorem dX3_init_29 : decode cX3_init 29 = .ok (.putfield 25, 3) := by decide +kernel
theorem dX3_init_32 : decode cX3_init 32 = .ok (.aload_n 0, 1) := by decide +kernel
theorem dX3_init_33 : decode cX3_init 33 = .ok (.iconst 0, 1) := by decide +kernel
theorem dX3_init_34 : decode cX3_init 34 = .ok (.putfield 29, 3) := by decide +kernel
theorem dX3_init_37 : decode cX3_init 37 = .ok (.aload_n 0, 1) := by decide +kernel
theorem dX3_init_38 : decode cX3_init 38 = .ok (.iconst 0, 1) := by decide +kernel
theorem dX3_init_39 : decode cX3_init 39 = .ok (.putfield 32, 3) := by decide +kernel
theorem dX3_init_42 : decode cX3_init 42 = .ok (.aload_n 0, 1) := by decide +kernel
theorem dX3_init_43 : decode cX3_init 43 = .ok (.iconst 0, 1) := by decide +kernel
theorem dX3_init_44 : decode cX3_init 44 = .ok (.putfield 35, 3) := by decide +kernel
theorem dX3_init_47 : decode cX3_init 47 = .ok (.aload_n 0, 1) := by decide +kernel
theorem dX3_init_48 : decode cX3_init 48 = .ok (.iconst 0, 1) := by decide +kernel
theorem dX3_init_49 : decode cX3_init 49 = .ok (.putfield 38, 3) := by decide +kernel
theorem dX3_init_52 : decode cX3_init 52 = .ok (.aload_n 0, 1) := by decide +kernel
theorem dX3_init_53 : decode cX3_init 53 = .ok (.iconst 0, 1) := by decide +kernel
theorem dX3_init_54 : decode cX3_init 54 = .ok (.putfield 41, 3) := by decide +kernel
theorem dX3_init_57 : decode cX3_init 57 = .ok (.aload_n 0, 1) := by decide +kernel
theorem dX3_init_58 : decode cX3_init 58 = .ok (.iconst 0, 1) := by decide +kernel
theorem dX3_init_59 : decode cX3_init 59 = .ok (.putfield 44, 3) := by decide +kernel
theorem dX3_init_62 : decode cX3_init 62 = .ok (.aload_n 0, 1) := by decide +kernel
theorem dX3_init_63 : decode cX3_init 63 = .ok (.iconst 0, 1) := by decide +kernel
theorem dX3_init_64 : decode cX3_init 64 = .ok (.putfield 48, 3) := by decide +kernel
theorem dX3_init_67 : decode cX3_init 67 = .ok (.aload_n 0, 1) := by decide +kernel
theorem dX3_init_68 : decode cX3_init 68 = .ok (.iconst 0, 1) := by decide +kernel
theorem dX3_init_69 : decode cX3_init 69 = .ok (.putfield 51, 3) := by decide +kernel
theorem dX3_init_72 : decode cX3_init 72 = .ok (.aload_n 0, 1) := by decide +kernel
theorem dX3_init_73 : decode cX3_init 73 = .ok (.sipush 250, 3) := by decide +kernel
theorem dX3_init_76 : decode cX3_init 76 = .ok (.newarray .int, 2) := by decide +kernel
theorem dX3_init_78 : decode cX3_init 78 = .ok (.putfield 54, 3) := by decide +kernel
theorem dX3_init_81 : decode cX3_init 81 = .ok (.aload_n 0, 1) := by decide +kernel
theorem dX3_init_82 : decode cX3_init 82 = .ok (.bipush 50, 2) := by decide +kernel
theorem dX3_init_84 : decode cX3_init 84 = .ok (.newarray .int, 2) := by decide +kernel
theorem dX3_init_86 : decode cX3_init 86 = .ok (.putfield 58, 3) := by decide +kernel
theorem dX3_init_89 : decode cX3_init 89 = .ok (.aload_n 0, 1) := by decide +kernel
theorem dX3_init_90 : decode cX3_init 90 = .ok (.iconst 4, 1) := by decide +kernel
theorem dX3_init_91 : decode cX3_init 91 = .ok (.newarray .int, 2) := by decide +kernel
theorem dX3_init_93 : decode cX3_init 93 = .ok (.putfield 61, 3) := by decide +kernel
theorem dX3_init_96 : decode cX3_init 96 = .ok (.return_, 1) := by decide +kernel
theorem dX3_read_0 : decode cX3_read 0 = .ok (.aload_n 0, 1) := by decide +kernel
theorem dX3_read_1 : decode cX3_read 1 = .ok (.aload_n 1, 1) := by decide +kernel
theorem dX3_read_2 : decode cX3_read 2 = .ok (.putfield 25, 3) := by decide +kernel
theorem dX3_read_5 : decode cX3_read 5 = .ok (.aload_n 0, 1) := by decide +kernel
theorem dX3_read_6 : decode cX3_read 6 = .ok (.iload_n 2, 1) := by decide +kernel
theorem dX3_read_7 : decode cX3_read 7 = .ok (.aload_n 1, 1) := by decide +kernel
theorem dX3_read_8 : decode cX3_read 8 = .ok (.arraylength, 1) := by decide +kernel
theorem dX3_read_9 : decode cX3_read 9 = .ok (.invokestatic 64, 3) := by decide +kernel
theorem dX3_read_12 : decode cX3_read 12 = .ok (.putfield 29, 3) := by decide +kernel
theorem dX3_read_15 : decode cX3_read 15 = .ok (.aload_n 0, 1) := by decide +kernel
theorem dX3_read_16 : decode cX3_read 16 = .ok (.iconst 0, 1) := by decide +kernel
theorem dX3_read_17 : decode cX3_read 17 = .ok (.putfield 35, 3) := by decide +kernel
theorem dX3_read_20 : decode cX3_read 20 = .ok (.aload_n 0, 1) := by decide +kernel
theorem dX3_read_21 : decode cX3_read 21 = .ok (.iconst 0, 1) := by decide +kernel
theorem dX3_read_22 : decode cX3_read 22 = .ok (.putfield 22, 3) := by decide +kernel
theorem dX3_read_25 : decode cX3_read 25 = .ok (.aload_n 0, 1) := by decide +kernel
theorem dX3_read_26 : decode cX3_read 26 = .ok (.iconst (-1), 1) := by decide +kernel
theorem dX3_read_27 : decode cX3_read 27 = .ok (.putfield 18, 3) := by decide +kernel
theorem dX3_read_30 : decode cX3_read 30 = .ok (.aload_n 0, 1) := by decide +kernel
theorem dX3_read_31 : decode cX3_read 31 = .ok (.iconst 0, 1) := by decide +kernel
theorem dX3_read_32 : decode cX3_read 32 = .ok (.putfield 44, 3) := by decide +kernel
theorem dX3_read_35 : decode cX3_read 35 = .ok (.aload_n 0, 1) := by decide +kernel
theorem dX3_read_36 : decode cX3_read 36 = .ok (.iconst 0, 1) := by decide +kernel
theorem dX3_read_37 : decode cX3_read 37 = .ok (.putfield 48, 3) := by decide +kernel
theorem dX3_read_40 : decode cX3_read 40 = .ok (.aload_n 0, 1) := by decide +kernel
theorem dX3_read_41 : decode cX3_read 41 = .ok (.iconst 0, 1) := by decide +kernel
theorem dX3_read_42 : decode cX3_read 42 = .ok (.putfield 51, 3) := by decide +kernel
theorem dX3_read_45 : decode cX3_read 45 = .ok (.aload_n 0, 1) := by decide +kernel
theorem dX3_read_46 : decode cX3_read 46 = .ok (.invokevirtual 70, 3) := by decide +kernel
theorem dX3_read_49 : decode cX3_read 49 = .ok (.istore_n 3, 1) := by decide +kernel
theorem dX3_read_50 : decode cX3_read 50 = .ok (.iconst 0, 1) := by decide +kernel
theorem dX3_read_51 : decode cX3_read 51 = .ok (.istore 4, 2) := by decide +kernel
theorem dX3_read_53 : decode cX3_read 53 = .ok (.iload 4, 2) := by decide +kernel
theorem dX3_read_55 : decode cX3_read 55 = .ok (.sipush 300, 3) := by decide +kernel
theorem dX3_read_58 : decode cX3_read 58 = .ok (.if_icmp .ge 40, 3) := by decide +kernel
theorem dX3_read_61 : decode cX3_read 61 = .ok (.iload_n 3, 1) := by decide +kernel
theorem dX3_read_62 : decode cX3_read 62 = .ok (.ifCond .eq 36, 3) := by decide +kernel
theorem dX3_read_65 : decode cX3_read 65 = .ok (.aload_n 0, 1) := by decide +kernel
theorem dX3_read_66 : decode cX3_read 66 = .ok (.getfield 38, 3) := by decide +kernel
theorem dX3_read_69 : decode cX3_read 69 = .ok (.ifCond .eq 29, 3) := by decide +kernel
theorem dX3_read_72 : decode cX3_read 72 = .ok (.aload_n 0, 1) := by decide +kernel
theorem dX3_read_73 : decode cX3_read 73 = .ok (.invokevirtual 74, 3) := by decide +kernel
theorem dX3_read_76 : decode cX3_read 76 = .ok (.ifCond .eq 14, 3) := by decide +kernel
theorem dX3_read_79 : decode cX3_read 79 = .ok (.aload_n 0, 1) := by decide +kernel
theorem dX3_read_80 : decode cX3_read 80 = .ok (.invokevirtual 77, 3) := by decide +kernel
theorem dX3_read_83 : decode cX3_read 83 = .ok (.ifCond .eq 7, 3) := by decide +kernel
theorem dX3_read_86 : decode cX3_read 86 = .ok (.iconst 1, 1) := by decide +kernel
theorem dX3_read_87 : decode cX3_read 87 = .ok (.goto 4, 3) := by decide +kernel
theorem dX3_read_90 : decode cX3_read 90 = .ok (.iconst 0, 1) := by decide +kernel
theorem dX3_read_91 : decode cX3_read 91 = .ok (.istore_n 3, 1) := by decide +kernel
theorem dX3_read_92 : decode cX3_read 92 = .ok (.iinc 4 1, 3) := by decide +kernel
theorem dX3_read_95 : decode cX3_read 95 = .ok (.goto (-42), 3) := by decide +kernel
theorem dX3_read_98 : decode cX3_read 98 = .ok (.iload_n 3, 1) := by decide +kernel
theorem dX3_read_99 : decode cX3_read 99 = .ok (.ifCond .eq 23, 3) := by decide +kernel
theorem dX3_read_102 : decode cX3_read 102 = .ok (.aload_n 0, 1) := by decide +kernel
theorem dX3_read_103 : decode cX3_read 103 = .ok (.invokevirtual 80, 3) := by decide +kernel
theorem dX3_read_106 : decode cX3_read 106 = .ok (.ifCond .ne 16, 3) := by decide +kernel
theorem dX3_read_109 : decode cX3_read 109 = .ok (.aload_n 0, 1) := by decide +kernel
theorem dX3_read_110 : decode cX3_read 110 = .ok (.iconst 4, 1) := by decide +kernel
theorem dX3_read_111 : decode cX3_read 111 = .ok (.putfield 22, 3) := by decide +kernel
theorem dX3_read_114 : decode cX3_read 114 = .ok (.aload_n 0, 1) := by decide +kernel
theorem dX3_read_115 : decode cX3_read 115 = .ok (.aload_n 0, 1) := by decide +kernel
theorem dX3_read_116 : decode cX3_read 116 = .ok (.getfield 29, 3) := by decide +kernel
theorem dX3_read_119 : decode cX3_read 119 = .ok (.putfield 18, 3) := by decide +kernel
theorem dX3_read_122 : decode cX3_read 122 = .ok (.aload_n 0, 1) := by decide +kernel
theorem dX3_read_123 : decode cX3_read 123 = .ok (.getfield 22, 3) := by decide +kernel
theorem dX3_read_126 : decode cX3_read 126 = .ok (.ireturn, 1) := by decide +kernel
theorem dX3_readHead_0 : decode cX3_readHead 0 = .ok (.aload_n 0, 1) := by decide +kernel
theorem dX3_readHead_1 : decode cX3_readHead 1 = .ok (.invokevirtual 83, 3) := by decide +kernel
theorem dX3_readHead_4 : decode cX3_readHead 4 = .ok (.aload_n 0, 1) := by decide +kernel
theorem dX3_readHead_5 : decode cX3_readHead 5 = .ok (.ldc 86, 2) := by decide +kernel
theorem dX3_readHead_7 : decode cX3_readHead 7 = .ok (.invokevirtual 88, 3) := by decide +kernel
theorem dX3_readHead_10 : decode cX3_readHead 10 = .ok (.ifCond .ne 9, 3) := by decide +kernel
theorem dX3_readHead_13 : decode cX3_readHead 13 = .ok (.aload_n 0, 1) := by decide +kernel
theorem dX3_readHead_14 : decode cX3_readHead 14 = .ok (.iconst 1, 1) := by decide +kernel
theorem dX3_readHead_15 : decode cX3_readHead 15 = .ok (.invokevirtual 92, 3) := by decide +kernel
theorem dX3_readHead_18 : decode cX3_readHead 18 = .ok (.ireturn, 1) := by decide +kernel
theorem dX3_readHead_19 : decode cX3_readHead 19 = .ok (.aload_n 0, 1) := by decide +kernel
theorem dX3_readHead_20 : decode cX3_readHead 20 = .ok (.invokevirtual 83, 3) := by decide +kernel
theorem dX3_readHead_23 : decode cX3_readHead 23 = .ok (.aload_n 0, 1) := by decide +kernel
theorem dX3_readHead_24 : decode cX3_readHead 24 = .ok (.iconst 2, 1) := by decide +kernel
theorem dX3_readHead_25 : decode cX3_readHead 25 = .ok (.bipush 11, 2) := by decide +kernel
theorem dX3_readHead_27 : decode cX3_readHead 27 = .ok (.invokevirtual 96, 3) := by decide +kernel
theorem dX3_readHead_30 : decode cX3_readHead 30 = .ok (.ifCond .ne 5, 3) := by decide +kernel
theorem dX3_readHead_33 : decode cX3_readHead 33 = .ok (.iconst 0, 1) := by decide +kernel
theorem dX3_readHead_34 : decode cX3_readHead 34 = .ok (.ireturn, 1) := by decide +kernel
theorem dX3_readHead_35 : decode cX3_readHead 35 = .ok (.aload_n 0, 1) := by decide +kernel
theorem dX3_readHead_36 : decode cX3_readHead 36 = .ok (.getfield 12, 3) := by decide +kernel
theorem dX3_readHead_39 : decode cX3_readHead 39 = .ok (.aload_n 0, 1) := by decide +kernel
theorem dX3_readHead_40 : decode cX3_readHead 40 = .ok (.getfield 41, 3) := by decide +kernel
theorem dX3_readHead_43 : decode cX3_readHead 43 = .ok (.invokevirtual 100, 3) := by decide +kernel
theorem dX3_readHead_46 : decode cX3_readHead 46 = .ok (.aload_n 0, 1) := by decide +kernel
theorem dX3_readHead_47 : decode cX3_readHead 47 = .ok (.invokevirtual 83, 3) := by decide +kernel
theorem dX3_readHead_50 : decode cX3_readHead 50 = .ok (.aload_n 0, 1) := by decide +kernel
theorem dX3_readHead_51 : decode cX3_readHead 51 = .ok (.invokevirtual 77, 3) := by decide +kernel
theorem dX3_readHead_54 : decode cX3_readHead 54 = .ok (.ireturn, 1) := by decide +kernel
theorem dX3_readEntry_0 : decode cX3_readEntry 0 = .ok (.aload_n 0, 1) := by decide +kernel
theorem dX3_readEntry_1 : decode cX3_readEntry 1 = .ok (.ldc 104, 2) := by decide +kernel
theorem dX3_readEntry_3 : decode cX3_readEntry 3 = .ok (.invokevirtual 88, 3) := by decide +kernel
theorem dX3_readEntry_6 : decode cX3_readEntry 6 = .ok (.ifCond .eq 23, 3) := by decide +kernel
theorem dX3_readEntry_9 : decode cX3_readEntry 9 = .ok (.aload_n 0, 1) := by decide +kernel
theorem dX3_readEntry_10 : decode cX3_readEntry 10 = .ok (.getfield 12, 3) := by decide +kernel
theorem dX3_readEntry_13 : decode cX3_readEntry 13 = .ok (.aload_n 0, 1) := by decide +kernel
theorem dX3_readEntry_14 : decode cX3_readEntry 14 = .ok (.getfield 12, 3) := by decide +kernel
theorem dX3_readEntry_17 : decode cX3_readEntry 17 = .ok (.invokevirtual 106, 3) := by decide +kernel
theorem dX3_readEntry_20 : decode cX3_readEntry 20 = .ok (.putfield 110, 3) := by decide +kernel
theorem dX3_readEntry_23 : decode cX3_readEntry 23 = .ok (.aload_n 0, 1) := by decide +kernel
theorem dX3_readEntry_24 : decode cX3_readEntry 24 = .ok (.invokevirtual 83, 3) := by decide +kernel
theorem dX3_readEntry_27 : decode cX3_readEntry 27 = .ok (.iconst 1, 1) := by decide +kernel
theorem dX3_readEntry_28 : decode cX3_readEntry 28 = .ok (.ireturn, 1) := by decide +kernel
theorem dX3_readEntry_29 : decode cX3_readEntry 29 = .ok (.aload_n 0, 1) := by decide +kernel
theorem dX3_readEntry_30 : decode cX3_readEntry 30 = .ok (.ldc 114, 2) := by decide +kernel
theorem dX3_readEntry_32 : decode cX3_readEntry 32 = .ok (.invokevirtual 88, 3) := by decide +kernel
theorem dX3_readEntry_35 : decode cX3_readEntry 35 = .ok (.ifCond .eq 9, 3) := by decide +kernel
theorem dX3_readEntry_38 : decode cX3_readEntry 38 = .ok (.aload_n 0, 1) := by decide +kernel
theorem dX3_readEntry_39 : decode cX3_readEntry 39 = .ok (.iconst 1, 1) := by decide +kernel
theorem dX3_readEntry_40 : decode cX3_readEntry 40 = .ok (.invokevirtual 116, 3) := by decide +kernel
theorem dX3_readEntry_43 : decode cX3_readEntry 43 = .ok (.ireturn, 1) := by decide +kernel
theorem dX3_readEntry_44 : decode cX3_readEntry 44 = .ok (.aload_n 0, 1) := by decide +kernel
theorem dX3_readEntry_45 : decode cX3_readEntry 45 = .ok (.ldc 120, 2) := by decide +kernel
theorem dX3_readEntry_47 : decode cX3_readEntry 47 = .ok (.invokevirtual 88, 3) := by decide +kernel
theorem dX3_readEntry_50 : decode cX3_readEntry 50 = .ok (.ifCond .eq 9, 3) := by decide +kernel
theorem dX3_readEntry_53 : decode cX3_readEntry 53 = .ok (.aload_n 0, 1) := by decide +kernel
theorem dX3_readEntry_54 : decode cX3_readEntry 54 = .ok (.iconst 0, 1) := by decide +kernel
theorem dX3_readEntry_55 : decode cX3_readEntry 55 = .ok (.invokevirtual 116, 3) := by decide +kernel
theorem dX3_readEntry_58 : decode cX3_readEntry 58 = .ok (.ireturn, 1) := by decide +kernel
theorem dX3_readEntry_59 : decode cX3_readEntry 59 = .ok (.aload_n 0, 1) := by decide +kernel
theorem dX3_readEntry_60 : decode cX3_readEntry 60 = .ok (.ldc 122, 2) := by decide +kernel
theorem dX3_readEntry_62 : decode cX3_readEntry 62 = .ok (.invokevirtual 88, 3) := by decide +kernel
theorem dX3_readEntry_65 : decode cX3_readEntry 65 = .ok (.ifCond .eq 8, 3) := by decide +kernel
theorem dX3_readEntry_68 : decode cX3_readEntry 68 = .ok (.aload_n 0, 1) := by decide +kernel
theorem dX3_readEntry_69 : decode cX3_readEntry 69 = .ok (.invokevirtual 124, 3) := by decide +kernel
theorem dX3_readEntry_72 : decode cX3_readEntry 72 = .ok (.ireturn, 1) := by decide +kernel
theorem dX3_readEntry_73 : decode cX3_readEntry 73 = .ok (.aload_n 0, 1) := by decide +kernel
theorem dX3_readEntry_74 : decode cX3_readEntry 74 = .ok (.ldc 127, 2) := by decide +kernel
theorem dX3_readEntry_76 : decode cX3_readEntry 76 = .ok (.invokevirtual 88, 3) := by decide +kernel
theorem dX3_readEntry_79 : decode cX3_readEntry 79 = .ok (.ifCond .eq 8, 3) := by decide +kernel
theorem dX3_readEntry_82 : decode cX3_readEntry 82 = .ok (.aload_n 0, 1) := by decide +kernel
theorem dX3_readEntry_83 : decode cX3_readEntry 83 = .ok (.invokevirtual 129, 3) := by decide +kernel
theorem dX3_readEntry_86 : decode cX3_readEntry 86 = .ok (.ireturn, 1) := by decide +kernel
theorem dX3_readEntry_87 : decode cX3_readEntry 87 = .ok (.aload_n 0, 1) := by decide +kernel
theorem dX3_readEntry_88 : decode cX3_readEntry 88 = .ok (.ldc 132, 2) := by decide +kernel
theorem dX3_readEntry_90 : decode cX3_readEntry 90 = .ok (.invokevirtual 88, 3) := by decide +kernel
theorem dX3_readEntry_93 : decode cX3_readEntry 93 = .ok (.ifCond .eq 8, 3) := by decide +kernel
theorem dX3_readEntry_96 : decode cX3_readEntry 96 = .ok (.aload_n 0, 1) := by decide +kernel
theorem dX3_readEntry_97 : decode cX3_readEntry 97 = .ok (.invokevirtual 134, 3) := by decide +kernel
theorem dX3_readEntry_100 : decode cX3_readEntry 100 = .ok (.ireturn, 1) := by decide +kernel
theorem dX3_readEntry_101 : decode cX3_readEntry 101 = .ok (.aload_n 0, 1) := by decide +kernel
theorem dX3_readEntry_102 : decode cX3_readEntry 102 = .ok (.iconst 1, 1) := by decide +kernel
theorem dX3_readEntry_103 : decode cX3_readEntry 103 = .ok (.invokevirtual 92, 3) := by decide +kernel
theorem dX3_readEntry_106 : decode cX3_readEntry 106 = .ok (.ireturn, 1) := by decide +kernel
theorem dX3_readLine_0 : decode cX3_readLine 0 = .ok (.aload_n 0, 1) := by decide +kernel
theorem dX3_readLine_1 : decode cX3_readLine 1 = .ok (.invokevirtual 83, 3) := by decide +kernel
theorem dX3_readLine_4 : decode cX3_readLine 4 = .ok (.aload_n 0, 1) := by decide +kernel
theorem dX3_readLine_5 : decode cX3_readLine 5 = .ok (.iconst 0, 1) := by decide +kernel
theorem dX3_readLine_6 : decode cX3_readLine 6 = .ok (.aload_n 0, 1) := by decide +kernel
theorem dX3_readLine_7 : decode cX3_readLine 7 = .ok (.getfield 12, 3) := by decide +kernel
theorem dX3_readLine_10 : decode cX3_readLine 10 = .ok (.getfield 137, 3) := by decide +kernel
theorem dX3_readLine_13 : decode cX3_readLine 13 = .ok (.iconst 1, 1) := by decide +kernel
theorem dX3_readLine_14 : decode cX3_readLine 14 = .ok (.isub, 1) := by decide +kernel
theorem dX3_readLine_15 : decode cX3_readLine 15 = .ok (.invokevirtual 96, 3) := by decide +kernel
theorem dX3_readLine_18 : decode cX3_readLine 18 = .ok (.ifCond .ne 5, 3) := by decide +kernel
theorem dX3_readLine_21 : decode cX3_readLine 21 = .ok (.iconst 0, 1) := by decide +kernel
theorem dX3_readLine_22 : decode cX3_readLine 22 = .ok (.ireturn, 1) := by decide +kernel
theorem dX3_readLine_23 : decode cX3_readLine 23 = .ok (.aload_n 0, 1) := by decide +kernel
theorem dX3_readLine_24 : decode cX3_readLine 24 = .ok (.getfield 41, 3) := by decide +kernel
theorem dX3_readLine_27 : decode cX3_readLine 27 = .ok (.istore_n 2, 1) := by decide +kernel
theorem dX3_readLine_28 : decode cX3_readLine 28 = .ok (.aload_n 0, 1) := by decide +kernel
theorem dX3_readLine_29 : decode cX3_readLine 29 = .ok (.invokevirtual 83, 3) := by decide +kernel
theorem dX3_readLine_32 : decode cX3_readLine 32 = .ok (.aload_n 0, 1) := by decide +kernel
theorem dX3_readLine_33 : decode cX3_readLine 33 = .ok (.iconst 0, 1) := by decide +kernel
theorem dX3_readLine_34 : decode cX3_readLine 34 = .ok (.aload_n 0, 1) := by decide +kernel
theorem dX3_readLine_35 : decode cX3_readLine 35 = .ok (.getfield 12, 3) := by decide +kernel
theorem dX3_readLine_38 : decode cX3_readLine 38 = .ok (.getfield 137, 3) := by decide +kernel
theorem dX3_readLine_41 : decode cX3_readLine 41 = .ok (.iconst 1, 1) := by decide +kernel
theorem dX3_readLine_42 : decode cX3_readLine 42 = .ok (.isub, 1) := by decide +kernel
theorem dX3_readLine_43 : decode cX3_readLine 43 = .ok (.invokevirtual 96, 3) := by decide +kernel
theorem dX3_readLine_46 : decode cX3_readLine 46 = .ok (.ifCond .ne 5, 3) := by decide +kernel
theorem dX3_readLine_49 : decode cX3_readLine 49 = .ok (.iconst 0, 1) := by decide +kernel
theorem dX3_readLine_50 : decode cX3_readLine 50 = .ok (.ireturn, 1) := by decide +kernel
theorem dX3_readLine_51 : decode cX3_readLine 51 = .ok (.aload_n 0, 1) := by decide +kernel
theorem dX3_readLine_52 : decode cX3_readLine 52 = .ok (.getfield 41, 3) := by decide +kernel
theorem dX3_readLine_55 : decode cX3_readLine 55 = .ok (.iload_n 2, 1) := by decide +kernel
theorem dX3_readLine_56 : decode cX3_readLine 56 = .ok (.if_icmp .ne 9, 3) := by decide +kernel
theorem dX3_readLine_59 : decode cX3_readLine 59 = .ok (.aload_n 0, 1) := by decide +kernel
theorem dX3_readLine_60 : decode cX3_readLine 60 = .ok (.iconst 2, 1) := by decide +kernel
theorem dX3_readLine_61 : decode cX3_readLine 61 = .ok (.invokevirtual 92, 3) := by decide +kernel
theorem dX3_readLine_64 : decode cX3_readLine 64 = .ok (.ireturn, 1) := by decide +kernel
theorem dX3_readLine_65 : decode cX3_readLine 65 = .ok (.lconst 1, 1) := by decide +kernel
theorem dX3_readLine_66 : decode cX3_readLine 66 = .ok (.aload_n 0, 1) := by decide +kernel
theorem dX3_readLine_67 : decode cX3_readLine 67 = .ok (.getfield 12, 3) := by decide +kernel
theorem dX3_readLine_70 : decode cX3_readLine 70 = .ok (.iload_n 2, 1) := by decide +kernel
theorem dX3_readLine_71 : decode cX3_readLine 71 = .ok (.aload_n 0, 1) := by decide +kernel
theorem dX3_readLine_72 : decode cX3_readLine 72 = .ok (.getfield 41, 3) := by decide +kernel
theorem dX3_readLine_75 : decode cX3_readLine 75 = .ok (.invokevirtual 139, 3) := by decide +kernel
theorem dX3_readLine_78 : decode cX3_readLine 78 = .ok (.lshl, 1) := by decide +kernel
theorem dX3_readLine_79 : decode cX3_readLine 79 = .ok (.lstore_n 3, 1) := by decide +kernel
theorem dX3_readLine_80 : decode cX3_readLine 80 = .ok (.aload_n 0, 1) := by decide +kernel
theorem dX3_readLine_81 : decode cX3_readLine 81 = .ok (.getfield 12, 3) := by decide +kernel
theorem dX3_readLine_84 : decode cX3_readLine 84 = .ok (.iload_n 1, 1) := by decide +kernel
theorem dX3_readLine_85 : decode cX3_readLine 85 = .ok (.ifCond .eq 15, 3) := by decide +kernel
theorem dX3_readLine_88 : decode cX3_readLine 88 = .ok (.aload_n 0, 1) := by decide +kernel
theorem dX3_readLine_89 : decode cX3_readLine 89 = .ok (.getfield 12, 3) := by decide +kernel
theorem dX3_readLine_92 : decode cX3_readLine 92 = .ok (.getfield 110, 3) := by decide +kernel
theorem dX3_readLine_95 : decode cX3_readLine 95 = .ok (.lload_n 3, 1) := by decide +kernel
theorem dX3_readLine_96 : decode cX3_readLine 96 = .ok (.lor, 1) := by decide +kernel
theorem dX3_readLine_97 : decode cX3_readLine 97 = .ok (.goto 16, 3) := by decide +kernel
theorem dX3_readLine_100 : decode cX3_readLine 100 = .ok (.aload_n 0, 1) := by decide +kernel
theorem dX3_readLine_101 : decode cX3_readLine 101 = .ok (.getfield 12, 3) := by decide +kernel
theorem dX3_readLine_104 : decode cX3_readLine 104 = .ok (.getfield 110, 3) := by decide +kernel
theorem dX3_readLine_107 : decode cX3_readLine 107 = .ok (.lload_n 3, 1) := by decide +kernel
theorem dX3_readLine_108 : decode cX3_readLine 108 = .ok (.ldc2_w 142, 3) := by decide +kernel
theorem dX3_readLine_111 : decode cX3_readLine 111 = .ok (.lxor, 1) := by decide +kernel
theorem dX3_readLine_112 : decode cX3_readLine 112 = .ok (.land, 1) := by decide +kernel
theorem dX3_readLine_113 : decode cX3_readLine 113 = .ok (.putfield 110, 3) := by decide +kernel
theorem dX3_readLine_116 : decode cX3_readLine 116 = .ok (.aload_n 0, 1) := by decide +kernel
theorem dX3_readLine_117 : decode cX3_readLine 117 = .ok (.invokevirtual 83, 3) := by decide +kernel
theorem dX3_readLine_120 : decode cX3_readLine 120 = .ok (.iconst 1, 1) := by decide +kernel
theorem dX3_readLine_121 : decode cX3_readLine 121 = .ok (.ireturn, 1) := by decide +kernel
theorem dX3_readShape_0 : decode cX3_readShape 0 = .ok (.aload_n 0, 1) := by decide +kernel
theorem dX3_readShape_1 : decode cX3_readShape 1 = .ok (.getfield 44, 3) := by decide +kernel
theorem dX3_readShape_4 : decode cX3_readShape 4 = .ok (.ifCond .eq 9, 3) := by decide +kernel
theorem dX3_readShape_7 : decode cX3_readShape 7 = .ok (.aload_n 0, 1) := by decide +kernel
theorem dX3_readShape_8 : decode cX3_readShape 8 = .ok (.iconst 1, 1) := by decide +kernel
theorem dX3_readShape_9 : decode cX3_readShape 9 = .ok (.invokevirtual 92, 3) := by decide +kernel
theorem dX3_readShape_12 : decode cX3_readShape 12 = .ok (.ireturn, 1) := by decide +kernel
theorem dX3_readShape_13 : decode cX3_readShape 13 = .ok (.aload_n 0, 1) := by decide +kernel
theorem dX3_readShape_14 : decode cX3_readShape 14 = .ok (.iconst 1, 1) := by decide +kernel
theorem dX3_readShape_15 : decode cX3_readShape 15 = .ok (.putfield 44, 3) := by decide +kernel
theorem dX3_readShape_18 : decode cX3_readShape 18 = .ok (.aload_n 0, 1) := by decide +kernel
theorem dX3_readShape_19 : decode cX3_readShape 19 = .ok (.invokevirtual 83, 3) := by decide +kernel
theorem dX3_readShape_22 : decode cX3_readShape 22 = .ok (.aload_n 0, 1) := by decide +kernel
theorem dX3_readShape_23 : decode cX3_readShape 23 = .ok (.ldc 144, 2) := by decide +kernel
theorem dX3_readShape_25 : decode cX3_readShape 25 = .ok (.invokevirtual 88, 3) := by decide +kernel
theorem dX3_readShape_28 : decode cX3_readShape 28 = .ok (.ifCond .eq 9, 3) := by decide +kernel
theorem dX3_readShape_31 : decode cX3_readShape 31 = .ok (.aload_n 0, 1) := by decide +kernel
theorem dX3_readShape_32 : decode cX3_readShape 32 = .ok (.invokevirtual 83, 3) := by decide +kernel
theorem dX3_readShape_35 : decode cX3_readShape 35 = .ok (.iconst 1, 1) := by decide +kernel
theorem dX3_readShape_36 : decode cX3_readShape 36 = .ok (.ireturn, 1) := by decide +kernel
theorem dX3_readShape_37 : decode cX3_readShape 37 = .ok (.aload_n 0, 1) := by decide +kernel
theorem dX3_readShape_38 : decode cX3_readShape 38 = .ok (.ldc 146, 2) := by decide +kernel
theorem dX3_readShape_40 : decode cX3_readShape 40 = .ok (.invokevirtual 88, 3) := by decide +kernel
theorem dX3_readShape_43 : decode cX3_readShape 43 = .ok (.ifCond .eq 11, 3) := by decide +kernel
theorem dX3_readShape_46 : decode cX3_readShape 46 = .ok (.aload_n 0, 1) := by decide +kernel
theorem dX3_readShape_47 : decode cX3_readShape 47 = .ok (.iconst 1, 1) := by decide +kernel
theorem dX3_readShape_48 : decode cX3_readShape 48 = .ok (.iconst 1, 1) := by decide +kernel
theorem dX3_readShape_49 : decode cX3_readShape 49 = .ok (.iconst 4, 1) := by decide +kernel
theorem dX3_readShape_50 : decode cX3_readShape 50 = .ok (.invokevirtual 148, 3) := by decide +kernel
theorem dX3_readShape_53 : decode cX3_readShape 53 = .ok (.ireturn, 1) := by decide +kernel
theorem dX3_readShape_54 : decode cX3_readShape 54 = .ok (.aload_n 0, 1) := by decide +kernel
theorem dX3_readShape_55 : decode cX3_readShape 55 = .ok (.ldc 152, 2) := by decide +kernel
theorem dX3_readShape_57 : decode cX3_readShape 57 = .ok (.invokevirtual 88, 3) := by decide +kernel
theorem dX3_readShape_60 : decode cX3_readShape 60 = .ok (.ifCond .eq 11, 3) := by decide +kernel
theorem dX3_readShape_63 : decode cX3_readShape 63 = .ok (.aload_n 0, 1) := by decide +kernel
theorem dX3_readShape_64 : decode cX3_readShape 64 = .ok (.iconst 2, 1) := by decide +kernel
theorem dX3_readShape_65 : decode cX3_readShape 65 = .ok (.iconst 1, 1) := by decide +kernel
theorem dX3_readShape_66 : decode cX3_readShape 66 = .ok (.iconst 4, 1) := by decide +kernel
theorem dX3_readShape_67 : decode cX3_readShape 67 = .ok (.invokevirtual 148, 3) := by decide +kernel
theorem dX3_readShape_70 : decode cX3_readShape 70 = .ok (.ireturn, 1) := by decide +kernel
theorem dX3_readShape_71 : decode cX3_readShape 71 = .ok (.aload_n 0, 1) := by decide +kernel
theorem dX3_readShape_72 : decode cX3_readShape 72 = .ok (.ldc 154, 2) := by decide +kernel
theorem dX3_readShape_74 : decode cX3_readShape 74 = .ok (.invokevirtual 88, 3) := by decide +kernel
theorem dX3_readShape_77 : decode cX3_readShape 77 = .ok (.ifCond .eq 11, 3) := by decide +kernel
theorem dX3_readShape_80 : decode cX3_readShape 80 = .ok (.aload_n 0, 1) := by decide +kernel
theorem dX3_readShape_81 : decode cX3_readShape 81 = .ok (.iconst 3, 1) := by decide +kernel
theorem dX3_readShape_82 : decode cX3_readShape 82 = .ok (.iconst 3, 1) := by decide +kernel
theorem dX3_readShape_83 : decode cX3_readShape 83 = .ok (.iconst 5, 1) := by decide +kernel
theorem dX3_readShape_84 : decode cX3_readShape 84 = .ok (.invokevirtual 148, 3) := by decide +kernel
theorem dX3_readShape_87 : decode cX3_readShape 87 = .ok (.ireturn, 1) := by decide +kernel
theorem dX3_readShape_88 : decode cX3_readShape 88 = .ok (.aload_n 0, 1) := by decide +kernel
theorem dX3_readShape_89 : decode cX3_readShape 89 = .ok (.iconst 1, 1) := by decide +kernel
theorem dX3_readShape_90 : decode cX3_readShape 90 = .ok (.invokevirtual 92, 3) := by decide +kernel
theorem dX3_readShape_93 : decode cX3_readShape 93 = .ok (.ireturn, 1) := by decide +kernel
theorem dX3_readSize_0 : decode cX3_readSize 0 = .ok (.aload_n 0, 1) := by decide +kernel
theorem dX3_readSize_1 : decode cX3_readSize 1 = .ok (.invokevirtual 83, 3) := by decide +kernel
theorem dX3_readSize_4 : decode cX3_readSize 4 = .ok (.aload_n 0, 1) := by decide +kernel
theorem dX3_readSize_5 : decode cX3_readSize 5 = .ok (.iload_n 2, 1) := by decide +kernel
theorem dX3_readSize_6 : decode cX3_readSize 6 = .ok (.iload_n 3, 1) := by decide +kernel
theorem dX3_readSize_7 : decode cX3_readSize 7 = .ok (.invokevirtual 96, 3) := by decide +kernel
theorem dX3_readSize_10 : decode cX3_readSize 10 = .ok (.ifCond .ne 5, 3) := by decide +kernel
theorem dX3_readSize_13 : decode cX3_readSize 13 = .ok (.iconst 0, 1) := by decide +kernel
theorem dX3_readSize_14 : decode cX3_readSize 14 = .ok (.ireturn, 1) := by decide +kernel
theorem dX3_readSize_15 : decode cX3_readSize 15 = .ok (.aload_n 0, 1) := by decide +kernel
theorem dX3_readSize_16 : decode cX3_readSize 16 = .ok (.getfield 12, 3) := by decide +kernel
theorem dX3_readSize_19 : decode cX3_readSize 19 = .ok (.iload_n 1, 1) := by decide +kernel
theorem dX3_readSize_20 : decode cX3_readSize 20 = .ok (.putfield 156, 3) := by decide +kernel
theorem dX3_readSize_23 : decode cX3_readSize 23 = .ok (.aload_n 0, 1) := by decide +kernel
theorem dX3_readSize_24 : decode cX3_readSize 24 = .ok (.getfield 12, 3) := by decide +kernel
theorem dX3_readSize_27 : decode cX3_readSize 27 = .ok (.aload_n 0, 1) := by decide +kernel
theorem dX3_readSize_28 : decode cX3_readSize 28 = .ok (.getfield 41, 3) := by decide +kernel
theorem dX3_readSize_31 : decode cX3_readSize 31 = .ok (.putfield 158, 3) := by decide +kernel
theorem dX3_readSize_34 : decode cX3_readSize 34 = .ok (.aload_n 0, 1) := by decide +kernel
theorem dX3_readSize_35 : decode cX3_readSize 35 = .ok (.invokevirtual 83, 3) := by decide +kernel
theorem dX3_readSize_38 : decode cX3_readSize 38 = .ok (.iconst 1, 1) := by decide +kernel
theorem dX3_readSize_39 : decode cX3_readSize 39 = .ok (.ireturn, 1) := by decide +kernel
theorem dX3_readPart_0 : decode cX3_readPart 0 = .ok (.aload_n 0, 1) := by decide +kernel
theorem dX3_readPart_1 : decode cX3_readPart 1 = .ok (.invokevirtual 83, 3) := by decide +kernel
theorem dX3_readPart_4 : decode cX3_readPart 4 = .ok (.aload_n 0, 1) := by decide +kernel
theorem dX3_readPart_5 : decode cX3_readPart 5 = .ok (.aload_n 0, 1) := by decide +kernel
theorem dX3_readPart_6 : decode cX3_readPart 6 = .ok (.getfield 54, 3) := by decide +kernel
theorem dX3_readPart_9 : decode cX3_readPart 9 = .ok (.aload_n 0, 1) := by decide +kernel
theorem dX3_readPart_10 : decode cX3_readPart 10 = .ok (.getfield 48, 3) := by decide +kernel
theorem dX3_readPart_13 : decode cX3_readPart 13 = .ok (.iconst 5, 1) := by decide +kernel
theorem dX3_readPart_14 : decode cX3_readPart 14 = .ok (.imul, 1) := by decide +kernel
theorem dX3_readPart_15 : decode cX3_readPart 15 = .ok (.aload_n 0, 1) := by decide +kernel
theorem dX3_readPart_16 : decode cX3_readPart 16 = .ok (.getfield 12, 3) := by decide +kernel
theorem dX3_readPart_19 : decode cX3_readPart 19 = .ok (.getfield 137, 3) := by decide +kernel
theorem dX3_readPart_22 : decode cX3_readPart 22 = .ok (.iconst 1, 1) := by decide +kernel
theorem dX3_readPart_23 : decode cX3_readPart 23 = .ok (.isub, 1) := by decide +kernel
theorem dX3_readPart_24 : decode cX3_readPart 24 = .ok (.invokevirtual 161, 3) := by decide +kernel
theorem dX3_readPart_27 : decode cX3_readPart 27 = .ok (.istore_n 1, 1) := by decide +kernel
theorem dX3_readPart_28 : decode cX3_readPart 28 = .ok (.iload_n 1, 1) := by decide +kernel
theorem dX3_readPart_29 : decode cX3_readPart 29 = .ok (.ifCond .le 32, 3) := by decide +kernel
theorem dX3_readPart_32 : decode cX3_readPart 32 = .ok (.aload_n 0, 1) := by decide +kernel
theorem dX3_readPart_33 : decode cX3_readPart 33 = .ok (.getfield 48, 3) := by decide +kernel
theorem dX3_readPart_36 : decode cX3_readPart 36 = .ok (.bipush 50, 2) := by decide +kernel
theorem dX3_readPart_38 : decode cX3_readPart 38 = .ok (.if_icmp .ge 23, 3) := by decide +kernel
theorem dX3_readPart_41 : decode cX3_readPart 41 = .ok (.aload_n 0, 1) := by decide +kernel
theorem dX3_readPart_42 : decode cX3_readPart 42 = .ok (.getfield 58, 3) := by decide +kernel
theorem dX3_readPart_45 : decode cX3_readPart 45 = .ok (.aload_n 0, 1) := by decide +kernel
theorem dX3_readPart_46 : decode cX3_readPart 46 = .ok (.getfield 48, 3) := by decide +kernel
theorem dX3_readPart_49 : decode cX3_readPart 49 = .ok (.iload_n 1, 1) := by decide +kernel
theorem dX3_readPart_50 : decode cX3_readPart 50 = .ok (.iastore, 1) := by decide +kernel
theorem dX3_readPart_51 : decode cX3_readPart 51 = .ok (.aload_n 0, 1) := by decide +kernel
theorem dX3_readPart_52 : decode cX3_readPart 52 = .ok (.dup, 1) := by decide +kernel
theorem dX3_readPart_53 : decode cX3_readPart 53 = .ok (.getfield 48, 3) := by decide +kernel
theorem dX3_readPart_56 : decode cX3_readPart 56 = .ok (.iconst 1, 1) := by decide +kernel
theorem dX3_readPart_57 : decode cX3_readPart 57 = .ok (.iadd, 1) := by decide +kernel
theorem dX3_readPart_58 : decode cX3_readPart 58 = .ok (.putfield 48, 3) := by decide +kernel
theorem dX3_readPart_61 : decode cX3_readPart 61 = .ok (.iload_n 1, 1) := by decide +kernel
theorem dX3_readPart_62 : decode cX3_readPart 62 = .ok (.ifCond .le 7, 3) := by decide +kernel
theorem dX3_readPart_65 : decode cX3_readPart 65 = .ok (.iconst 1, 1) := by decide +kernel
theorem dX3_readPart_66 : decode cX3_readPart 66 = .ok (.goto 4, 3) := by decide +kernel
theorem dX3_readPart_69 : decode cX3_readPart 69 = .ok (.iconst 0, 1) := by decide +kernel
theorem dX3_readPart_70 : decode cX3_readPart 70 = .ok (.ireturn, 1) := by decide +kernel
theorem dX3_readBase_0 : decode cX3_readBase 0 = .ok (.aload_n 0, 1) := by decide +kernel
theorem dX3_readBase_1 : decode cX3_readBase 1 = .ok (.getfield 51, 3) := by decide +kernel
theorem dX3_readBase_4 : decode cX3_readBase 4 = .ok (.iconst 4, 1) := by decide +kernel
theorem dX3_readBase_5 : decode cX3_readBase 5 = .ok (.if_icmp .lt 9, 3) := by decide +kernel
theorem dX3_readBase_8 : decode cX3_readBase 8 = .ok (.aload_n 0, 1) := by decide +kernel
theorem dX3_readBase_9 : decode cX3_readBase 9 = .ok (.iconst 3, 1) := by decide +kernel
theorem dX3_readBase_10 : decode cX3_readBase 10 = .ok (.invokevirtual 92, 3) := by decide +kernel
theorem dX3_readBase_13 : decode cX3_readBase 13 = .ok (.ireturn, 1) := by decide +kernel
theorem dX3_readBase_14 : decode cX3_readBase 14 = .ok (.aload_n 0, 1) := by decide +kernel
theorem dX3_readBase_15 : decode cX3_readBase 15 = .ok (.invokevirtual 83, 3) := by decide +kernel
theorem dX3_readBase_18 : decode cX3_readBase 18 = .ok (.aload_n 0, 1) := by decide +kernel
theorem dX3_readBase_19 : decode cX3_readBase 19 = .ok (.aload_n 0, 1) := by decide +kernel
theorem dX3_readBase_20 : decode cX3_readBase 20 = .ok (.getfield 12, 3) := by decide +kernel
theorem dX3_readBase_23 : decode cX3_readBase 23 = .ok (.getfield 165, 3) := by decide +kernel
theorem dX3_readBase_26 : decode cX3_readBase 26 = .ok (.aload_n 0, 1) := by decide +kernel
theorem dX3_readBase_27 : decode cX3_readBase 27 = .ok (.getfield 51, 3) := by decide +kernel
theorem dX3_readBase_30 : decode cX3_readBase 30 = .ok (.iconst 5, 1) := by decide +kernel
theorem dX3_readBase_31 : decode cX3_readBase 31 = .ok (.imul, 1) := by decide +kernel
theorem dX3_readBase_32 : decode cX3_readBase 32 = .ok (.bipush 30, 2) := by decide +kernel
theorem dX3_readBase_34 : decode cX3_readBase 34 = .ok (.invokevirtual 161, 3) := by decide +kernel
theorem dX3_readBase_37 : decode cX3_readBase 37 = .ok (.istore_n 1, 1) := by decide +kernel
theorem dX3_readBase_38 : decode cX3_readBase 38 = .ok (.iload_n 1, 1) := by decide +kernel
theorem dX3_readBase_39 : decode cX3_readBase 39 = .ok (.ifCond .le 23, 3) := by decide +kernel
theorem dX3_readBase_42 : decode cX3_readBase 42 = .ok (.aload_n 0, 1) := by decide +kernel
theorem dX3_readBase_43 : decode cX3_readBase 43 = .ok (.getfield 61, 3) := by decide +kernel
theorem dX3_readBase_46 : decode cX3_readBase 46 = .ok (.aload_n 0, 1) := by decide +kernel
theorem dX3_readBase_47 : decode cX3_readBase 47 = .ok (.getfield 51, 3) := by decide +kernel
theorem dX3_readBase_50 : decode cX3_readBase 50 = .ok (.iload_n 1, 1) := by decide +kernel
theorem dX3_readBase_51 : decode cX3_readBase 51 = .ok (.iastore, 1) := by decide +kernel
theorem dX3_readBase_52 : decode cX3_readBase 52 = .ok (.aload_n 0, 1) := by decide +kernel
theorem dX3_readBase_53 : decode cX3_readBase 53 = .ok (.dup, 1) := by decide +kernel
theorem dX3_readBase_54 : decode cX3_readBase 54 = .ok (.getfield 51, 3) := by decide +kernel
theorem dX3_readBase_57 : decode cX3_readBase 57 = .ok (.iconst 1, 1) := by decide +kernel
theorem dX3_readBase_58 : decode cX3_readBase 58 = .ok (.iadd, 1) := by decide +kernel
theorem dX3_readBase_59 : decode cX3_readBase 59 = .ok (.putfield 51, 3) := by decide +kernel
theorem dX3_readBase_62 : decode cX3_readBase 62 = .ok (.iload_n 1, 1) := by decide +kernel
theorem dX3_readBase_63 : decode cX3_readBase 63 = .ok (.ifCond .le 7, 3) := by decide +kernel
theorem dX3_readBase_66 : decode cX3_readBase 66 = .ok (.iconst 1, 1) := by decide +kernel
theorem dX3_readBase_67 : decode cX3_readBase 67 = .ok (.goto 4, 3) := by decide +kernel
theorem dX3_readBase_70 : decode cX3_readBase 70 = .ok (.iconst 0, 1) := by decide +kernel
theorem dX3_readBase_71 : decode cX3_readBase 71 = .ok (.ireturn, 1) := by decide +kernel
theorem dX3_readNodes_0 : decode cX3_readNodes 0 = .ok (.iconst 0, 1) := by decide +kernel
theorem dX3_readNodes_1 : decode cX3_readNodes 1 = .ok (.istore 4, 2) := by decide +kernel
theorem dX3_readNodes_3 : decode cX3_readNodes 3 = .ok (.iload 4, 2) := by decide +kernel
theorem dX3_readNodes_5 : decode cX3_readNodes 5 = .ok (.iconst 5, 1) := by decide +kernel
theorem dX3_readNodes_6 : decode cX3_readNodes 6 = .ok (.if_icmp .ge 59, 3) := by decide +kernel
theorem dX3_readNodes_9 : decode cX3_readNodes 9 = .ok (.iload 4, 2) := by decide +kernel
theorem dX3_readNodes_11 : decode cX3_readNodes 11 = .ok (.ifCond .le 14, 3) := by decide +kernel
theorem dX3_readNodes_14 : decode cX3_readNodes 14 = .ok (.aload_n 0, 1) := by decide +kernel
theorem dX3_readNodes_15 : decode cX3_readNodes 15 = .ok (.getfield 38, 3) := by decide +kernel
theorem dX3_readNodes_18 : decode cX3_readNodes 18 = .ok (.iconst 2, 1) := by decide +kernel
theorem dX3_readNodes_19 : decode cX3_readNodes 19 = .ok (.if_icmp .eq 6, 3) := by decide +kernel
theorem dX3_readNodes_22 : decode cX3_readNodes 22 = .ok (.iload 4, 2) := by decide +kernel
theorem dX3_readNodes_24 : decode cX3_readNodes 24 = .ok (.ireturn, 1) := by decide +kernel
theorem dX3_readNodes_25 : decode cX3_readNodes 25 = .ok (.aload_n 0, 1) := by decide +kernel
theorem dX3_readNodes_26 : decode cX3_readNodes 26 = .ok (.iconst 0, 1) := by decide +kernel
theorem dX3_readNodes_27 : decode cX3_readNodes 27 = .ok (.iload_n 3, 1) := by decide +kernel
theorem dX3_readNodes_28 : decode cX3_readNodes 28 = .ok (.invokevirtual 96, 3) := by decide +kernel
theorem dX3_readNodes_31 : decode cX3_readNodes 31 = .ok (.ifCond .ne 5, 3) := by decide +kernel
theorem dX3_readNodes_34 : decode cX3_readNodes 34 = .ok (.iconst 0, 1) := by decide +kernel
theorem dX3_readNodes_35 : decode cX3_readNodes 35 = .ok (.ireturn, 1) := by decide +kernel
theorem dX3_readNodes_36 : decode cX3_readNodes 36 = .ok (.iload_n 2, 1) := by decide +kernel
theorem dX3_readNodes_37 : decode cX3_readNodes 37 = .ok (.iload 4, 2) := by decide +kernel
theorem dX3_readNodes_39 : decode cX3_readNodes 39 = .ok (.iadd, 1) := by decide +kernel
theorem dX3_readNodes_40 : decode cX3_readNodes 40 = .ok (.aload_n 1, 1) := by decide +kernel
theorem dX3_readNodes_41 : decode cX3_readNodes 41 = .ok (.arraylength, 1) := by decide +kernel
theorem dX3_readNodes_42 : decode cX3_readNodes 42 = .ok (.if_icmp .ge 13, 3) := by decide +kernel
theorem dX3_readNodes_45 : decode cX3_readNodes 45 = .ok (.aload_n 1, 1) := by decide +kernel
theorem dX3_readNodes_46 : decode cX3_readNodes 46 = .ok (.iload_n 2, 1) := by decide +kernel
theorem dX3_readNodes_47 : decode cX3_readNodes 47 = .ok (.iload 4, 2) := by decide +kernel
theorem dX3_readNodes_49 : decode cX3_readNodes 49 = .ok (.iadd, 1) := by decide +kernel
theorem dX3_readNodes_50 : decode cX3_readNodes 50 = .ok (.aload_n 0, 1) := by decide +kernel
theorem dX3_readNodes_51 : decode cX3_readNodes 51 = .ok (.getfield 41, 3) := by decide +kernel
theorem dX3_readNodes_54 : decode cX3_readNodes 54 = .ok (.iastore, 1) := by decide +kernel
theorem dX3_readNodes_55 : decode cX3_readNodes 55 = .ok (.aload_n 0, 1) := by decide +kernel
theorem dX3_readNodes_56 : decode cX3_readNodes 56 = .ok (.invokevirtual 83, 3) := by decide +kernel
theorem dX3_readNodes_59 : decode cX3_readNodes 59 = .ok (.iinc 4 1, 3) := by decide +kernel
theorem dX3_readNodes_62 : decode cX3_readNodes 62 = .ok (.goto (-59), 3) := by decide +kernel
theorem dX3_readNodes_65 : decode cX3_readNodes 65 = .ok (.iconst 5, 1) := by decide +kernel
theorem dX3_readNodes_66 : decode cX3_readNodes 66 = .ok (.ireturn, 1) := by decide +kernel
theorem dX3_settle_0 : decode cX3_settle 0 = .ok (.iconst 0, 1) := by decide +kernel
theorem dX3_settle_1 : decode cX3_settle 1 = .ok (.istore_n 1, 1) := by decide +kernel
theorem dX3_settle_2 : decode cX3_settle 2 = .ok (.iload_n 1, 1) := by decide +kernel
theorem dX3_settle_3 : decode cX3_settle 3 = .ok (.aload_n 0, 1) := by decide +kernel
theorem dX3_settle_4 : decode cX3_settle 4 = .ok (.getfield 51, 3) := by decide +kernel
theorem dX3_settle_7 : decode cX3_settle 7 = .ok (.if_icmp .ge 44, 3) := by decide +kernel
theorem dX3_settle_10 : decode cX3_settle 10 = .ok (.iload_n 1, 1) := by decide +kernel
theorem dX3_settle_11 : decode cX3_settle 11 = .ok (.iconst 4, 1) := by decide +kernel
theorem dX3_settle_12 : decode cX3_settle 12 = .ok (.if_icmp .ge 39, 3) := by decide +kernel
theorem dX3_settle_15 : decode cX3_settle 15 = .ok (.aload_n 0, 1) := by decide +kernel
theorem dX3_settle_16 : decode cX3_settle 16 = .ok (.getfield 12, 3) := by decide +kernel
theorem dX3_settle_19 : decode cX3_settle 19 = .ok (.aload_n 0, 1) := by decide +kernel
theorem dX3_settle_20 : decode cX3_settle 20 = .ok (.getfield 12, 3) := by decide +kernel
theorem dX3_settle_23 : decode cX3_settle 23 = .ok (.getfield 165, 3) := by decide +kernel
theorem dX3_settle_26 : decode cX3_settle 26 = .ok (.iload_n 1, 1) := by decide +kernel
theorem dX3_settle_27 : decode cX3_settle 27 = .ok (.iconst 5, 1) := by decide +kernel
theorem dX3_settle_28 : decode cX3_settle 28 = .ok (.imul, 1) := by decide +kernel
theorem dX3_settle_29 : decode cX3_settle 29 = .ok (.aload_n 0, 1) := by decide +kernel
theorem dX3_settle_30 : decode cX3_settle 30 = .ok (.getfield 61, 3) := by decide +kernel
theorem dX3_settle_33 : decode cX3_settle 33 = .ok (.iload_n 1, 1) := by decide +kernel
theorem dX3_settle_34 : decode cX3_settle 34 = .ok (.iaload, 1) := by decide +kernel
theorem dX3_settle_35 : decode cX3_settle 35 = .ok (.bipush 30, 2) := by decide +kernel
theorem dX3_settle_37 : decode cX3_settle 37 = .ok (.invokevirtual 168, 3) := by decide +kernel
theorem dX3_settle_40 : decode cX3_settle 40 = .ok (.ifCond .ne 5, 3) := by decide +kernel
theorem dX3_settle_43 : decode cX3_settle 43 = .ok (.iconst 0, 1) := by decide +kernel
theorem dX3_settle_44 : decode cX3_settle 44 = .ok (.ireturn, 1) := by decide +kernel
theorem dX3_settle_45 : decode cX3_settle 45 = .ok (.iinc 1 1, 3) := by decide +kernel
theorem dX3_settle_48 : decode cX3_settle 48 = .ok (.goto (-46), 3) := by decide +kernel
theorem dX3_settle_51 : decode cX3_settle 51 = .ok (.aload_n 0, 1) := by decide +kernel
theorem dX3_settle_52 : decode cX3_settle 52 = .ok (.getfield 12, 3) := by decide +kernel
theorem dX3_settle_55 : decode cX3_settle 55 = .ok (.aload_n 0, 1) := by decide +kernel
theorem dX3_settle_56 : decode cX3_settle 56 = .ok (.getfield 51, 3) := by decide +kernel
theorem dX3_settle_59 : decode cX3_settle 59 = .ok (.putfield 172, 3) := by decide +kernel
theorem dX3_settle_62 : decode cX3_settle 62 = .ok (.aload_n 0, 1) := by decide +kernel
theorem dX3_settle_63 : decode cX3_settle 63 = .ok (.getfield 12, 3) := by decide +kernel
theorem dX3_settle_66 : decode cX3_settle 66 = .ok (.getfield 110, 3) := by decide +kernel
theorem dX3_settle_69 : decode cX3_settle 69 = .ok (.lstore_n 1, 1) := by decide +kernel
theorem dX3_settle_70 : decode cX3_settle 70 = .ok (.iconst 0, 1) := by decide +kernel
theorem dX3_settle_71 : decode cX3_settle 71 = .ok (.istore_n 3, 1) := by decide +kernel
theorem dX3_settle_72 : decode cX3_settle 72 = .ok (.iload_n 3, 1) := by decide +kernel
theorem dX3_settle_73 : decode cX3_settle 73 = .ok (.aload_n 0, 1) := by decide +kernel
theorem dX3_settle_74 : decode cX3_settle 74 = .ok (.getfield 48, 3) := by decide +kernel
theorem dX3_settle_77 : decode cX3_settle 77 = .ok (.if_icmp .ge 77, 3) := by decide +kernel
theorem dX3_settle_80 : decode cX3_settle 80 = .ok (.iload_n 3, 1) := by decide +kernel
theorem dX3_settle_81 : decode cX3_settle 81 = .ok (.bipush 50, 2) := by decide +kernel
theorem dX3_settle_83 : decode cX3_settle 83 = .ok (.if_icmp .ge 71, 3) := by decide +kernel
theorem dX3_settle_86 : decode cX3_settle 86 = .ok (.aload_n 0, 1) := by decide +kernel
theorem dX3_settle_87 : decode cX3_settle 87 = .ok (.getfield 12, 3) := by decide +kernel
theorem dX3_settle_90 : decode cX3_settle 90 = .ok (.aload_n 0, 1) := by decide +kernel
theorem dX3_settle_91 : decode cX3_settle 91 = .ok (.getfield 54, 3) := by decide +kernel
theorem dX3_settle_94 : decode cX3_settle 94 = .ok (.iload_n 3, 1) := by decide +kernel
theorem dX3_settle_95 : decode cX3_settle 95 = .ok (.iconst 5, 1) := by decide +kernel
theorem dX3_settle_96 : decode cX3_settle 96 = .ok (.imul, 1) := by decide +kernel
theorem dX3_settle_97 : decode cX3_settle 97 = .ok (.aload_n 0, 1) := by decide +kernel
theorem dX3_settle_98 : decode cX3_settle 98 = .ok (.getfield 58, 3) := by decide +kernel
theorem dX3_settle_101 : decode cX3_settle 101 = .ok (.iload_n 3, 1) := by decide +kernel
theorem dX3_settle_102 : decode cX3_settle 102 = .ok (.iaload, 1) := by decide +kernel
theorem dX3_settle_103 : decode cX3_settle 103 = .ok (.invokevirtual 173, 3) := by decide +kernel
theorem dX3_settle_106 : decode cX3_settle 106 = .ok (.lstore 4, 2) := by decide +kernel
theorem dX3_settle_108 : decode cX3_settle 108 = .ok (.lload 4, 2) := by decide +kernel
theorem dX3_settle_110 : decode cX3_settle 110 = .ok (.lconst 0, 1) := by decide +kernel
theorem dX3_settle_111 : decode cX3_settle 111 = .ok (.lcmp, 1) := by decide +kernel
theorem dX3_settle_112 : decode cX3_settle 112 = .ok (.ifCond .eq 16, 3) := by decide +kernel
theorem dX3_settle_115 : decode cX3_settle 115 = .ok (.lload 4, 2) := by decide +kernel
theorem dX3_settle_117 : decode cX3_settle 117 = .ok (.lload_n 1, 1) := by decide +kernel
theorem dX3_settle_118 : decode cX3_settle 118 = .ok (.ldc2_w 142, 3) := by decide +kernel
theorem dX3_settle_121 : decode cX3_settle 121 = .ok (.lxor, 1) := by decide +kernel
theorem dX3_settle_122 : decode cX3_settle 122 = .ok (.land, 1) := by decide +kernel
theorem dX3_settle_123 : decode cX3_settle 123 = .ok (.lconst 0, 1) := by decide +kernel
theorem dX3_settle_124 : decode cX3_settle 124 = .ok (.lcmp, 1) := by decide +kernel
theorem dX3_settle_125 : decode cX3_settle 125 = .ok (.ifCond .eq 5, 3) := by decide +kernel
theorem dX3_settle_128 : decode cX3_settle 128 = .ok (.iconst 0, 1) := by decide +kernel
theorem dX3_settle_129 : decode cX3_settle 129 = .ok (.ireturn, 1) := by decide +kernel
theorem dX3_settle_130 : decode cX3_settle 130 = .ok (.lload_n 1, 1) := by decide +kernel
theorem dX3_settle_131 : decode cX3_settle 131 = .ok (.lload 4, 2) := by decide +kernel
theorem dX3_settle_133 : decode cX3_settle 133 = .ok (.ldc2_w 142, 3) := by decide +kernel
theorem dX3_settle_136 : decode cX3_settle 136 = .ok (.lxor, 1) := by decide +kernel
theorem dX3_settle_137 : decode cX3_settle 137 = .ok (.land, 1) := by decide +kernel
theorem dX3_settle_138 : decode cX3_settle 138 = .ok (.lstore_n 1, 1) := by decide +kernel
theorem dX3_settle_139 : decode cX3_settle 139 = .ok (.aload_n 0, 1) := by decide +kernel
theorem dX3_settle_140 : decode cX3_settle 140 = .ok (.getfield 12, 3) := by decide +kernel
theorem dX3_settle_143 : decode cX3_settle 143 = .ok (.lload 4, 2) := by decide +kernel
theorem dX3_settle_145 : decode cX3_settle 145 = .ok (.invokevirtual 177, 3) := by decide +kernel
theorem dX3_settle_148 : decode cX3_settle 148 = .ok (.iinc 3 1, 3) := by decide +kernel
theorem dX3_settle_151 : decode cX3_settle 151 = .ok (.goto (-79), 3) := by decide +kernel
theorem dX3_settle_154 : decode cX3_settle 154 = .ok (.iconst 1, 1) := by decide +kernel
theorem dX3_settle_155 : decode cX3_settle 155 = .ok (.ireturn, 1) := by decide +kernel
theorem dX3_passStop_0 : decode cX3_passStop 0 = .ok (.aload_n 0, 1) := by decide +kernel
theorem dX3_passStop_1 : decode cX3_passStop 1 = .ok (.getfield 38, 3) := by decide +kernel
theorem dX3_passStop_4 : decode cX3_passStop 4 = .ok (.iconst 3, 1) := by decide +kernel
theorem dX3_passStop_5 : decode cX3_passStop 5 = .ok (.if_icmp .eq 9, 3) := by decide +kernel
theorem dX3_passStop_8 : decode cX3_passStop 8 = .ok (.aload_n 0, 1) := by decide +kernel
theorem dX3_passStop_9 : decode cX3_passStop 9 = .ok (.iconst 1, 1) := by decide +kernel
theorem dX3_passStop_10 : decode cX3_passStop 10 = .ok (.invokevirtual 92, 3) := by decide +kernel
theorem dX3_passStop_13 : decode cX3_passStop 13 = .ok (.ireturn, 1) := by decide +kernel
theorem dX3_passStop_14 : decode cX3_passStop 14 = .ok (.aload_n 0, 1) := by decide +kernel
theorem dX3_passStop_15 : decode cX3_passStop 15 = .ok (.invokevirtual 83, 3) := by decide +kernel
theorem dX3_passStop_18 : decode cX3_passStop 18 = .ok (.iconst 1, 1) := by decide +kernel
theorem dX3_passStop_19 : decode cX3_passStop 19 = .ok (.ireturn, 1) := by decide +kernel
theorem dX3_isNumber_0 : decode cX3_isNumber 0 = .ok (.aload_n 0, 1) := by decide +kernel
theorem dX3_isNumber_1 : decode cX3_isNumber 1 = .ok (.getfield 38, 3) := by decide +kernel
theorem dX3_isNumber_4 : decode cX3_isNumber 4 = .ok (.iconst 2, 1) := by decide +kernel
theorem dX3_isNumber_5 : decode cX3_isNumber 5 = .ok (.if_icmp .eq 9, 3) := by decide +kernel
theorem dX3_isNumber_8 : decode cX3_isNumber 8 = .ok (.aload_n 0, 1) := by decide +kernel
theorem dX3_isNumber_9 : decode cX3_isNumber 9 = .ok (.iconst 1, 1) := by decide +kernel
theorem dX3_isNumber_10 : decode cX3_isNumber 10 = .ok (.invokevirtual 92, 3) := by decide +kernel
theorem dX3_isNumber_13 : decode cX3_isNumber 13 = .ok (.ireturn, 1) := by decide +kernel
theorem dX3_isNumber_14 : decode cX3_isNumber 14 = .ok (.aload_n 0, 1) := by decide +kernel
theorem dX3_isNumber_15 : decode cX3_isNumber 15 = .ok (.getfield 41, 3) := by decide +kernel
theorem dX3_isNumber_18 : decode cX3_isNumber 18 = .ok (.iload_n 1, 1) := by decide +kernel
theorem dX3_isNumber_19 : decode cX3_isNumber 19 = .ok (.if_icmp .lt 11, 3) := by decide +kernel
theorem dX3_isNumber_22 : decode cX3_isNumber 22 = .ok (.aload_n 0, 1) := by decide +kernel
theorem dX3_isNumber_23 : decode cX3_isNumber 23 = .ok (.getfield 41, 3) := by decide +kernel
theorem dX3_isNumber_26 : decode cX3_isNumber 26 = .ok (.iload_n 2, 1) := by decide +kernel
theorem dX3_isNumber_27 : decode cX3_isNumber 27 = .ok (.if_icmp .le 9, 3) := by decide +kernel
theorem dX3_isNumber_30 : decode cX3_isNumber 30 = .ok (.aload_n 0, 1) := by decide +kernel
theorem dX3_isNumber_31 : decode cX3_isNumber 31 = .ok (.iconst 2, 1) := by decide +kernel
theorem dX3_isNumber_32 : decode cX3_isNumber 32 = .ok (.invokevirtual 92, 3) := by decide +kernel
theorem dX3_isNumber_35 : decode cX3_isNumber 35 = .ok (.ireturn, 1) := by decide +kernel
theorem dX3_isNumber_36 : decode cX3_isNumber 36 = .ok (.iconst 1, 1) := by decide +kernel
theorem dX3_isNumber_37 : decode cX3_isNumber 37 = .ok (.ireturn, 1) := by decide +kernel
theorem dX3_isWord_0 : decode cX3_isWord 0 = .ok (.aload_n 0, 1) := by decide +kernel
theorem dX3_isWord_1 : decode cX3_isWord 1 = .ok (.getfield 38, 3) := by decide +kernel
theorem dX3_isWord_4 : decode cX3_isWord 4 = .ok (.iconst 1, 1) := by decide +kernel
theorem dX3_isWord_5 : decode cX3_isWord 5 = .ok (.if_icmp .ne 19, 3) := by decide +kernel
theorem dX3_isWord_8 : decode cX3_isWord 8 = .ok (.aload_n 0, 1) := by decide +kernel
theorem dX3_isWord_9 : decode cX3_isWord 9 = .ok (.getfield 35, 3) := by decide +kernel
theorem dX3_isWord_12 : decode cX3_isWord 12 = .ok (.aload_n 0, 1) := by decide +kernel
theorem dX3_isWord_13 : decode cX3_isWord 13 = .ok (.getfield 32, 3) := by decide +kernel
theorem dX3_isWord_16 : decode cX3_isWord 16 = .ok (.isub, 1) := by decide +kernel
theorem dX3_isWord_17 : decode cX3_isWord 17 = .ok (.aload_n 1, 1) := by decide +kernel
theorem dX3_isWord_18 : decode cX3_isWord 18 = .ok (.invokevirtual 181, 3) := by decide +kernel
theorem dX3_isWord_21 : decode cX3_isWord 21 = .ok (.if_icmp .eq 5, 3) := by decide +kernel
theorem dX3_isWord_24 : decode cX3_isWord 24 = .ok (.iconst 0, 1) := by decide +kernel
theorem dX3_isWord_25 : decode cX3_isWord 25 = .ok (.ireturn, 1) := by decide +kernel
theorem dX3_isWord_26 : decode cX3_isWord 26 = .ok (.iconst 0, 1) := by decide +kernel
theorem dX3_isWord_27 : decode cX3_isWord 27 = .ok (.istore_n 2, 1) := by decide +kernel
theorem dX3_isWord_28 : decode cX3_isWord 28 = .ok (.iload_n 2, 1) := by decide +kernel
theorem dX3_isWord_29 : decode cX3_isWord 29 = .ok (.aload_n 1, 1) := by decide +kernel
theorem dX3_isWord_30 : decode cX3_isWord 30 = .ok (.invokevirtual 181, 3) := by decide +kernel
theorem dX3_isWord_33 : decode cX3_isWord 33 = .ok (.if_icmp .ge 29, 3) := by decide +kernel
theorem dX3_isWord_36 : decode cX3_isWord 36 = .ok (.aload_n 0, 1) := by decide +kernel
theorem dX3_isWord_37 : decode cX3_isWord 37 = .ok (.aload_n 0, 1) := by decide +kernel
theorem dX3_isWord_38 : decode cX3_isWord 38 = .ok (.getfield 32, 3) := by decide +kernel
theorem dX3_isWord_41 : decode cX3_isWord 41 = .ok (.iload_n 2, 1) := by decide +kernel
theorem dX3_isWord_42 : decode cX3_isWord 42 = .ok (.iadd, 1) := by decide +kernel
theorem dX3_isWord_43 : decode cX3_isWord 43 = .ok (.invokevirtual 186, 3) := by decide +kernel
theorem dX3_isWord_46 : decode cX3_isWord 46 = .ok (.aload_n 1, 1) := by decide +kernel
theorem dX3_isWord_47 : decode cX3_isWord 47 = .ok (.iload_n 2, 1) := by decide +kernel
theorem dX3_isWord_48 : decode cX3_isWord 48 = .ok (.invokevirtual 190, 3) := by decide +kernel
theorem dX3_isWord_51 : decode cX3_isWord 51 = .ok (.if_icmp .eq 5, 3) := by decide +kernel
theorem dX3_isWord_54 : decode cX3_isWord 54 = .ok (.iconst 0, 1) := by decide +kernel
theorem dX3_isWord_55 : decode cX3_isWord 55 = .ok (.ireturn, 1) := by decide +kernel
theorem dX3_isWord_56 : decode cX3_isWord 56 = .ok (.iinc 2 1, 3) := by decide +kernel
theorem dX3_isWord_59 : decode cX3_isWord 59 = .ok (.goto (-31), 3) := by decide +kernel
theorem dX3_isWord_62 : decode cX3_isWord 62 = .ok (.iconst 1, 1) := by decide +kernel
theorem dX3_isWord_63 : decode cX3_isWord 63 = .ok (.ireturn, 1) := by decide +kernel
theorem dX3_refuse_0 : decode cX3_refuse 0 = .ok (.aload_n 0, 1) := by decide +kernel
theorem dX3_refuse_1 : decode cX3_refuse 1 = .ok (.iload_n 1, 1) := by decide +kernel
theorem dX3_refuse_2 : decode cX3_refuse 2 = .ok (.putfield 22, 3) := by decide +kernel
theorem dX3_refuse_5 : decode cX3_refuse 5 = .ok (.aload_n 0, 1) := by decide +kernel
theorem dX3_refuse_6 : decode cX3_refuse 6 = .ok (.aload_n 0, 1) := by decide +kernel
theorem dX3_refuse_7 : decode cX3_refuse 7 = .ok (.getfield 32, 3) := by decide +kernel
theorem dX3_refuse_10 : decode cX3_refuse 10 = .ok (.putfield 18, 3) := by decide +kernel
theorem dX3_refuse_13 : decode cX3_refuse 13 = .ok (.iconst 0, 1) := by decide +kernel
theorem dX3_refuse_14 : decode cX3_refuse 14 = .ok (.ireturn, 1) := by decide +kernel
theorem dX3_byteAt_0 : decode cX3_byteAt 0 = .ok (.iload_n 1, 1) := by decide +kernel
theorem dX3_byteAt_1 : decode cX3_byteAt 1 = .ok (.ifCond .lt 29, 3) := by decide +kernel
theorem dX3_byteAt_4 : decode cX3_byteAt 4 = .ok (.iload_n 1, 1) := by decide +kernel
theorem dX3_byteAt_5 : decode cX3_byteAt 5 = .ok (.aload_n 0, 1) := by decide +kernel
theorem dX3_byteAt_6 : decode cX3_byteAt 6 = .ok (.getfield 29, 3) := by decide +kernel
theorem dX3_byteAt_9 : decode cX3_byteAt 9 = .ok (.if_icmp .ge 21, 3) := by decide +kernel
theorem dX3_byteAt_12 : decode cX3_byteAt 12 = .ok (.iload_n 1, 1) := by decide +kernel
theorem dX3_byteAt_13 : decode cX3_byteAt 13 = .ok (.aload_n 0, 1) := by decide +kernel
theorem dX3_byteAt_14 : decode cX3_byteAt 14 = .ok (.getfield 25, 3) := by decide +kernel
theorem dX3_byteAt_17 : decode cX3_byteAt 17 = .ok (.arraylength, 1) := by decide +kernel
theorem dX3_byteAt_18 : decode cX3_byteAt 18 = .ok (.if_icmp .ge 12, 3) := by decide +kernel
theorem dX3_byteAt_21 : decode cX3_byteAt 21 = .ok (.aload_n 0, 1) := by decide +kernel
theorem dX3_byteAt_22 : decode cX3_byteAt 22 = .ok (.getfield 25, 3) := by decide +kernel
theorem dX3_byteAt_25 : decode cX3_byteAt 25 = .ok (.iload_n 1, 1) := by decide +kernel
theorem dX3_byteAt_26 : decode cX3_byteAt 26 = .ok (.baload, 1) := by decide +kernel
theorem dX3_byteAt_27 : decode cX3_byteAt 27 = .ok (.goto 4, 3) := by decide +kernel
theorem dX3_byteAt_30 : decode cX3_byteAt 30 = .ok (.iconst 0, 1) := by decide +kernel
theorem dX3_byteAt_31 : decode cX3_byteAt 31 = .ok (.ireturn, 1) := by decide +kernel
theorem dX3_advance_0 : decode cX3_advance 0 = .ok (.aload_n 0, 1) := by decide +kernel
theorem dX3_advance_1 : decode cX3_advance 1 = .ok (.aload_n 0, 1) := by decide +kernel
theorem dX3_advance_2 : decode cX3_advance 2 = .ok (.getfield 35, 3) := by decide +kernel
theorem dX3_advance_5 : decode cX3_advance 5 = .ok (.putfield 32, 3) := by decide +kernel
theorem dX3_advance_8 : decode cX3_advance 8 = .ok (.aload_n 0, 1) := by decide +kernel
theorem dX3_advance_9 : decode cX3_advance 9 = .ok (.getfield 32, 3) := by decide +kernel
theorem dX3_advance_12 : decode cX3_advance 12 = .ok (.aload_n 0, 1) := by decide +kernel
theorem dX3_advance_13 : decode cX3_advance 13 = .ok (.getfield 29, 3) := by decide +kernel
theorem dX3_advance_16 : decode cX3_advance 16 = .ok (.if_icmp .ge 29, 3) := by decide +kernel
theorem dX3_advance_19 : decode cX3_advance 19 = .ok (.aload_n 0, 1) := by decide +kernel
theorem dX3_advance_20 : decode cX3_advance 20 = .ok (.aload_n 0, 1) := by decide +kernel
theorem dX3_advance_21 : decode cX3_advance 21 = .ok (.getfield 32, 3) := by decide +kernel
theorem dX3_advance_24 : decode cX3_advance 24 = .ok (.invokevirtual 186, 3) := by decide +kernel
theorem dX3_advance_27 : decode cX3_advance 27 = .ok (.bipush 32, 2) := by decide +kernel
theorem dX3_advance_29 : decode cX3_advance 29 = .ok (.if_icmp .ne 16, 3) := by decide +kernel
theorem dX3_advance_32 : decode cX3_advance 32 = .ok (.aload_n 0, 1) := by decide +kernel
theorem dX3_advance_33 : decode cX3_advance 33 = .ok (.dup, 1) := by decide +kernel
theorem dX3_advance_34 : decode cX3_advance 34 = .ok (.getfield 32, 3) := by decide +kernel
theorem dX3_advance_37 : decode cX3_advance 37 = .ok (.iconst 1, 1) := by decide +kernel
theorem dX3_advance_38 : decode cX3_advance 38 = .ok (.iadd, 1) := by decide +kernel
theorem dX3_advance_39 : decode cX3_advance 39 = .ok (.putfield 32, 3) := by decide +kernel
theorem dX3_advance_42 : decode cX3_advance 42 = .ok (.goto (-34), 3) := by decide +kernel
theorem dX3_advance_45 : decode cX3_advance 45 = .ok (.aload_n 0, 1) := by decide +kernel
theorem dX3_advance_46 : decode cX3_advance 46 = .ok (.aload_n 0, 1) := by decide +kernel
theorem dX3_advance_47 : decode cX3_advance 47 = .ok (.getfield 32, 3) := by decide +kernel
theorem dX3_advance_50 : decode cX3_advance 50 = .ok (.putfield 35, 3) := by decide +kernel
theorem dX3_advance_53 : decode cX3_advance 53 = .ok (.aload_n 0, 1) := by decide +kernel
theorem dX3_advance_54 : decode cX3_advance 54 = .ok (.getfield 32, 3) := by decide +kernel
theorem dX3_advance_57 : decode cX3_advance 57 = .ok (.aload_n 0, 1) := by decide +kernel
theorem dX3_advance_58 : decode cX3_advance 58 = .ok (.getfield 29, 3) := by decide +kernel
theorem dX3_advance_61 : decode cX3_advance 61 = .ok (.if_icmp .lt 11, 3) := by decide +kernel
theorem dX3_advance_64 : decode cX3_advance 64 = .ok (.aload_n 0, 1) := by decide +kernel
theorem dX3_advance_65 : decode cX3_advance 65 = .ok (.iconst 0, 1) := by decide +kernel
theorem dX3_advance_66 : decode cX3_advance 66 = .ok (.putfield 38, 3) := by decide +kernel
theorem dX3_advance_69 : decode cX3_advance 69 = .ok (.goto 183, 3) := by decide +kernel
theorem dX3_advance_72 : decode cX3_advance 72 = .ok (.aload_n 0, 1) := by decide +kernel
theorem dX3_advance_73 : decode cX3_advance 73 = .ok (.aload_n 0, 1) := by decide +kernel
theorem dX3_advance_74 : decode cX3_advance 74 = .ok (.getfield 32, 3) := by decide +kernel
theorem dX3_advance_77 : decode cX3_advance 77 = .ok (.invokevirtual 186, 3) := by decide +kernel
theorem dX3_advance_80 : decode cX3_advance 80 = .ok (.invokestatic 194, 3) := by decide +kernel
theorem dX3_advance_83 : decode cX3_advance 83 = .ok (.ifCond .eq 46, 3) := by decide +kernel
theorem dX3_advance_86 : decode cX3_advance 86 = .ok (.aload_n 0, 1) := by decide +kernel
theorem dX3_advance_87 : decode cX3_advance 87 = .ok (.iconst 1, 1) := by decide +kernel
theorem dX3_advance_88 : decode cX3_advance 88 = .ok (.putfield 38, 3) := by decide +kernel
theorem dX3_advance_91 : decode cX3_advance 91 = .ok (.aload_n 0, 1) := by decide +kernel
theorem dX3_advance_92 : decode cX3_advance 92 = .ok (.getfield 35, 3) := by decide +kernel
theorem dX3_advance_95 : decode cX3_advance 95 = .ok (.aload_n 0, 1) := by decide +kernel
theorem dX3_advance_96 : decode cX3_advance 96 = .ok (.getfield 29, 3) := by decide +kernel
theorem dX3_advance_99 : decode cX3_advance 99 = .ok (.if_icmp .ge 153, 3) := by decide +kernel
theorem dX3_advance_102 : decode cX3_advance 102 = .ok (.aload_n 0, 1) := by decide +kernel
theorem dX3_advance_103 : decode cX3_advance 103 = .ok (.aload_n 0, 1) := by decide +kernel
theorem dX3_advance_104 : decode cX3_advance 104 = .ok (.getfield 35, 3) := by decide +kernel
theorem dX3_advance_107 : decode cX3_advance 107 = .ok (.invokevirtual 186, 3) := by decide +kernel
theorem dX3_advance_110 : decode cX3_advance 110 = .ok (.invokestatic 194, 3) := by decide +kernel
theorem dX3_advance_113 : decode cX3_advance 113 = .ok (.ifCond .eq 139, 3) := by decide +kernel
theorem dX3_advance_116 : decode cX3_advance 116 = .ok (.aload_n 0, 1) := by decide +kernel
theorem dX3_advance_117 : decode cX3_advance 117 = .ok (.dup, 1) := by decide +kernel
theorem dX3_advance_118 : decode cX3_advance 118 = .ok (.getfield 35, 3) := by decide +kernel
theorem dX3_advance_121 : decode cX3_advance 121 = .ok (.iconst 1, 1) := by decide +kernel
theorem dX3_advance_122 : decode cX3_advance 122 = .ok (.iadd, 1) := by decide +kernel
theorem dX3_advance_123 : decode cX3_advance 123 = .ok (.putfield 35, 3) := by decide +kernel
theorem dX3_advance_126 : decode cX3_advance 126 = .ok (.goto (-35), 3) := by decide +kernel
theorem dX3_advance_129 : decode cX3_advance 129 = .ok (.aload_n 0, 1) := by decide +kernel
theorem dX3_advance_130 : decode cX3_advance 130 = .ok (.aload_n 0, 1) := by decide +kernel
theorem dX3_advance_131 : decode cX3_advance 131 = .ok (.getfield 32, 3) := by decide +kernel
theorem dX3_advance_134 : decode cX3_advance 134 = .ok (.invokevirtual 186, 3) := by decide +kernel
theorem dX3_advance_137 : decode cX3_advance 137 = .ok (.invokestatic 197, 3) := by decide +kernel
theorem dX3_advance_140 : decode cX3_advance 140 = .ok (.ifCond .eq 80, 3) := by decide +kernel
theorem dX3_advance_143 : decode cX3_advance 143 = .ok (.aload_n 0, 1) := by decide +kernel
theorem dX3_advance_144 : decode cX3_advance 144 = .ok (.iconst 2, 1) := by decide +kernel
theorem dX3_advance_145 : decode cX3_advance 145 = .ok (.putfield 38, 3) := by decide +kernel
theorem dX3_advance_148 : decode cX3_advance 148 = .ok (.aload_n 0, 1) := by decide +kernel
theorem dX3_advance_149 : decode cX3_advance 149 = .ok (.iconst 0, 1) := by decide +kernel
theorem dX3_advance_150 : decode cX3_advance 150 = .ok (.putfield 41, 3) := by decide +kernel
theorem dX3_advance_153 : decode cX3_advance 153 = .ok (.aload_n 0, 1) := by decide +kernel
theorem dX3_advance_154 : decode cX3_advance 154 = .ok (.getfield 35, 3) := by decide +kernel
theorem dX3_advance_157 : decode cX3_advance 157 = .ok (.aload_n 0, 1) := by decide +kernel
theorem dX3_advance_158 : decode cX3_advance 158 = .ok (.getfield 29, 3) := by decide +kernel
theorem dX3_advance_161 : decode cX3_advance 161 = .ok (.if_icmp .ge 91, 3) := by decide +kernel
theorem dX3_advance_164 : decode cX3_advance 164 = .ok (.aload_n 0, 1) := by decide +kernel
theorem dX3_advance_165 : decode cX3_advance 165 = .ok (.aload_n 0, 1) := by decide +kernel
theorem dX3_advance_166 : decode cX3_advance 166 = .ok (.getfield 35, 3) := by decide +kernel
theorem dX3_advance_169 : decode cX3_advance 169 = .ok (.invokevirtual 186, 3) := by decide +kernel
theorem dX3_advance_172 : decode cX3_advance 172 = .ok (.invokestatic 197, 3) := by decide +kernel
theorem dX3_advance_175 : decode cX3_advance 175 = .ok (.ifCond .eq 77, 3) := by decide +kernel
theorem dX3_advance_178 : decode cX3_advance 178 = .ok (.aload_n 0, 1) := by decide +kernel
theorem dX3_advance_179 : decode cX3_advance 179 = .ok (.sipush 1000, 3) := by decide +kernel
theorem dX3_advance_182 : decode cX3_advance 182 = .ok (.aload_n 0, 1) := by decide +kernel
theorem dX3_advance_183 : decode cX3_advance 183 = .ok (.getfield 41, 3) := by decide +kernel
theorem dX3_advance_186 : decode cX3_advance 186 = .ok (.bipush 10, 2) := by decide +kernel
theorem dX3_advance_188 : decode cX3_advance 188 = .ok (.imul, 1) := by decide +kernel
theorem dX3_advance_189 : decode cX3_advance 189 = .ok (.aload_n 0, 1) := by decide +kernel
theorem dX3_advance_190 : decode cX3_advance 190 = .ok (.aload_n 0, 1) := by decide +kernel
theorem dX3_advance_191 : decode cX3_advance 191 = .ok (.getfield 35, 3) := by decide +kernel
theorem dX3_advance_194 : decode cX3_advance 194 = .ok (.invokevirtual 186, 3) := by decide +kernel
theorem dX3_advance_197 : decode cX3_advance 197 = .ok (.iadd, 1) := by decide +kernel
theorem dX3_advance_198 : decode cX3_advance 198 = .ok (.bipush 48, 2) := by decide +kernel
theorem dX3_advance_200 : decode cX3_advance 200 = .ok (.isub, 1) := by decide +kernel
theorem dX3_advance_201 : decode cX3_advance 201 = .ok (.invokestatic 64, 3) := by decide +kernel
theorem dX3_advance_204 : decode cX3_advance 204 = .ok (.putfield 41, 3) := by decide +kernel
theorem dX3_advance_207 : decode cX3_advance 207 = .ok (.aload_n 0, 1) := by decide +kernel
theorem dX3_advance_208 : decode cX3_advance 208 = .ok (.dup, 1) := by decide +kernel
theorem dX3_advance_209 : decode cX3_advance 209 = .ok (.getfield 35, 3) := by decide +kernel
theorem dX3_advance_212 : decode cX3_advance 212 = .ok (.iconst 1, 1) := by decide +kernel
theorem dX3_advance_213 : decode cX3_advance 213 = .ok (.iadd, 1) := by decide +kernel
theorem dX3_advance_214 : decode cX3_advance 214 = .ok (.putfield 35, 3) := by decide +kernel
theorem dX3_advance_217 : decode cX3_advance 217 = .ok (.goto (-64), 3) := by decide +kernel
theorem dX3_advance_220 : decode cX3_advance 220 = .ok (.aload_n 0, 1) := by decide +kernel
theorem dX3_advance_221 : decode cX3_advance 221 = .ok (.aload_n 0, 1) := by decide +kernel
theorem dX3_advance_222 : decode cX3_advance 222 = .ok (.aload_n 0, 1) := by decide +kernel
theorem dX3_advance_223 : decode cX3_advance 223 = .ok (.getfield 32, 3) := by decide +kernel
theorem dX3_advance_226 : decode cX3_advance 226 = .ok (.invokevirtual 186, 3) := by decide +kernel
theorem dX3_advance_229 : decode cX3_advance 229 = .ok (.bipush 59, 2) := by decide +kernel
theorem dX3_advance_231 : decode cX3_advance 231 = .ok (.if_icmp .ne 7, 3) := by decide +kernel
theorem dX3_advance_234 : decode cX3_advance 234 = .ok (.iconst 3, 1) := by decide +kernel
theorem dX3_advance_235 : decode cX3_advance 235 = .ok (.goto 4, 3) := by decide +kernel
theorem dX3_advance_238 : decode cX3_advance 238 = .ok (.iconst 4, 1) := by decide +kernel
theorem dX3_advance_239 : decode cX3_advance 239 = .ok (.putfield 38, 3) := by decide +kernel
theorem dX3_advance_242 : decode cX3_advance 242 = .ok (.aload_n 0, 1) := by decide +kernel
theorem dX3_advance_243 : decode cX3_advance 243 = .ok (.dup, 1) := by decide +kernel
theorem dX3_advance_244 : decode cX3_advance 244 = .ok (.getfield 35, 3) := by decide +kernel
theorem dX3_advance_247 : decode cX3_advance 247 = .ok (.iconst 1, 1) := by decide +kernel
theorem dX3_advance_248 : decode cX3_advance 248 = .ok (.iadd, 1) := by decide +kernel
theorem dX3_advance_249 : decode cX3_advance 249 = .ok (.putfield 35, 3) := by decide +kernel
theorem dX3_advance_252 : decode cX3_advance 252 = .ok (.return_, 1) := by decide +kernel
theorem dX3_isLetter_0 : decode cX3_isLetter 0 = .ok (.iload_n 0, 1) := by decide +kernel
theorem dX3_isLetter_1 : decode cX3_isLetter 1 = .ok (.bipush 97, 2) := by decide +kernel
theorem dX3_isLetter_3 : decode cX3_isLetter 3 = .ok (.if_icmp .lt 13, 3) := by decide +kernel
theorem dX3_isLetter_6 : decode cX3_isLetter 6 = .ok (.iload_n 0, 1) := by decide +kernel
theorem dX3_isLetter_7 : decode cX3_isLetter 7 = .ok (.bipush 122, 2) := by decide +kernel
theorem dX3_isLetter_9 : decode cX3_isLetter 9 = .ok (.if_icmp .gt 7, 3) := by decide +kernel
theorem dX3_isLetter_12 : decode cX3_isLetter 12 = .ok (.iconst 1, 1) := by decide +kernel
theorem dX3_isLetter_13 : decode cX3_isLetter 13 = .ok (.goto 4, 3) := by decide +kernel
theorem dX3_isLetter_16 : decode cX3_isLetter 16 = .ok (.iconst 0, 1) := by decide +kernel
theorem dX3_isLetter_17 : decode cX3_isLetter 17 = .ok (.ireturn, 1) := by decide +kernel
theorem dX3_isDigit_0 : decode cX3_isDigit 0 = .ok (.iload_n 0, 1) := by decide +kernel
theorem dX3_isDigit_1 : decode cX3_isDigit 1 = .ok (.bipush 48, 2) := by decide +kernel
theorem dX3_isDigit_3 : decode cX3_isDigit 3 = .ok (.if_icmp .lt 13, 3) := by decide +kernel
theorem dX3_isDigit_6 : decode cX3_isDigit 6 = .ok (.iload_n 0, 1) := by decide +kernel
theorem dX3_isDigit_7 : decode cX3_isDigit 7 = .ok (.bipush 57, 2) := by decide +kernel
theorem dX3_isDigit_9 : decode cX3_isDigit 9 = .ok (.if_icmp .gt 7, 3) := by decide +kernel
theorem dX3_isDigit_12 : decode cX3_isDigit 12 = .ok (.iconst 1, 1) := by decide +kernel
theorem dX3_isDigit_13 : decode cX3_isDigit 13 = .ok (.goto 4, 3) := by decide +kernel
theorem dX3_isDigit_16 : decode cX3_isDigit 16 = .ok (.iconst 0, 1) := by decide +kernel
theorem dX3_isDigit_17 : decode cX3_isDigit 17 = .ok (.ireturn, 1) := by decide +kernel
