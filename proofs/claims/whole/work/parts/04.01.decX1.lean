theorem dX1_init_0 : decode cX1_init 0 = .ok (.aload_n 0, 1) := by decide +kernel
theorem dX1_init_1 : decode cX1_init 1 = .ok (.invokespecial 3, 3) := by decide +kernel
theorem dX1_init_4 : decode cX1_init 4 = .ok (.aload_n 0, 1) := by decide +kernel
theorem dX1_init_5 : decode cX1_init 5 = .ok (.iconst 0, 1) := by decide +kernel
theorem dX1_init_6 : decode cX1_init 6 = .ok (.putfield 9, 3) := by decide +kernel
theorem dX1_init_9 : decode cX1_init 9 = .ok (.aload_n 0, 1) := by decide +kernel
theorem dX1_init_10 : decode cX1_init 10 = .ok (.iconst 0, 1) := by decide +kernel
theorem dX1_init_11 : decode cX1_init 11 = .ok (.newarray .long, 2) := by decide +kernel
theorem dX1_init_13 : decode cX1_init 13 = .ok (.putfield 15, 3) := by decide +kernel
theorem dX1_init_16 : decode cX1_init 16 = .ok (.aload_n 0, 1) := by decide +kernel
theorem dX1_init_17 : decode cX1_init 17 = .ok (.bipush 56, 2) := by decide +kernel
theorem dX1_init_19 : decode cX1_init 19 = .ok (.newarray .int, 2) := by decide +kernel
theorem dX1_init_21 : decode cX1_init 21 = .ok (.putfield 19, 3) := by decide +kernel
theorem dX1_init_24 : decode cX1_init 24 = .ok (.aload_n 0, 1) := by decide +kernel
theorem dX1_init_25 : decode cX1_init 25 = .ok (.lconst 0, 1) := by decide +kernel
theorem dX1_init_26 : decode cX1_init 26 = .ok (.putfield 23, 3) := by decide +kernel
theorem dX1_init_29 : decode cX1_init 29 = .ok (.aload_n 0, 1) := by decide +kernel
theorem dX1_init_30 : decode cX1_init 30 = .ok (.iconst 0, 1) := by decide +kernel
theorem dX1_init_31 : decode cX1_init 31 = .ok (.putfield 27, 3) := by decide +kernel
theorem dX1_init_34 : decode cX1_init 34 = .ok (.aload_n 0, 1) := by decide +kernel
theorem dX1_init_35 : decode cX1_init 35 = .ok (.iconst 0, 1) := by decide +kernel
theorem dX1_init_36 : decode cX1_init 36 = .ok (.putfield 30, 3) := by decide +kernel
theorem dX1_init_39 : decode cX1_init 39 = .ok (.aload_n 0, 1) := by decide +kernel
theorem dX1_init_40 : decode cX1_init 40 = .ok (.iconst 0, 1) := by decide +kernel
theorem dX1_init_41 : decode cX1_init 41 = .ok (.putfield 33, 3) := by decide +kernel
theorem dX1_init_44 : decode cX1_init 44 = .ok (.aload_n 0, 1) := by decide +kernel
theorem dX1_init_45 : decode cX1_init 45 = .ok (.lconst 0, 1) := by decide +kernel
theorem dX1_init_46 : decode cX1_init 46 = .ok (.putfield 36, 3) := by decide +kernel
theorem dX1_init_49 : decode cX1_init 49 = .ok (.aload_n 0, 1) := by decide +kernel
theorem dX1_init_50 : decode cX1_init 50 = .ok (.iconst 0, 1) := by decide +kernel
theorem dX1_init_51 : decode cX1_init 51 = .ok (.putfield 39, 3) := by decide +kernel
theorem dX1_init_54 : decode cX1_init 54 = .ok (.aload_n 0, 1) := by decide +kernel
theorem dX1_init_55 : decode cX1_init 55 = .ok (.iconst 5, 1) := by decide +kernel
theorem dX1_init_56 : decode cX1_init 56 = .ok (.newarray .int, 2) := by decide +kernel
theorem dX1_init_58 : decode cX1_init 58 = .ok (.putfield 42, 3) := by decide +kernel
theorem dX1_init_61 : decode cX1_init 61 = .ok (.return_, 1) := by decide +kernel
theorem dX1_fit_0 : decode cX1_fit 0 = .ok (.aload_n 1, 1) := by decide +kernel
theorem dX1_fit_1 : decode cX1_fit 1 = .ok (.getfield 45, 3) := by decide +kernel
theorem dX1_fit_4 : decode cX1_fit 4 = .ok (.aload_n 0, 1) := by decide +kernel
theorem dX1_fit_5 : decode cX1_fit 5 = .ok (.getfield 27, 3) := by decide +kernel
theorem dX1_fit_8 : decode cX1_fit 8 = .ok (.if_icmp .ne 38, 3) := by decide +kernel
theorem dX1_fit_11 : decode cX1_fit 11 = .ok (.aload_n 1, 1) := by decide +kernel
theorem dX1_fit_12 : decode cX1_fit 12 = .ok (.getfield 48, 3) := by decide +kernel
theorem dX1_fit_15 : decode cX1_fit 15 = .ok (.aload_n 0, 1) := by decide +kernel
theorem dX1_fit_16 : decode cX1_fit 16 = .ok (.getfield 30, 3) := by decide +kernel
theorem dX1_fit_19 : decode cX1_fit 19 = .ok (.if_icmp .ne 27, 3) := by decide +kernel
theorem dX1_fit_22 : decode cX1_fit 22 = .ok (.aload_n 1, 1) := by decide +kernel
theorem dX1_fit_23 : decode cX1_fit 23 = .ok (.getfield 49, 3) := by decide +kernel
theorem dX1_fit_26 : decode cX1_fit 26 = .ok (.aload_n 0, 1) := by decide +kernel
theorem dX1_fit_27 : decode cX1_fit 27 = .ok (.getfield 33, 3) := by decide +kernel
theorem dX1_fit_30 : decode cX1_fit 30 = .ok (.if_icmp .ne 16, 3) := by decide +kernel
theorem dX1_fit_33 : decode cX1_fit 33 = .ok (.aload_n 1, 1) := by decide +kernel
theorem dX1_fit_34 : decode cX1_fit 34 = .ok (.getfield 50, 3) := by decide +kernel
theorem dX1_fit_37 : decode cX1_fit 37 = .ok (.aload_n 0, 1) := by decide +kernel
theorem dX1_fit_38 : decode cX1_fit 38 = .ok (.getfield 36, 3) := by decide +kernel
theorem dX1_fit_41 : decode cX1_fit 41 = .ok (.lcmp, 1) := by decide +kernel
theorem dX1_fit_42 : decode cX1_fit 42 = .ok (.ifCond .ne 4, 3) := by decide +kernel
theorem dX1_fit_45 : decode cX1_fit 45 = .ok (.return_, 1) := by decide +kernel
theorem dX1_fit_46 : decode cX1_fit 46 = .ok (.aload_n 0, 1) := by decide +kernel
theorem dX1_fit_47 : decode cX1_fit 47 = .ok (.aload_n 1, 1) := by decide +kernel
theorem dX1_fit_48 : decode cX1_fit 48 = .ok (.getfield 45, 3) := by decide +kernel
theorem dX1_fit_51 : decode cX1_fit 51 = .ok (.putfield 27, 3) := by decide +kernel
theorem dX1_fit_54 : decode cX1_fit 54 = .ok (.aload_n 0, 1) := by decide +kernel
theorem dX1_fit_55 : decode cX1_fit 55 = .ok (.aload_n 1, 1) := by decide +kernel
theorem dX1_fit_56 : decode cX1_fit 56 = .ok (.getfield 48, 3) := by decide +kernel
theorem dX1_fit_59 : decode cX1_fit 59 = .ok (.putfield 30, 3) := by decide +kernel
theorem dX1_fit_62 : decode cX1_fit 62 = .ok (.aload_n 0, 1) := by decide +kernel
theorem dX1_fit_63 : decode cX1_fit 63 = .ok (.aload_n 1, 1) := by decide +kernel
theorem dX1_fit_64 : decode cX1_fit 64 = .ok (.getfield 49, 3) := by decide +kernel
theorem dX1_fit_67 : decode cX1_fit 67 = .ok (.putfield 33, 3) := by decide +kernel
theorem dX1_fit_70 : decode cX1_fit 70 = .ok (.aload_n 0, 1) := by decide +kernel
theorem dX1_fit_71 : decode cX1_fit 71 = .ok (.aload_n 1, 1) := by decide +kernel
theorem dX1_fit_72 : decode cX1_fit 72 = .ok (.getfield 50, 3) := by decide +kernel
theorem dX1_fit_75 : decode cX1_fit 75 = .ok (.putfield 36, 3) := by decide +kernel
theorem dX1_fit_78 : decode cX1_fit 78 = .ok (.aload_n 0, 1) := by decide +kernel
theorem dX1_fit_79 : decode cX1_fit 79 = .ok (.aload_n 1, 1) := by decide +kernel
theorem dX1_fit_80 : decode cX1_fit 80 = .ok (.invokevirtual 51, 3) := by decide +kernel
theorem dX1_fit_83 : decode cX1_fit 83 = .ok (.putfield 39, 3) := by decide +kernel
theorem dX1_fit_86 : decode cX1_fit 86 = .ok (.aload_n 0, 1) := by decide +kernel
theorem dX1_fit_87 : decode cX1_fit 87 = .ok (.iconst 0, 1) := by decide +kernel
theorem dX1_fit_88 : decode cX1_fit 88 = .ok (.putfield 9, 3) := by decide +kernel
theorem dX1_fit_91 : decode cX1_fit 91 = .ok (.aload_n 0, 1) := by decide +kernel
theorem dX1_fit_92 : decode cX1_fit 92 = .ok (.aload_n 1, 1) := by decide +kernel
theorem dX1_fit_93 : decode cX1_fit 93 = .ok (.iconst 0, 1) := by decide +kernel
theorem dX1_fit_94 : decode cX1_fit 94 = .ok (.lconst 0, 1) := by decide +kernel
theorem dX1_fit_95 : decode cX1_fit 95 = .ok (.invokevirtual 54, 3) := by decide +kernel
theorem dX1_fit_98 : decode cX1_fit 98 = .ok (.aload_n 0, 1) := by decide +kernel
theorem dX1_fit_99 : decode cX1_fit 99 = .ok (.invokevirtual 58, 3) := by decide +kernel
theorem dX1_fit_102 : decode cX1_fit 102 = .ok (.aload_n 0, 1) := by decide +kernel
theorem dX1_fit_103 : decode cX1_fit 103 = .ok (.invokevirtual 61, 3) := by decide +kernel
theorem dX1_fit_106 : decode cX1_fit 106 = .ok (.return_, 1) := by decide +kernel
theorem dX1_choose_0 : decode cX1_choose 0 = .ok (.iload_n 2, 1) := by decide +kernel
theorem dX1_choose_1 : decode cX1_choose 1 = .ok (.aload_n 0, 1) := by decide +kernel
theorem dX1_choose_2 : decode cX1_choose 2 = .ok (.getfield 39, 3) := by decide +kernel
theorem dX1_choose_5 : decode cX1_choose 5 = .ok (.if_icmp .lt 9, 3) := by decide +kernel
theorem dX1_choose_8 : decode cX1_choose 8 = .ok (.aload_n 0, 1) := by decide +kernel
theorem dX1_choose_9 : decode cX1_choose 9 = .ok (.lload_n 3, 1) := by decide +kernel
theorem dX1_choose_10 : decode cX1_choose 10 = .ok (.invokevirtual 64, 3) := by decide +kernel
theorem dX1_choose_13 : decode cX1_choose 13 = .ok (.return_, 1) := by decide +kernel
theorem dX1_choose_14 : decode cX1_choose 14 = .ok (.iload_n 2, 1) := by decide +kernel
theorem dX1_choose_15 : decode cX1_choose 15 = .ok (.ifCond .lt 12, 3) := by decide +kernel
theorem dX1_choose_18 : decode cX1_choose 18 = .ok (.iload_n 2, 1) := by decide +kernel
theorem dX1_choose_19 : decode cX1_choose 19 = .ok (.aload_n 0, 1) := by decide +kernel
theorem dX1_choose_20 : decode cX1_choose 20 = .ok (.getfield 42, 3) := by decide +kernel
theorem dX1_choose_23 : decode cX1_choose 23 = .ok (.arraylength, 1) := by decide +kernel
theorem dX1_choose_24 : decode cX1_choose 24 = .ok (.if_icmp .lt 4, 3) := by decide +kernel
theorem dX1_choose_27 : decode cX1_choose 27 = .ok (.return_, 1) := by decide +kernel
theorem dX1_choose_28 : decode cX1_choose 28 = .ok (.iconst 0, 1) := by decide +kernel
theorem dX1_choose_29 : decode cX1_choose 29 = .ok (.istore 5, 2) := by decide +kernel
theorem dX1_choose_31 : decode cX1_choose 31 = .ok (.iload 5, 2) := by decide +kernel
theorem dX1_choose_33 : decode cX1_choose 33 = .ok (.aload_n 0, 1) := by decide +kernel
theorem dX1_choose_34 : decode cX1_choose 34 = .ok (.getfield 27, 3) := by decide +kernel
theorem dX1_choose_37 : decode cX1_choose 37 = .ok (.if_icmp .ge 63, 3) := by decide +kernel
theorem dX1_choose_40 : decode cX1_choose 40 = .ok (.aload_n 0, 1) := by decide +kernel
theorem dX1_choose_41 : decode cX1_choose 41 = .ok (.iload 5, 2) := by decide +kernel
theorem dX1_choose_43 : decode cX1_choose 43 = .ok (.iload_n 2, 1) := by decide +kernel
theorem dX1_choose_44 : decode cX1_choose 44 = .ok (.invokevirtual 68, 3) := by decide +kernel
theorem dX1_choose_47 : decode cX1_choose 47 = .ok (.ifCond .eq 47, 3) := by decide +kernel
theorem dX1_choose_50 : decode cX1_choose 50 = .ok (.aload_n 0, 1) := by decide +kernel
theorem dX1_choose_51 : decode cX1_choose 51 = .ok (.getfield 42, 3) := by decide +kernel
theorem dX1_choose_54 : decode cX1_choose 54 = .ok (.iload_n 2, 1) := by decide +kernel
theorem dX1_choose_55 : decode cX1_choose 55 = .ok (.iload 5, 2) := by decide +kernel
theorem dX1_choose_57 : decode cX1_choose 57 = .ok (.iastore, 1) := by decide +kernel
theorem dX1_choose_58 : decode cX1_choose 58 = .ok (.aload_n 0, 1) := by decide +kernel
theorem dX1_choose_59 : decode cX1_choose 59 = .ok (.aload_n 1, 1) := by decide +kernel
theorem dX1_choose_60 : decode cX1_choose 60 = .ok (.iload_n 2, 1) := by decide +kernel
theorem dX1_choose_61 : decode cX1_choose 61 = .ok (.invokevirtual 72, 3) := by decide +kernel
theorem dX1_choose_64 : decode cX1_choose 64 = .ok (.lstore 6, 2) := by decide +kernel
theorem dX1_choose_66 : decode cX1_choose 66 = .ok (.lload 6, 2) := by decide +kernel
theorem dX1_choose_68 : decode cX1_choose 68 = .ok (.aload_n 0, 1) := by decide +kernel
theorem dX1_choose_69 : decode cX1_choose 69 = .ok (.getfield 36, 3) := by decide +kernel
theorem dX1_choose_72 : decode cX1_choose 72 = .ok (.ldc2_w 76, 3) := by decide +kernel
theorem dX1_choose_75 : decode cX1_choose 75 = .ok (.lxor, 1) := by decide +kernel
theorem dX1_choose_76 : decode cX1_choose 76 = .ok (.land, 1) := by decide +kernel
theorem dX1_choose_77 : decode cX1_choose 77 = .ok (.lconst 0, 1) := by decide +kernel
theorem dX1_choose_78 : decode cX1_choose 78 = .ok (.lcmp, 1) := by decide +kernel
theorem dX1_choose_79 : decode cX1_choose 79 = .ok (.ifCond .ne 15, 3) := by decide +kernel
theorem dX1_choose_82 : decode cX1_choose 82 = .ok (.aload_n 0, 1) := by decide +kernel
theorem dX1_choose_83 : decode cX1_choose 83 = .ok (.aload_n 1, 1) := by decide +kernel
theorem dX1_choose_84 : decode cX1_choose 84 = .ok (.iload_n 2, 1) := by decide +kernel
theorem dX1_choose_85 : decode cX1_choose 85 = .ok (.iconst 1, 1) := by decide +kernel
theorem dX1_choose_86 : decode cX1_choose 86 = .ok (.iadd, 1) := by decide +kernel
theorem dX1_choose_87 : decode cX1_choose 87 = .ok (.lload_n 3, 1) := by decide +kernel
theorem dX1_choose_88 : decode cX1_choose 88 = .ok (.lload 6, 2) := by decide +kernel
theorem dX1_choose_90 : decode cX1_choose 90 = .ok (.lor, 1) := by decide +kernel
theorem dX1_choose_91 : decode cX1_choose 91 = .ok (.invokevirtual 54, 3) := by decide +kernel
theorem dX1_choose_94 : decode cX1_choose 94 = .ok (.iinc 5 1, 3) := by decide +kernel
theorem dX1_choose_97 : decode cX1_choose 97 = .ok (.goto (-66), 3) := by decide +kernel
theorem dX1_choose_100 : decode cX1_choose 100 = .ok (.return_, 1) := by decide +kernel
theorem dX1_mayStand_0 : decode cX1_mayStand 0 = .ok (.iconst 0, 1) := by decide +kernel
theorem dX1_mayStand_1 : decode cX1_mayStand 1 = .ok (.istore_n 3, 1) := by decide +kernel
theorem dX1_mayStand_2 : decode cX1_mayStand 2 = .ok (.iload_n 3, 1) := by decide +kernel
theorem dX1_mayStand_3 : decode cX1_mayStand 3 = .ok (.iload_n 2, 1) := by decide +kernel
theorem dX1_mayStand_4 : decode cX1_mayStand 4 = .ok (.if_icmp .ge 30, 3) := by decide +kernel
theorem dX1_mayStand_7 : decode cX1_mayStand 7 = .ok (.iload_n 3, 1) := by decide +kernel
theorem dX1_mayStand_8 : decode cX1_mayStand 8 = .ok (.aload_n 0, 1) := by decide +kernel
theorem dX1_mayStand_9 : decode cX1_mayStand 9 = .ok (.getfield 42, 3) := by decide +kernel
theorem dX1_mayStand_12 : decode cX1_mayStand 12 = .ok (.arraylength, 1) := by decide +kernel
theorem dX1_mayStand_13 : decode cX1_mayStand 13 = .ok (.if_icmp .ge 21, 3) := by decide +kernel
theorem dX1_mayStand_16 : decode cX1_mayStand 16 = .ok (.aload_n 0, 1) := by decide +kernel
theorem dX1_mayStand_17 : decode cX1_mayStand 17 = .ok (.getfield 42, 3) := by decide +kernel
theorem dX1_mayStand_20 : decode cX1_mayStand 20 = .ok (.iload_n 3, 1) := by decide +kernel
theorem dX1_mayStand_21 : decode cX1_mayStand 21 = .ok (.iaload, 1) := by decide +kernel
theorem dX1_mayStand_22 : decode cX1_mayStand 22 = .ok (.iload_n 1, 1) := by decide +kernel
theorem dX1_mayStand_23 : decode cX1_mayStand 23 = .ok (.if_icmp .ne 5, 3) := by decide +kernel
theorem dX1_mayStand_26 : decode cX1_mayStand 26 = .ok (.iconst 0, 1) := by decide +kernel
theorem dX1_mayStand_27 : decode cX1_mayStand 27 = .ok (.ireturn, 1) := by decide +kernel
theorem dX1_mayStand_28 : decode cX1_mayStand 28 = .ok (.iinc 3 1, 3) := by decide +kernel
theorem dX1_mayStand_31 : decode cX1_mayStand 31 = .ok (.goto (-29), 3) := by decide +kernel
theorem dX1_mayStand_34 : decode cX1_mayStand 34 = .ok (.iload_n 2, 1) := by decide +kernel
theorem dX1_mayStand_35 : decode cX1_mayStand 35 = .ok (.ifCond .ne 5, 3) := by decide +kernel
theorem dX1_mayStand_38 : decode cX1_mayStand 38 = .ok (.iconst 1, 1) := by decide +kernel
theorem dX1_mayStand_39 : decode cX1_mayStand 39 = .ok (.ireturn, 1) := by decide +kernel
theorem dX1_mayStand_40 : decode cX1_mayStand 40 = .ok (.iload_n 2, 1) := by decide +kernel
theorem dX1_mayStand_41 : decode cX1_mayStand 41 = .ok (.iconst 1, 1) := by decide +kernel
theorem dX1_mayStand_42 : decode cX1_mayStand 42 = .ok (.iadd, 1) := by decide +kernel
theorem dX1_mayStand_43 : decode cX1_mayStand 43 = .ok (.aload_n 0, 1) := by decide +kernel
theorem dX1_mayStand_44 : decode cX1_mayStand 44 = .ok (.getfield 39, 3) := by decide +kernel
theorem dX1_mayStand_47 : decode cX1_mayStand 47 = .ok (.if_icmp .ne 7, 3) := by decide +kernel
theorem dX1_mayStand_50 : decode cX1_mayStand 50 = .ok (.iconst 1, 1) := by decide +kernel
theorem dX1_mayStand_51 : decode cX1_mayStand 51 = .ok (.goto 4, 3) := by decide +kernel
theorem dX1_mayStand_54 : decode cX1_mayStand 54 = .ok (.iconst 0, 1) := by decide +kernel
theorem dX1_mayStand_55 : decode cX1_mayStand 55 = .ok (.istore_n 3, 1) := by decide +kernel
theorem dX1_mayStand_56 : decode cX1_mayStand 56 = .ok (.aload_n 0, 1) := by decide +kernel
theorem dX1_mayStand_57 : decode cX1_mayStand 57 = .ok (.getfield 30, 3) := by decide +kernel
theorem dX1_mayStand_60 : decode cX1_mayStand 60 = .ok (.lookupswitch 97 #[(1, 28), (2, 48)], 28) := by decide +kernel
theorem dX1_mayStand_88 : decode cX1_mayStand 88 = .ok (.iload_n 3, 1) := by decide +kernel
theorem dX1_mayStand_89 : decode cX1_mayStand 89 = .ok (.ifCond .eq 13, 3) := by decide +kernel
theorem dX1_mayStand_92 : decode cX1_mayStand 92 = .ok (.iload_n 1, 1) := by decide +kernel
theorem dX1_mayStand_93 : decode cX1_mayStand 93 = .ok (.aload_n 0, 1) := by decide +kernel
theorem dX1_mayStand_94 : decode cX1_mayStand 94 = .ok (.getfield 42, 3) := by decide +kernel
theorem dX1_mayStand_97 : decode cX1_mayStand 97 = .ok (.iconst 0, 1) := by decide +kernel
theorem dX1_mayStand_98 : decode cX1_mayStand 98 = .ok (.iaload, 1) := by decide +kernel
theorem dX1_mayStand_99 : decode cX1_mayStand 99 = .ok (.if_icmp .le 7, 3) := by decide +kernel
theorem dX1_mayStand_102 : decode cX1_mayStand 102 = .ok (.iconst 1, 1) := by decide +kernel
theorem dX1_mayStand_103 : decode cX1_mayStand 103 = .ok (.goto 4, 3) := by decide +kernel
theorem dX1_mayStand_106 : decode cX1_mayStand 106 = .ok (.iconst 0, 1) := by decide +kernel
theorem dX1_mayStand_107 : decode cX1_mayStand 107 = .ok (.ireturn, 1) := by decide +kernel
theorem dX1_mayStand_108 : decode cX1_mayStand 108 = .ok (.iload_n 2, 1) := by decide +kernel
theorem dX1_mayStand_109 : decode cX1_mayStand 109 = .ok (.iconst 1, 1) := by decide +kernel
theorem dX1_mayStand_110 : decode cX1_mayStand 110 = .ok (.if_icmp .ne 29, 3) := by decide +kernel
theorem dX1_mayStand_113 : decode cX1_mayStand 113 = .ok (.aload_n 0, 1) := by decide +kernel
theorem dX1_mayStand_114 : decode cX1_mayStand 114 = .ok (.getfield 33, 3) := by decide +kernel
theorem dX1_mayStand_117 : decode cX1_mayStand 117 = .ok (.iconst 1, 1) := by decide +kernel
theorem dX1_mayStand_118 : decode cX1_mayStand 118 = .ok (.if_icmp .gt 13, 3) := by decide +kernel
theorem dX1_mayStand_121 : decode cX1_mayStand 121 = .ok (.iload_n 1, 1) := by decide +kernel
theorem dX1_mayStand_122 : decode cX1_mayStand 122 = .ok (.aload_n 0, 1) := by decide +kernel
theorem dX1_mayStand_123 : decode cX1_mayStand 123 = .ok (.getfield 42, 3) := by decide +kernel
theorem dX1_mayStand_126 : decode cX1_mayStand 126 = .ok (.iconst 0, 1) := by decide +kernel
theorem dX1_mayStand_127 : decode cX1_mayStand 127 = .ok (.iaload, 1) := by decide +kernel
theorem dX1_mayStand_128 : decode cX1_mayStand 128 = .ok (.if_icmp .le 7, 3) := by decide +kernel
theorem dX1_mayStand_131 : decode cX1_mayStand 131 = .ok (.iconst 1, 1) := by decide +kernel
theorem dX1_mayStand_132 : decode cX1_mayStand 132 = .ok (.goto 24, 3) := by decide +kernel
theorem dX1_mayStand_135 : decode cX1_mayStand 135 = .ok (.iconst 0, 1) := by decide +kernel
theorem dX1_mayStand_136 : decode cX1_mayStand 136 = .ok (.goto 20, 3) := by decide +kernel
theorem dX1_mayStand_139 : decode cX1_mayStand 139 = .ok (.iload_n 1, 1) := by decide +kernel
theorem dX1_mayStand_140 : decode cX1_mayStand 140 = .ok (.aload_n 0, 1) := by decide +kernel
theorem dX1_mayStand_141 : decode cX1_mayStand 141 = .ok (.getfield 42, 3) := by decide +kernel
theorem dX1_mayStand_144 : decode cX1_mayStand 144 = .ok (.iload_n 2, 1) := by decide +kernel
theorem dX1_mayStand_145 : decode cX1_mayStand 145 = .ok (.iconst 1, 1) := by decide +kernel
theorem dX1_mayStand_146 : decode cX1_mayStand 146 = .ok (.isub, 1) := by decide +kernel
theorem dX1_mayStand_147 : decode cX1_mayStand 147 = .ok (.iaload, 1) := by decide +kernel
theorem dX1_mayStand_148 : decode cX1_mayStand 148 = .ok (.if_icmp .le 7, 3) := by decide +kernel
theorem dX1_mayStand_151 : decode cX1_mayStand 151 = .ok (.iconst 1, 1) := by decide +kernel
theorem dX1_mayStand_152 : decode cX1_mayStand 152 = .ok (.goto 4, 3) := by decide +kernel
theorem dX1_mayStand_155 : decode cX1_mayStand 155 = .ok (.iconst 0, 1) := by decide +kernel
theorem dX1_mayStand_156 : decode cX1_mayStand 156 = .ok (.ireturn, 1) := by decide +kernel
theorem dX1_mayStand_157 : decode cX1_mayStand 157 = .ok (.iload_n 1, 1) := by decide +kernel
theorem dX1_mayStand_158 : decode cX1_mayStand 158 = .ok (.aload_n 0, 1) := by decide +kernel
theorem dX1_mayStand_159 : decode cX1_mayStand 159 = .ok (.getfield 42, 3) := by decide +kernel
theorem dX1_mayStand_162 : decode cX1_mayStand 162 = .ok (.iconst 0, 1) := by decide +kernel
theorem dX1_mayStand_163 : decode cX1_mayStand 163 = .ok (.iaload, 1) := by decide +kernel
theorem dX1_mayStand_164 : decode cX1_mayStand 164 = .ok (.if_icmp .le 21, 3) := by decide +kernel
theorem dX1_mayStand_167 : decode cX1_mayStand 167 = .ok (.iload_n 3, 1) := by decide +kernel
theorem dX1_mayStand_168 : decode cX1_mayStand 168 = .ok (.ifCond .eq 13, 3) := by decide +kernel
theorem dX1_mayStand_171 : decode cX1_mayStand 171 = .ok (.iload_n 1, 1) := by decide +kernel
theorem dX1_mayStand_172 : decode cX1_mayStand 172 = .ok (.aload_n 0, 1) := by decide +kernel
theorem dX1_mayStand_173 : decode cX1_mayStand 173 = .ok (.getfield 42, 3) := by decide +kernel
theorem dX1_mayStand_176 : decode cX1_mayStand 176 = .ok (.iconst 1, 1) := by decide +kernel
theorem dX1_mayStand_177 : decode cX1_mayStand 177 = .ok (.iaload, 1) := by decide +kernel
theorem dX1_mayStand_178 : decode cX1_mayStand 178 = .ok (.if_icmp .le 7, 3) := by decide +kernel
theorem dX1_mayStand_181 : decode cX1_mayStand 181 = .ok (.iconst 1, 1) := by decide +kernel
theorem dX1_mayStand_182 : decode cX1_mayStand 182 = .ok (.goto 4, 3) := by decide +kernel
theorem dX1_mayStand_185 : decode cX1_mayStand 185 = .ok (.iconst 0, 1) := by decide +kernel
theorem dX1_mayStand_186 : decode cX1_mayStand 186 = .ok (.ireturn, 1) := by decide +kernel
theorem dX1_linesBack_0 : decode cX1_linesBack 0 = .ok (.iload_n 2, 1) := by decide +kernel
theorem dX1_linesBack_1 : decode cX1_linesBack 1 = .ok (.iconst 1, 1) := by decide +kernel
theorem dX1_linesBack_2 : decode cX1_linesBack 2 = .ok (.if_icmp .lt 12, 3) := by decide +kernel
theorem dX1_linesBack_5 : decode cX1_linesBack 5 = .ok (.iload_n 2, 1) := by decide +kernel
theorem dX1_linesBack_6 : decode cX1_linesBack 6 = .ok (.aload_n 0, 1) := by decide +kernel
theorem dX1_linesBack_7 : decode cX1_linesBack 7 = .ok (.getfield 42, 3) := by decide +kernel
theorem dX1_linesBack_10 : decode cX1_linesBack 10 = .ok (.arraylength, 1) := by decide +kernel
theorem dX1_linesBack_11 : decode cX1_linesBack 11 = .ok (.if_icmp .lt 5, 3) := by decide +kernel
theorem dX1_linesBack_14 : decode cX1_linesBack 14 = .ok (.lconst 0, 1) := by decide +kernel
theorem dX1_linesBack_15 : decode cX1_linesBack 15 = .ok (.lreturn, 1) := by decide +kernel
theorem dX1_linesBack_16 : decode cX1_linesBack 16 = .ok (.aload_n 0, 1) := by decide +kernel
theorem dX1_linesBack_17 : decode cX1_linesBack 17 = .ok (.getfield 30, 3) := by decide +kernel
theorem dX1_linesBack_20 : decode cX1_linesBack 20 = .ok (.iconst 2, 1) := by decide +kernel
theorem dX1_linesBack_21 : decode cX1_linesBack 21 = .ok (.if_icmp .ne 7, 3) := by decide +kernel
theorem dX1_linesBack_24 : decode cX1_linesBack 24 = .ok (.iconst 0, 1) := by decide +kernel
theorem dX1_linesBack_25 : decode cX1_linesBack 25 = .ok (.goto 6, 3) := by decide +kernel
theorem dX1_linesBack_28 : decode cX1_linesBack 28 = .ok (.iload_n 2, 1) := by decide +kernel
theorem dX1_linesBack_29 : decode cX1_linesBack 29 = .ok (.iconst 1, 1) := by decide +kernel
theorem dX1_linesBack_30 : decode cX1_linesBack 30 = .ok (.isub, 1) := by decide +kernel
theorem dX1_linesBack_31 : decode cX1_linesBack 31 = .ok (.istore_n 3, 1) := by decide +kernel
theorem dX1_linesBack_32 : decode cX1_linesBack 32 = .ok (.lconst 1, 1) := by decide +kernel
theorem dX1_linesBack_33 : decode cX1_linesBack 33 = .ok (.aload_n 1, 1) := by decide +kernel
theorem dX1_linesBack_34 : decode cX1_linesBack 34 = .ok (.aload_n 0, 1) := by decide +kernel
theorem dX1_linesBack_35 : decode cX1_linesBack 35 = .ok (.getfield 42, 3) := by decide +kernel
theorem dX1_linesBack_38 : decode cX1_linesBack 38 = .ok (.iload_n 3, 1) := by decide +kernel
theorem dX1_linesBack_39 : decode cX1_linesBack 39 = .ok (.iaload, 1) := by decide +kernel
theorem dX1_linesBack_40 : decode cX1_linesBack 40 = .ok (.aload_n 0, 1) := by decide +kernel
theorem dX1_linesBack_41 : decode cX1_linesBack 41 = .ok (.getfield 42, 3) := by decide +kernel
theorem dX1_linesBack_44 : decode cX1_linesBack 44 = .ok (.iload_n 2, 1) := by decide +kernel
theorem dX1_linesBack_45 : decode cX1_linesBack 45 = .ok (.iaload, 1) := by decide +kernel
theorem dX1_linesBack_46 : decode cX1_linesBack 46 = .ok (.invokevirtual 78, 3) := by decide +kernel
theorem dX1_linesBack_49 : decode cX1_linesBack 49 = .ok (.lshl, 1) := by decide +kernel
theorem dX1_linesBack_50 : decode cX1_linesBack 50 = .ok (.lstore 4, 2) := by decide +kernel
theorem dX1_linesBack_52 : decode cX1_linesBack 52 = .ok (.aload_n 1, 1) := by decide +kernel
theorem dX1_linesBack_53 : decode cX1_linesBack 53 = .ok (.invokevirtual 82, 3) := by decide +kernel
theorem dX1_linesBack_56 : decode cX1_linesBack 56 = .ok (.ifCond .eq 36, 3) := by decide +kernel
theorem dX1_linesBack_59 : decode cX1_linesBack 59 = .ok (.iload_n 2, 1) := by decide +kernel
theorem dX1_linesBack_60 : decode cX1_linesBack 60 = .ok (.iconst 1, 1) := by decide +kernel
theorem dX1_linesBack_61 : decode cX1_linesBack 61 = .ok (.iadd, 1) := by decide +kernel
theorem dX1_linesBack_62 : decode cX1_linesBack 62 = .ok (.aload_n 0, 1) := by decide +kernel
theorem dX1_linesBack_63 : decode cX1_linesBack 63 = .ok (.getfield 39, 3) := by decide +kernel
theorem dX1_linesBack_66 : decode cX1_linesBack 66 = .ok (.if_icmp .ne 26, 3) := by decide +kernel
theorem dX1_linesBack_69 : decode cX1_linesBack 69 = .ok (.lload 4, 2) := by decide +kernel
theorem dX1_linesBack_71 : decode cX1_linesBack 71 = .ok (.lconst 1, 1) := by decide +kernel
theorem dX1_linesBack_72 : decode cX1_linesBack 72 = .ok (.aload_n 1, 1) := by decide +kernel
theorem dX1_linesBack_73 : decode cX1_linesBack 73 = .ok (.aload_n 0, 1) := by decide +kernel
theorem dX1_linesBack_74 : decode cX1_linesBack 74 = .ok (.getfield 42, 3) := by decide +kernel
theorem dX1_linesBack_77 : decode cX1_linesBack 77 = .ok (.iconst 0, 1) := by decide +kernel
theorem dX1_linesBack_78 : decode cX1_linesBack 78 = .ok (.iaload, 1) := by decide +kernel
theorem dX1_linesBack_79 : decode cX1_linesBack 79 = .ok (.aload_n 0, 1) := by decide +kernel
theorem dX1_linesBack_80 : decode cX1_linesBack 80 = .ok (.getfield 42, 3) := by decide +kernel
theorem dX1_linesBack_83 : decode cX1_linesBack 83 = .ok (.iload_n 2, 1) := by decide +kernel
theorem dX1_linesBack_84 : decode cX1_linesBack 84 = .ok (.iaload, 1) := by decide +kernel
theorem dX1_linesBack_85 : decode cX1_linesBack 85 = .ok (.invokevirtual 78, 3) := by decide +kernel
theorem dX1_linesBack_88 : decode cX1_linesBack 88 = .ok (.lshl, 1) := by decide +kernel
theorem dX1_linesBack_89 : decode cX1_linesBack 89 = .ok (.lor, 1) := by decide +kernel
theorem dX1_linesBack_90 : decode cX1_linesBack 90 = .ok (.lstore 4, 2) := by decide +kernel
theorem dX1_linesBack_92 : decode cX1_linesBack 92 = .ok (.lload 4, 2) := by decide +kernel
theorem dX1_linesBack_94 : decode cX1_linesBack 94 = .ok (.lreturn, 1) := by decide +kernel
theorem dX1_add_0 : decode cX1_add 0 = .ok (.aload_n 0, 1) := by decide +kernel
theorem dX1_add_1 : decode cX1_add 1 = .ok (.getfield 9, 3) := by decide +kernel
theorem dX1_add_4 : decode cX1_add 4 = .ok (.aload_n 0, 1) := by decide +kernel
theorem dX1_add_5 : decode cX1_add 5 = .ok (.getfield 15, 3) := by decide +kernel
theorem dX1_add_8 : decode cX1_add 8 = .ok (.arraylength, 1) := by decide +kernel
theorem dX1_add_9 : decode cX1_add 9 = .ok (.if_icmp .ne 31, 3) := by decide +kernel
theorem dX1_add_12 : decode cX1_add 12 = .ok (.aload_n 0, 1) := by decide +kernel
theorem dX1_add_13 : decode cX1_add 13 = .ok (.aload_n 0, 1) := by decide +kernel
theorem dX1_add_14 : decode cX1_add 14 = .ok (.getfield 15, 3) := by decide +kernel
theorem dX1_add_17 : decode cX1_add 17 = .ok (.sipush 27720, 3) := by decide +kernel
theorem dX1_add_20 : decode cX1_add 20 = .ok (.bipush 32, 2) := by decide +kernel
theorem dX1_add_22 : decode cX1_add 22 = .ok (.iconst 2, 1) := by decide +kernel
theorem dX1_add_23 : decode cX1_add 23 = .ok (.aload_n 0, 1) := by decide +kernel
theorem dX1_add_24 : decode cX1_add 24 = .ok (.getfield 9, 3) := by decide +kernel
theorem dX1_add_27 : decode cX1_add 27 = .ok (.imul, 1) := by decide +kernel
theorem dX1_add_28 : decode cX1_add 28 = .ok (.invokestatic 86, 3) := by decide +kernel
theorem dX1_add_31 : decode cX1_add 31 = .ok (.invokestatic 91, 3) := by decide +kernel
theorem dX1_add_34 : decode cX1_add 34 = .ok (.invokestatic 94, 3) := by decide +kernel
theorem dX1_add_37 : decode cX1_add 37 = .ok (.putfield 15, 3) := by decide +kernel
theorem dX1_add_40 : decode cX1_add 40 = .ok (.aload_n 0, 1) := by decide +kernel
theorem dX1_add_41 : decode cX1_add 41 = .ok (.getfield 9, 3) := by decide +kernel
theorem dX1_add_44 : decode cX1_add 44 = .ok (.ifCond .lt 35, 3) := by decide +kernel
theorem dX1_add_47 : decode cX1_add 47 = .ok (.aload_n 0, 1) := by decide +kernel
theorem dX1_add_48 : decode cX1_add 48 = .ok (.getfield 9, 3) := by decide +kernel
theorem dX1_add_51 : decode cX1_add 51 = .ok (.aload_n 0, 1) := by decide +kernel
theorem dX1_add_52 : decode cX1_add 52 = .ok (.getfield 15, 3) := by decide +kernel
theorem dX1_add_55 : decode cX1_add 55 = .ok (.arraylength, 1) := by decide +kernel
theorem dX1_add_56 : decode cX1_add 56 = .ok (.if_icmp .ge 23, 3) := by decide +kernel
theorem dX1_add_59 : decode cX1_add 59 = .ok (.aload_n 0, 1) := by decide +kernel
theorem dX1_add_60 : decode cX1_add 60 = .ok (.getfield 15, 3) := by decide +kernel
theorem dX1_add_63 : decode cX1_add 63 = .ok (.aload_n 0, 1) := by decide +kernel
theorem dX1_add_64 : decode cX1_add 64 = .ok (.getfield 9, 3) := by decide +kernel
theorem dX1_add_67 : decode cX1_add 67 = .ok (.lload_n 1, 1) := by decide +kernel
theorem dX1_add_68 : decode cX1_add 68 = .ok (.lastore, 1) := by decide +kernel
theorem dX1_add_69 : decode cX1_add 69 = .ok (.aload_n 0, 1) := by decide +kernel
theorem dX1_add_70 : decode cX1_add 70 = .ok (.dup, 1) := by decide +kernel
theorem dX1_add_71 : decode cX1_add 71 = .ok (.getfield 9, 3) := by decide +kernel
theorem dX1_add_74 : decode cX1_add 74 = .ok (.iconst 1, 1) := by decide +kernel
theorem dX1_add_75 : decode cX1_add 75 = .ok (.iadd, 1) := by decide +kernel
theorem dX1_add_76 : decode cX1_add 76 = .ok (.putfield 9, 3) := by decide +kernel
theorem dX1_add_79 : decode cX1_add 79 = .ok (.return_, 1) := by decide +kernel
theorem dX1_comesFirst_0 : decode cX1_comesFirst 0 = .ok (.lload_n 0, 1) := by decide +kernel
theorem dX1_comesFirst_1 : decode cX1_comesFirst 1 = .ok (.lload_n 2, 1) := by decide +kernel
theorem dX1_comesFirst_2 : decode cX1_comesFirst 2 = .ok (.lxor, 1) := by decide +kernel
theorem dX1_comesFirst_3 : decode cX1_comesFirst 3 = .ok (.lstore 4, 2) := by decide +kernel
theorem dX1_comesFirst_5 : decode cX1_comesFirst 5 = .ok (.lload_n 0, 1) := by decide +kernel
theorem dX1_comesFirst_6 : decode cX1_comesFirst 6 = .ok (.lload 4, 2) := by decide +kernel
theorem dX1_comesFirst_8 : decode cX1_comesFirst 8 = .ok (.land, 1) := by decide +kernel
theorem dX1_comesFirst_9 : decode cX1_comesFirst 9 = .ok (.lload 4, 2) := by decide +kernel
theorem dX1_comesFirst_11 : decode cX1_comesFirst 11 = .ok (.lneg, 1) := by decide +kernel
theorem dX1_comesFirst_12 : decode cX1_comesFirst 12 = .ok (.land, 1) := by decide +kernel
theorem dX1_comesFirst_13 : decode cX1_comesFirst 13 = .ok (.lconst 0, 1) := by decide +kernel
theorem dX1_comesFirst_14 : decode cX1_comesFirst 14 = .ok (.lcmp, 1) := by decide +kernel
theorem dX1_comesFirst_15 : decode cX1_comesFirst 15 = .ok (.ifCond .eq 7, 3) := by decide +kernel
theorem dX1_comesFirst_18 : decode cX1_comesFirst 18 = .ok (.iconst 1, 1) := by decide +kernel
theorem dX1_comesFirst_19 : decode cX1_comesFirst 19 = .ok (.goto 4, 3) := by decide +kernel
theorem dX1_comesFirst_22 : decode cX1_comesFirst 22 = .ok (.iconst 0, 1) := by decide +kernel
theorem dX1_comesFirst_23 : decode cX1_comesFirst 23 = .ok (.ireturn, 1) := by decide +kernel
theorem dX1_sort_0 : decode cX1_sort 0 = .ok (.aload_n 0, 1) := by decide +kernel
theorem dX1_sort_1 : decode cX1_sort 1 = .ok (.getfield 9, 3) := by decide +kernel
theorem dX1_sort_4 : decode cX1_sort 4 = .ok (.iconst 2, 1) := by decide +kernel
theorem dX1_sort_5 : decode cX1_sort 5 = .ok (.idiv, 1) := by decide +kernel
theorem dX1_sort_6 : decode cX1_sort 6 = .ok (.iconst 1, 1) := by decide +kernel
theorem dX1_sort_7 : decode cX1_sort 7 = .ok (.isub, 1) := by decide +kernel
theorem dX1_sort_8 : decode cX1_sort 8 = .ok (.istore_n 1, 1) := by decide +kernel
theorem dX1_sort_9 : decode cX1_sort 9 = .ok (.iload_n 1, 1) := by decide +kernel
theorem dX1_sort_10 : decode cX1_sort 10 = .ok (.ifCond .lt 18, 3) := by decide +kernel
theorem dX1_sort_13 : decode cX1_sort 13 = .ok (.aload_n 0, 1) := by decide +kernel
theorem dX1_sort_14 : decode cX1_sort 14 = .ok (.iload_n 1, 1) := by decide +kernel
theorem dX1_sort_15 : decode cX1_sort 15 = .ok (.aload_n 0, 1) := by decide +kernel
theorem dX1_sort_16 : decode cX1_sort 16 = .ok (.getfield 9, 3) := by decide +kernel
theorem dX1_sort_19 : decode cX1_sort 19 = .ok (.invokevirtual 100, 3) := by decide +kernel
theorem dX1_sort_22 : decode cX1_sort 22 = .ok (.iinc 1 (-1), 3) := by decide +kernel
theorem dX1_sort_25 : decode cX1_sort 25 = .ok (.goto (-16), 3) := by decide +kernel
theorem dX1_sort_28 : decode cX1_sort 28 = .ok (.aload_n 0, 1) := by decide +kernel
theorem dX1_sort_29 : decode cX1_sort 29 = .ok (.getfield 9, 3) := by decide +kernel
theorem dX1_sort_32 : decode cX1_sort 32 = .ok (.iconst 1, 1) := by decide +kernel
theorem dX1_sort_33 : decode cX1_sort 33 = .ok (.isub, 1) := by decide +kernel
theorem dX1_sort_34 : decode cX1_sort 34 = .ok (.istore_n 1, 1) := by decide +kernel
theorem dX1_sort_35 : decode cX1_sort 35 = .ok (.iload_n 1, 1) := by decide +kernel
theorem dX1_sort_36 : decode cX1_sort 36 = .ok (.ifCond .le 50, 3) := by decide +kernel
theorem dX1_sort_39 : decode cX1_sort 39 = .ok (.iload_n 1, 1) := by decide +kernel
theorem dX1_sort_40 : decode cX1_sort 40 = .ok (.aload_n 0, 1) := by decide +kernel
theorem dX1_sort_41 : decode cX1_sort 41 = .ok (.getfield 15, 3) := by decide +kernel
theorem dX1_sort_44 : decode cX1_sort 44 = .ok (.arraylength, 1) := by decide +kernel
theorem dX1_sort_45 : decode cX1_sort 45 = .ok (.if_icmp .ge 35, 3) := by decide +kernel
theorem dX1_sort_48 : decode cX1_sort 48 = .ok (.aload_n 0, 1) := by decide +kernel
theorem dX1_sort_49 : decode cX1_sort 49 = .ok (.getfield 15, 3) := by decide +kernel
theorem dX1_sort_52 : decode cX1_sort 52 = .ok (.iconst 0, 1) := by decide +kernel
theorem dX1_sort_53 : decode cX1_sort 53 = .ok (.laload, 1) := by decide +kernel
theorem dX1_sort_54 : decode cX1_sort 54 = .ok (.lstore_n 2, 1) := by decide +kernel
theorem dX1_sort_55 : decode cX1_sort 55 = .ok (.aload_n 0, 1) := by decide +kernel
theorem dX1_sort_56 : decode cX1_sort 56 = .ok (.getfield 15, 3) := by decide +kernel
theorem dX1_sort_59 : decode cX1_sort 59 = .ok (.iconst 0, 1) := by decide +kernel
theorem dX1_sort_60 : decode cX1_sort 60 = .ok (.aload_n 0, 1) := by decide +kernel
theorem dX1_sort_61 : decode cX1_sort 61 = .ok (.getfield 15, 3) := by decide +kernel
theorem dX1_sort_64 : decode cX1_sort 64 = .ok (.iload_n 1, 1) := by decide +kernel
theorem dX1_sort_65 : decode cX1_sort 65 = .ok (.laload, 1) := by decide +kernel
theorem dX1_sort_66 : decode cX1_sort 66 = .ok (.lastore, 1) := by decide +kernel
theorem dX1_sort_67 : decode cX1_sort 67 = .ok (.aload_n 0, 1) := by decide +kernel
theorem dX1_sort_68 : decode cX1_sort 68 = .ok (.getfield 15, 3) := by decide +kernel
theorem dX1_sort_71 : decode cX1_sort 71 = .ok (.iload_n 1, 1) := by decide +kernel
theorem dX1_sort_72 : decode cX1_sort 72 = .ok (.lload_n 2, 1) := by decide +kernel
theorem dX1_sort_73 : decode cX1_sort 73 = .ok (.lastore, 1) := by decide +kernel
theorem dX1_sort_74 : decode cX1_sort 74 = .ok (.aload_n 0, 1) := by decide +kernel
theorem dX1_sort_75 : decode cX1_sort 75 = .ok (.iconst 0, 1) := by decide +kernel
theorem dX1_sort_76 : decode cX1_sort 76 = .ok (.iload_n 1, 1) := by decide +kernel
theorem dX1_sort_77 : decode cX1_sort 77 = .ok (.invokevirtual 100, 3) := by decide +kernel
theorem dX1_sort_80 : decode cX1_sort 80 = .ok (.iinc 1 (-1), 3) := by decide +kernel
theorem dX1_sort_83 : decode cX1_sort 83 = .ok (.goto (-48), 3) := by decide +kernel
theorem dX1_sort_86 : decode cX1_sort 86 = .ok (.return_, 1) := by decide +kernel
theorem dX1_sink_0 : decode cX1_sink 0 = .ok (.iload_n 1, 1) := by decide +kernel
theorem dX1_sink_1 : decode cX1_sink 1 = .ok (.ifCond .lt 17, 3) := by decide +kernel
theorem dX1_sink_4 : decode cX1_sink 4 = .ok (.iload_n 1, 1) := by decide +kernel
theorem dX1_sink_5 : decode cX1_sink 5 = .ok (.iload_n 2, 1) := by decide +kernel
theorem dX1_sink_6 : decode cX1_sink 6 = .ok (.if_icmp .ge 12, 3) := by decide +kernel
theorem dX1_sink_9 : decode cX1_sink 9 = .ok (.iload_n 2, 1) := by decide +kernel
theorem dX1_sink_10 : decode cX1_sink 10 = .ok (.aload_n 0, 1) := by decide +kernel
theorem dX1_sink_11 : decode cX1_sink 11 = .ok (.getfield 15, 3) := by decide +kernel
theorem dX1_sink_14 : decode cX1_sink 14 = .ok (.arraylength, 1) := by decide +kernel
theorem dX1_sink_15 : decode cX1_sink 15 = .ok (.if_icmp .le 4, 3) := by decide +kernel
theorem dX1_sink_18 : decode cX1_sink 18 = .ok (.return_, 1) := by decide +kernel
theorem dX1_sink_19 : decode cX1_sink 19 = .ok (.aload_n 0, 1) := by decide +kernel
theorem dX1_sink_20 : decode cX1_sink 20 = .ok (.getfield 15, 3) := by decide +kernel
theorem dX1_sink_23 : decode cX1_sink 23 = .ok (.iload_n 1, 1) := by decide +kernel
theorem dX1_sink_24 : decode cX1_sink 24 = .ok (.laload, 1) := by decide +kernel
theorem dX1_sink_25 : decode cX1_sink 25 = .ok (.lstore_n 3, 1) := by decide +kernel
theorem dX1_sink_26 : decode cX1_sink 26 = .ok (.iload_n 1, 1) := by decide +kernel
theorem dX1_sink_27 : decode cX1_sink 27 = .ok (.istore 5, 2) := by decide +kernel
theorem dX1_sink_29 : decode cX1_sink 29 = .ok (.iconst 2, 1) := by decide +kernel
theorem dX1_sink_30 : decode cX1_sink 30 = .ok (.iload_n 1, 1) := by decide +kernel
theorem dX1_sink_31 : decode cX1_sink 31 = .ok (.imul, 1) := by decide +kernel
theorem dX1_sink_32 : decode cX1_sink 32 = .ok (.iconst 1, 1) := by decide +kernel
theorem dX1_sink_33 : decode cX1_sink 33 = .ok (.iadd, 1) := by decide +kernel
theorem dX1_sink_34 : decode cX1_sink 34 = .ok (.istore 6, 2) := by decide +kernel
theorem dX1_sink_36 : decode cX1_sink 36 = .ok (.iload 6, 2) := by decide +kernel
theorem dX1_sink_38 : decode cX1_sink 38 = .ok (.iload_n 2, 1) := by decide +kernel
theorem dX1_sink_39 : decode cX1_sink 39 = .ok (.if_icmp .ge 82, 3) := by decide +kernel
theorem dX1_sink_42 : decode cX1_sink 42 = .ok (.iload 6, 2) := by decide +kernel
theorem dX1_sink_44 : decode cX1_sink 44 = .ok (.iconst 1, 1) := by decide +kernel
theorem dX1_sink_45 : decode cX1_sink 45 = .ok (.iadd, 1) := by decide +kernel
theorem dX1_sink_46 : decode cX1_sink 46 = .ok (.iload_n 2, 1) := by decide +kernel
theorem dX1_sink_47 : decode cX1_sink 47 = .ok (.if_icmp .ge 28, 3) := by decide +kernel
theorem dX1_sink_50 : decode cX1_sink 50 = .ok (.aload_n 0, 1) := by decide +kernel
theorem dX1_sink_51 : decode cX1_sink 51 = .ok (.getfield 15, 3) := by decide +kernel
theorem dX1_sink_54 : decode cX1_sink 54 = .ok (.iload 6, 2) := by decide +kernel
theorem dX1_sink_56 : decode cX1_sink 56 = .ok (.laload, 1) := by decide +kernel
theorem dX1_sink_57 : decode cX1_sink 57 = .ok (.aload_n 0, 1) := by decide +kernel
theorem dX1_sink_58 : decode cX1_sink 58 = .ok (.getfield 15, 3) := by decide +kernel
theorem dX1_sink_61 : decode cX1_sink 61 = .ok (.iload 6, 2) := by decide +kernel
theorem dX1_sink_63 : decode cX1_sink 63 = .ok (.iconst 1, 1) := by decide +kernel
theorem dX1_sink_64 : decode cX1_sink 64 = .ok (.iadd, 1) := by decide +kernel
theorem dX1_sink_65 : decode cX1_sink 65 = .ok (.laload, 1) := by decide +kernel
theorem dX1_sink_66 : decode cX1_sink 66 = .ok (.invokestatic 104, 3) := by decide +kernel
theorem dX1_sink_69 : decode cX1_sink 69 = .ok (.ifCond .eq 6, 3) := by decide +kernel
theorem dX1_sink_72 : decode cX1_sink 72 = .ok (.iinc 6 1, 3) := by decide +kernel
theorem dX1_sink_75 : decode cX1_sink 75 = .ok (.lload_n 3, 1) := by decide +kernel
theorem dX1_sink_76 : decode cX1_sink 76 = .ok (.aload_n 0, 1) := by decide +kernel
theorem dX1_sink_77 : decode cX1_sink 77 = .ok (.getfield 15, 3) := by decide +kernel
theorem dX1_sink_80 : decode cX1_sink 80 = .ok (.iload 6, 2) := by decide +kernel
theorem dX1_sink_82 : decode cX1_sink 82 = .ok (.laload, 1) := by decide +kernel
theorem dX1_sink_83 : decode cX1_sink 83 = .ok (.invokestatic 104, 3) := by decide +kernel
theorem dX1_sink_86 : decode cX1_sink 86 = .ok (.ifCond .ne 6, 3) := by decide +kernel
theorem dX1_sink_89 : decode cX1_sink 89 = .ok (.goto 32, 3) := by decide +kernel
theorem dX1_sink_92 : decode cX1_sink 92 = .ok (.aload_n 0, 1) := by decide +kernel
theorem dX1_sink_93 : decode cX1_sink 93 = .ok (.getfield 15, 3) := by decide +kernel
theorem dX1_sink_96 : decode cX1_sink 96 = .ok (.iload 5, 2) := by decide +kernel
theorem dX1_sink_98 : decode cX1_sink 98 = .ok (.aload_n 0, 1) := by decide +kernel
theorem dX1_sink_99 : decode cX1_sink 99 = .ok (.getfield 15, 3) := by decide +kernel
theorem dX1_sink_102 : decode cX1_sink 102 = .ok (.iload 6, 2) := by decide +kernel
theorem dX1_sink_104 : decode cX1_sink 104 = .ok (.laload, 1) := by decide +kernel
theorem dX1_sink_105 : decode cX1_sink 105 = .ok (.lastore, 1) := by decide +kernel
theorem dX1_sink_106 : decode cX1_sink 106 = .ok (.iload 6, 2) := by decide +kernel
theorem dX1_sink_108 : decode cX1_sink 108 = .ok (.istore 5, 2) := by decide +kernel
theorem dX1_sink_110 : decode cX1_sink 110 = .ok (.iconst 2, 1) := by decide +kernel
theorem dX1_sink_111 : decode cX1_sink 111 = .ok (.iload 6, 2) := by decide +kernel
theorem dX1_sink_113 : decode cX1_sink 113 = .ok (.imul, 1) := by decide +kernel
theorem dX1_sink_114 : decode cX1_sink 114 = .ok (.iconst 1, 1) := by decide +kernel
theorem dX1_sink_115 : decode cX1_sink 115 = .ok (.iadd, 1) := by decide +kernel
theorem dX1_sink_116 : decode cX1_sink 116 = .ok (.istore 6, 2) := by decide +kernel
theorem dX1_sink_118 : decode cX1_sink 118 = .ok (.goto (-82), 3) := by decide +kernel
theorem dX1_sink_121 : decode cX1_sink 121 = .ok (.aload_n 0, 1) := by decide +kernel
theorem dX1_sink_122 : decode cX1_sink 122 = .ok (.getfield 15, 3) := by decide +kernel
theorem dX1_sink_125 : decode cX1_sink 125 = .ok (.iload 5, 2) := by decide +kernel
theorem dX1_sink_127 : decode cX1_sink 127 = .ok (.lload_n 3, 1) := by decide +kernel
theorem dX1_sink_128 : decode cX1_sink 128 = .ok (.lastore, 1) := by decide +kernel
theorem dX1_sink_129 : decode cX1_sink 129 = .ok (.return_, 1) := by decide +kernel
theorem dX1_markStarts_0 : decode cX1_markStarts 0 = .ok (.iconst 0, 1) := by decide +kernel
theorem dX1_markStarts_1 : decode cX1_markStarts 1 = .ok (.istore_n 1, 1) := by decide +kernel
theorem dX1_markStarts_2 : decode cX1_markStarts 2 = .ok (.iconst 0, 1) := by decide +kernel
theorem dX1_markStarts_3 : decode cX1_markStarts 3 = .ok (.istore_n 2, 1) := by decide +kernel
theorem dX1_markStarts_4 : decode cX1_markStarts 4 = .ok (.iload_n 2, 1) := by decide +kernel
theorem dX1_markStarts_5 : decode cX1_markStarts 5 = .ok (.aload_n 0, 1) := by decide +kernel
theorem dX1_markStarts_6 : decode cX1_markStarts 6 = .ok (.getfield 19, 3) := by decide +kernel
theorem dX1_markStarts_9 : decode cX1_markStarts 9 = .ok (.arraylength, 1) := by decide +kernel
theorem dX1_markStarts_10 : decode cX1_markStarts 10 = .ok (.if_icmp .ge 52, 3) := by decide +kernel
theorem dX1_markStarts_13 : decode cX1_markStarts 13 = .ok (.iload_n 1, 1) := by decide +kernel
theorem dX1_markStarts_14 : decode cX1_markStarts 14 = .ok (.aload_n 0, 1) := by decide +kernel
theorem dX1_markStarts_15 : decode cX1_markStarts 15 = .ok (.getfield 9, 3) := by decide +kernel
theorem dX1_markStarts_18 : decode cX1_markStarts 18 = .ok (.if_icmp .ge 31, 3) := by decide +kernel
theorem dX1_markStarts_21 : decode cX1_markStarts 21 = .ok (.iload_n 1, 1) := by decide +kernel
theorem dX1_markStarts_22 : decode cX1_markStarts 22 = .ok (.aload_n 0, 1) := by decide +kernel
theorem dX1_markStarts_23 : decode cX1_markStarts 23 = .ok (.getfield 15, 3) := by decide +kernel
theorem dX1_markStarts_26 : decode cX1_markStarts 26 = .ok (.arraylength, 1) := by decide +kernel
theorem dX1_markStarts_27 : decode cX1_markStarts 27 = .ok (.if_icmp .ge 22, 3) := by decide +kernel
theorem dX1_markStarts_30 : decode cX1_markStarts 30 = .ok (.aload_n 0, 1) := by decide +kernel
theorem dX1_markStarts_31 : decode cX1_markStarts 31 = .ok (.getfield 15, 3) := by decide +kernel
theorem dX1_markStarts_34 : decode cX1_markStarts 34 = .ok (.iload_n 1, 1) := by decide +kernel
theorem dX1_markStarts_35 : decode cX1_markStarts 35 = .ok (.laload, 1) := by decide +kernel
theorem dX1_markStarts_36 : decode cX1_markStarts 36 = .ok (.invokestatic 108, 3) := by decide +kernel
theorem dX1_markStarts_39 : decode cX1_markStarts 39 = .ok (.iload_n 2, 1) := by decide +kernel
theorem dX1_markStarts_40 : decode cX1_markStarts 40 = .ok (.if_icmp .ge 9, 3) := by decide +kernel
theorem dX1_markStarts_43 : decode cX1_markStarts 43 = .ok (.iinc 1 1, 3) := by decide +kernel
theorem dX1_markStarts_46 : decode cX1_markStarts 46 = .ok (.goto (-33), 3) := by decide +kernel
theorem dX1_markStarts_49 : decode cX1_markStarts 49 = .ok (.aload_n 0, 1) := by decide +kernel
theorem dX1_markStarts_50 : decode cX1_markStarts 50 = .ok (.getfield 19, 3) := by decide +kernel
theorem dX1_markStarts_53 : decode cX1_markStarts 53 = .ok (.iload_n 2, 1) := by decide +kernel
theorem dX1_markStarts_54 : decode cX1_markStarts 54 = .ok (.iload_n 1, 1) := by decide +kernel
theorem dX1_markStarts_55 : decode cX1_markStarts 55 = .ok (.iastore, 1) := by decide +kernel
theorem dX1_markStarts_56 : decode cX1_markStarts 56 = .ok (.iinc 2 1, 3) := by decide +kernel
theorem dX1_markStarts_59 : decode cX1_markStarts 59 = .ok (.goto (-55), 3) := by decide +kernel
theorem dX1_markStarts_62 : decode cX1_markStarts 62 = .ok (.return_, 1) := by decide +kernel
theorem dX1_countWithin_0 : decode cX1_countWithin 0 = .ok (.iconst 0, 1) := by decide +kernel
theorem dX1_countWithin_1 : decode cX1_countWithin 1 = .ok (.istore_n 3, 1) := by decide +kernel
theorem dX1_countWithin_2 : decode cX1_countWithin 2 = .ok (.iconst 0, 1) := by decide +kernel
theorem dX1_countWithin_3 : decode cX1_countWithin 3 = .ok (.istore 4, 2) := by decide +kernel
theorem dX1_countWithin_5 : decode cX1_countWithin 5 = .ok (.iload 4, 2) := by decide +kernel
theorem dX1_countWithin_7 : decode cX1_countWithin 7 = .ok (.aload_n 0, 1) := by decide +kernel
theorem dX1_countWithin_8 : decode cX1_countWithin 8 = .ok (.getfield 9, 3) := by decide +kernel
theorem dX1_countWithin_11 : decode cX1_countWithin 11 = .ok (.if_icmp .ge 40, 3) := by decide +kernel
theorem dX1_countWithin_14 : decode cX1_countWithin 14 = .ok (.iload 4, 2) := by decide +kernel
theorem dX1_countWithin_16 : decode cX1_countWithin 16 = .ok (.aload_n 0, 1) := by decide +kernel
theorem dX1_countWithin_17 : decode cX1_countWithin 17 = .ok (.getfield 15, 3) := by decide +kernel
theorem dX1_countWithin_20 : decode cX1_countWithin 20 = .ok (.arraylength, 1) := by decide +kernel
theorem dX1_countWithin_21 : decode cX1_countWithin 21 = .ok (.if_icmp .ge 30, 3) := by decide +kernel
theorem dX1_countWithin_24 : decode cX1_countWithin 24 = .ok (.aload_n 0, 1) := by decide +kernel
theorem dX1_countWithin_25 : decode cX1_countWithin 25 = .ok (.getfield 15, 3) := by decide +kernel
theorem dX1_countWithin_28 : decode cX1_countWithin 28 = .ok (.iload 4, 2) := by decide +kernel
theorem dX1_countWithin_30 : decode cX1_countWithin 30 = .ok (.laload, 1) := by decide +kernel
theorem dX1_countWithin_31 : decode cX1_countWithin 31 = .ok (.lload_n 1, 1) := by decide +kernel
theorem dX1_countWithin_32 : decode cX1_countWithin 32 = .ok (.ldc2_w 76, 3) := by decide +kernel
theorem dX1_countWithin_35 : decode cX1_countWithin 35 = .ok (.lxor, 1) := by decide +kernel
theorem dX1_countWithin_36 : decode cX1_countWithin 36 = .ok (.land, 1) := by decide +kernel
theorem dX1_countWithin_37 : decode cX1_countWithin 37 = .ok (.lconst 0, 1) := by decide +kernel
theorem dX1_countWithin_38 : decode cX1_countWithin 38 = .ok (.lcmp, 1) := by decide +kernel
theorem dX1_countWithin_39 : decode cX1_countWithin 39 = .ok (.ifCond .ne 6, 3) := by decide +kernel
theorem dX1_countWithin_42 : decode cX1_countWithin 42 = .ok (.iinc 3 1, 3) := by decide +kernel
theorem dX1_countWithin_45 : decode cX1_countWithin 45 = .ok (.iinc 4 1, 3) := by decide +kernel
theorem dX1_countWithin_48 : decode cX1_countWithin 48 = .ok (.goto (-43), 3) := by decide +kernel
theorem dX1_countWithin_51 : decode cX1_countWithin 51 = .ok (.iload_n 3, 1) := by decide +kernel
theorem dX1_countWithin_52 : decode cX1_countWithin 52 = .ok (.ireturn, 1) := by decide +kernel
theorem dX1_within_0 : decode cX1_within 0 = .ok (.iconst 0, 1) := by decide +kernel
theorem dX1_within_1 : decode cX1_within 1 = .ok (.istore 4, 2) := by decide +kernel
theorem dX1_within_3 : decode cX1_within 3 = .ok (.iconst 0, 1) := by decide +kernel
theorem dX1_within_4 : decode cX1_within 4 = .ok (.istore 5, 2) := by decide +kernel
theorem dX1_within_6 : decode cX1_within 6 = .ok (.iload 5, 2) := by decide +kernel
theorem dX1_within_8 : decode cX1_within 8 = .ok (.aload_n 0, 1) := by decide +kernel
theorem dX1_within_9 : decode cX1_within 9 = .ok (.getfield 9, 3) := by decide +kernel
theorem dX1_within_12 : decode cX1_within 12 = .ok (.if_icmp .ge 54, 3) := by decide +kernel
theorem dX1_within_15 : decode cX1_within 15 = .ok (.iload 5, 2) := by decide +kernel
theorem dX1_within_17 : decode cX1_within 17 = .ok (.aload_n 0, 1) := by decide +kernel
theorem dX1_within_18 : decode cX1_within 18 = .ok (.getfield 15, 3) := by decide +kernel
theorem dX1_within_21 : decode cX1_within 21 = .ok (.arraylength, 1) := by decide +kernel
theorem dX1_within_22 : decode cX1_within 22 = .ok (.if_icmp .ge 44, 3) := by decide +kernel
theorem dX1_within_25 : decode cX1_within 25 = .ok (.aload_n 0, 1) := by decide +kernel
theorem dX1_within_26 : decode cX1_within 26 = .ok (.getfield 15, 3) := by decide +kernel
theorem dX1_within_29 : decode cX1_within 29 = .ok (.iload 5, 2) := by decide +kernel
theorem dX1_within_31 : decode cX1_within 31 = .ok (.laload, 1) := by decide +kernel
theorem dX1_within_32 : decode cX1_within 32 = .ok (.lload_n 1, 1) := by decide +kernel
theorem dX1_within_33 : decode cX1_within 33 = .ok (.ldc2_w 76, 3) := by decide +kernel
theorem dX1_within_36 : decode cX1_within 36 = .ok (.lxor, 1) := by decide +kernel
theorem dX1_within_37 : decode cX1_within 37 = .ok (.land, 1) := by decide +kernel
theorem dX1_within_38 : decode cX1_within 38 = .ok (.lconst 0, 1) := by decide +kernel
theorem dX1_within_39 : decode cX1_within 39 = .ok (.lcmp, 1) := by decide +kernel
theorem dX1_within_40 : decode cX1_within 40 = .ok (.ifCond .ne 20, 3) := by decide +kernel
theorem dX1_within_43 : decode cX1_within 43 = .ok (.iload 4, 2) := by decide +kernel
theorem dX1_within_45 : decode cX1_within 45 = .ok (.iload_n 3, 1) := by decide +kernel
theorem dX1_within_46 : decode cX1_within 46 = .ok (.if_icmp .ne 11, 3) := by decide +kernel
theorem dX1_within_49 : decode cX1_within 49 = .ok (.aload_n 0, 1) := by decide +kernel
theorem dX1_within_50 : decode cX1_within 50 = .ok (.getfield 15, 3) := by decide +kernel
theorem dX1_within_53 : decode cX1_within 53 = .ok (.iload 5, 2) := by decide +kernel
theorem dX1_within_55 : decode cX1_within 55 = .ok (.laload, 1) := by decide +kernel
theorem dX1_within_56 : decode cX1_within 56 = .ok (.lreturn, 1) := by decide +kernel
theorem dX1_within_57 : decode cX1_within 57 = .ok (.iinc 4 1, 3) := by decide +kernel
theorem dX1_within_60 : decode cX1_within 60 = .ok (.iinc 5 1, 3) := by decide +kernel
theorem dX1_within_63 : decode cX1_within 63 = .ok (.goto (-57), 3) := by decide +kernel
theorem dX1_within_66 : decode cX1_within 66 = .ok (.lconst 0, 1) := by decide +kernel
theorem dX1_within_67 : decode cX1_within 67 = .ok (.lreturn, 1) := by decide +kernel
theorem dX1_has_0 : decode cX1_has 0 = .ok (.lload_n 1, 1) := by decide +kernel
theorem dX1_has_1 : decode cX1_has 1 = .ok (.invokestatic 108, 3) := by decide +kernel
theorem dX1_has_4 : decode cX1_has 4 = .ok (.istore_n 3, 1) := by decide +kernel
theorem dX1_has_5 : decode cX1_has 5 = .ok (.iload_n 3, 1) := by decide +kernel
theorem dX1_has_6 : decode cX1_has 6 = .ok (.ifCond .lt 14, 3) := by decide +kernel
theorem dX1_has_9 : decode cX1_has 9 = .ok (.iload_n 3, 1) := by decide +kernel
theorem dX1_has_10 : decode cX1_has 10 = .ok (.iconst 1, 1) := by decide +kernel
theorem dX1_has_11 : decode cX1_has 11 = .ok (.iadd, 1) := by decide +kernel
theorem dX1_has_12 : decode cX1_has 12 = .ok (.aload_n 0, 1) := by decide +kernel
theorem dX1_has_13 : decode cX1_has 13 = .ok (.getfield 19, 3) := by decide +kernel
theorem dX1_has_16 : decode cX1_has 16 = .ok (.arraylength, 1) := by decide +kernel
theorem dX1_has_17 : decode cX1_has 17 = .ok (.if_icmp .lt 5, 3) := by decide +kernel
theorem dX1_has_20 : decode cX1_has 20 = .ok (.iconst 0, 1) := by decide +kernel
theorem dX1_has_21 : decode cX1_has 21 = .ok (.ireturn, 1) := by decide +kernel
theorem dX1_has_22 : decode cX1_has 22 = .ok (.aload_n 0, 1) := by decide +kernel
theorem dX1_has_23 : decode cX1_has 23 = .ok (.getfield 19, 3) := by decide +kernel
theorem dX1_has_26 : decode cX1_has 26 = .ok (.iload_n 3, 1) := by decide +kernel
theorem dX1_has_27 : decode cX1_has 27 = .ok (.iaload, 1) := by decide +kernel
theorem dX1_has_28 : decode cX1_has 28 = .ok (.istore 4, 2) := by decide +kernel
theorem dX1_has_30 : decode cX1_has 30 = .ok (.iload 4, 2) := by decide +kernel
theorem dX1_has_32 : decode cX1_has 32 = .ok (.aload_n 0, 1) := by decide +kernel
theorem dX1_has_33 : decode cX1_has 33 = .ok (.getfield 19, 3) := by decide +kernel
theorem dX1_has_36 : decode cX1_has 36 = .ok (.iload_n 3, 1) := by decide +kernel
theorem dX1_has_37 : decode cX1_has 37 = .ok (.iconst 1, 1) := by decide +kernel
theorem dX1_has_38 : decode cX1_has 38 = .ok (.iadd, 1) := by decide +kernel
theorem dX1_has_39 : decode cX1_has 39 = .ok (.iaload, 1) := by decide +kernel
theorem dX1_has_40 : decode cX1_has 40 = .ok (.if_icmp .ge 33, 3) := by decide +kernel
theorem dX1_has_43 : decode cX1_has 43 = .ok (.iload 4, 2) := by decide +kernel
theorem dX1_has_45 : decode cX1_has 45 = .ok (.aload_n 0, 1) := by decide +kernel
theorem dX1_has_46 : decode cX1_has 46 = .ok (.getfield 15, 3) := by decide +kernel
theorem dX1_has_49 : decode cX1_has 49 = .ok (.arraylength, 1) := by decide +kernel
theorem dX1_has_50 : decode cX1_has 50 = .ok (.if_icmp .ge 23, 3) := by decide +kernel
theorem dX1_has_53 : decode cX1_has 53 = .ok (.aload_n 0, 1) := by decide +kernel
theorem dX1_has_54 : decode cX1_has 54 = .ok (.getfield 15, 3) := by decide +kernel
theorem dX1_has_57 : decode cX1_has 57 = .ok (.iload 4, 2) := by decide +kernel
theorem dX1_has_59 : decode cX1_has 59 = .ok (.laload, 1) := by decide +kernel
theorem dX1_has_60 : decode cX1_has 60 = .ok (.lload_n 1, 1) := by decide +kernel
theorem dX1_has_61 : decode cX1_has 61 = .ok (.lcmp, 1) := by decide +kernel
theorem dX1_has_62 : decode cX1_has 62 = .ok (.ifCond .ne 5, 3) := by decide +kernel
theorem dX1_has_65 : decode cX1_has 65 = .ok (.iconst 1, 1) := by decide +kernel
theorem dX1_has_66 : decode cX1_has 66 = .ok (.ireturn, 1) := by decide +kernel
theorem dX1_has_67 : decode cX1_has 67 = .ok (.iinc 4 1, 3) := by decide +kernel
theorem dX1_has_70 : decode cX1_has 70 = .ok (.goto (-40), 3) := by decide +kernel
theorem dX1_has_73 : decode cX1_has 73 = .ok (.iconst 0, 1) := by decide +kernel
theorem dX1_has_74 : decode cX1_has 74 = .ok (.ireturn, 1) := by decide +kernel
theorem dX1_couples_0 : decode cX1_couples 0 = .ok (.lload_n 1, 1) := by decide +kernel
theorem dX1_couples_1 : decode cX1_couples 1 = .ok (.lload_n 3, 1) := by decide +kernel
theorem dX1_couples_2 : decode cX1_couples 2 = .ok (.lor, 1) := by decide +kernel
theorem dX1_couples_3 : decode cX1_couples 3 = .ok (.lstore 6, 2) := by decide +kernel
theorem dX1_couples_5 : decode cX1_couples 5 = .ok (.lload 6, 2) := by decide +kernel
theorem dX1_couples_7 : decode cX1_couples 7 = .ok (.invokestatic 108, 3) := by decide +kernel
theorem dX1_couples_10 : decode cX1_couples 10 = .ok (.istore 8, 2) := by decide +kernel
theorem dX1_couples_12 : decode cX1_couples 12 = .ok (.iconst 0, 1) := by decide +kernel
theorem dX1_couples_13 : decode cX1_couples 13 = .ok (.istore 9, 2) := by decide +kernel
theorem dX1_couples_15 : decode cX1_couples 15 = .ok (.aload_n 0, 1) := by decide +kernel
theorem dX1_couples_16 : decode cX1_couples 16 = .ok (.lconst 0, 1) := by decide +kernel
theorem dX1_couples_17 : decode cX1_couples 17 = .ok (.putfield 23, 3) := by decide +kernel
theorem dX1_couples_20 : decode cX1_couples 20 = .ok (.iload 8, 2) := by decide +kernel
theorem dX1_couples_22 : decode cX1_couples 22 = .ok (.ifCond .lt 15, 3) := by decide +kernel
theorem dX1_couples_25 : decode cX1_couples 25 = .ok (.iload 8, 2) := by decide +kernel
theorem dX1_couples_27 : decode cX1_couples 27 = .ok (.iconst 1, 1) := by decide +kernel
theorem dX1_couples_28 : decode cX1_couples 28 = .ok (.iadd, 1) := by decide +kernel
theorem dX1_couples_29 : decode cX1_couples 29 = .ok (.aload_n 0, 1) := by decide +kernel
theorem dX1_couples_30 : decode cX1_couples 30 = .ok (.getfield 19, 3) := by decide +kernel
theorem dX1_couples_33 : decode cX1_couples 33 = .ok (.arraylength, 1) := by decide +kernel
theorem dX1_couples_34 : decode cX1_couples 34 = .ok (.if_icmp .lt 5, 3) := by decide +kernel
theorem dX1_couples_37 : decode cX1_couples 37 = .ok (.iconst 0, 1) := by decide +kernel
theorem dX1_couples_38 : decode cX1_couples 38 = .ok (.ireturn, 1) := by decide +kernel
theorem dX1_couples_39 : decode cX1_couples 39 = .ok (.aload_n 0, 1) := by decide +kernel
theorem dX1_couples_40 : decode cX1_couples 40 = .ok (.getfield 19, 3) := by decide +kernel
theorem dX1_couples_43 : decode cX1_couples 43 = .ok (.iload 8, 2) := by decide +kernel
theorem dX1_couples_45 : decode cX1_couples 45 = .ok (.iaload, 1) := by decide +kernel
theorem dX1_couples_46 : decode cX1_couples 46 = .ok (.istore 10, 2) := by decide +kernel
theorem dX1_couples_48 : decode cX1_couples 48 = .ok (.iload 10, 2) := by decide +kernel
theorem dX1_couples_50 : decode cX1_couples 50 = .ok (.aload_n 0, 1) := by decide +kernel
theorem dX1_couples_51 : decode cX1_couples 51 = .ok (.getfield 19, 3) := by decide +kernel
theorem dX1_couples_54 : decode cX1_couples 54 = .ok (.iload 8, 2) := by decide +kernel
theorem dX1_couples_56 : decode cX1_couples 56 = .ok (.iconst 1, 1) := by decide +kernel
theorem dX1_couples_57 : decode cX1_couples 57 = .ok (.iadd, 1) := by decide +kernel
theorem dX1_couples_58 : decode cX1_couples 58 = .ok (.iaload, 1) := by decide +kernel
theorem dX1_couples_59 : decode cX1_couples 59 = .ok (.if_icmp .ge 88, 3) := by decide +kernel
theorem dX1_couples_62 : decode cX1_couples 62 = .ok (.iload 10, 2) := by decide +kernel
theorem dX1_couples_64 : decode cX1_couples 64 = .ok (.aload_n 0, 1) := by decide +kernel
theorem dX1_couples_65 : decode cX1_couples 65 = .ok (.getfield 15, 3) := by decide +kernel
theorem dX1_couples_68 : decode cX1_couples 68 = .ok (.arraylength, 1) := by decide +kernel
theorem dX1_couples_69 : decode cX1_couples 69 = .ok (.if_icmp .ge 78, 3) := by decide +kernel
theorem dX1_couples_72 : decode cX1_couples 72 = .ok (.aload_n 0, 1) := by decide +kernel
theorem dX1_couples_73 : decode cX1_couples 73 = .ok (.getfield 15, 3) := by decide +kernel
theorem dX1_couples_76 : decode cX1_couples 76 = .ok (.iload 10, 2) := by decide +kernel
theorem dX1_couples_78 : decode cX1_couples 78 = .ok (.laload, 1) := by decide +kernel
theorem dX1_couples_79 : decode cX1_couples 79 = .ok (.lstore 11, 2) := by decide +kernel
theorem dX1_couples_81 : decode cX1_couples 81 = .ok (.lload 11, 2) := by decide +kernel
theorem dX1_couples_83 : decode cX1_couples 83 = .ok (.lload 6, 2) := by decide +kernel
theorem dX1_couples_85 : decode cX1_couples 85 = .ok (.ldc2_w 76, 3) := by decide +kernel
theorem dX1_couples_88 : decode cX1_couples 88 = .ok (.lxor, 1) := by decide +kernel
theorem dX1_couples_89 : decode cX1_couples 89 = .ok (.land, 1) := by decide +kernel
theorem dX1_couples_90 : decode cX1_couples 90 = .ok (.lconst 0, 1) := by decide +kernel
theorem dX1_couples_91 : decode cX1_couples 91 = .ok (.lcmp, 1) := by decide +kernel
theorem dX1_couples_92 : decode cX1_couples 92 = .ok (.ifCond .ne 49, 3) := by decide +kernel
theorem dX1_couples_95 : decode cX1_couples 95 = .ok (.lload 11, 2) := by decide +kernel
theorem dX1_couples_97 : decode cX1_couples 97 = .ok (.lload_n 1, 1) := by decide +kernel
theorem dX1_couples_98 : decode cX1_couples 98 = .ok (.lcmp, 1) := by decide +kernel
theorem dX1_couples_99 : decode cX1_couples 99 = .ok (.ifCond .eq 42, 3) := by decide +kernel
theorem dX1_couples_102 : decode cX1_couples 102 = .ok (.lload 11, 2) := by decide +kernel
theorem dX1_couples_104 : decode cX1_couples 104 = .ok (.lload_n 3, 1) := by decide +kernel
theorem dX1_couples_105 : decode cX1_couples 105 = .ok (.lcmp, 1) := by decide +kernel
theorem dX1_couples_106 : decode cX1_couples 106 = .ok (.ifCond .eq 35, 3) := by decide +kernel
theorem dX1_couples_109 : decode cX1_couples 109 = .ok (.aload_n 0, 1) := by decide +kernel
theorem dX1_couples_110 : decode cX1_couples 110 = .ok (.lload 6, 2) := by decide +kernel
theorem dX1_couples_112 : decode cX1_couples 112 = .ok (.lload 11, 2) := by decide +kernel
theorem dX1_couples_114 : decode cX1_couples 114 = .ok (.ldc2_w 76, 3) := by decide +kernel
theorem dX1_couples_117 : decode cX1_couples 117 = .ok (.lxor, 1) := by decide +kernel
theorem dX1_couples_118 : decode cX1_couples 118 = .ok (.land, 1) := by decide +kernel
theorem dX1_couples_119 : decode cX1_couples 119 = .ok (.invokevirtual 112, 3) := by decide +kernel
theorem dX1_couples_122 : decode cX1_couples 122 = .ok (.ifCond .eq 19, 3) := by decide +kernel
theorem dX1_couples_125 : decode cX1_couples 125 = .ok (.iload 9, 2) := by decide +kernel
theorem dX1_couples_127 : decode cX1_couples 127 = .ok (.iload 5, 2) := by decide +kernel
theorem dX1_couples_129 : decode cX1_couples 129 = .ok (.if_icmp .ne 9, 3) := by decide +kernel
theorem dX1_couples_132 : decode cX1_couples 132 = .ok (.aload_n 0, 1) := by decide +kernel
theorem dX1_couples_133 : decode cX1_couples 133 = .ok (.lload 11, 2) := by decide +kernel
theorem dX1_couples_135 : decode cX1_couples 135 = .ok (.putfield 23, 3) := by decide +kernel
theorem dX1_couples_138 : decode cX1_couples 138 = .ok (.iinc 9 1, 3) := by decide +kernel
theorem dX1_couples_141 : decode cX1_couples 141 = .ok (.iinc 10 1, 3) := by decide +kernel
theorem dX1_couples_144 : decode cX1_couples 144 = .ok (.goto (-96), 3) := by decide +kernel
theorem dX1_couples_147 : decode cX1_couples 147 = .ok (.iload 9, 2) := by decide +kernel
theorem dX1_couples_149 : decode cX1_couples 149 = .ok (.ireturn, 1) := by decide +kernel
