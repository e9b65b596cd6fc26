theorem dX6_init_0 : decode cX6_init 0 = .ok (.aload_n 0, 1) := by decide +kernel
theorem dX6_init_1 : decode cX6_init 1 = .ok (.invokespecial 1, 3) := by decide +kernel
theorem dX6_init_4 : decode cX6_init 4 = .ok (.aload_n 0, 1) := by decide +kernel
theorem dX6_init_5 : decode cX6_init 5 = .ok (.sipush 300, 3) := by decide +kernel
theorem dX6_init_8 : decode cX6_init 8 = .ok (.newarray .byte, 2) := by decide +kernel
theorem dX6_init_10 : decode cX6_init 10 = .ok (.putfield 9, 3) := by decide +kernel
theorem dX6_init_13 : decode cX6_init 13 = .ok (.aload_n 0, 1) := by decide +kernel
theorem dX6_init_14 : decode cX6_init 14 = .ok (.iconst 0, 1) := by decide +kernel
theorem dX6_init_15 : decode cX6_init 15 = .ok (.putfield 13, 3) := by decide +kernel
theorem dX6_init_18 : decode cX6_init 18 = .ok (.aload_n 0, 1) := by decide +kernel
theorem dX6_init_19 : decode cX6_init 19 = .ok (.iconst (-1), 1) := by decide +kernel
theorem dX6_init_20 : decode cX6_init 20 = .ok (.putfield 17, 3) := by decide +kernel
theorem dX6_init_23 : decode cX6_init 23 = .ok (.aload_n 0, 1) := by decide +kernel
theorem dX6_init_24 : decode cX6_init 24 = .ok (.new 20, 3) := by decide +kernel
theorem dX6_init_27 : decode cX6_init 27 = .ok (.dup, 1) := by decide +kernel
theorem dX6_init_28 : decode cX6_init 28 = .ok (.invokespecial 22, 3) := by decide +kernel
theorem dX6_init_31 : decode cX6_init 31 = .ok (.putfield 23, 3) := by decide +kernel
theorem dX6_init_34 : decode cX6_init 34 = .ok (.aload_n 0, 1) := by decide +kernel
theorem dX6_init_35 : decode cX6_init 35 = .ok (.new 27, 3) := by decide +kernel
theorem dX6_init_38 : decode cX6_init 38 = .ok (.dup, 1) := by decide +kernel
theorem dX6_init_39 : decode cX6_init 39 = .ok (.invokespecial 29, 3) := by decide +kernel
theorem dX6_init_42 : decode cX6_init 42 = .ok (.putfield 30, 3) := by decide +kernel
theorem dX6_init_45 : decode cX6_init 45 = .ok (.aload_n 0, 1) := by decide +kernel
theorem dX6_init_46 : decode cX6_init 46 = .ok (.new 34, 3) := by decide +kernel
theorem dX6_init_49 : decode cX6_init 49 = .ok (.dup, 1) := by decide +kernel
theorem dX6_init_50 : decode cX6_init 50 = .ok (.invokespecial 36, 3) := by decide +kernel
theorem dX6_init_53 : decode cX6_init 53 = .ok (.putfield 37, 3) := by decide +kernel
theorem dX6_init_56 : decode cX6_init 56 = .ok (.aload_n 0, 1) := by decide +kernel
theorem dX6_init_57 : decode cX6_init 57 = .ok (.new 41, 3) := by decide +kernel
theorem dX6_init_60 : decode cX6_init 60 = .ok (.dup, 1) := by decide +kernel
theorem dX6_init_61 : decode cX6_init 61 = .ok (.invokespecial 43, 3) := by decide +kernel
theorem dX6_init_64 : decode cX6_init 64 = .ok (.putfield 44, 3) := by decide +kernel
theorem dX6_init_67 : decode cX6_init 67 = .ok (.aload_n 0, 1) := by decide +kernel
theorem dX6_init_68 : decode cX6_init 68 = .ok (.new 48, 3) := by decide +kernel
theorem dX6_init_71 : decode cX6_init 71 = .ok (.dup, 1) := by decide +kernel
theorem dX6_init_72 : decode cX6_init 72 = .ok (.invokespecial 50, 3) := by decide +kernel
theorem dX6_init_75 : decode cX6_init 75 = .ok (.putfield 51, 3) := by decide +kernel
theorem dX6_init_78 : decode cX6_init 78 = .ok (.aload_n 0, 1) := by decide +kernel
theorem dX6_init_79 : decode cX6_init 79 = .ok (.new 55, 3) := by decide +kernel
theorem dX6_init_82 : decode cX6_init 82 = .ok (.dup, 1) := by decide +kernel
theorem dX6_init_83 : decode cX6_init 83 = .ok (.invokespecial 57, 3) := by decide +kernel
theorem dX6_init_86 : decode cX6_init 86 = .ok (.putfield 58, 3) := by decide +kernel
theorem dX6_init_89 : decode cX6_init 89 = .ok (.aload_n 0, 1) := by decide +kernel
theorem dX6_init_90 : decode cX6_init 90 = .ok (.iconst 5, 1) := by decide +kernel
theorem dX6_init_91 : decode cX6_init 91 = .ok (.newarray .int, 2) := by decide +kernel
theorem dX6_init_93 : decode cX6_init 93 = .ok (.putfield 62, 3) := by decide +kernel
theorem dX6_init_96 : decode cX6_init 96 = .ok (.aload_n 0, 1) := by decide +kernel
theorem dX6_init_97 : decode cX6_init 97 = .ok (.iconst 3, 1) := by decide +kernel
theorem dX6_init_98 : decode cX6_init 98 = .ok (.newarray .int, 2) := by decide +kernel
theorem dX6_init_100 : decode cX6_init 100 = .ok (.putfield 66, 3) := by decide +kernel
theorem dX6_init_103 : decode cX6_init 103 = .ok (.aload_n 0, 1) := by decide +kernel
theorem dX6_init_104 : decode cX6_init 104 = .ok (.getfield 23, 3) := by decide +kernel
theorem dX6_init_107 : decode cX6_init 107 = .ok (.iconst 3, 1) := by decide +kernel
theorem dX6_init_108 : decode cX6_init 108 = .ok (.putfield 69, 3) := by decide +kernel
theorem dX6_init_111 : decode cX6_init 111 = .ok (.aload_n 0, 1) := by decide +kernel
theorem dX6_init_112 : decode cX6_init 112 = .ok (.getfield 23, 3) := by decide +kernel
theorem dX6_init_115 : decode cX6_init 115 = .ok (.ldc2_w 72, 3) := by decide +kernel
theorem dX6_init_118 : decode cX6_init 118 = .ok (.putfield 74, 3) := by decide +kernel
theorem dX6_init_121 : decode cX6_init 121 = .ok (.return_, 1) := by decide +kernel
theorem dX6_feed_0 : decode cX6_feed 0 = .ok (.aload_n 0, 1) := by decide +kernel
theorem dX6_feed_1 : decode cX6_feed 1 = .ok (.getfield 13, 3) := by decide +kernel
theorem dX6_feed_4 : decode cX6_feed 4 = .ok (.bipush 20, 2) := by decide +kernel
theorem dX6_feed_6 : decode cX6_feed 6 = .ok (.iadd, 1) := by decide +kernel
theorem dX6_feed_7 : decode cX6_feed 7 = .ok (.sipush 300, 3) := by decide +kernel
theorem dX6_feed_10 : decode cX6_feed 10 = .ok (.if_icmp .le 5, 3) := by decide +kernel
theorem dX6_feed_13 : decode cX6_feed 13 = .ok (.iconst (-1), 1) := by decide +kernel
theorem dX6_feed_14 : decode cX6_feed 14 = .ok (.ireturn, 1) := by decide +kernel
theorem dX6_feed_15 : decode cX6_feed 15 = .ok (.aload_n 0, 1) := by decide +kernel
theorem dX6_feed_16 : decode cX6_feed 16 = .ok (.iload_n 1, 1) := by decide +kernel
theorem dX6_feed_17 : decode cX6_feed 17 = .ok (.invokevirtual 78, 3) := by decide +kernel
theorem dX6_feed_20 : decode cX6_feed 20 = .ok (.aload_n 0, 1) := by decide +kernel
theorem dX6_feed_21 : decode cX6_feed 21 = .ok (.iload_n 2, 1) := by decide +kernel
theorem dX6_feed_22 : decode cX6_feed 22 = .ok (.invokevirtual 78, 3) := by decide +kernel
theorem dX6_feed_25 : decode cX6_feed 25 = .ok (.aload_n 0, 1) := by decide +kernel
theorem dX6_feed_26 : decode cX6_feed 26 = .ok (.iload_n 3, 1) := by decide +kernel
theorem dX6_feed_27 : decode cX6_feed 27 = .ok (.invokevirtual 78, 3) := by decide +kernel
theorem dX6_feed_30 : decode cX6_feed 30 = .ok (.aload_n 0, 1) := by decide +kernel
theorem dX6_feed_31 : decode cX6_feed 31 = .ok (.iload 4, 2) := by decide +kernel
theorem dX6_feed_33 : decode cX6_feed 33 = .ok (.invokevirtual 78, 3) := by decide +kernel
theorem dX6_feed_36 : decode cX6_feed 36 = .ok (.aload_n 0, 1) := by decide +kernel
theorem dX6_feed_37 : decode cX6_feed 37 = .ok (.iload 5, 2) := by decide +kernel
theorem dX6_feed_39 : decode cX6_feed 39 = .ok (.invokevirtual 78, 3) := by decide +kernel
theorem dX6_feed_42 : decode cX6_feed 42 = .ok (.aload_n 0, 1) := by decide +kernel
theorem dX6_feed_43 : decode cX6_feed 43 = .ok (.getfield 13, 3) := by decide +kernel
theorem dX6_feed_46 : decode cX6_feed 46 = .ok (.ireturn, 1) := by decide +kernel
theorem dX6_tapeNumber_0 : decode cX6_tapeNumber 0 = .ok (.bipush 24, 2) := by decide +kernel
theorem dX6_tapeNumber_2 : decode cX6_tapeNumber 2 = .ok (.istore_n 2, 1) := by decide +kernel
theorem dX6_tapeNumber_3 : decode cX6_tapeNumber 3 = .ok (.iload_n 2, 1) := by decide +kernel
theorem dX6_tapeNumber_4 : decode cX6_tapeNumber 4 = .ok (.ifCond .lt 51, 3) := by decide +kernel
theorem dX6_tapeNumber_7 : decode cX6_tapeNumber 7 = .ok (.aload_n 0, 1) := by decide +kernel
theorem dX6_tapeNumber_8 : decode cX6_tapeNumber 8 = .ok (.getfield 13, 3) := by decide +kernel
theorem dX6_tapeNumber_11 : decode cX6_tapeNumber 11 = .ok (.ifCond .lt 38, 3) := by decide +kernel
theorem dX6_tapeNumber_14 : decode cX6_tapeNumber 14 = .ok (.aload_n 0, 1) := by decide +kernel
theorem dX6_tapeNumber_15 : decode cX6_tapeNumber 15 = .ok (.getfield 13, 3) := by decide +kernel
theorem dX6_tapeNumber_18 : decode cX6_tapeNumber 18 = .ok (.aload_n 0, 1) := by decide +kernel
theorem dX6_tapeNumber_19 : decode cX6_tapeNumber 19 = .ok (.getfield 9, 3) := by decide +kernel
theorem dX6_tapeNumber_22 : decode cX6_tapeNumber 22 = .ok (.arraylength, 1) := by decide +kernel
theorem dX6_tapeNumber_23 : decode cX6_tapeNumber 23 = .ok (.if_icmp .ge 26, 3) := by decide +kernel
theorem dX6_tapeNumber_26 : decode cX6_tapeNumber 26 = .ok (.aload_n 0, 1) := by decide +kernel
theorem dX6_tapeNumber_27 : decode cX6_tapeNumber 27 = .ok (.getfield 9, 3) := by decide +kernel
theorem dX6_tapeNumber_30 : decode cX6_tapeNumber 30 = .ok (.aload_n 0, 1) := by decide +kernel
theorem dX6_tapeNumber_31 : decode cX6_tapeNumber 31 = .ok (.getfield 13, 3) := by decide +kernel
theorem dX6_tapeNumber_34 : decode cX6_tapeNumber 34 = .ok (.iload_n 1, 1) := by decide +kernel
theorem dX6_tapeNumber_35 : decode cX6_tapeNumber 35 = .ok (.iload_n 2, 1) := by decide +kernel
theorem dX6_tapeNumber_36 : decode cX6_tapeNumber 36 = .ok (.iushr, 1) := by decide +kernel
theorem dX6_tapeNumber_37 : decode cX6_tapeNumber 37 = .ok (.i2b, 1) := by decide +kernel
theorem dX6_tapeNumber_38 : decode cX6_tapeNumber 38 = .ok (.bastore, 1) := by decide +kernel
theorem dX6_tapeNumber_39 : decode cX6_tapeNumber 39 = .ok (.aload_n 0, 1) := by decide +kernel
theorem dX6_tapeNumber_40 : decode cX6_tapeNumber 40 = .ok (.dup, 1) := by decide +kernel
theorem dX6_tapeNumber_41 : decode cX6_tapeNumber 41 = .ok (.getfield 13, 3) := by decide +kernel
theorem dX6_tapeNumber_44 : decode cX6_tapeNumber 44 = .ok (.iconst 1, 1) := by decide +kernel
theorem dX6_tapeNumber_45 : decode cX6_tapeNumber 45 = .ok (.iadd, 1) := by decide +kernel
theorem dX6_tapeNumber_46 : decode cX6_tapeNumber 46 = .ok (.putfield 13, 3) := by decide +kernel
theorem dX6_tapeNumber_49 : decode cX6_tapeNumber 49 = .ok (.iinc 2 (-8), 3) := by decide +kernel
theorem dX6_tapeNumber_52 : decode cX6_tapeNumber 52 = .ok (.goto (-49), 3) := by decide +kernel
theorem dX6_tapeNumber_55 : decode cX6_tapeNumber 55 = .ok (.return_, 1) := by decide +kernel
theorem dX6_text_0 : decode cX6_text 0 = .ok (.iload_n 1, 1) := by decide +kernel
theorem dX6_text_1 : decode cX6_text 1 = .ok (.ifCond .lt 11, 3) := by decide +kernel
theorem dX6_text_4 : decode cX6_text 4 = .ok (.iload_n 1, 1) := by decide +kernel
theorem dX6_text_5 : decode cX6_text 5 = .ok (.aload_n 0, 1) := by decide +kernel
theorem dX6_text_6 : decode cX6_text 6 = .ok (.getfield 13, 3) := by decide +kernel
theorem dX6_text_9 : decode cX6_text 9 = .ok (.if_icmp .le 23, 3) := by decide +kernel
theorem dX6_text_12 : decode cX6_text 12 = .ok (.aload_n 0, 1) := by decide +kernel
theorem dX6_text_13 : decode cX6_text 13 = .ok (.getfield 66, 3) := by decide +kernel
theorem dX6_text_16 : decode cX6_text 16 = .ok (.iconst 1, 1) := by decide +kernel
theorem dX6_text_17 : decode cX6_text 17 = .ok (.dup2, 1) := by decide +kernel
theorem dX6_text_18 : decode cX6_text 18 = .ok (.iaload, 1) := by decide +kernel
theorem dX6_text_19 : decode cX6_text 19 = .ok (.iconst 1, 1) := by decide +kernel
theorem dX6_text_20 : decode cX6_text 20 = .ok (.iadd, 1) := by decide +kernel
theorem dX6_text_21 : decode cX6_text 21 = .ok (.iastore, 1) := by decide +kernel
theorem dX6_text_22 : decode cX6_text 22 = .ok (.new 82, 3) := by decide +kernel
theorem dX6_text_25 : decode cX6_text 25 = .ok (.dup, 1) := by decide +kernel
theorem dX6_text_26 : decode cX6_text 26 = .ok (.ldc 84, 2) := by decide +kernel
theorem dX6_text_28 : decode cX6_text 28 = .ok (.invokespecial 86, 3) := by decide +kernel
theorem dX6_text_31 : decode cX6_text 31 = .ok (.athrow, 1) := by decide +kernel
theorem dX6_text_32 : decode cX6_text 32 = .ok (.aload_n 0, 1) := by decide +kernel
theorem dX6_text_33 : decode cX6_text 33 = .ok (.iconst 0, 1) := by decide +kernel
theorem dX6_text_34 : decode cX6_text 34 = .ok (.putfield 13, 3) := by decide +kernel
theorem dX6_text_37 : decode cX6_text 37 = .ok (.aload_n 0, 1) := by decide +kernel
theorem dX6_text_38 : decode cX6_text 38 = .ok (.getfield 37, 3) := by decide +kernel
theorem dX6_text_41 : decode cX6_text 41 = .ok (.aload_n 0, 1) := by decide +kernel
theorem dX6_text_42 : decode cX6_text 42 = .ok (.getfield 9, 3) := by decide +kernel
theorem dX6_text_45 : decode cX6_text 45 = .ok (.iload_n 1, 1) := by decide +kernel
theorem dX6_text_46 : decode cX6_text 46 = .ok (.invokevirtual 89, 3) := by decide +kernel
theorem dX6_text_49 : decode cX6_text 49 = .ok (.istore_n 2, 1) := by decide +kernel
theorem dX6_text_50 : decode cX6_text 50 = .ok (.iload_n 2, 1) := by decide +kernel
theorem dX6_text_51 : decode cX6_text 51 = .ok (.ifCond .eq 19, 3) := by decide +kernel
theorem dX6_text_54 : decode cX6_text 54 = .ok (.aload_n 0, 1) := by decide +kernel
theorem dX6_text_55 : decode cX6_text 55 = .ok (.aload_n 0, 1) := by decide +kernel
theorem dX6_text_56 : decode cX6_text 56 = .ok (.getfield 37, 3) := by decide +kernel
theorem dX6_text_59 : decode cX6_text 59 = .ok (.getfield 93, 3) := by decide +kernel
theorem dX6_text_62 : decode cX6_text 62 = .ok (.putfield 17, 3) := by decide +kernel
theorem dX6_text_65 : decode cX6_text 65 = .ok (.iload_n 2, 1) := by decide +kernel
theorem dX6_text_66 : decode cX6_text 66 = .ok (.bipush 10, 2) := by decide +kernel
theorem dX6_text_68 : decode cX6_text 68 = .ok (.isub, 1) := by decide +kernel
theorem dX6_text_69 : decode cX6_text 69 = .ok (.ireturn, 1) := by decide +kernel
theorem dX6_text_70 : decode cX6_text 70 = .ok (.aload_n 0, 1) := by decide +kernel
theorem dX6_text_71 : decode cX6_text 71 = .ok (.iconst (-1), 1) := by decide +kernel
theorem dX6_text_72 : decode cX6_text 72 = .ok (.putfield 17, 3) := by decide +kernel
theorem dX6_text_75 : decode cX6_text 75 = .ok (.aload_n 0, 1) := by decide +kernel
theorem dX6_text_76 : decode cX6_text 76 = .ok (.getfield 30, 3) := by decide +kernel
theorem dX6_text_79 : decode cX6_text 79 = .ok (.aload_n 0, 1) := by decide +kernel
theorem dX6_text_80 : decode cX6_text 80 = .ok (.getfield 23, 3) := by decide +kernel
theorem dX6_text_83 : decode cX6_text 83 = .ok (.invokevirtual 94, 3) := by decide +kernel
theorem dX6_text_86 : decode cX6_text 86 = .ok (.aload_n 0, 1) := by decide +kernel
theorem dX6_text_87 : decode cX6_text 87 = .ok (.getfield 23, 3) := by decide +kernel
theorem dX6_text_90 : decode cX6_text 90 = .ok (.aload_n 0, 1) := by decide +kernel
theorem dX6_text_91 : decode cX6_text 91 = .ok (.getfield 37, 3) := by decide +kernel
theorem dX6_text_94 : decode cX6_text 94 = .ok (.getfield 98, 3) := by decide +kernel
theorem dX6_text_97 : decode cX6_text 97 = .ok (.invokevirtual 101, 3) := by decide +kernel
theorem dX6_text_100 : decode cX6_text 100 = .ok (.aload_n 0, 1) := by decide +kernel
theorem dX6_text_101 : decode cX6_text 101 = .ok (.getfield 23, 3) := by decide +kernel
theorem dX6_text_104 : decode cX6_text 104 = .ok (.invokevirtual 104, 3) := by decide +kernel
theorem dX6_text_107 : decode cX6_text 107 = .ok (.invokestatic 108, 3) := by decide +kernel
theorem dX6_text_110 : decode cX6_text 110 = .ok (.ireturn, 1) := by decide +kernel
theorem dX6_fault_0 : decode cX6_fault 0 = .ok (.aload_n 0, 1) := by decide +kernel
theorem dX6_fault_1 : decode cX6_fault 1 = .ok (.getfield 17, 3) := by decide +kernel
theorem dX6_fault_4 : decode cX6_fault 4 = .ok (.ireturn, 1) := by decide +kernel
theorem dX6_put_0 : decode cX6_put 0 = .ok (.aload_n 0, 1) := by decide +kernel
theorem dX6_put_1 : decode cX6_put 1 = .ok (.getfield 62, 3) := by decide +kernel
theorem dX6_put_4 : decode cX6_put 4 = .ok (.iconst 0, 1) := by decide +kernel
theorem dX6_put_5 : decode cX6_put 5 = .ok (.iload_n 1, 1) := by decide +kernel
theorem dX6_put_6 : decode cX6_put 6 = .ok (.iastore, 1) := by decide +kernel
theorem dX6_put_7 : decode cX6_put 7 = .ok (.aload_n 0, 1) := by decide +kernel
theorem dX6_put_8 : decode cX6_put 8 = .ok (.getfield 62, 3) := by decide +kernel
theorem dX6_put_11 : decode cX6_put 11 = .ok (.iconst 1, 1) := by decide +kernel
theorem dX6_put_12 : decode cX6_put 12 = .ok (.iload_n 2, 1) := by decide +kernel
theorem dX6_put_13 : decode cX6_put 13 = .ok (.iastore, 1) := by decide +kernel
theorem dX6_put_14 : decode cX6_put 14 = .ok (.aload_n 0, 1) := by decide +kernel
theorem dX6_put_15 : decode cX6_put 15 = .ok (.getfield 62, 3) := by decide +kernel
theorem dX6_put_18 : decode cX6_put 18 = .ok (.iconst 2, 1) := by decide +kernel
theorem dX6_put_19 : decode cX6_put 19 = .ok (.iload_n 3, 1) := by decide +kernel
theorem dX6_put_20 : decode cX6_put 20 = .ok (.iastore, 1) := by decide +kernel
theorem dX6_put_21 : decode cX6_put 21 = .ok (.aload_n 0, 1) := by decide +kernel
theorem dX6_put_22 : decode cX6_put 22 = .ok (.getfield 62, 3) := by decide +kernel
theorem dX6_put_25 : decode cX6_put 25 = .ok (.iconst 3, 1) := by decide +kernel
theorem dX6_put_26 : decode cX6_put 26 = .ok (.iload 4, 2) := by decide +kernel
theorem dX6_put_28 : decode cX6_put 28 = .ok (.iastore, 1) := by decide +kernel
theorem dX6_put_29 : decode cX6_put 29 = .ok (.aload_n 0, 1) := by decide +kernel
theorem dX6_put_30 : decode cX6_put 30 = .ok (.getfield 62, 3) := by decide +kernel
theorem dX6_put_33 : decode cX6_put 33 = .ok (.iconst 4, 1) := by decide +kernel
theorem dX6_put_34 : decode cX6_put 34 = .ok (.iload 5, 2) := by decide +kernel
theorem dX6_put_36 : decode cX6_put 36 = .ok (.iastore, 1) := by decide +kernel
theorem dX6_put_37 : decode cX6_put 37 = .ok (.aload_n 0, 1) := by decide +kernel
theorem dX6_put_38 : decode cX6_put 38 = .ok (.getfield 23, 3) := by decide +kernel
theorem dX6_put_41 : decode cX6_put 41 = .ok (.aload_n 0, 1) := by decide +kernel
theorem dX6_put_42 : decode cX6_put 42 = .ok (.getfield 62, 3) := by decide +kernel
theorem dX6_put_45 : decode cX6_put 45 = .ok (.iconst 0, 1) := by decide +kernel
theorem dX6_put_46 : decode cX6_put 46 = .ok (.aload_n 0, 1) := by decide +kernel
theorem dX6_put_47 : decode cX6_put 47 = .ok (.invokevirtual 114, 3) := by decide +kernel
theorem dX6_put_50 : decode cX6_put 50 = .ok (.invokevirtual 118, 3) := by decide +kernel
theorem dX6_put_53 : decode cX6_put 53 = .ok (.lstore 6, 2) := by decide +kernel
theorem dX6_put_55 : decode cX6_put 55 = .ok (.lload 6, 2) := by decide +kernel
theorem dX6_put_57 : decode cX6_put 57 = .ok (.lconst 0, 1) := by decide +kernel
theorem dX6_put_58 : decode cX6_put 58 = .ok (.lcmp, 1) := by decide +kernel
theorem dX6_put_59 : decode cX6_put 59 = .ok (.ifCond .ne 23, 3) := by decide +kernel
theorem dX6_put_62 : decode cX6_put 62 = .ok (.aload_n 0, 1) := by decide +kernel
theorem dX6_put_63 : decode cX6_put 63 = .ok (.getfield 66, 3) := by decide +kernel
theorem dX6_put_66 : decode cX6_put 66 = .ok (.iconst 1, 1) := by decide +kernel
theorem dX6_put_67 : decode cX6_put 67 = .ok (.dup2, 1) := by decide +kernel
theorem dX6_put_68 : decode cX6_put 68 = .ok (.iaload, 1) := by decide +kernel
theorem dX6_put_69 : decode cX6_put 69 = .ok (.iconst 1, 1) := by decide +kernel
theorem dX6_put_70 : decode cX6_put 70 = .ok (.iadd, 1) := by decide +kernel
theorem dX6_put_71 : decode cX6_put 71 = .ok (.iastore, 1) := by decide +kernel
theorem dX6_put_72 : decode cX6_put 72 = .ok (.new 82, 3) := by decide +kernel
theorem dX6_put_75 : decode cX6_put 75 = .ok (.dup, 1) := by decide +kernel
theorem dX6_put_76 : decode cX6_put 76 = .ok (.ldc 122, 2) := by decide +kernel
theorem dX6_put_78 : decode cX6_put 78 = .ok (.invokespecial 86, 3) := by decide +kernel
theorem dX6_put_81 : decode cX6_put 81 = .ok (.athrow, 1) := by decide +kernel
theorem dX6_put_82 : decode cX6_put 82 = .ok (.lload 6, 2) := by decide +kernel
theorem dX6_put_84 : decode cX6_put 84 = .ok (.aload_n 0, 1) := by decide +kernel
theorem dX6_put_85 : decode cX6_put 85 = .ok (.getfield 23, 3) := by decide +kernel
theorem dX6_put_88 : decode cX6_put 88 = .ok (.invokevirtual 104, 3) := by decide +kernel
theorem dX6_put_91 : decode cX6_put 91 = .ok (.ldc2_w 124, 3) := by decide +kernel
theorem dX6_put_94 : decode cX6_put 94 = .ok (.lxor, 1) := by decide +kernel
theorem dX6_put_95 : decode cX6_put 95 = .ok (.land, 1) := by decide +kernel
theorem dX6_put_96 : decode cX6_put 96 = .ok (.lconst 0, 1) := by decide +kernel
theorem dX6_put_97 : decode cX6_put 97 = .ok (.lcmp, 1) := by decide +kernel
theorem dX6_put_98 : decode cX6_put 98 = .ok (.ifCond .eq 23, 3) := by decide +kernel
theorem dX6_put_101 : decode cX6_put 101 = .ok (.aload_n 0, 1) := by decide +kernel
theorem dX6_put_102 : decode cX6_put 102 = .ok (.getfield 66, 3) := by decide +kernel
theorem dX6_put_105 : decode cX6_put 105 = .ok (.iconst 2, 1) := by decide +kernel
theorem dX6_put_106 : decode cX6_put 106 = .ok (.dup2, 1) := by decide +kernel
theorem dX6_put_107 : decode cX6_put 107 = .ok (.iaload, 1) := by decide +kernel
theorem dX6_put_108 : decode cX6_put 108 = .ok (.iconst 1, 1) := by decide +kernel
theorem dX6_put_109 : decode cX6_put 109 = .ok (.iadd, 1) := by decide +kernel
theorem dX6_put_110 : decode cX6_put 110 = .ok (.iastore, 1) := by decide +kernel
theorem dX6_put_111 : decode cX6_put 111 = .ok (.new 126, 3) := by decide +kernel
theorem dX6_put_114 : decode cX6_put 114 = .ok (.dup, 1) := by decide +kernel
theorem dX6_put_115 : decode cX6_put 115 = .ok (.ldc 128, 2) := by decide +kernel
theorem dX6_put_117 : decode cX6_put 117 = .ok (.invokespecial 130, 3) := by decide +kernel
theorem dX6_put_120 : decode cX6_put 120 = .ok (.athrow, 1) := by decide +kernel
theorem dX6_put_121 : decode cX6_put 121 = .ok (.aload_n 0, 1) := by decide +kernel
theorem dX6_put_122 : decode cX6_put 122 = .ok (.getfield 30, 3) := by decide +kernel
theorem dX6_put_125 : decode cX6_put 125 = .ok (.aload_n 0, 1) := by decide +kernel
theorem dX6_put_126 : decode cX6_put 126 = .ok (.getfield 23, 3) := by decide +kernel
theorem dX6_put_129 : decode cX6_put 129 = .ok (.invokevirtual 94, 3) := by decide +kernel
theorem dX6_put_132 : decode cX6_put 132 = .ok (.aload_n 0, 1) := by decide +kernel
theorem dX6_put_133 : decode cX6_put 133 = .ok (.getfield 23, 3) := by decide +kernel
theorem dX6_put_136 : decode cX6_put 136 = .ok (.lload 6, 2) := by decide +kernel
theorem dX6_put_138 : decode cX6_put 138 = .ok (.invokevirtual 131, 3) := by decide +kernel
theorem dX6_put_141 : decode cX6_put 141 = .ok (.aload_n 0, 1) := by decide +kernel
theorem dX6_put_142 : decode cX6_put 142 = .ok (.getfield 23, 3) := by decide +kernel
theorem dX6_put_145 : decode cX6_put 145 = .ok (.getfield 135, 3) := by decide +kernel
theorem dX6_put_148 : decode cX6_put 148 = .ok (.ireturn, 1) := by decide +kernel
theorem dX6_nodesAsked_0 : decode cX6_nodesAsked 0 = .ok (.iconst 0, 1) := by decide +kernel
theorem dX6_nodesAsked_1 : decode cX6_nodesAsked 1 = .ok (.istore_n 1, 1) := by decide +kernel
theorem dX6_nodesAsked_2 : decode cX6_nodesAsked 2 = .ok (.iconst 0, 1) := by decide +kernel
theorem dX6_nodesAsked_3 : decode cX6_nodesAsked 3 = .ok (.istore_n 2, 1) := by decide +kernel
theorem dX6_nodesAsked_4 : decode cX6_nodesAsked 4 = .ok (.iload_n 2, 1) := by decide +kernel
theorem dX6_nodesAsked_5 : decode cX6_nodesAsked 5 = .ok (.aload_n 0, 1) := by decide +kernel
theorem dX6_nodesAsked_6 : decode cX6_nodesAsked 6 = .ok (.getfield 62, 3) := by decide +kernel
theorem dX6_nodesAsked_9 : decode cX6_nodesAsked 9 = .ok (.arraylength, 1) := by decide +kernel
theorem dX6_nodesAsked_10 : decode cX6_nodesAsked 10 = .ok (.if_icmp .ge 22, 3) := by decide +kernel
theorem dX6_nodesAsked_13 : decode cX6_nodesAsked 13 = .ok (.aload_n 0, 1) := by decide +kernel
theorem dX6_nodesAsked_14 : decode cX6_nodesAsked 14 = .ok (.getfield 62, 3) := by decide +kernel
theorem dX6_nodesAsked_17 : decode cX6_nodesAsked 17 = .ok (.iload_n 2, 1) := by decide +kernel
theorem dX6_nodesAsked_18 : decode cX6_nodesAsked 18 = .ok (.iaload, 1) := by decide +kernel
theorem dX6_nodesAsked_19 : decode cX6_nodesAsked 19 = .ok (.iconst (-1), 1) := by decide +kernel
theorem dX6_nodesAsked_20 : decode cX6_nodesAsked 20 = .ok (.if_icmp .eq 6, 3) := by decide +kernel
theorem dX6_nodesAsked_23 : decode cX6_nodesAsked 23 = .ok (.iinc 1 1, 3) := by decide +kernel
theorem dX6_nodesAsked_26 : decode cX6_nodesAsked 26 = .ok (.iinc 2 1, 3) := by decide +kernel
theorem dX6_nodesAsked_29 : decode cX6_nodesAsked 29 = .ok (.goto (-25), 3) := by decide +kernel
theorem dX6_nodesAsked_32 : decode cX6_nodesAsked 32 = .ok (.iload_n 1, 1) := by decide +kernel
theorem dX6_nodesAsked_33 : decode cX6_nodesAsked 33 = .ok (.ireturn, 1) := by decide +kernel
theorem dX6_take_0 : decode cX6_take 0 = .ok (.aload_n 0, 1) := by decide +kernel
theorem dX6_take_1 : decode cX6_take 1 = .ok (.iload_n 1, 1) := by decide +kernel
theorem dX6_take_2 : decode cX6_take 2 = .ok (.invokevirtual 138, 3) := by decide +kernel
theorem dX6_take_5 : decode cX6_take 5 = .ok (.aload_n 0, 1) := by decide +kernel
theorem dX6_take_6 : decode cX6_take 6 = .ok (.getfield 30, 3) := by decide +kernel
theorem dX6_take_9 : decode cX6_take 9 = .ok (.aload_n 0, 1) := by decide +kernel
theorem dX6_take_10 : decode cX6_take 10 = .ok (.getfield 23, 3) := by decide +kernel
theorem dX6_take_13 : decode cX6_take 13 = .ok (.invokevirtual 94, 3) := by decide +kernel
theorem dX6_take_16 : decode cX6_take 16 = .ok (.aload_n 0, 1) := by decide +kernel
theorem dX6_take_17 : decode cX6_take 17 = .ok (.getfield 23, 3) := by decide +kernel
theorem dX6_take_20 : decode cX6_take 20 = .ok (.iload_n 1, 1) := by decide +kernel
theorem dX6_take_21 : decode cX6_take 21 = .ok (.invokevirtual 141, 3) := by decide +kernel
theorem dX6_take_24 : decode cX6_take 24 = .ok (.aload_n 0, 1) := by decide +kernel
theorem dX6_take_25 : decode cX6_take 25 = .ok (.getfield 23, 3) := by decide +kernel
theorem dX6_take_28 : decode cX6_take 28 = .ok (.getfield 135, 3) := by decide +kernel
theorem dX6_take_31 : decode cX6_take 31 = .ok (.ireturn, 1) := by decide +kernel
theorem dX6_exchange_0 : decode cX6_exchange 0 = .ok (.aload_n 0, 1) := by decide +kernel
theorem dX6_exchange_1 : decode cX6_exchange 1 = .ok (.iload_n 1, 1) := by decide +kernel
theorem dX6_exchange_2 : decode cX6_exchange 2 = .ok (.iload_n 2, 1) := by decide +kernel
theorem dX6_exchange_3 : decode cX6_exchange 3 = .ok (.invokevirtual 144, 3) := by decide +kernel
theorem dX6_exchange_6 : decode cX6_exchange 6 = .ok (.aload_n 0, 1) := by decide +kernel
theorem dX6_exchange_7 : decode cX6_exchange 7 = .ok (.getfield 44, 3) := by decide +kernel
theorem dX6_exchange_10 : decode cX6_exchange 10 = .ok (.aload_n 0, 1) := by decide +kernel
theorem dX6_exchange_11 : decode cX6_exchange 11 = .ok (.getfield 23, 3) := by decide +kernel
theorem dX6_exchange_14 : decode cX6_exchange 14 = .ok (.invokevirtual 148, 3) := by decide +kernel
theorem dX6_exchange_17 : decode cX6_exchange 17 = .ok (.aload_n 0, 1) := by decide +kernel
theorem dX6_exchange_18 : decode cX6_exchange 18 = .ok (.getfield 23, 3) := by decide +kernel
theorem dX6_exchange_21 : decode cX6_exchange 21 = .ok (.getfield 151, 3) := by decide +kernel
theorem dX6_exchange_24 : decode cX6_exchange 24 = .ok (.iload_n 1, 1) := by decide +kernel
theorem dX6_exchange_25 : decode cX6_exchange 25 = .ok (.laload, 1) := by decide +kernel
theorem dX6_exchange_26 : decode cX6_exchange 26 = .ok (.lstore 4, 2) := by decide +kernel
theorem dX6_exchange_28 : decode cX6_exchange 28 = .ok (.aload_n 0, 1) := by decide +kernel
theorem dX6_exchange_29 : decode cX6_exchange 29 = .ok (.getfield 23, 3) := by decide +kernel
theorem dX6_exchange_32 : decode cX6_exchange 32 = .ok (.getfield 151, 3) := by decide +kernel
theorem dX6_exchange_35 : decode cX6_exchange 35 = .ok (.iload_n 2, 1) := by decide +kernel
theorem dX6_exchange_36 : decode cX6_exchange 36 = .ok (.laload, 1) := by decide +kernel
theorem dX6_exchange_37 : decode cX6_exchange 37 = .ok (.lstore 6, 2) := by decide +kernel
theorem dX6_exchange_39 : decode cX6_exchange 39 = .ok (.aload_n 0, 1) := by decide +kernel
theorem dX6_exchange_40 : decode cX6_exchange 40 = .ok (.getfield 44, 3) := by decide +kernel
theorem dX6_exchange_43 : decode cX6_exchange 43 = .ok (.lload 4, 2) := by decide +kernel
theorem dX6_exchange_45 : decode cX6_exchange 45 = .ok (.lload 6, 2) := by decide +kernel
theorem dX6_exchange_47 : decode cX6_exchange 47 = .ok (.iconst (-1), 1) := by decide +kernel
theorem dX6_exchange_48 : decode cX6_exchange 48 = .ok (.invokevirtual 155, 3) := by decide +kernel
theorem dX6_exchange_51 : decode cX6_exchange 51 = .ok (.istore 8, 2) := by decide +kernel
theorem dX6_exchange_53 : decode cX6_exchange 53 = .ok (.iload_n 3, 1) := by decide +kernel
theorem dX6_exchange_54 : decode cX6_exchange 54 = .ok (.ifCond .lt 9, 3) := by decide +kernel
theorem dX6_exchange_57 : decode cX6_exchange 57 = .ok (.iload_n 3, 1) := by decide +kernel
theorem dX6_exchange_58 : decode cX6_exchange 58 = .ok (.iload 8, 2) := by decide +kernel
theorem dX6_exchange_60 : decode cX6_exchange 60 = .ok (.if_icmp .lt 23, 3) := by decide +kernel
theorem dX6_exchange_63 : decode cX6_exchange 63 = .ok (.aload_n 0, 1) := by decide +kernel
theorem dX6_exchange_64 : decode cX6_exchange 64 = .ok (.getfield 66, 3) := by decide +kernel
theorem dX6_exchange_67 : decode cX6_exchange 67 = .ok (.iconst 0, 1) := by decide +kernel
theorem dX6_exchange_68 : decode cX6_exchange 68 = .ok (.dup2, 1) := by decide +kernel
theorem dX6_exchange_69 : decode cX6_exchange 69 = .ok (.iaload, 1) := by decide +kernel
theorem dX6_exchange_70 : decode cX6_exchange 70 = .ok (.iconst 1, 1) := by decide +kernel
theorem dX6_exchange_71 : decode cX6_exchange 71 = .ok (.iadd, 1) := by decide +kernel
theorem dX6_exchange_72 : decode cX6_exchange 72 = .ok (.iastore, 1) := by decide +kernel
theorem dX6_exchange_73 : decode cX6_exchange 73 = .ok (.new 159, 3) := by decide +kernel
theorem dX6_exchange_76 : decode cX6_exchange 76 = .ok (.dup, 1) := by decide +kernel
theorem dX6_exchange_77 : decode cX6_exchange 77 = .ok (.ldc 161, 2) := by decide +kernel
theorem dX6_exchange_79 : decode cX6_exchange 79 = .ok (.invokespecial 163, 3) := by decide +kernel
theorem dX6_exchange_82 : decode cX6_exchange 82 = .ok (.athrow, 1) := by decide +kernel
theorem dX6_exchange_83 : decode cX6_exchange 83 = .ok (.aload_n 0, 1) := by decide +kernel
theorem dX6_exchange_84 : decode cX6_exchange 84 = .ok (.getfield 44, 3) := by decide +kernel
theorem dX6_exchange_87 : decode cX6_exchange 87 = .ok (.lload 4, 2) := by decide +kernel
theorem dX6_exchange_89 : decode cX6_exchange 89 = .ok (.lload 6, 2) := by decide +kernel
theorem dX6_exchange_91 : decode cX6_exchange 91 = .ok (.iload_n 3, 1) := by decide +kernel
theorem dX6_exchange_92 : decode cX6_exchange 92 = .ok (.invokevirtual 155, 3) := by decide +kernel
theorem dX6_exchange_95 : decode cX6_exchange 95 = .ok (.pop, 1) := by decide +kernel
theorem dX6_exchange_96 : decode cX6_exchange 96 = .ok (.aload_n 0, 1) := by decide +kernel
theorem dX6_exchange_97 : decode cX6_exchange 97 = .ok (.getfield 30, 3) := by decide +kernel
theorem dX6_exchange_100 : decode cX6_exchange 100 = .ok (.aload_n 0, 1) := by decide +kernel
theorem dX6_exchange_101 : decode cX6_exchange 101 = .ok (.getfield 23, 3) := by decide +kernel
theorem dX6_exchange_104 : decode cX6_exchange 104 = .ok (.invokevirtual 94, 3) := by decide +kernel
theorem dX6_exchange_107 : decode cX6_exchange 107 = .ok (.aload_n 0, 1) := by decide +kernel
theorem dX6_exchange_108 : decode cX6_exchange 108 = .ok (.getfield 23, 3) := by decide +kernel
theorem dX6_exchange_111 : decode cX6_exchange 111 = .ok (.getfield 151, 3) := by decide +kernel
theorem dX6_exchange_114 : decode cX6_exchange 114 = .ok (.iload_n 1, 1) := by decide +kernel
theorem dX6_exchange_115 : decode cX6_exchange 115 = .ok (.aload_n 0, 1) := by decide +kernel
theorem dX6_exchange_116 : decode cX6_exchange 116 = .ok (.getfield 44, 3) := by decide +kernel
theorem dX6_exchange_119 : decode cX6_exchange 119 = .ok (.getfield 164, 3) := by decide +kernel
theorem dX6_exchange_122 : decode cX6_exchange 122 = .ok (.lastore, 1) := by decide +kernel
theorem dX6_exchange_123 : decode cX6_exchange 123 = .ok (.aload_n 0, 1) := by decide +kernel
theorem dX6_exchange_124 : decode cX6_exchange 124 = .ok (.getfield 23, 3) := by decide +kernel
theorem dX6_exchange_127 : decode cX6_exchange 127 = .ok (.getfield 151, 3) := by decide +kernel
theorem dX6_exchange_130 : decode cX6_exchange 130 = .ok (.iload_n 2, 1) := by decide +kernel
theorem dX6_exchange_131 : decode cX6_exchange 131 = .ok (.lload 4, 2) := by decide +kernel
theorem dX6_exchange_133 : decode cX6_exchange 133 = .ok (.lload 6, 2) := by decide +kernel
theorem dX6_exchange_135 : decode cX6_exchange 135 = .ok (.lor, 1) := by decide +kernel
theorem dX6_exchange_136 : decode cX6_exchange 136 = .ok (.aload_n 0, 1) := by decide +kernel
theorem dX6_exchange_137 : decode cX6_exchange 137 = .ok (.getfield 44, 3) := by decide +kernel
theorem dX6_exchange_140 : decode cX6_exchange 140 = .ok (.getfield 164, 3) := by decide +kernel
theorem dX6_exchange_143 : decode cX6_exchange 143 = .ok (.ldc2_w 124, 3) := by decide +kernel
theorem dX6_exchange_146 : decode cX6_exchange 146 = .ok (.lxor, 1) := by decide +kernel
theorem dX6_exchange_147 : decode cX6_exchange 147 = .ok (.land, 1) := by decide +kernel
theorem dX6_exchange_148 : decode cX6_exchange 148 = .ok (.lastore, 1) := by decide +kernel
theorem dX6_exchange_149 : decode cX6_exchange 149 = .ok (.iload 8, 2) := by decide +kernel
theorem dX6_exchange_151 : decode cX6_exchange 151 = .ok (.ireturn, 1) := by decide +kernel
theorem dX6_requirePart_0 : decode cX6_requirePart 0 = .ok (.aload_n 0, 1) := by decide +kernel
theorem dX6_requirePart_1 : decode cX6_requirePart 1 = .ok (.getfield 23, 3) := by decide +kernel
theorem dX6_requirePart_4 : decode cX6_requirePart 4 = .ok (.iload_n 1, 1) := by decide +kernel
theorem dX6_requirePart_5 : decode cX6_requirePart 5 = .ok (.invokevirtual 167, 3) := by decide +kernel
theorem dX6_requirePart_8 : decode cX6_requirePart 8 = .ok (.ifCond .ne 23, 3) := by decide +kernel
theorem dX6_requirePart_11 : decode cX6_requirePart 11 = .ok (.aload_n 0, 1) := by decide +kernel
theorem dX6_requirePart_12 : decode cX6_requirePart 12 = .ok (.getfield 66, 3) := by decide +kernel
theorem dX6_requirePart_15 : decode cX6_requirePart 15 = .ok (.iconst 0, 1) := by decide +kernel
theorem dX6_requirePart_16 : decode cX6_requirePart 16 = .ok (.dup2, 1) := by decide +kernel
theorem dX6_requirePart_17 : decode cX6_requirePart 17 = .ok (.iaload, 1) := by decide +kernel
theorem dX6_requirePart_18 : decode cX6_requirePart 18 = .ok (.iconst 1, 1) := by decide +kernel
theorem dX6_requirePart_19 : decode cX6_requirePart 19 = .ok (.iadd, 1) := by decide +kernel
theorem dX6_requirePart_20 : decode cX6_requirePart 20 = .ok (.iastore, 1) := by decide +kernel
theorem dX6_requirePart_21 : decode cX6_requirePart 21 = .ok (.new 159, 3) := by decide +kernel
theorem dX6_requirePart_24 : decode cX6_requirePart 24 = .ok (.dup, 1) := by decide +kernel
theorem dX6_requirePart_25 : decode cX6_requirePart 25 = .ok (.ldc 171, 2) := by decide +kernel
theorem dX6_requirePart_27 : decode cX6_requirePart 27 = .ok (.invokespecial 163, 3) := by decide +kernel
theorem dX6_requirePart_30 : decode cX6_requirePart 30 = .ok (.athrow, 1) := by decide +kernel
theorem dX6_requirePart_31 : decode cX6_requirePart 31 = .ok (.return_, 1) := by decide +kernel
theorem dX6_requireTwoParts_0 : decode cX6_requireTwoParts 0 = .ok (.aload_n 0, 1) := by decide +kernel
theorem dX6_requireTwoParts_1 : decode cX6_requireTwoParts 1 = .ok (.iload_n 1, 1) := by decide +kernel
theorem dX6_requireTwoParts_2 : decode cX6_requireTwoParts 2 = .ok (.invokevirtual 138, 3) := by decide +kernel
theorem dX6_requireTwoParts_5 : decode cX6_requireTwoParts 5 = .ok (.aload_n 0, 1) := by decide +kernel
theorem dX6_requireTwoParts_6 : decode cX6_requireTwoParts 6 = .ok (.iload_n 2, 1) := by decide +kernel
theorem dX6_requireTwoParts_7 : decode cX6_requireTwoParts 7 = .ok (.invokevirtual 138, 3) := by decide +kernel
theorem dX6_requireTwoParts_10 : decode cX6_requireTwoParts 10 = .ok (.iload_n 1, 1) := by decide +kernel
theorem dX6_requireTwoParts_11 : decode cX6_requireTwoParts 11 = .ok (.iload_n 2, 1) := by decide +kernel
theorem dX6_requireTwoParts_12 : decode cX6_requireTwoParts 12 = .ok (.if_icmp .ne 23, 3) := by decide +kernel
theorem dX6_requireTwoParts_15 : decode cX6_requireTwoParts 15 = .ok (.aload_n 0, 1) := by decide +kernel
theorem dX6_requireTwoParts_16 : decode cX6_requireTwoParts 16 = .ok (.getfield 66, 3) := by decide +kernel
theorem dX6_requireTwoParts_19 : decode cX6_requireTwoParts 19 = .ok (.iconst 1, 1) := by decide +kernel
theorem dX6_requireTwoParts_20 : decode cX6_requireTwoParts 20 = .ok (.dup2, 1) := by decide +kernel
theorem dX6_requireTwoParts_21 : decode cX6_requireTwoParts 21 = .ok (.iaload, 1) := by decide +kernel
theorem dX6_requireTwoParts_22 : decode cX6_requireTwoParts 22 = .ok (.iconst 1, 1) := by decide +kernel
theorem dX6_requireTwoParts_23 : decode cX6_requireTwoParts 23 = .ok (.iadd, 1) := by decide +kernel
theorem dX6_requireTwoParts_24 : decode cX6_requireTwoParts 24 = .ok (.iastore, 1) := by decide +kernel
theorem dX6_requireTwoParts_25 : decode cX6_requireTwoParts 25 = .ok (.new 82, 3) := by decide +kernel
theorem dX6_requireTwoParts_28 : decode cX6_requireTwoParts 28 = .ok (.dup, 1) := by decide +kernel
theorem dX6_requireTwoParts_29 : decode cX6_requireTwoParts 29 = .ok (.ldc 173, 2) := by decide +kernel
theorem dX6_requireTwoParts_31 : decode cX6_requireTwoParts 31 = .ok (.invokespecial 86, 3) := by decide +kernel
theorem dX6_requireTwoParts_34 : decode cX6_requireTwoParts 34 = .ok (.athrow, 1) := by decide +kernel
theorem dX6_requireTwoParts_35 : decode cX6_requireTwoParts 35 = .ok (.return_, 1) := by decide +kernel
theorem dX6_finish_0 : decode cX6_finish 0 = .ok (.aload_n 0, 1) := by decide +kernel
theorem dX6_finish_1 : decode cX6_finish 1 = .ok (.getfield 44, 3) := by decide +kernel
theorem dX6_finish_4 : decode cX6_finish 4 = .ok (.aload_n 0, 1) := by decide +kernel
theorem dX6_finish_5 : decode cX6_finish 5 = .ok (.getfield 23, 3) := by decide +kernel
theorem dX6_finish_8 : decode cX6_finish 8 = .ok (.invokevirtual 148, 3) := by decide +kernel
theorem dX6_finish_11 : decode cX6_finish 11 = .ok (.aload_n 0, 1) := by decide +kernel
theorem dX6_finish_12 : decode cX6_finish 12 = .ok (.getfield 51, 3) := by decide +kernel
theorem dX6_finish_15 : decode cX6_finish 15 = .ok (.aload_n 0, 1) := by decide +kernel
theorem dX6_finish_16 : decode cX6_finish 16 = .ok (.getfield 44, 3) := by decide +kernel
theorem dX6_finish_19 : decode cX6_finish 19 = .ok (.aload_n 0, 1) := by decide +kernel
theorem dX6_finish_20 : decode cX6_finish 20 = .ok (.getfield 23, 3) := by decide +kernel
theorem dX6_finish_23 : decode cX6_finish 23 = .ok (.invokevirtual 104, 3) := by decide +kernel
theorem dX6_finish_26 : decode cX6_finish 26 = .ok (.iconst 1, 1) := by decide +kernel
theorem dX6_finish_27 : decode cX6_finish 27 = .ok (.invokevirtual 175, 3) := by decide +kernel
theorem dX6_finish_30 : decode cX6_finish 30 = .ok (.aload_n 0, 1) := by decide +kernel
theorem dX6_finish_31 : decode cX6_finish 31 = .ok (.getfield 51, 3) := by decide +kernel
theorem dX6_finish_34 : decode cX6_finish 34 = .ok (.getfield 179, 3) := by decide +kernel
theorem dX6_finish_37 : decode cX6_finish 37 = .ok (.ifCond .ne 5, 3) := by decide +kernel
theorem dX6_finish_40 : decode cX6_finish 40 = .ok (.iconst (-1), 1) := by decide +kernel
theorem dX6_finish_41 : decode cX6_finish 41 = .ok (.ireturn, 1) := by decide +kernel
theorem dX6_finish_42 : decode cX6_finish 42 = .ok (.aload_n 0, 1) := by decide +kernel
theorem dX6_finish_43 : decode cX6_finish 43 = .ok (.getfield 30, 3) := by decide +kernel
theorem dX6_finish_46 : decode cX6_finish 46 = .ok (.aload_n 0, 1) := by decide +kernel
theorem dX6_finish_47 : decode cX6_finish 47 = .ok (.getfield 23, 3) := by decide +kernel
theorem dX6_finish_50 : decode cX6_finish 50 = .ok (.invokevirtual 94, 3) := by decide +kernel
theorem dX6_finish_53 : decode cX6_finish 53 = .ok (.iconst 0, 1) := by decide +kernel
theorem dX6_finish_54 : decode cX6_finish 54 = .ok (.istore_n 1, 1) := by decide +kernel
theorem dX6_finish_55 : decode cX6_finish 55 = .ok (.iload_n 1, 1) := by decide +kernel
theorem dX6_finish_56 : decode cX6_finish 56 = .ok (.aload_n 0, 1) := by decide +kernel
theorem dX6_finish_57 : decode cX6_finish 57 = .ok (.getfield 51, 3) := by decide +kernel
theorem dX6_finish_60 : decode cX6_finish 60 = .ok (.getfield 182, 3) := by decide +kernel
theorem dX6_finish_63 : decode cX6_finish 63 = .ok (.if_icmp .ge 37, 3) := by decide +kernel
theorem dX6_finish_66 : decode cX6_finish 66 = .ok (.iload_n 1, 1) := by decide +kernel
theorem dX6_finish_67 : decode cX6_finish 67 = .ok (.aload_n 0, 1) := by decide +kernel
theorem dX6_finish_68 : decode cX6_finish 68 = .ok (.getfield 51, 3) := by decide +kernel
theorem dX6_finish_71 : decode cX6_finish 71 = .ok (.getfield 185, 3) := by decide +kernel
theorem dX6_finish_74 : decode cX6_finish 74 = .ok (.arraylength, 1) := by decide +kernel
theorem dX6_finish_75 : decode cX6_finish 75 = .ok (.if_icmp .ge 25, 3) := by decide +kernel
theorem dX6_finish_78 : decode cX6_finish 78 = .ok (.aload_n 0, 1) := by decide +kernel
theorem dX6_finish_79 : decode cX6_finish 79 = .ok (.getfield 23, 3) := by decide +kernel
theorem dX6_finish_82 : decode cX6_finish 82 = .ok (.aload_n 0, 1) := by decide +kernel
theorem dX6_finish_83 : decode cX6_finish 83 = .ok (.getfield 51, 3) := by decide +kernel
theorem dX6_finish_86 : decode cX6_finish 86 = .ok (.getfield 185, 3) := by decide +kernel
theorem dX6_finish_89 : decode cX6_finish 89 = .ok (.iload_n 1, 1) := by decide +kernel
theorem dX6_finish_90 : decode cX6_finish 90 = .ok (.laload, 1) := by decide +kernel
theorem dX6_finish_91 : decode cX6_finish 91 = .ok (.invokevirtual 131, 3) := by decide +kernel
theorem dX6_finish_94 : decode cX6_finish 94 = .ok (.iinc 1 1, 3) := by decide +kernel
theorem dX6_finish_97 : decode cX6_finish 97 = .ok (.goto (-42), 3) := by decide +kernel
theorem dX6_finish_100 : decode cX6_finish 100 = .ok (.aload_n 0, 1) := by decide +kernel
theorem dX6_finish_101 : decode cX6_finish 101 = .ok (.getfield 51, 3) := by decide +kernel
theorem dX6_finish_104 : decode cX6_finish 104 = .ok (.getfield 182, 3) := by decide +kernel
theorem dX6_finish_107 : decode cX6_finish 107 = .ok (.ireturn, 1) := by decide +kernel
theorem dX6_develop_0 : decode cX6_develop 0 = .ok (.aload_n 0, 1) := by decide +kernel
theorem dX6_develop_1 : decode cX6_develop 1 = .ok (.getfield 23, 3) := by decide +kernel
theorem dX6_develop_4 : decode cX6_develop 4 = .ok (.invokevirtual 188, 3) := by decide +kernel
theorem dX6_develop_7 : decode cX6_develop 7 = .ok (.ifCond .ne 23, 3) := by decide +kernel
theorem dX6_develop_10 : decode cX6_develop 10 = .ok (.aload_n 0, 1) := by decide +kernel
theorem dX6_develop_11 : decode cX6_develop 11 = .ok (.getfield 66, 3) := by decide +kernel
theorem dX6_develop_14 : decode cX6_develop 14 = .ok (.iconst 2, 1) := by decide +kernel
theorem dX6_develop_15 : decode cX6_develop 15 = .ok (.dup2, 1) := by decide +kernel
theorem dX6_develop_16 : decode cX6_develop 16 = .ok (.iaload, 1) := by decide +kernel
theorem dX6_develop_17 : decode cX6_develop 17 = .ok (.iconst 1, 1) := by decide +kernel
theorem dX6_develop_18 : decode cX6_develop 18 = .ok (.iadd, 1) := by decide +kernel
theorem dX6_develop_19 : decode cX6_develop 19 = .ok (.iastore, 1) := by decide +kernel
theorem dX6_develop_20 : decode cX6_develop 20 = .ok (.new 126, 3) := by decide +kernel
theorem dX6_develop_23 : decode cX6_develop 23 = .ok (.dup, 1) := by decide +kernel
theorem dX6_develop_24 : decode cX6_develop 24 = .ok (.ldc 192, 2) := by decide +kernel
theorem dX6_develop_26 : decode cX6_develop 26 = .ok (.invokespecial 130, 3) := by decide +kernel
theorem dX6_develop_29 : decode cX6_develop 29 = .ok (.athrow, 1) := by decide +kernel
theorem dX6_develop_30 : decode cX6_develop 30 = .ok (.aload_n 0, 1) := by decide +kernel
theorem dX6_develop_31 : decode cX6_develop 31 = .ok (.getfield 30, 3) := by decide +kernel
theorem dX6_develop_34 : decode cX6_develop 34 = .ok (.aload_n 0, 1) := by decide +kernel
theorem dX6_develop_35 : decode cX6_develop 35 = .ok (.getfield 23, 3) := by decide +kernel
theorem dX6_develop_38 : decode cX6_develop 38 = .ok (.invokevirtual 94, 3) := by decide +kernel
theorem dX6_develop_41 : decode cX6_develop 41 = .ok (.aload_n 0, 1) := by decide +kernel
theorem dX6_develop_42 : decode cX6_develop 42 = .ok (.getfield 23, 3) := by decide +kernel
theorem dX6_develop_45 : decode cX6_develop 45 = .ok (.invokevirtual 194, 3) := by decide +kernel
theorem dX6_develop_48 : decode cX6_develop 48 = .ok (.aload_n 0, 1) := by decide +kernel
theorem dX6_develop_49 : decode cX6_develop 49 = .ok (.getfield 23, 3) := by decide +kernel
theorem dX6_develop_52 : decode cX6_develop 52 = .ok (.getfield 135, 3) := by decide +kernel
theorem dX6_develop_55 : decode cX6_develop 55 = .ok (.ireturn, 1) := by decide +kernel
theorem dX6_undo_0 : decode cX6_undo 0 = .ok (.aload_n 0, 1) := by decide +kernel
theorem dX6_undo_1 : decode cX6_undo 1 = .ok (.getfield 30, 3) := by decide +kernel
theorem dX6_undo_4 : decode cX6_undo 4 = .ok (.getfield 197, 3) := by decide +kernel
theorem dX6_undo_7 : decode cX6_undo 7 = .ok (.ifCond .ne 5, 3) := by decide +kernel
theorem dX6_undo_10 : decode cX6_undo 10 = .ok (.iconst (-1), 1) := by decide +kernel
theorem dX6_undo_11 : decode cX6_undo 11 = .ok (.ireturn, 1) := by decide +kernel
theorem dX6_undo_12 : decode cX6_undo 12 = .ok (.aload_n 0, 1) := by decide +kernel
theorem dX6_undo_13 : decode cX6_undo 13 = .ok (.getfield 30, 3) := by decide +kernel
theorem dX6_undo_16 : decode cX6_undo 16 = .ok (.aload_n 0, 1) := by decide +kernel
theorem dX6_undo_17 : decode cX6_undo 17 = .ok (.getfield 23, 3) := by decide +kernel
theorem dX6_undo_20 : decode cX6_undo 20 = .ok (.invokevirtual 200, 3) := by decide +kernel
theorem dX6_undo_23 : decode cX6_undo 23 = .ok (.aload_n 0, 1) := by decide +kernel
theorem dX6_undo_24 : decode cX6_undo 24 = .ok (.getfield 30, 3) := by decide +kernel
theorem dX6_undo_27 : decode cX6_undo 27 = .ok (.getfield 197, 3) := by decide +kernel
theorem dX6_undo_30 : decode cX6_undo 30 = .ok (.ireturn, 1) := by decide +kernel
theorem dX6_told_0 : decode cX6_told 0 = .ok (.aload_n 0, 1) := by decide +kernel
theorem dX6_told_1 : decode cX6_told 1 = .ok (.iload_n 1, 1) := by decide +kernel
theorem dX6_told_2 : decode cX6_told 2 = .ok (.bipush 8, 2) := by decide +kernel
theorem dX6_told_4 : decode cX6_told 4 = .ok (.invokevirtual 203, 3) := by decide +kernel
theorem dX6_told_7 : decode cX6_told 7 = .ok (.iload_n 1, 1) := by decide +kernel
theorem dX6_told_8 : decode cX6_told 8 = .ok (.tableswitch 115 0 7 #[48, 56, 67, 75, 83, 91, 102, 110], 48) := by decide +kernel
theorem dX6_told_56 : decode cX6_told 56 = .ok (.aload_n 0, 1) := by decide +kernel
theorem dX6_told_57 : decode cX6_told 57 = .ok (.getfield 23, 3) := by decide +kernel
theorem dX6_told_60 : decode cX6_told 60 = .ok (.getfield 69, 3) := by decide +kernel
theorem dX6_told_63 : decode cX6_told 63 = .ok (.ireturn, 1) := by decide +kernel
theorem dX6_told_64 : decode cX6_told 64 = .ok (.aload_n 0, 1) := by decide +kernel
theorem dX6_told_65 : decode cX6_told 65 = .ok (.getfield 23, 3) := by decide +kernel
theorem dX6_told_68 : decode cX6_told 68 = .ok (.getfield 74, 3) := by decide +kernel
theorem dX6_told_71 : decode cX6_told 71 = .ok (.invokestatic 108, 3) := by decide +kernel
theorem dX6_told_74 : decode cX6_told 74 = .ok (.ireturn, 1) := by decide +kernel
theorem dX6_told_75 : decode cX6_told 75 = .ok (.aload_n 0, 1) := by decide +kernel
theorem dX6_told_76 : decode cX6_told 76 = .ok (.getfield 23, 3) := by decide +kernel
theorem dX6_told_79 : decode cX6_told 79 = .ok (.getfield 206, 3) := by decide +kernel
theorem dX6_told_82 : decode cX6_told 82 = .ok (.ireturn, 1) := by decide +kernel
theorem dX6_told_83 : decode cX6_told 83 = .ok (.aload_n 0, 1) := by decide +kernel
theorem dX6_told_84 : decode cX6_told 84 = .ok (.getfield 23, 3) := by decide +kernel
theorem dX6_told_87 : decode cX6_told 87 = .ok (.getfield 209, 3) := by decide +kernel
theorem dX6_told_90 : decode cX6_told 90 = .ok (.ireturn, 1) := by decide +kernel
theorem dX6_told_91 : decode cX6_told 91 = .ok (.aload_n 0, 1) := by decide +kernel
theorem dX6_told_92 : decode cX6_told 92 = .ok (.getfield 23, 3) := by decide +kernel
theorem dX6_told_95 : decode cX6_told 95 = .ok (.getfield 135, 3) := by decide +kernel
theorem dX6_told_98 : decode cX6_told 98 = .ok (.ireturn, 1) := by decide +kernel
theorem dX6_told_99 : decode cX6_told 99 = .ok (.aload_n 0, 1) := by decide +kernel
theorem dX6_told_100 : decode cX6_told 100 = .ok (.getfield 23, 3) := by decide +kernel
theorem dX6_told_103 : decode cX6_told 103 = .ok (.invokevirtual 104, 3) := by decide +kernel
theorem dX6_told_106 : decode cX6_told 106 = .ok (.invokestatic 108, 3) := by decide +kernel
theorem dX6_told_109 : decode cX6_told 109 = .ok (.ireturn, 1) := by decide +kernel
theorem dX6_told_110 : decode cX6_told 110 = .ok (.aload_n 0, 1) := by decide +kernel
theorem dX6_told_111 : decode cX6_told 111 = .ok (.getfield 23, 3) := by decide +kernel
theorem dX6_told_114 : decode cX6_told 114 = .ok (.getfield 212, 3) := by decide +kernel
theorem dX6_told_117 : decode cX6_told 117 = .ok (.ireturn, 1) := by decide +kernel
theorem dX6_told_118 : decode cX6_told 118 = .ok (.aload_n 0, 1) := by decide +kernel
theorem dX6_told_119 : decode cX6_told 119 = .ok (.getfield 13, 3) := by decide +kernel
theorem dX6_told_122 : decode cX6_told 122 = .ok (.ireturn, 1) := by decide +kernel
theorem dX6_told_123 : decode cX6_told 123 = .ok (.aload_n 0, 1) := by decide +kernel
theorem dX6_told_124 : decode cX6_told 124 = .ok (.getfield 30, 3) := by decide +kernel
theorem dX6_told_127 : decode cX6_told 127 = .ok (.getfield 197, 3) := by decide +kernel
theorem dX6_told_130 : decode cX6_told 130 = .ok (.ireturn, 1) := by decide +kernel
theorem dX6_requireWhat_0 : decode cX6_requireWhat 0 = .ok (.iload_n 1, 1) := by decide +kernel
theorem dX6_requireWhat_1 : decode cX6_requireWhat 1 = .ok (.ifCond .lt 8, 3) := by decide +kernel
theorem dX6_requireWhat_4 : decode cX6_requireWhat 4 = .ok (.iload_n 1, 1) := by decide +kernel
theorem dX6_requireWhat_5 : decode cX6_requireWhat 5 = .ok (.iload_n 2, 1) := by decide +kernel
theorem dX6_requireWhat_6 : decode cX6_requireWhat 6 = .ok (.if_icmp .le 23, 3) := by decide +kernel
theorem dX6_requireWhat_9 : decode cX6_requireWhat 9 = .ok (.aload_n 0, 1) := by decide +kernel
theorem dX6_requireWhat_10 : decode cX6_requireWhat 10 = .ok (.getfield 66, 3) := by decide +kernel
theorem dX6_requireWhat_13 : decode cX6_requireWhat 13 = .ok (.iconst 1, 1) := by decide +kernel
theorem dX6_requireWhat_14 : decode cX6_requireWhat 14 = .ok (.dup2, 1) := by decide +kernel
theorem dX6_requireWhat_15 : decode cX6_requireWhat 15 = .ok (.iaload, 1) := by decide +kernel
theorem dX6_requireWhat_16 : decode cX6_requireWhat 16 = .ok (.iconst 1, 1) := by decide +kernel
theorem dX6_requireWhat_17 : decode cX6_requireWhat 17 = .ok (.iadd, 1) := by decide +kernel
theorem dX6_requireWhat_18 : decode cX6_requireWhat 18 = .ok (.iastore, 1) := by decide +kernel
theorem dX6_requireWhat_19 : decode cX6_requireWhat 19 = .ok (.new 82, 3) := by decide +kernel
theorem dX6_requireWhat_22 : decode cX6_requireWhat 22 = .ok (.dup, 1) := by decide +kernel
theorem dX6_requireWhat_23 : decode cX6_requireWhat 23 = .ok (.ldc 215, 2) := by decide +kernel
theorem dX6_requireWhat_25 : decode cX6_requireWhat 25 = .ok (.invokespecial 86, 3) := by decide +kernel
theorem dX6_requireWhat_28 : decode cX6_requireWhat 28 = .ok (.athrow, 1) := by decide +kernel
theorem dX6_requireWhat_29 : decode cX6_requireWhat 29 = .ok (.return_, 1) := by decide +kernel
theorem dX6_requireNode_0 : decode cX6_requireNode 0 = .ok (.aload_n 0, 1) := by decide +kernel
theorem dX6_requireNode_1 : decode cX6_requireNode 1 = .ok (.getfield 23, 3) := by decide +kernel
theorem dX6_requireNode_4 : decode cX6_requireNode 4 = .ok (.iload_n 1, 1) := by decide +kernel
theorem dX6_requireNode_5 : decode cX6_requireNode 5 = .ok (.invokevirtual 217, 3) := by decide +kernel
theorem dX6_requireNode_8 : decode cX6_requireNode 8 = .ok (.ifCond .ne 23, 3) := by decide +kernel
theorem dX6_requireNode_11 : decode cX6_requireNode 11 = .ok (.aload_n 0, 1) := by decide +kernel
theorem dX6_requireNode_12 : decode cX6_requireNode 12 = .ok (.getfield 66, 3) := by decide +kernel
theorem dX6_requireNode_15 : decode cX6_requireNode 15 = .ok (.iconst 0, 1) := by decide +kernel
theorem dX6_requireNode_16 : decode cX6_requireNode 16 = .ok (.dup2, 1) := by decide +kernel
theorem dX6_requireNode_17 : decode cX6_requireNode 17 = .ok (.iaload, 1) := by decide +kernel
theorem dX6_requireNode_18 : decode cX6_requireNode 18 = .ok (.iconst 1, 1) := by decide +kernel
theorem dX6_requireNode_19 : decode cX6_requireNode 19 = .ok (.iadd, 1) := by decide +kernel
theorem dX6_requireNode_20 : decode cX6_requireNode 20 = .ok (.iastore, 1) := by decide +kernel
theorem dX6_requireNode_21 : decode cX6_requireNode 21 = .ok (.new 159, 3) := by decide +kernel
theorem dX6_requireNode_24 : decode cX6_requireNode 24 = .ok (.dup, 1) := by decide +kernel
theorem dX6_requireNode_25 : decode cX6_requireNode 25 = .ok (.ldc 220, 2) := by decide +kernel
theorem dX6_requireNode_27 : decode cX6_requireNode 27 = .ok (.invokespecial 163, 3) := by decide +kernel
theorem dX6_requireNode_30 : decode cX6_requireNode 30 = .ok (.athrow, 1) := by decide +kernel
theorem dX6_requireNode_31 : decode cX6_requireNode 31 = .ok (.return_, 1) := by decide +kernel
theorem dX6_line_0 : decode cX6_line 0 = .ok (.aload_n 0, 1) := by decide +kernel
theorem dX6_line_1 : decode cX6_line 1 = .ok (.iload_n 1, 1) := by decide +kernel
theorem dX6_line_2 : decode cX6_line 2 = .ok (.invokevirtual 222, 3) := by decide +kernel
theorem dX6_line_5 : decode cX6_line 5 = .ok (.aload_n 0, 1) := by decide +kernel
theorem dX6_line_6 : decode cX6_line 6 = .ok (.iload_n 2, 1) := by decide +kernel
theorem dX6_line_7 : decode cX6_line 7 = .ok (.invokevirtual 222, 3) := by decide +kernel
theorem dX6_line_10 : decode cX6_line 10 = .ok (.iload_n 1, 1) := by decide +kernel
theorem dX6_line_11 : decode cX6_line 11 = .ok (.iload_n 2, 1) := by decide +kernel
theorem dX6_line_12 : decode cX6_line 12 = .ok (.if_icmp .ne 23, 3) := by decide +kernel
theorem dX6_line_15 : decode cX6_line 15 = .ok (.aload_n 0, 1) := by decide +kernel
theorem dX6_line_16 : decode cX6_line 16 = .ok (.getfield 66, 3) := by decide +kernel
theorem dX6_line_19 : decode cX6_line 19 = .ok (.iconst 1, 1) := by decide +kernel
theorem dX6_line_20 : decode cX6_line 20 = .ok (.dup2, 1) := by decide +kernel
theorem dX6_line_21 : decode cX6_line 21 = .ok (.iaload, 1) := by decide +kernel
theorem dX6_line_22 : decode cX6_line 22 = .ok (.iconst 1, 1) := by decide +kernel
theorem dX6_line_23 : decode cX6_line 23 = .ok (.iadd, 1) := by decide +kernel
theorem dX6_line_24 : decode cX6_line 24 = .ok (.iastore, 1) := by decide +kernel
theorem dX6_line_25 : decode cX6_line 25 = .ok (.new 82, 3) := by decide +kernel
theorem dX6_line_28 : decode cX6_line 28 = .ok (.dup, 1) := by decide +kernel
theorem dX6_line_29 : decode cX6_line 29 = .ok (.ldc 225, 2) := by decide +kernel
theorem dX6_line_31 : decode cX6_line 31 = .ok (.invokespecial 86, 3) := by decide +kernel
theorem dX6_line_34 : decode cX6_line 34 = .ok (.athrow, 1) := by decide +kernel
theorem dX6_line_35 : decode cX6_line 35 = .ok (.aload_n 0, 1) := by decide +kernel
theorem dX6_line_36 : decode cX6_line 36 = .ok (.iload_n 3, 1) := by decide +kernel
theorem dX6_line_37 : decode cX6_line 37 = .ok (.iconst 2, 1) := by decide +kernel
theorem dX6_line_38 : decode cX6_line 38 = .ok (.invokevirtual 203, 3) := by decide +kernel
theorem dX6_line_41 : decode cX6_line 41 = .ok (.aload_n 0, 1) := by decide +kernel
theorem dX6_line_42 : decode cX6_line 42 = .ok (.getfield 23, 3) := by decide +kernel
theorem dX6_line_45 : decode cX6_line 45 = .ok (.iload_n 1, 1) := by decide +kernel
theorem dX6_line_46 : decode cX6_line 46 = .ok (.iload_n 2, 1) := by decide +kernel
theorem dX6_line_47 : decode cX6_line 47 = .ok (.invokevirtual 227, 3) := by decide +kernel
theorem dX6_line_50 : decode cX6_line 50 = .ok (.istore 4, 2) := by decide +kernel
theorem dX6_line_52 : decode cX6_line 52 = .ok (.iload_n 3, 1) := by decide +kernel
theorem dX6_line_53 : decode cX6_line 53 = .ok (.ifCond .ne 6, 3) := by decide +kernel
theorem dX6_line_56 : decode cX6_line 56 = .ok (.iload 4, 2) := by decide +kernel
theorem dX6_line_58 : decode cX6_line 58 = .ok (.ireturn, 1) := by decide +kernel
theorem dX6_line_59 : decode cX6_line 59 = .ok (.iload_n 3, 1) := by decide +kernel
theorem dX6_line_60 : decode cX6_line 60 = .ok (.iconst 1, 1) := by decide +kernel
theorem dX6_line_61 : decode cX6_line 61 = .ok (.if_icmp .ne 17, 3) := by decide +kernel
theorem dX6_line_64 : decode cX6_line 64 = .ok (.aload_n 0, 1) := by decide +kernel
theorem dX6_line_65 : decode cX6_line 65 = .ok (.getfield 23, 3) := by decide +kernel
theorem dX6_line_68 : decode cX6_line 68 = .ok (.getfield 74, 3) := by decide +kernel
theorem dX6_line_71 : decode cX6_line 71 = .ok (.iload 4, 2) := by decide +kernel
theorem dX6_line_73 : decode cX6_line 73 = .ok (.lushr, 1) := by decide +kernel
theorem dX6_line_74 : decode cX6_line 74 = .ok (.lconst 1, 1) := by decide +kernel
theorem dX6_line_75 : decode cX6_line 75 = .ok (.land, 1) := by decide +kernel
theorem dX6_line_76 : decode cX6_line 76 = .ok (.l2i, 1) := by decide +kernel
theorem dX6_line_77 : decode cX6_line 77 = .ok (.ireturn, 1) := by decide +kernel
theorem dX6_line_78 : decode cX6_line 78 = .ok (.aload_n 0, 1) := by decide +kernel
theorem dX6_line_79 : decode cX6_line 79 = .ok (.getfield 23, 3) := by decide +kernel
theorem dX6_line_82 : decode cX6_line 82 = .ok (.lconst 1, 1) := by decide +kernel
theorem dX6_line_83 : decode cX6_line 83 = .ok (.iload 4, 2) := by decide +kernel
theorem dX6_line_85 : decode cX6_line 85 = .ok (.lshl, 1) := by decide +kernel
theorem dX6_line_86 : decode cX6_line 86 = .ok (.invokevirtual 231, 3) := by decide +kernel
theorem dX6_line_89 : decode cX6_line 89 = .ok (.ireturn, 1) := by decide +kernel
theorem dX6_node_0 : decode cX6_node 0 = .ok (.aload_n 0, 1) := by decide +kernel
theorem dX6_node_1 : decode cX6_node 1 = .ok (.iload_n 1, 1) := by decide +kernel
theorem dX6_node_2 : decode cX6_node 2 = .ok (.invokevirtual 222, 3) := by decide +kernel
theorem dX6_node_5 : decode cX6_node 5 = .ok (.aload_n 0, 1) := by decide +kernel
theorem dX6_node_6 : decode cX6_node 6 = .ok (.iload_n 2, 1) := by decide +kernel
theorem dX6_node_7 : decode cX6_node 7 = .ok (.iconst 2, 1) := by decide +kernel
theorem dX6_node_8 : decode cX6_node 8 = .ok (.invokevirtual 203, 3) := by decide +kernel
theorem dX6_node_11 : decode cX6_node 11 = .ok (.aload_n 0, 1) := by decide +kernel
theorem dX6_node_12 : decode cX6_node 12 = .ok (.getfield 23, 3) := by decide +kernel
theorem dX6_node_15 : decode cX6_node 15 = .ok (.iload_n 1, 1) := by decide +kernel
theorem dX6_node_16 : decode cX6_node 16 = .ok (.invokevirtual 234, 3) := by decide +kernel
theorem dX6_node_19 : decode cX6_node 19 = .ok (.lstore_n 3, 1) := by decide +kernel
theorem dX6_node_20 : decode cX6_node 20 = .ok (.iload_n 2, 1) := by decide +kernel
theorem dX6_node_21 : decode cX6_node 21 = .ok (.ifCond .ne 16, 3) := by decide +kernel
theorem dX6_node_24 : decode cX6_node 24 = .ok (.aload_n 0, 1) := by decide +kernel
theorem dX6_node_25 : decode cX6_node 25 = .ok (.getfield 23, 3) := by decide +kernel
theorem dX6_node_28 : decode cX6_node 28 = .ok (.getfield 74, 3) := by decide +kernel
theorem dX6_node_31 : decode cX6_node 31 = .ok (.lload_n 3, 1) := by decide +kernel
theorem dX6_node_32 : decode cX6_node 32 = .ok (.land, 1) := by decide +kernel
theorem dX6_node_33 : decode cX6_node 33 = .ok (.invokestatic 108, 3) := by decide +kernel
theorem dX6_node_36 : decode cX6_node 36 = .ok (.ireturn, 1) := by decide +kernel
theorem dX6_node_37 : decode cX6_node 37 = .ok (.iload_n 2, 1) := by decide +kernel
theorem dX6_node_38 : decode cX6_node 38 = .ok (.iconst 1, 1) := by decide +kernel
theorem dX6_node_39 : decode cX6_node 39 = .ok (.if_icmp .ne 16, 3) := by decide +kernel
theorem dX6_node_42 : decode cX6_node 42 = .ok (.aload_n 0, 1) := by decide +kernel
theorem dX6_node_43 : decode cX6_node 43 = .ok (.getfield 23, 3) := by decide +kernel
theorem dX6_node_46 : decode cX6_node 46 = .ok (.invokevirtual 104, 3) := by decide +kernel
theorem dX6_node_49 : decode cX6_node 49 = .ok (.lload_n 3, 1) := by decide +kernel
theorem dX6_node_50 : decode cX6_node 50 = .ok (.land, 1) := by decide +kernel
theorem dX6_node_51 : decode cX6_node 51 = .ok (.invokestatic 108, 3) := by decide +kernel
theorem dX6_node_54 : decode cX6_node 54 = .ok (.ireturn, 1) := by decide +kernel
theorem dX6_node_55 : decode cX6_node 55 = .ok (.aload_n 0, 1) := by decide +kernel
theorem dX6_node_56 : decode cX6_node 56 = .ok (.getfield 23, 3) := by decide +kernel
theorem dX6_node_59 : decode cX6_node 59 = .ok (.lload_n 3, 1) := by decide +kernel
theorem dX6_node_60 : decode cX6_node 60 = .ok (.invokevirtual 238, 3) := by decide +kernel
theorem dX6_node_63 : decode cX6_node 63 = .ok (.ireturn, 1) := by decide +kernel
theorem dX6_part_0 : decode cX6_part 0 = .ok (.aload_n 0, 1) := by decide +kernel
theorem dX6_part_1 : decode cX6_part 1 = .ok (.iload_n 1, 1) := by decide +kernel
theorem dX6_part_2 : decode cX6_part 2 = .ok (.invokevirtual 138, 3) := by decide +kernel
theorem dX6_part_5 : decode cX6_part 5 = .ok (.iload_n 2, 1) := by decide +kernel
theorem dX6_part_6 : decode cX6_part 6 = .ok (.ifCond .lt 14, 3) := by decide +kernel
theorem dX6_part_9 : decode cX6_part 9 = .ok (.iload_n 2, 1) := by decide +kernel
theorem dX6_part_10 : decode cX6_part 10 = .ok (.aload_n 0, 1) := by decide +kernel
theorem dX6_part_11 : decode cX6_part 11 = .ok (.getfield 23, 3) := by decide +kernel
theorem dX6_part_14 : decode cX6_part 14 = .ok (.getfield 209, 3) := by decide +kernel
theorem dX6_part_17 : decode cX6_part 17 = .ok (.if_icmp .lt 5, 3) := by decide +kernel
theorem dX6_part_20 : decode cX6_part 20 = .ok (.iconst (-1), 1) := by decide +kernel
theorem dX6_part_21 : decode cX6_part 21 = .ok (.ireturn, 1) := by decide +kernel
theorem dX6_part_22 : decode cX6_part 22 = .ok (.aload_n 0, 1) := by decide +kernel
theorem dX6_part_23 : decode cX6_part 23 = .ok (.getfield 23, 3) := by decide +kernel
theorem dX6_part_26 : decode cX6_part 26 = .ok (.getfield 151, 3) := by decide +kernel
theorem dX6_part_29 : decode cX6_part 29 = .ok (.iload_n 1, 1) := by decide +kernel
theorem dX6_part_30 : decode cX6_part 30 = .ok (.laload, 1) := by decide +kernel
theorem dX6_part_31 : decode cX6_part 31 = .ok (.lstore_n 3, 1) := by decide +kernel
theorem dX6_part_32 : decode cX6_part 32 = .ok (.iconst 0, 1) := by decide +kernel
theorem dX6_part_33 : decode cX6_part 33 = .ok (.istore 5, 2) := by decide +kernel
theorem dX6_part_35 : decode cX6_part 35 = .ok (.iload 5, 2) := by decide +kernel
theorem dX6_part_37 : decode cX6_part 37 = .ok (.iload_n 2, 1) := by decide +kernel
theorem dX6_part_38 : decode cX6_part 38 = .ok (.if_icmp .ge 15, 3) := by decide +kernel
theorem dX6_part_41 : decode cX6_part 41 = .ok (.lload_n 3, 1) := by decide +kernel
theorem dX6_part_42 : decode cX6_part 42 = .ok (.lload_n 3, 1) := by decide +kernel
theorem dX6_part_43 : decode cX6_part 43 = .ok (.lconst 1, 1) := by decide +kernel
theorem dX6_part_44 : decode cX6_part 44 = .ok (.lsub, 1) := by decide +kernel
theorem dX6_part_45 : decode cX6_part 45 = .ok (.land, 1) := by decide +kernel
theorem dX6_part_46 : decode cX6_part 46 = .ok (.lstore_n 3, 1) := by decide +kernel
theorem dX6_part_47 : decode cX6_part 47 = .ok (.iinc 5 1, 3) := by decide +kernel
theorem dX6_part_50 : decode cX6_part 50 = .ok (.goto (-15), 3) := by decide +kernel
theorem dX6_part_53 : decode cX6_part 53 = .ok (.lload_n 3, 1) := by decide +kernel
theorem dX6_part_54 : decode cX6_part 54 = .ok (.invokestatic 241, 3) := by decide +kernel
theorem dX6_part_57 : decode cX6_part 57 = .ok (.ireturn, 1) := by decide +kernel
theorem dX6_left_0 : decode cX6_left 0 = .ok (.aload_n 0, 1) := by decide +kernel
theorem dX6_left_1 : decode cX6_left 1 = .ok (.getfield 23, 3) := by decide +kernel
theorem dX6_left_4 : decode cX6_left 4 = .ok (.invokevirtual 104, 3) := by decide +kernel
theorem dX6_left_7 : decode cX6_left 7 = .ok (.lreturn, 1) := by decide +kernel
theorem dX6_parts_0 : decode cX6_parts 0 = .ok (.aload_n 0, 1) := by decide +kernel
theorem dX6_parts_1 : decode cX6_parts 1 = .ok (.iload_n 1, 1) := by decide +kernel
theorem dX6_parts_2 : decode cX6_parts 2 = .ok (.iconst 1, 1) := by decide +kernel
theorem dX6_parts_3 : decode cX6_parts 3 = .ok (.invokevirtual 203, 3) := by decide +kernel
theorem dX6_parts_6 : decode cX6_parts 6 = .ok (.aload_n 0, 1) := by decide +kernel
theorem dX6_parts_7 : decode cX6_parts 7 = .ok (.getfield 44, 3) := by decide +kernel
theorem dX6_parts_10 : decode cX6_parts 10 = .ok (.aload_n 0, 1) := by decide +kernel
theorem dX6_parts_11 : decode cX6_parts 11 = .ok (.getfield 23, 3) := by decide +kernel
theorem dX6_parts_14 : decode cX6_parts 14 = .ok (.invokevirtual 148, 3) := by decide +kernel
theorem dX6_parts_17 : decode cX6_parts 17 = .ok (.iload_n 1, 1) := by decide +kernel
theorem dX6_parts_18 : decode cX6_parts 18 = .ok (.ifCond .ne 13, 3) := by decide +kernel
theorem dX6_parts_21 : decode cX6_parts 21 = .ok (.aload_n 0, 1) := by decide +kernel
theorem dX6_parts_22 : decode cX6_parts 22 = .ok (.getfield 44, 3) := by decide +kernel
theorem dX6_parts_25 : decode cX6_parts 25 = .ok (.getfield 244, 3) := by decide +kernel
theorem dX6_parts_28 : decode cX6_parts 28 = .ok (.goto 17, 3) := by decide +kernel
theorem dX6_parts_31 : decode cX6_parts 31 = .ok (.aload_n 0, 1) := by decide +kernel
theorem dX6_parts_32 : decode cX6_parts 32 = .ok (.getfield 44, 3) := by decide +kernel
theorem dX6_parts_35 : decode cX6_parts 35 = .ok (.aload_n 0, 1) := by decide +kernel
theorem dX6_parts_36 : decode cX6_parts 36 = .ok (.getfield 23, 3) := by decide +kernel
theorem dX6_parts_39 : decode cX6_parts 39 = .ok (.invokevirtual 104, 3) := by decide +kernel
theorem dX6_parts_42 : decode cX6_parts 42 = .ok (.invokevirtual 245, 3) := by decide +kernel
theorem dX6_parts_45 : decode cX6_parts 45 = .ok (.ireturn, 1) := by decide +kernel
theorem dX6_partAt_0 : decode cX6_partAt 0 = .ok (.aload_n 0, 1) := by decide +kernel
theorem dX6_partAt_1 : decode cX6_partAt 1 = .ok (.getfield 44, 3) := by decide +kernel
theorem dX6_partAt_4 : decode cX6_partAt 4 = .ok (.aload_n 0, 1) := by decide +kernel
theorem dX6_partAt_5 : decode cX6_partAt 5 = .ok (.getfield 23, 3) := by decide +kernel
theorem dX6_partAt_8 : decode cX6_partAt 8 = .ok (.invokevirtual 148, 3) := by decide +kernel
theorem dX6_partAt_11 : decode cX6_partAt 11 = .ok (.iload_n 1, 1) := by decide +kernel
theorem dX6_partAt_12 : decode cX6_partAt 12 = .ok (.ifCond .ge 7, 3) := by decide +kernel
theorem dX6_partAt_15 : decode cX6_partAt 15 = .ok (.lconst 0, 1) := by decide +kernel
theorem dX6_partAt_16 : decode cX6_partAt 16 = .ok (.goto 18, 3) := by decide +kernel
theorem dX6_partAt_19 : decode cX6_partAt 19 = .ok (.aload_n 0, 1) := by decide +kernel
theorem dX6_partAt_20 : decode cX6_partAt 20 = .ok (.getfield 44, 3) := by decide +kernel
theorem dX6_partAt_23 : decode cX6_partAt 23 = .ok (.aload_n 0, 1) := by decide +kernel
theorem dX6_partAt_24 : decode cX6_partAt 24 = .ok (.getfield 23, 3) := by decide +kernel
theorem dX6_partAt_27 : decode cX6_partAt 27 = .ok (.invokevirtual 104, 3) := by decide +kernel
theorem dX6_partAt_30 : decode cX6_partAt 30 = .ok (.iload_n 1, 1) := by decide +kernel
theorem dX6_partAt_31 : decode cX6_partAt 31 = .ok (.invokevirtual 248, 3) := by decide +kernel
theorem dX6_partAt_34 : decode cX6_partAt 34 = .ok (.lstore_n 2, 1) := by decide +kernel
theorem dX6_partAt_35 : decode cX6_partAt 35 = .ok (.lload_n 2, 1) := by decide +kernel
theorem dX6_partAt_36 : decode cX6_partAt 36 = .ok (.lconst 0, 1) := by decide +kernel
theorem dX6_partAt_37 : decode cX6_partAt 37 = .ok (.lcmp, 1) := by decide +kernel
theorem dX6_partAt_38 : decode cX6_partAt 38 = .ok (.ifCond .ne 23, 3) := by decide +kernel
theorem dX6_partAt_41 : decode cX6_partAt 41 = .ok (.aload_n 0, 1) := by decide +kernel
theorem dX6_partAt_42 : decode cX6_partAt 42 = .ok (.getfield 66, 3) := by decide +kernel
theorem dX6_partAt_45 : decode cX6_partAt 45 = .ok (.iconst 0, 1) := by decide +kernel
theorem dX6_partAt_46 : decode cX6_partAt 46 = .ok (.dup2, 1) := by decide +kernel
theorem dX6_partAt_47 : decode cX6_partAt 47 = .ok (.iaload, 1) := by decide +kernel
theorem dX6_partAt_48 : decode cX6_partAt 48 = .ok (.iconst 1, 1) := by decide +kernel
theorem dX6_partAt_49 : decode cX6_partAt 49 = .ok (.iadd, 1) := by decide +kernel
theorem dX6_partAt_50 : decode cX6_partAt 50 = .ok (.iastore, 1) := by decide +kernel
theorem dX6_partAt_51 : decode cX6_partAt 51 = .ok (.new 159, 3) := by decide +kernel
theorem dX6_partAt_54 : decode cX6_partAt 54 = .ok (.dup, 1) := by decide +kernel
theorem dX6_partAt_55 : decode cX6_partAt 55 = .ok (.ldc 171, 2) := by decide +kernel
theorem dX6_partAt_57 : decode cX6_partAt 57 = .ok (.invokespecial 163, 3) := by decide +kernel
theorem dX6_partAt_60 : decode cX6_partAt 60 = .ok (.athrow, 1) := by decide +kernel
theorem dX6_partAt_61 : decode cX6_partAt 61 = .ok (.lload_n 2, 1) := by decide +kernel
theorem dX6_partAt_62 : decode cX6_partAt 62 = .ok (.lreturn, 1) := by decide +kernel
theorem dX6_tests_0 : decode cX6_tests 0 = .ok (.aload_n 0, 1) := by decide +kernel
theorem dX6_tests_1 : decode cX6_tests 1 = .ok (.getfield 23, 3) := by decide +kernel
theorem dX6_tests_4 : decode cX6_tests 4 = .ok (.invokevirtual 104, 3) := by decide +kernel
theorem dX6_tests_7 : decode cX6_tests 7 = .ok (.lstore_n 1, 1) := by decide +kernel
theorem dX6_tests_8 : decode cX6_tests 8 = .ok (.iconst 0, 1) := by decide +kernel
theorem dX6_tests_9 : decode cX6_tests 9 = .ok (.istore_n 3, 1) := by decide +kernel
theorem dX6_tests_10 : decode cX6_tests 10 = .ok (.aload_n 0, 1) := by decide +kernel
theorem dX6_tests_11 : decode cX6_tests 11 = .ok (.getfield 23, 3) := by decide +kernel
theorem dX6_tests_14 : decode cX6_tests 14 = .ok (.getfield 209, 3) := by decide +kernel
theorem dX6_tests_17 : decode cX6_tests 17 = .ok (.ifCond .le 22, 3) := by decide +kernel
theorem dX6_tests_20 : decode cX6_tests 20 = .ok (.lload_n 1, 1) := by decide +kernel
theorem dX6_tests_21 : decode cX6_tests 21 = .ok (.invokestatic 108, 3) := by decide +kernel
theorem dX6_tests_24 : decode cX6_tests 24 = .ok (.aload_n 0, 1) := by decide +kernel
theorem dX6_tests_25 : decode cX6_tests 25 = .ok (.getfield 23, 3) := by decide +kernel
theorem dX6_tests_28 : decode cX6_tests 28 = .ok (.getfield 209, 3) := by decide +kernel
theorem dX6_tests_31 : decode cX6_tests 31 = .ok (.irem, 1) := by decide +kernel
theorem dX6_tests_32 : decode cX6_tests 32 = .ok (.ifCond .eq 7, 3) := by decide +kernel
theorem dX6_tests_35 : decode cX6_tests 35 = .ok (.iload_n 3, 1) := by decide +kernel
theorem dX6_tests_36 : decode cX6_tests 36 = .ok (.iconst 1, 1) := by decide +kernel
theorem dX6_tests_37 : decode cX6_tests 37 = .ok (.ior, 1) := by decide +kernel
theorem dX6_tests_38 : decode cX6_tests 38 = .ok (.istore_n 3, 1) := by decide +kernel
theorem dX6_tests_39 : decode cX6_tests 39 = .ok (.aload_n 0, 1) := by decide +kernel
theorem dX6_tests_40 : decode cX6_tests 40 = .ok (.getfield 23, 3) := by decide +kernel
theorem dX6_tests_43 : decode cX6_tests 43 = .ok (.invokevirtual 252, 3) := by decide +kernel
theorem dX6_tests_46 : decode cX6_tests 46 = .ok (.ifCond .eq 18, 3) := by decide +kernel
theorem dX6_tests_49 : decode cX6_tests 49 = .ok (.aload_n 0, 1) := by decide +kernel
theorem dX6_tests_50 : decode cX6_tests 50 = .ok (.getfield 23, 3) := by decide +kernel
theorem dX6_tests_53 : decode cX6_tests 53 = .ok (.lload_n 1, 1) := by decide +kernel
theorem dX6_tests_54 : decode cX6_tests 54 = .ok (.invokevirtual 255, 3) := by decide +kernel
theorem dX6_tests_57 : decode cX6_tests 57 = .ok (.ifCond .eq 7, 3) := by decide +kernel
theorem dX6_tests_60 : decode cX6_tests 60 = .ok (.iload_n 3, 1) := by decide +kernel
theorem dX6_tests_61 : decode cX6_tests 61 = .ok (.iconst 2, 1) := by decide +kernel
theorem dX6_tests_62 : decode cX6_tests 62 = .ok (.ior, 1) := by decide +kernel
theorem dX6_tests_63 : decode cX6_tests 63 = .ok (.istore_n 3, 1) := by decide +kernel
theorem dX6_tests_64 : decode cX6_tests 64 = .ok (.iload_n 3, 1) := by decide +kernel
theorem dX6_tests_65 : decode cX6_tests 65 = .ok (.ireturn, 1) := by decide +kernel
theorem dX6_search_0 : decode cX6_search 0 = .ok (.aload_n 0, 1) := by decide +kernel
theorem dX6_search_1 : decode cX6_search 1 = .ok (.iload_n 1, 1) := by decide +kernel
theorem dX6_search_2 : decode cX6_search 2 = .ok (.iconst 2, 1) := by decide +kernel
theorem dX6_search_3 : decode cX6_search 3 = .ok (.invokevirtual 203, 3) := by decide +kernel
theorem dX6_search_6 : decode cX6_search 6 = .ok (.aload_n 0, 1) := by decide +kernel
theorem dX6_search_7 : decode cX6_search 7 = .ok (.getfield 44, 3) := by decide +kernel
theorem dX6_search_10 : decode cX6_search 10 = .ok (.aload_n 0, 1) := by decide +kernel
theorem dX6_search_11 : decode cX6_search 11 = .ok (.getfield 23, 3) := by decide +kernel
theorem dX6_search_14 : decode cX6_search 14 = .ok (.invokevirtual 148, 3) := by decide +kernel
theorem dX6_search_17 : decode cX6_search 17 = .ok (.aload_n 0, 1) := by decide +kernel
theorem dX6_search_18 : decode cX6_search 18 = .ok (.getfield 51, 3) := by decide +kernel
theorem dX6_search_21 : decode cX6_search 21 = .ok (.aload_n 0, 1) := by decide +kernel
theorem dX6_search_22 : decode cX6_search 22 = .ok (.getfield 44, 3) := by decide +kernel
theorem dX6_search_25 : decode cX6_search 25 = .ok (.aload_n 0, 1) := by decide +kernel
theorem dX6_search_26 : decode cX6_search 26 = .ok (.getfield 23, 3) := by decide +kernel
theorem dX6_search_29 : decode cX6_search 29 = .ok (.invokevirtual 104, 3) := by decide +kernel
theorem dX6_search_32 : decode cX6_search 32 = .ok (.iconst 0, 1) := by decide +kernel
theorem dX6_search_33 : decode cX6_search 33 = .ok (.invokevirtual 175, 3) := by decide +kernel
theorem dX6_search_36 : decode cX6_search 36 = .ok (.iload_n 1, 1) := by decide +kernel
theorem dX6_search_37 : decode cX6_search 37 = .ok (.ifCond .ne 11, 3) := by decide +kernel
theorem dX6_search_40 : decode cX6_search 40 = .ok (.aload_n 0, 1) := by decide +kernel
theorem dX6_search_41 : decode cX6_search 41 = .ok (.getfield 51, 3) := by decide +kernel
theorem dX6_search_44 : decode cX6_search 44 = .ok (.getfield 179, 3) := by decide +kernel
theorem dX6_search_47 : decode cX6_search 47 = .ok (.ireturn, 1) := by decide +kernel
theorem dX6_search_48 : decode cX6_search 48 = .ok (.iload_n 1, 1) := by decide +kernel
theorem dX6_search_49 : decode cX6_search 49 = .ok (.iconst 1, 1) := by decide +kernel
theorem dX6_search_50 : decode cX6_search 50 = .ok (.if_icmp .ne 11, 3) := by decide +kernel
theorem dX6_search_53 : decode cX6_search 53 = .ok (.aload_n 0, 1) := by decide +kernel
theorem dX6_search_54 : decode cX6_search 54 = .ok (.getfield 51, 3) := by decide +kernel
theorem dX6_search_57 : decode cX6_search 57 = .ok (.getfield 259, 3) := by decide +kernel
theorem dX6_search_60 : decode cX6_search 60 = .ok (.ireturn, 1) := by decide +kernel
theorem dX6_search_61 : decode cX6_search 61 = .ok (.aload_n 0, 1) := by decide +kernel
theorem dX6_search_62 : decode cX6_search 62 = .ok (.getfield 51, 3) := by decide +kernel
theorem dX6_search_65 : decode cX6_search 65 = .ok (.getfield 262, 3) := by decide +kernel
theorem dX6_search_68 : decode cX6_search 68 = .ok (.ifCond .eq 7, 3) := by decide +kernel
theorem dX6_search_71 : decode cX6_search 71 = .ok (.iconst 0, 1) := by decide +kernel
theorem dX6_search_72 : decode cX6_search 72 = .ok (.goto 4, 3) := by decide +kernel
theorem dX6_search_75 : decode cX6_search 75 = .ok (.iconst 1, 1) := by decide +kernel
theorem dX6_search_76 : decode cX6_search 76 = .ok (.ireturn, 1) := by decide +kernel
theorem dX6_exchanges_0 : decode cX6_exchanges 0 = .ok (.aload_n 0, 1) := by decide +kernel
theorem dX6_exchanges_1 : decode cX6_exchanges 1 = .ok (.iload_n 1, 1) := by decide +kernel
theorem dX6_exchanges_2 : decode cX6_exchanges 2 = .ok (.iload_n 2, 1) := by decide +kernel
theorem dX6_exchanges_3 : decode cX6_exchanges 3 = .ok (.invokevirtual 144, 3) := by decide +kernel
theorem dX6_exchanges_6 : decode cX6_exchanges 6 = .ok (.aload_n 0, 1) := by decide +kernel
theorem dX6_exchanges_7 : decode cX6_exchanges 7 = .ok (.getfield 44, 3) := by decide +kernel
theorem dX6_exchanges_10 : decode cX6_exchanges 10 = .ok (.aload_n 0, 1) := by decide +kernel
theorem dX6_exchanges_11 : decode cX6_exchanges 11 = .ok (.getfield 23, 3) := by decide +kernel
theorem dX6_exchanges_14 : decode cX6_exchanges 14 = .ok (.invokevirtual 148, 3) := by decide +kernel
theorem dX6_exchanges_17 : decode cX6_exchanges 17 = .ok (.aload_n 0, 1) := by decide +kernel
theorem dX6_exchanges_18 : decode cX6_exchanges 18 = .ok (.getfield 44, 3) := by decide +kernel
theorem dX6_exchanges_21 : decode cX6_exchanges 21 = .ok (.aload_n 0, 1) := by decide +kernel
theorem dX6_exchanges_22 : decode cX6_exchanges 22 = .ok (.getfield 23, 3) := by decide +kernel
theorem dX6_exchanges_25 : decode cX6_exchanges 25 = .ok (.getfield 151, 3) := by decide +kernel
theorem dX6_exchanges_28 : decode cX6_exchanges 28 = .ok (.iload_n 1, 1) := by decide +kernel
theorem dX6_exchanges_29 : decode cX6_exchanges 29 = .ok (.laload, 1) := by decide +kernel
theorem dX6_exchanges_30 : decode cX6_exchanges 30 = .ok (.aload_n 0, 1) := by decide +kernel
theorem dX6_exchanges_31 : decode cX6_exchanges 31 = .ok (.getfield 23, 3) := by decide +kernel
theorem dX6_exchanges_34 : decode cX6_exchanges 34 = .ok (.getfield 151, 3) := by decide +kernel
theorem dX6_exchanges_37 : decode cX6_exchanges 37 = .ok (.iload_n 2, 1) := by decide +kernel
theorem dX6_exchanges_38 : decode cX6_exchanges 38 = .ok (.laload, 1) := by decide +kernel
theorem dX6_exchanges_39 : decode cX6_exchanges 39 = .ok (.iconst (-1), 1) := by decide +kernel
theorem dX6_exchanges_40 : decode cX6_exchanges 40 = .ok (.invokevirtual 155, 3) := by decide +kernel
theorem dX6_exchanges_43 : decode cX6_exchanges 43 = .ok (.ireturn, 1) := by decide +kernel
theorem dX6_classes_0 : decode cX6_classes 0 = .ok (.aload_n 0, 1) := by decide +kernel
theorem dX6_classes_1 : decode cX6_classes 1 = .ok (.getfield 23, 3) := by decide +kernel
theorem dX6_classes_4 : decode cX6_classes 4 = .ok (.getfield 135, 3) := by decide +kernel
theorem dX6_classes_7 : decode cX6_classes 7 = .ok (.bipush 14, 2) := by decide +kernel
theorem dX6_classes_9 : decode cX6_classes 9 = .ok (.if_icmp .le 24, 3) := by decide +kernel
theorem dX6_classes_12 : decode cX6_classes 12 = .ok (.aload_n 0, 1) := by decide +kernel
theorem dX6_classes_13 : decode cX6_classes 13 = .ok (.getfield 66, 3) := by decide +kernel
theorem dX6_classes_16 : decode cX6_classes 16 = .ok (.iconst 2, 1) := by decide +kernel
theorem dX6_classes_17 : decode cX6_classes 17 = .ok (.dup2, 1) := by decide +kernel
theorem dX6_classes_18 : decode cX6_classes 18 = .ok (.iaload, 1) := by decide +kernel
theorem dX6_classes_19 : decode cX6_classes 19 = .ok (.iconst 1, 1) := by decide +kernel
theorem dX6_classes_20 : decode cX6_classes 20 = .ok (.iadd, 1) := by decide +kernel
theorem dX6_classes_21 : decode cX6_classes 21 = .ok (.iastore, 1) := by decide +kernel
theorem dX6_classes_22 : decode cX6_classes 22 = .ok (.new 126, 3) := by decide +kernel
theorem dX6_classes_25 : decode cX6_classes 25 = .ok (.dup, 1) := by decide +kernel
theorem dX6_classes_26 : decode cX6_classes 26 = .ok (.ldc_w 266, 3) := by decide +kernel
theorem dX6_classes_29 : decode cX6_classes 29 = .ok (.invokespecial 130, 3) := by decide +kernel
theorem dX6_classes_32 : decode cX6_classes 32 = .ok (.athrow, 1) := by decide +kernel
theorem dX6_classes_33 : decode cX6_classes 33 = .ok (.aload_n 0, 1) := by decide +kernel
theorem dX6_classes_34 : decode cX6_classes 34 = .ok (.getfield 58, 3) := by decide +kernel
theorem dX6_classes_37 : decode cX6_classes 37 = .ok (.aload_n 0, 1) := by decide +kernel
theorem dX6_classes_38 : decode cX6_classes 38 = .ok (.getfield 23, 3) := by decide +kernel
theorem dX6_classes_41 : decode cX6_classes 41 = .ok (.invokevirtual 268, 3) := by decide +kernel
theorem dX6_classes_44 : decode cX6_classes 44 = .ok (.ireturn, 1) := by decide +kernel
theorem dX6_cover_0 : decode cX6_cover 0 = .ok (.aload_n 0, 1) := by decide +kernel
theorem dX6_cover_1 : decode cX6_cover 1 = .ok (.iload_n 1, 1) := by decide +kernel
theorem dX6_cover_2 : decode cX6_cover 2 = .ok (.invokevirtual 272, 3) := by decide +kernel
theorem dX6_cover_5 : decode cX6_cover 5 = .ok (.iload_n 2, 1) := by decide +kernel
theorem dX6_cover_6 : decode cX6_cover 6 = .ok (.iconst 1, 1) := by decide +kernel
theorem dX6_cover_7 : decode cX6_cover 7 = .ok (.if_icmp .lt 10, 3) := by decide +kernel
theorem dX6_cover_10 : decode cX6_cover 10 = .ok (.iload_n 2, 1) := by decide +kernel
theorem dX6_cover_11 : decode cX6_cover 11 = .ok (.iload_n 1, 1) := by decide +kernel
theorem dX6_cover_12 : decode cX6_cover 12 = .ok (.iconst 2, 1) := by decide +kernel
theorem dX6_cover_13 : decode cX6_cover 13 = .ok (.idiv, 1) := by decide +kernel
theorem dX6_cover_14 : decode cX6_cover 14 = .ok (.if_icmp .le 24, 3) := by decide +kernel
theorem dX6_cover_17 : decode cX6_cover 17 = .ok (.aload_n 0, 1) := by decide +kernel
theorem dX6_cover_18 : decode cX6_cover 18 = .ok (.getfield 66, 3) := by decide +kernel
theorem dX6_cover_21 : decode cX6_cover 21 = .ok (.iconst 1, 1) := by decide +kernel
theorem dX6_cover_22 : decode cX6_cover 22 = .ok (.dup2, 1) := by decide +kernel
theorem dX6_cover_23 : decode cX6_cover 23 = .ok (.iaload, 1) := by decide +kernel
theorem dX6_cover_24 : decode cX6_cover 24 = .ok (.iconst 1, 1) := by decide +kernel
theorem dX6_cover_25 : decode cX6_cover 25 = .ok (.iadd, 1) := by decide +kernel
theorem dX6_cover_26 : decode cX6_cover 26 = .ok (.iastore, 1) := by decide +kernel
theorem dX6_cover_27 : decode cX6_cover 27 = .ok (.new 82, 3) := by decide +kernel
theorem dX6_cover_30 : decode cX6_cover 30 = .ok (.dup, 1) := by decide +kernel
theorem dX6_cover_31 : decode cX6_cover 31 = .ok (.ldc_w 275, 3) := by decide +kernel
theorem dX6_cover_34 : decode cX6_cover 34 = .ok (.invokespecial 86, 3) := by decide +kernel
theorem dX6_cover_37 : decode cX6_cover 37 = .ok (.athrow, 1) := by decide +kernel
theorem dX6_cover_38 : decode cX6_cover 38 = .ok (.aload_n 0, 1) := by decide +kernel
theorem dX6_cover_39 : decode cX6_cover 39 = .ok (.getfield 23, 3) := by decide +kernel
theorem dX6_cover_42 : decode cX6_cover 42 = .ok (.iload_n 1, 1) := by decide +kernel
theorem dX6_cover_43 : decode cX6_cover 43 = .ok (.iload_n 2, 1) := by decide +kernel
theorem dX6_cover_44 : decode cX6_cover 44 = .ok (.invokevirtual 277, 3) := by decide +kernel
theorem dX6_cover_47 : decode cX6_cover 47 = .ok (.ireturn, 1) := by decide +kernel
theorem dX6_requireRound_0 : decode cX6_requireRound 0 = .ok (.iload_n 1, 1) := by decide +kernel
theorem dX6_requireRound_1 : decode cX6_requireRound 1 = .ok (.iconst 3, 1) := by decide +kernel
theorem dX6_requireRound_2 : decode cX6_requireRound 2 = .ok (.if_icmp .lt 9, 3) := by decide +kernel
theorem dX6_requireRound_5 : decode cX6_requireRound 5 = .ok (.iload_n 1, 1) := by decide +kernel
theorem dX6_requireRound_6 : decode cX6_requireRound 6 = .ok (.bipush 31, 2) := by decide +kernel
theorem dX6_requireRound_8 : decode cX6_requireRound 8 = .ok (.if_icmp .le 24, 3) := by decide +kernel
theorem dX6_requireRound_11 : decode cX6_requireRound 11 = .ok (.aload_n 0, 1) := by decide +kernel
theorem dX6_requireRound_12 : decode cX6_requireRound 12 = .ok (.getfield 66, 3) := by decide +kernel
theorem dX6_requireRound_15 : decode cX6_requireRound 15 = .ok (.iconst 1, 1) := by decide +kernel
theorem dX6_requireRound_16 : decode cX6_requireRound 16 = .ok (.dup2, 1) := by decide +kernel
theorem dX6_requireRound_17 : decode cX6_requireRound 17 = .ok (.iaload, 1) := by decide +kernel
theorem dX6_requireRound_18 : decode cX6_requireRound 18 = .ok (.iconst 1, 1) := by decide +kernel
theorem dX6_requireRound_19 : decode cX6_requireRound 19 = .ok (.iadd, 1) := by decide +kernel
theorem dX6_requireRound_20 : decode cX6_requireRound 20 = .ok (.iastore, 1) := by decide +kernel
theorem dX6_requireRound_21 : decode cX6_requireRound 21 = .ok (.new 82, 3) := by decide +kernel
theorem dX6_requireRound_24 : decode cX6_requireRound 24 = .ok (.dup, 1) := by decide +kernel
theorem dX6_requireRound_25 : decode cX6_requireRound 25 = .ok (.ldc_w 280, 3) := by decide +kernel
theorem dX6_requireRound_28 : decode cX6_requireRound 28 = .ok (.invokespecial 86, 3) := by decide +kernel
theorem dX6_requireRound_31 : decode cX6_requireRound 31 = .ok (.athrow, 1) := by decide +kernel
theorem dX6_requireRound_32 : decode cX6_requireRound 32 = .ok (.return_, 1) := by decide +kernel
theorem dX6_good_0 : decode cX6_good 0 = .ok (.aload_n 0, 1) := by decide +kernel
theorem dX6_good_1 : decode cX6_good 1 = .ok (.iload_n 1, 1) := by decide +kernel
theorem dX6_good_2 : decode cX6_good 2 = .ok (.invokevirtual 272, 3) := by decide +kernel
theorem dX6_good_5 : decode cX6_good 5 = .ok (.aload_n 0, 1) := by decide +kernel
theorem dX6_good_6 : decode cX6_good 6 = .ok (.getfield 23, 3) := by decide +kernel
theorem dX6_good_9 : decode cX6_good 9 = .ok (.iload_n 1, 1) := by decide +kernel
theorem dX6_good_10 : decode cX6_good 10 = .ok (.invokevirtual 282, 3) := by decide +kernel
theorem dX6_good_13 : decode cX6_good 13 = .ok (.ireturn, 1) := by decide +kernel
theorem dX6_base_0 : decode cX6_base 0 = .ok (.iload_n 1, 1) := by decide +kernel
theorem dX6_base_1 : decode cX6_base 1 = .ok (.ifCond .lt 14, 3) := by decide +kernel
theorem dX6_base_4 : decode cX6_base 4 = .ok (.iload_n 1, 1) := by decide +kernel
theorem dX6_base_5 : decode cX6_base 5 = .ok (.aload_n 0, 1) := by decide +kernel
theorem dX6_base_6 : decode cX6_base 6 = .ok (.getfield 23, 3) := by decide +kernel
theorem dX6_base_9 : decode cX6_base 9 = .ok (.getfield 212, 3) := by decide +kernel
theorem dX6_base_12 : decode cX6_base 12 = .ok (.if_icmp .lt 24, 3) := by decide +kernel
theorem dX6_base_15 : decode cX6_base 15 = .ok (.aload_n 0, 1) := by decide +kernel
theorem dX6_base_16 : decode cX6_base 16 = .ok (.getfield 66, 3) := by decide +kernel
theorem dX6_base_19 : decode cX6_base 19 = .ok (.iconst 0, 1) := by decide +kernel
theorem dX6_base_20 : decode cX6_base 20 = .ok (.dup2, 1) := by decide +kernel
theorem dX6_base_21 : decode cX6_base 21 = .ok (.iaload, 1) := by decide +kernel
theorem dX6_base_22 : decode cX6_base 22 = .ok (.iconst 1, 1) := by decide +kernel
theorem dX6_base_23 : decode cX6_base 23 = .ok (.iadd, 1) := by decide +kernel
theorem dX6_base_24 : decode cX6_base 24 = .ok (.iastore, 1) := by decide +kernel
theorem dX6_base_25 : decode cX6_base 25 = .ok (.new 159, 3) := by decide +kernel
theorem dX6_base_28 : decode cX6_base 28 = .ok (.dup, 1) := by decide +kernel
theorem dX6_base_29 : decode cX6_base 29 = .ok (.ldc_w 286, 3) := by decide +kernel
theorem dX6_base_32 : decode cX6_base 32 = .ok (.invokespecial 163, 3) := by decide +kernel
theorem dX6_base_35 : decode cX6_base 35 = .ok (.athrow, 1) := by decide +kernel
theorem dX6_base_36 : decode cX6_base 36 = .ok (.iload_n 2, 1) := by decide +kernel
theorem dX6_base_37 : decode cX6_base 37 = .ok (.ifCond .lt 14, 3) := by decide +kernel
theorem dX6_base_40 : decode cX6_base 40 = .ok (.iload_n 2, 1) := by decide +kernel
theorem dX6_base_41 : decode cX6_base 41 = .ok (.aload_n 0, 1) := by decide +kernel
theorem dX6_base_42 : decode cX6_base 42 = .ok (.getfield 23, 3) := by decide +kernel
theorem dX6_base_45 : decode cX6_base 45 = .ok (.invokevirtual 288, 3) := by decide +kernel
theorem dX6_base_48 : decode cX6_base 48 = .ok (.if_icmp .lt 5, 3) := by decide +kernel
theorem dX6_base_51 : decode cX6_base 51 = .ok (.iconst (-1), 1) := by decide +kernel
theorem dX6_base_52 : decode cX6_base 52 = .ok (.ireturn, 1) := by decide +kernel
theorem dX6_base_53 : decode cX6_base 53 = .ok (.aload_n 0, 1) := by decide +kernel
theorem dX6_base_54 : decode cX6_base 54 = .ok (.getfield 23, 3) := by decide +kernel
theorem dX6_base_57 : decode cX6_base 57 = .ok (.iload_n 1, 1) := by decide +kernel
theorem dX6_base_58 : decode cX6_base 58 = .ok (.iload_n 2, 1) := by decide +kernel
theorem dX6_base_59 : decode cX6_base 59 = .ok (.invokevirtual 291, 3) := by decide +kernel
theorem dX6_base_62 : decode cX6_base 62 = .ok (.ireturn, 1) := by decide +kernel
theorem dX6_print_0 : decode cX6_print 0 = .ok (.aload_n 0, 1) := by decide +kernel
theorem dX6_print_1 : decode cX6_print 1 = .ok (.getfield 23, 3) := by decide +kernel
theorem dX6_print_4 : decode cX6_print 4 = .ok (.invokevirtual 104, 3) := by decide +kernel
theorem dX6_print_7 : decode cX6_print 7 = .ok (.lstore_n 1, 1) := by decide +kernel
theorem dX6_print_8 : decode cX6_print 8 = .ok (.iconst 0, 1) := by decide +kernel
theorem dX6_print_9 : decode cX6_print 9 = .ok (.istore_n 3, 1) := by decide +kernel
theorem dX6_print_10 : decode cX6_print 10 = .ok (.iload_n 3, 1) := by decide +kernel
theorem dX6_print_11 : decode cX6_print 11 = .ok (.aload_n 0, 1) := by decide +kernel
theorem dX6_print_12 : decode cX6_print 12 = .ok (.getfield 23, 3) := by decide +kernel
theorem dX6_print_15 : decode cX6_print 15 = .ok (.getfield 135, 3) := by decide +kernel
theorem dX6_print_18 : decode cX6_print 18 = .ok (.if_icmp .ge 37, 3) := by decide +kernel
theorem dX6_print_21 : decode cX6_print 21 = .ok (.iload_n 3, 1) := by decide +kernel
theorem dX6_print_22 : decode cX6_print 22 = .ok (.aload_n 0, 1) := by decide +kernel
theorem dX6_print_23 : decode cX6_print 23 = .ok (.getfield 23, 3) := by decide +kernel
theorem dX6_print_26 : decode cX6_print 26 = .ok (.getfield 151, 3) := by decide +kernel
theorem dX6_print_29 : decode cX6_print 29 = .ok (.arraylength, 1) := by decide +kernel
theorem dX6_print_30 : decode cX6_print 30 = .ok (.if_icmp .ge 25, 3) := by decide +kernel
theorem dX6_print_33 : decode cX6_print 33 = .ok (.ldc2_w 294, 3) := by decide +kernel
theorem dX6_print_36 : decode cX6_print 36 = .ok (.lload_n 1, 1) := by decide +kernel
theorem dX6_print_37 : decode cX6_print 37 = .ok (.lmul, 1) := by decide +kernel
theorem dX6_print_38 : decode cX6_print 38 = .ok (.aload_n 0, 1) := by decide +kernel
theorem dX6_print_39 : decode cX6_print 39 = .ok (.getfield 23, 3) := by decide +kernel
theorem dX6_print_42 : decode cX6_print 42 = .ok (.getfield 151, 3) := by decide +kernel
theorem dX6_print_45 : decode cX6_print 45 = .ok (.iload_n 3, 1) := by decide +kernel
theorem dX6_print_46 : decode cX6_print 46 = .ok (.laload, 1) := by decide +kernel
theorem dX6_print_47 : decode cX6_print 47 = .ok (.ladd, 1) := by decide +kernel
theorem dX6_print_48 : decode cX6_print 48 = .ok (.lstore_n 1, 1) := by decide +kernel
theorem dX6_print_49 : decode cX6_print 49 = .ok (.iinc 3 1, 3) := by decide +kernel
theorem dX6_print_52 : decode cX6_print 52 = .ok (.goto (-42), 3) := by decide +kernel
theorem dX6_print_55 : decode cX6_print 55 = .ok (.lload_n 1, 1) := by decide +kernel
theorem dX6_print_56 : decode cX6_print 56 = .ok (.lreturn, 1) := by decide +kernel
theorem dX6_status_0 : decode cX6_status 0 = .ok (.iload_n 1, 1) := by decide +kernel
theorem dX6_status_1 : decode cX6_status 1 = .ok (.ifCond .lt 12, 3) := by decide +kernel
theorem dX6_status_4 : decode cX6_status 4 = .ok (.iload_n 1, 1) := by decide +kernel
theorem dX6_status_5 : decode cX6_status 5 = .ok (.aload_n 0, 1) := by decide +kernel
theorem dX6_status_6 : decode cX6_status 6 = .ok (.getfield 66, 3) := by decide +kernel
theorem dX6_status_9 : decode cX6_status 9 = .ok (.arraylength, 1) := by decide +kernel
theorem dX6_status_10 : decode cX6_status 10 = .ok (.if_icmp .lt 5, 3) := by decide +kernel
theorem dX6_status_13 : decode cX6_status 13 = .ok (.iconst (-1), 1) := by decide +kernel
theorem dX6_status_14 : decode cX6_status 14 = .ok (.ireturn, 1) := by decide +kernel
theorem dX6_status_15 : decode cX6_status 15 = .ok (.aload_n 0, 1) := by decide +kernel
theorem dX6_status_16 : decode cX6_status 16 = .ok (.getfield 66, 3) := by decide +kernel
theorem dX6_status_19 : decode cX6_status 19 = .ok (.iload_n 1, 1) := by decide +kernel
theorem dX6_status_20 : decode cX6_status 20 = .ok (.iaload, 1) := by decide +kernel
theorem dX6_status_21 : decode cX6_status 21 = .ok (.ireturn, 1) := by decide +kernel
theorem dX6_leastLine_0 : decode cX6_leastLine 0 = .ok (.lload_n 0, 1) := by decide +kernel
theorem dX6_leastLine_1 : decode cX6_leastLine 1 = .ok (.lload_n 0, 1) := by decide +kernel
theorem dX6_leastLine_2 : decode cX6_leastLine 2 = .ok (.lneg, 1) := by decide +kernel
theorem dX6_leastLine_3 : decode cX6_leastLine 3 = .ok (.land, 1) := by decide +kernel
theorem dX6_leastLine_4 : decode cX6_leastLine 4 = .ok (.lconst 1, 1) := by decide +kernel
theorem dX6_leastLine_5 : decode cX6_leastLine 5 = .ok (.lsub, 1) := by decide +kernel
theorem dX6_leastLine_6 : decode cX6_leastLine 6 = .ok (.invokestatic 108, 3) := by decide +kernel
theorem dX6_leastLine_9 : decode cX6_leastLine 9 = .ok (.ireturn, 1) := by decide +kernel
