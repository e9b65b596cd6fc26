theorem dX2_init_0 : decode cX2_init 0 = .ok (.aload_n 0, 1) := by decide +kernel
theorem dX2_init_1 : decode cX2_init 1 = .ok (.invokespecial 3, 3) := by decide +kernel
theorem dX2_init_4 : decode cX2_init 4 = .ok (.aload_n 0, 1) := by decide +kernel
theorem dX2_init_5 : decode cX2_init 5 = .ok (.iconst 2, 1) := by decide +kernel
theorem dX2_init_6 : decode cX2_init 6 = .ok (.putfield 9, 3) := by decide +kernel
theorem dX2_init_9 : decode cX2_init 9 = .ok (.aload_n 0, 1) := by decide +kernel
theorem dX2_init_10 : decode cX2_init 10 = .ok (.lconst 0, 1) := by decide +kernel
theorem dX2_init_11 : decode cX2_init 11 = .ok (.putfield 15, 3) := by decide +kernel
theorem dX2_init_14 : decode cX2_init 14 = .ok (.aload_n 0, 1) := by decide +kernel
theorem dX2_init_15 : decode cX2_init 15 = .ok (.iconst 0, 1) := by decide +kernel
theorem dX2_init_16 : decode cX2_init 16 = .ok (.putfield 19, 3) := by decide +kernel
theorem dX2_init_19 : decode cX2_init 19 = .ok (.aload_n 0, 1) := by decide +kernel
theorem dX2_init_20 : decode cX2_init 20 = .ok (.iconst 3, 1) := by decide +kernel
theorem dX2_init_21 : decode cX2_init 21 = .ok (.putfield 22, 3) := by decide +kernel
theorem dX2_init_24 : decode cX2_init 24 = .ok (.aload_n 0, 1) := by decide +kernel
theorem dX2_init_25 : decode cX2_init 25 = .ok (.iconst 0, 1) := by decide +kernel
theorem dX2_init_26 : decode cX2_init 26 = .ok (.putfield 25, 3) := by decide +kernel
theorem dX2_init_29 : decode cX2_init 29 = .ok (.aload_n 0, 1) := by decide +kernel
theorem dX2_init_30 : decode cX2_init 30 = .ok (.iconst 0, 1) := by decide +kernel
theorem dX2_init_31 : decode cX2_init 31 = .ok (.putfield 28, 3) := by decide +kernel
theorem dX2_init_34 : decode cX2_init 34 = .ok (.aload_n 0, 1) := by decide +kernel
theorem dX2_init_35 : decode cX2_init 35 = .ok (.bipush 55, 2) := by decide +kernel
theorem dX2_init_37 : decode cX2_init 37 = .ok (.newarray .long, 2) := by decide +kernel
theorem dX2_init_39 : decode cX2_init 39 = .ok (.putfield 31, 3) := by decide +kernel
theorem dX2_init_42 : decode cX2_init 42 = .ok (.aload_n 0, 1) := by decide +kernel
theorem dX2_init_43 : decode cX2_init 43 = .ok (.bipush 20, 2) := by decide +kernel
theorem dX2_init_45 : decode cX2_init 45 = .ok (.newarray .int, 2) := by decide +kernel
theorem dX2_init_47 : decode cX2_init 47 = .ok (.putfield 35, 3) := by decide +kernel
theorem dX2_init_50 : decode cX2_init 50 = .ok (.aload_n 0, 1) := by decide +kernel
theorem dX2_init_51 : decode cX2_init 51 = .ok (.iconst 5, 1) := by decide +kernel
theorem dX2_init_52 : decode cX2_init 52 = .ok (.newarray .int, 2) := by decide +kernel
theorem dX2_init_54 : decode cX2_init 54 = .ok (.putfield 39, 3) := by decide +kernel
theorem dX2_init_57 : decode cX2_init 57 = .ok (.return_, 1) := by decide +kernel
theorem dX2_become_0 : decode cX2_become 0 = .ok (.aload_n 0, 1) := by decide +kernel
theorem dX2_become_1 : decode cX2_become 1 = .ok (.aload_n 1, 1) := by decide +kernel
theorem dX2_become_2 : decode cX2_become 2 = .ok (.getfield 9, 3) := by decide +kernel
theorem dX2_become_5 : decode cX2_become 5 = .ok (.putfield 9, 3) := by decide +kernel
theorem dX2_become_8 : decode cX2_become 8 = .ok (.aload_n 0, 1) := by decide +kernel
theorem dX2_become_9 : decode cX2_become 9 = .ok (.aload_n 1, 1) := by decide +kernel
theorem dX2_become_10 : decode cX2_become 10 = .ok (.getfield 15, 3) := by decide +kernel
theorem dX2_become_13 : decode cX2_become 13 = .ok (.putfield 15, 3) := by decide +kernel
theorem dX2_become_16 : decode cX2_become 16 = .ok (.aload_n 0, 1) := by decide +kernel
theorem dX2_become_17 : decode cX2_become 17 = .ok (.aload_n 1, 1) := by decide +kernel
theorem dX2_become_18 : decode cX2_become 18 = .ok (.getfield 19, 3) := by decide +kernel
theorem dX2_become_21 : decode cX2_become 21 = .ok (.putfield 19, 3) := by decide +kernel
theorem dX2_become_24 : decode cX2_become 24 = .ok (.aload_n 0, 1) := by decide +kernel
theorem dX2_become_25 : decode cX2_become 25 = .ok (.aload_n 1, 1) := by decide +kernel
theorem dX2_become_26 : decode cX2_become 26 = .ok (.getfield 22, 3) := by decide +kernel
theorem dX2_become_29 : decode cX2_become 29 = .ok (.putfield 22, 3) := by decide +kernel
theorem dX2_become_32 : decode cX2_become 32 = .ok (.aload_n 0, 1) := by decide +kernel
theorem dX2_become_33 : decode cX2_become 33 = .ok (.aload_n 1, 1) := by decide +kernel
theorem dX2_become_34 : decode cX2_become 34 = .ok (.getfield 25, 3) := by decide +kernel
theorem dX2_become_37 : decode cX2_become 37 = .ok (.putfield 25, 3) := by decide +kernel
theorem dX2_become_40 : decode cX2_become 40 = .ok (.aload_n 0, 1) := by decide +kernel
theorem dX2_become_41 : decode cX2_become 41 = .ok (.aload_n 1, 1) := by decide +kernel
theorem dX2_become_42 : decode cX2_become 42 = .ok (.getfield 28, 3) := by decide +kernel
theorem dX2_become_45 : decode cX2_become 45 = .ok (.putfield 28, 3) := by decide +kernel
theorem dX2_become_48 : decode cX2_become 48 = .ok (.aload_n 1, 1) := by decide +kernel
theorem dX2_become_49 : decode cX2_become 49 = .ok (.getfield 31, 3) := by decide +kernel
theorem dX2_become_52 : decode cX2_become 52 = .ok (.iconst 0, 1) := by decide +kernel
theorem dX2_become_53 : decode cX2_become 53 = .ok (.aload_n 0, 1) := by decide +kernel
theorem dX2_become_54 : decode cX2_become 54 = .ok (.getfield 31, 3) := by decide +kernel
theorem dX2_become_57 : decode cX2_become 57 = .ok (.iconst 0, 1) := by decide +kernel
theorem dX2_become_58 : decode cX2_become 58 = .ok (.aload_n 0, 1) := by decide +kernel
theorem dX2_become_59 : decode cX2_become 59 = .ok (.getfield 31, 3) := by decide +kernel
theorem dX2_become_62 : decode cX2_become 62 = .ok (.arraylength, 1) := by decide +kernel
theorem dX2_become_63 : decode cX2_become 63 = .ok (.invokestatic 42, 3) := by decide +kernel
theorem dX2_become_66 : decode cX2_become 66 = .ok (.aload_n 1, 1) := by decide +kernel
theorem dX2_become_67 : decode cX2_become 67 = .ok (.getfield 35, 3) := by decide +kernel
theorem dX2_become_70 : decode cX2_become 70 = .ok (.iconst 0, 1) := by decide +kernel
theorem dX2_become_71 : decode cX2_become 71 = .ok (.aload_n 0, 1) := by decide +kernel
theorem dX2_become_72 : decode cX2_become 72 = .ok (.getfield 35, 3) := by decide +kernel
theorem dX2_become_75 : decode cX2_become 75 = .ok (.iconst 0, 1) := by decide +kernel
theorem dX2_become_76 : decode cX2_become 76 = .ok (.aload_n 0, 1) := by decide +kernel
theorem dX2_become_77 : decode cX2_become 77 = .ok (.getfield 35, 3) := by decide +kernel
theorem dX2_become_80 : decode cX2_become 80 = .ok (.arraylength, 1) := by decide +kernel
theorem dX2_become_81 : decode cX2_become 81 = .ok (.invokestatic 42, 3) := by decide +kernel
theorem dX2_become_84 : decode cX2_become 84 = .ok (.return_, 1) := by decide +kernel
theorem dX2_empty_0 : decode cX2_empty 0 = .ok (.aload_n 0, 1) := by decide +kernel
theorem dX2_empty_1 : decode cX2_empty 1 = .ok (.iload_n 1, 1) := by decide +kernel
theorem dX2_empty_2 : decode cX2_empty 2 = .ok (.putfield 9, 3) := by decide +kernel
theorem dX2_empty_5 : decode cX2_empty 5 = .ok (.aload_n 0, 1) := by decide +kernel
theorem dX2_empty_6 : decode cX2_empty 6 = .ok (.lconst 0, 1) := by decide +kernel
theorem dX2_empty_7 : decode cX2_empty 7 = .ok (.putfield 15, 3) := by decide +kernel
theorem dX2_empty_10 : decode cX2_empty 10 = .ok (.aload_n 0, 1) := by decide +kernel
theorem dX2_empty_11 : decode cX2_empty 11 = .ok (.iconst 0, 1) := by decide +kernel
theorem dX2_empty_12 : decode cX2_empty 12 = .ok (.putfield 19, 3) := by decide +kernel
theorem dX2_empty_15 : decode cX2_empty 15 = .ok (.aload_n 0, 1) := by decide +kernel
theorem dX2_empty_16 : decode cX2_empty 16 = .ok (.iconst 3, 1) := by decide +kernel
theorem dX2_empty_17 : decode cX2_empty 17 = .ok (.putfield 22, 3) := by decide +kernel
theorem dX2_empty_20 : decode cX2_empty 20 = .ok (.aload_n 0, 1) := by decide +kernel
theorem dX2_empty_21 : decode cX2_empty 21 = .ok (.iconst 0, 1) := by decide +kernel
theorem dX2_empty_22 : decode cX2_empty 22 = .ok (.putfield 25, 3) := by decide +kernel
theorem dX2_empty_25 : decode cX2_empty 25 = .ok (.aload_n 0, 1) := by decide +kernel
theorem dX2_empty_26 : decode cX2_empty 26 = .ok (.iconst 0, 1) := by decide +kernel
theorem dX2_empty_27 : decode cX2_empty 27 = .ok (.putfield 28, 3) := by decide +kernel
theorem dX2_empty_30 : decode cX2_empty 30 = .ok (.return_, 1) := by decide +kernel
theorem dX2_isClosed_0 : decode cX2_isClosed 0 = .ok (.aload_n 0, 1) := by decide +kernel
theorem dX2_isClosed_1 : decode cX2_isClosed 1 = .ok (.getfield 19, 3) := by decide +kernel
theorem dX2_isClosed_4 : decode cX2_isClosed 4 = .ok (.ifCond .eq 11, 3) := by decide +kernel
theorem dX2_isClosed_7 : decode cX2_isClosed 7 = .ok (.aload_n 0, 1) := by decide +kernel
theorem dX2_isClosed_8 : decode cX2_isClosed 8 = .ok (.getfield 19, 3) := by decide +kernel
theorem dX2_isClosed_11 : decode cX2_isClosed 11 = .ok (.iconst 3, 1) := by decide +kernel
theorem dX2_isClosed_12 : decode cX2_isClosed 12 = .ok (.if_icmp .ne 7, 3) := by decide +kernel
theorem dX2_isClosed_15 : decode cX2_isClosed 15 = .ok (.iconst 1, 1) := by decide +kernel
theorem dX2_isClosed_16 : decode cX2_isClosed 16 = .ok (.goto 4, 3) := by decide +kernel
theorem dX2_isClosed_19 : decode cX2_isClosed 19 = .ok (.iconst 0, 1) := by decide +kernel
theorem dX2_isClosed_20 : decode cX2_isClosed 20 = .ok (.ireturn, 1) := by decide +kernel
theorem dX2_places_0 : decode cX2_places 0 = .ok (.aload_n 0, 1) := by decide +kernel
theorem dX2_places_1 : decode cX2_places 1 = .ok (.invokevirtual 48, 3) := by decide +kernel
theorem dX2_places_4 : decode cX2_places 4 = .ok (.ifCond .eq 10, 3) := by decide +kernel
theorem dX2_places_7 : decode cX2_places 7 = .ok (.aload_n 0, 1) := by decide +kernel
theorem dX2_places_8 : decode cX2_places 8 = .ok (.getfield 22, 3) := by decide +kernel
theorem dX2_places_11 : decode cX2_places 11 = .ok (.goto 9, 3) := by decide +kernel
theorem dX2_places_14 : decode cX2_places 14 = .ok (.aload_n 0, 1) := by decide +kernel
theorem dX2_places_15 : decode cX2_places 15 = .ok (.getfield 22, 3) := by decide +kernel
theorem dX2_places_18 : decode cX2_places 18 = .ok (.iconst 1, 1) := by decide +kernel
theorem dX2_places_19 : decode cX2_places 19 = .ok (.iadd, 1) := by decide +kernel
theorem dX2_places_20 : decode cX2_places 20 = .ok (.ireturn, 1) := by decide +kernel
theorem dX2_lineStart_0 : decode cX2_lineStart 0 = .ok (.aload_n 0, 1) := by decide +kernel
theorem dX2_lineStart_1 : decode cX2_lineStart 1 = .ok (.getfield 19, 3) := by decide +kernel
theorem dX2_lineStart_4 : decode cX2_lineStart 4 = .ok (.iconst 2, 1) := by decide +kernel
theorem dX2_lineStart_5 : decode cX2_lineStart 5 = .ok (.if_icmp .ne 7, 3) := by decide +kernel
theorem dX2_lineStart_8 : decode cX2_lineStart 8 = .ok (.iconst 0, 1) := by decide +kernel
theorem dX2_lineStart_9 : decode cX2_lineStart 9 = .ok (.goto 4, 3) := by decide +kernel
theorem dX2_lineStart_12 : decode cX2_lineStart 12 = .ok (.iload_n 1, 1) := by decide +kernel
theorem dX2_lineStart_13 : decode cX2_lineStart 13 = .ok (.ireturn, 1) := by decide +kernel
theorem dX2_lineEnd_0 : decode cX2_lineEnd 0 = .ok (.aload_n 0, 1) := by decide +kernel
theorem dX2_lineEnd_1 : decode cX2_lineEnd 1 = .ok (.invokevirtual 48, 3) := by decide +kernel
theorem dX2_lineEnd_4 : decode cX2_lineEnd 4 = .ok (.ifCond .eq 17, 3) := by decide +kernel
theorem dX2_lineEnd_7 : decode cX2_lineEnd 7 = .ok (.iload_n 1, 1) := by decide +kernel
theorem dX2_lineEnd_8 : decode cX2_lineEnd 8 = .ok (.iconst 1, 1) := by decide +kernel
theorem dX2_lineEnd_9 : decode cX2_lineEnd 9 = .ok (.iadd, 1) := by decide +kernel
theorem dX2_lineEnd_10 : decode cX2_lineEnd 10 = .ok (.aload_n 0, 1) := by decide +kernel
theorem dX2_lineEnd_11 : decode cX2_lineEnd 11 = .ok (.getfield 22, 3) := by decide +kernel
theorem dX2_lineEnd_14 : decode cX2_lineEnd 14 = .ok (.if_icmp .ne 7, 3) := by decide +kernel
theorem dX2_lineEnd_17 : decode cX2_lineEnd 17 = .ok (.iconst 0, 1) := by decide +kernel
theorem dX2_lineEnd_18 : decode cX2_lineEnd 18 = .ok (.goto 6, 3) := by decide +kernel
theorem dX2_lineEnd_21 : decode cX2_lineEnd 21 = .ok (.iload_n 1, 1) := by decide +kernel
theorem dX2_lineEnd_22 : decode cX2_lineEnd 22 = .ok (.iconst 1, 1) := by decide +kernel
theorem dX2_lineEnd_23 : decode cX2_lineEnd 23 = .ok (.iadd, 1) := by decide +kernel
theorem dX2_lineEnd_24 : decode cX2_lineEnd 24 = .ok (.ireturn, 1) := by decide +kernel
theorem dX2_hasNode_0 : decode cX2_hasNode 0 = .ok (.iload_n 1, 1) := by decide +kernel
theorem dX2_hasNode_1 : decode cX2_hasNode 1 = .ok (.ifCond .lt 15, 3) := by decide +kernel
theorem dX2_hasNode_4 : decode cX2_hasNode 4 = .ok (.iload_n 1, 1) := by decide +kernel
theorem dX2_hasNode_5 : decode cX2_hasNode 5 = .ok (.aload_n 0, 1) := by decide +kernel
theorem dX2_hasNode_6 : decode cX2_hasNode 6 = .ok (.getfield 9, 3) := by decide +kernel
theorem dX2_hasNode_9 : decode cX2_hasNode 9 = .ok (.if_icmp .ge 7, 3) := by decide +kernel
theorem dX2_hasNode_12 : decode cX2_hasNode 12 = .ok (.iconst 1, 1) := by decide +kernel
theorem dX2_hasNode_13 : decode cX2_hasNode 13 = .ok (.goto 4, 3) := by decide +kernel
theorem dX2_hasNode_16 : decode cX2_hasNode 16 = .ok (.iconst 0, 1) := by decide +kernel
theorem dX2_hasNode_17 : decode cX2_hasNode 17 = .ok (.ireturn, 1) := by decide +kernel
theorem dX2_hasPart_0 : decode cX2_hasPart 0 = .ok (.iload_n 1, 1) := by decide +kernel
theorem dX2_hasPart_1 : decode cX2_hasPart 1 = .ok (.ifCond .lt 24, 3) := by decide +kernel
theorem dX2_hasPart_4 : decode cX2_hasPart 4 = .ok (.iload_n 1, 1) := by decide +kernel
theorem dX2_hasPart_5 : decode cX2_hasPart 5 = .ok (.aload_n 0, 1) := by decide +kernel
theorem dX2_hasPart_6 : decode cX2_hasPart 6 = .ok (.getfield 25, 3) := by decide +kernel
theorem dX2_hasPart_9 : decode cX2_hasPart 9 = .ok (.if_icmp .ge 16, 3) := by decide +kernel
theorem dX2_hasPart_12 : decode cX2_hasPart 12 = .ok (.iload_n 1, 1) := by decide +kernel
theorem dX2_hasPart_13 : decode cX2_hasPart 13 = .ok (.aload_n 0, 1) := by decide +kernel
theorem dX2_hasPart_14 : decode cX2_hasPart 14 = .ok (.getfield 31, 3) := by decide +kernel
theorem dX2_hasPart_17 : decode cX2_hasPart 17 = .ok (.arraylength, 1) := by decide +kernel
theorem dX2_hasPart_18 : decode cX2_hasPart 18 = .ok (.if_icmp .ge 7, 3) := by decide +kernel
theorem dX2_hasPart_21 : decode cX2_hasPart 21 = .ok (.iconst 1, 1) := by decide +kernel
theorem dX2_hasPart_22 : decode cX2_hasPart 22 = .ok (.goto 4, 3) := by decide +kernel
theorem dX2_hasPart_25 : decode cX2_hasPart 25 = .ok (.iconst 0, 1) := by decide +kernel
theorem dX2_hasPart_26 : decode cX2_hasPart 26 = .ok (.ireturn, 1) := by decide +kernel
theorem dX2_lineNumber_0 : decode cX2_lineNumber 0 = .ok (.iload_n 1, 1) := by decide +kernel
theorem dX2_lineNumber_1 : decode cX2_lineNumber 1 = .ok (.iload_n 2, 1) := by decide +kernel
theorem dX2_lineNumber_2 : decode cX2_lineNumber 2 = .ok (.invokestatic 52, 3) := by decide +kernel
theorem dX2_lineNumber_5 : decode cX2_lineNumber 5 = .ok (.istore_n 3, 1) := by decide +kernel
theorem dX2_lineNumber_6 : decode cX2_lineNumber 6 = .ok (.iload_n 1, 1) := by decide +kernel
theorem dX2_lineNumber_7 : decode cX2_lineNumber 7 = .ok (.iload_n 2, 1) := by decide +kernel
theorem dX2_lineNumber_8 : decode cX2_lineNumber 8 = .ok (.invokestatic 58, 3) := by decide +kernel
theorem dX2_lineNumber_11 : decode cX2_lineNumber 11 = .ok (.istore 4, 2) := by decide +kernel
theorem dX2_lineNumber_13 : decode cX2_lineNumber 13 = .ok (.iload_n 3, 1) := by decide +kernel
theorem dX2_lineNumber_14 : decode cX2_lineNumber 14 = .ok (.aload_n 0, 1) := by decide +kernel
theorem dX2_lineNumber_15 : decode cX2_lineNumber 15 = .ok (.getfield 9, 3) := by decide +kernel
theorem dX2_lineNumber_18 : decode cX2_lineNumber 18 = .ok (.imul, 1) := by decide +kernel
theorem dX2_lineNumber_19 : decode cX2_lineNumber 19 = .ok (.iload_n 3, 1) := by decide +kernel
theorem dX2_lineNumber_20 : decode cX2_lineNumber 20 = .ok (.iload_n 3, 1) := by decide +kernel
theorem dX2_lineNumber_21 : decode cX2_lineNumber 21 = .ok (.iconst 1, 1) := by decide +kernel
theorem dX2_lineNumber_22 : decode cX2_lineNumber 22 = .ok (.iadd, 1) := by decide +kernel
theorem dX2_lineNumber_23 : decode cX2_lineNumber 23 = .ok (.imul, 1) := by decide +kernel
theorem dX2_lineNumber_24 : decode cX2_lineNumber 24 = .ok (.iconst 2, 1) := by decide +kernel
theorem dX2_lineNumber_25 : decode cX2_lineNumber 25 = .ok (.idiv, 1) := by decide +kernel
theorem dX2_lineNumber_26 : decode cX2_lineNumber 26 = .ok (.isub, 1) := by decide +kernel
theorem dX2_lineNumber_27 : decode cX2_lineNumber 27 = .ok (.iload 4, 2) := by decide +kernel
theorem dX2_lineNumber_29 : decode cX2_lineNumber 29 = .ok (.iadd, 1) := by decide +kernel
theorem dX2_lineNumber_30 : decode cX2_lineNumber 30 = .ok (.iload_n 3, 1) := by decide +kernel
theorem dX2_lineNumber_31 : decode cX2_lineNumber 31 = .ok (.isub, 1) := by decide +kernel
theorem dX2_lineNumber_32 : decode cX2_lineNumber 32 = .ok (.iconst 1, 1) := by decide +kernel
theorem dX2_lineNumber_33 : decode cX2_lineNumber 33 = .ok (.isub, 1) := by decide +kernel
theorem dX2_lineNumber_34 : decode cX2_lineNumber 34 = .ok (.ireturn, 1) := by decide +kernel
theorem dX2_allLines_0 : decode cX2_allLines 0 = .ok (.lconst 1, 1) := by decide +kernel
theorem dX2_allLines_1 : decode cX2_allLines 1 = .ok (.aload_n 0, 1) := by decide +kernel
theorem dX2_allLines_2 : decode cX2_allLines 2 = .ok (.getfield 9, 3) := by decide +kernel
theorem dX2_allLines_5 : decode cX2_allLines 5 = .ok (.aload_n 0, 1) := by decide +kernel
theorem dX2_allLines_6 : decode cX2_allLines 6 = .ok (.getfield 9, 3) := by decide +kernel
theorem dX2_allLines_9 : decode cX2_allLines 9 = .ok (.iconst 1, 1) := by decide +kernel
theorem dX2_allLines_10 : decode cX2_allLines 10 = .ok (.isub, 1) := by decide +kernel
theorem dX2_allLines_11 : decode cX2_allLines 11 = .ok (.imul, 1) := by decide +kernel
theorem dX2_allLines_12 : decode cX2_allLines 12 = .ok (.iconst 2, 1) := by decide +kernel
theorem dX2_allLines_13 : decode cX2_allLines 13 = .ok (.idiv, 1) := by decide +kernel
theorem dX2_allLines_14 : decode cX2_allLines 14 = .ok (.lshl, 1) := by decide +kernel
theorem dX2_allLines_15 : decode cX2_allLines 15 = .ok (.lconst 1, 1) := by decide +kernel
theorem dX2_allLines_16 : decode cX2_allLines 16 = .ok (.lsub, 1) := by decide +kernel
theorem dX2_allLines_17 : decode cX2_allLines 17 = .ok (.lreturn, 1) := by decide +kernel
theorem dX2_linesAt_0 : decode cX2_linesAt 0 = .ok (.lconst 0, 1) := by decide +kernel
theorem dX2_linesAt_1 : decode cX2_linesAt 1 = .ok (.lstore_n 2, 1) := by decide +kernel
theorem dX2_linesAt_2 : decode cX2_linesAt 2 = .ok (.iconst 0, 1) := by decide +kernel
theorem dX2_linesAt_3 : decode cX2_linesAt 3 = .ok (.istore 4, 2) := by decide +kernel
theorem dX2_linesAt_5 : decode cX2_linesAt 5 = .ok (.iload 4, 2) := by decide +kernel
theorem dX2_linesAt_7 : decode cX2_linesAt 7 = .ok (.aload_n 0, 1) := by decide +kernel
theorem dX2_linesAt_8 : decode cX2_linesAt 8 = .ok (.getfield 9, 3) := by decide +kernel
theorem dX2_linesAt_11 : decode cX2_linesAt 11 = .ok (.if_icmp .ge 27, 3) := by decide +kernel
theorem dX2_linesAt_14 : decode cX2_linesAt 14 = .ok (.iload 4, 2) := by decide +kernel
theorem dX2_linesAt_16 : decode cX2_linesAt 16 = .ok (.iload_n 1, 1) := by decide +kernel
theorem dX2_linesAt_17 : decode cX2_linesAt 17 = .ok (.if_icmp .eq 15, 3) := by decide +kernel
theorem dX2_linesAt_20 : decode cX2_linesAt 20 = .ok (.lload_n 2, 1) := by decide +kernel
theorem dX2_linesAt_21 : decode cX2_linesAt 21 = .ok (.lconst 1, 1) := by decide +kernel
theorem dX2_linesAt_22 : decode cX2_linesAt 22 = .ok (.aload_n 0, 1) := by decide +kernel
theorem dX2_linesAt_23 : decode cX2_linesAt 23 = .ok (.iload_n 1, 1) := by decide +kernel
theorem dX2_linesAt_24 : decode cX2_linesAt 24 = .ok (.iload 4, 2) := by decide +kernel
theorem dX2_linesAt_26 : decode cX2_linesAt 26 = .ok (.invokevirtual 61, 3) := by decide +kernel
theorem dX2_linesAt_29 : decode cX2_linesAt 29 = .ok (.lshl, 1) := by decide +kernel
theorem dX2_linesAt_30 : decode cX2_linesAt 30 = .ok (.lor, 1) := by decide +kernel
theorem dX2_linesAt_31 : decode cX2_linesAt 31 = .ok (.lstore_n 2, 1) := by decide +kernel
theorem dX2_linesAt_32 : decode cX2_linesAt 32 = .ok (.iinc 4 1, 3) := by decide +kernel
theorem dX2_linesAt_35 : decode cX2_linesAt 35 = .ok (.goto (-30), 3) := by decide +kernel
theorem dX2_linesAt_38 : decode cX2_linesAt 38 = .ok (.lload_n 2, 1) := by decide +kernel
theorem dX2_linesAt_39 : decode cX2_linesAt 39 = .ok (.lreturn, 1) := by decide +kernel
theorem dX2_leftLines_0 : decode cX2_leftLines 0 = .ok (.aload_n 0, 1) := by decide +kernel
theorem dX2_leftLines_1 : decode cX2_leftLines 1 = .ok (.getfield 15, 3) := by decide +kernel
theorem dX2_leftLines_4 : decode cX2_leftLines 4 = .ok (.lstore_n 1, 1) := by decide +kernel
theorem dX2_leftLines_5 : decode cX2_leftLines 5 = .ok (.iconst 0, 1) := by decide +kernel
theorem dX2_leftLines_6 : decode cX2_leftLines 6 = .ok (.istore_n 3, 1) := by decide +kernel
theorem dX2_leftLines_7 : decode cX2_leftLines 7 = .ok (.iload_n 3, 1) := by decide +kernel
theorem dX2_leftLines_8 : decode cX2_leftLines 8 = .ok (.aload_n 0, 1) := by decide +kernel
theorem dX2_leftLines_9 : decode cX2_leftLines 9 = .ok (.getfield 25, 3) := by decide +kernel
theorem dX2_leftLines_12 : decode cX2_leftLines 12 = .ok (.if_icmp .ge 31, 3) := by decide +kernel
theorem dX2_leftLines_15 : decode cX2_leftLines 15 = .ok (.iload_n 3, 1) := by decide +kernel
theorem dX2_leftLines_16 : decode cX2_leftLines 16 = .ok (.aload_n 0, 1) := by decide +kernel
theorem dX2_leftLines_17 : decode cX2_leftLines 17 = .ok (.getfield 31, 3) := by decide +kernel
theorem dX2_leftLines_20 : decode cX2_leftLines 20 = .ok (.arraylength, 1) := by decide +kernel
theorem dX2_leftLines_21 : decode cX2_leftLines 21 = .ok (.if_icmp .ge 22, 3) := by decide +kernel
theorem dX2_leftLines_24 : decode cX2_leftLines 24 = .ok (.lload_n 1, 1) := by decide +kernel
theorem dX2_leftLines_25 : decode cX2_leftLines 25 = .ok (.aload_n 0, 1) := by decide +kernel
theorem dX2_leftLines_26 : decode cX2_leftLines 26 = .ok (.getfield 31, 3) := by decide +kernel
theorem dX2_leftLines_29 : decode cX2_leftLines 29 = .ok (.iload_n 3, 1) := by decide +kernel
theorem dX2_leftLines_30 : decode cX2_leftLines 30 = .ok (.laload, 1) := by decide +kernel
theorem dX2_leftLines_31 : decode cX2_leftLines 31 = .ok (.ldc2_w 64, 3) := by decide +kernel
theorem dX2_leftLines_34 : decode cX2_leftLines 34 = .ok (.lxor, 1) := by decide +kernel
theorem dX2_leftLines_35 : decode cX2_leftLines 35 = .ok (.land, 1) := by decide +kernel
theorem dX2_leftLines_36 : decode cX2_leftLines 36 = .ok (.lstore_n 1, 1) := by decide +kernel
theorem dX2_leftLines_37 : decode cX2_leftLines 37 = .ok (.iinc 3 1, 3) := by decide +kernel
theorem dX2_leftLines_40 : decode cX2_leftLines 40 = .ok (.goto (-33), 3) := by decide +kernel
theorem dX2_leftLines_43 : decode cX2_leftLines 43 = .ok (.lload_n 1, 1) := by decide +kernel
theorem dX2_leftLines_44 : decode cX2_leftLines 44 = .ok (.lreturn, 1) := by decide +kernel
theorem dX2_partWith_0 : decode cX2_partWith 0 = .ok (.iconst 0, 1) := by decide +kernel
theorem dX2_partWith_1 : decode cX2_partWith 1 = .ok (.istore_n 3, 1) := by decide +kernel
theorem dX2_partWith_2 : decode cX2_partWith 2 = .ok (.iload_n 3, 1) := by decide +kernel
theorem dX2_partWith_3 : decode cX2_partWith 3 = .ok (.aload_n 0, 1) := by decide +kernel
theorem dX2_partWith_4 : decode cX2_partWith 4 = .ok (.getfield 25, 3) := by decide +kernel
theorem dX2_partWith_7 : decode cX2_partWith 7 = .ok (.if_icmp .ge 33, 3) := by decide +kernel
theorem dX2_partWith_10 : decode cX2_partWith 10 = .ok (.iload_n 3, 1) := by decide +kernel
theorem dX2_partWith_11 : decode cX2_partWith 11 = .ok (.aload_n 0, 1) := by decide +kernel
theorem dX2_partWith_12 : decode cX2_partWith 12 = .ok (.getfield 31, 3) := by decide +kernel
theorem dX2_partWith_15 : decode cX2_partWith 15 = .ok (.arraylength, 1) := by decide +kernel
theorem dX2_partWith_16 : decode cX2_partWith 16 = .ok (.if_icmp .ge 24, 3) := by decide +kernel
theorem dX2_partWith_19 : decode cX2_partWith 19 = .ok (.aload_n 0, 1) := by decide +kernel
theorem dX2_partWith_20 : decode cX2_partWith 20 = .ok (.getfield 31, 3) := by decide +kernel
theorem dX2_partWith_23 : decode cX2_partWith 23 = .ok (.iload_n 3, 1) := by decide +kernel
theorem dX2_partWith_24 : decode cX2_partWith 24 = .ok (.laload, 1) := by decide +kernel
theorem dX2_partWith_25 : decode cX2_partWith 25 = .ok (.lload_n 1, 1) := by decide +kernel
theorem dX2_partWith_26 : decode cX2_partWith 26 = .ok (.land, 1) := by decide +kernel
theorem dX2_partWith_27 : decode cX2_partWith 27 = .ok (.lconst 0, 1) := by decide +kernel
theorem dX2_partWith_28 : decode cX2_partWith 28 = .ok (.lcmp, 1) := by decide +kernel
theorem dX2_partWith_29 : decode cX2_partWith 29 = .ok (.ifCond .eq 5, 3) := by decide +kernel
theorem dX2_partWith_32 : decode cX2_partWith 32 = .ok (.iload_n 3, 1) := by decide +kernel
theorem dX2_partWith_33 : decode cX2_partWith 33 = .ok (.ireturn, 1) := by decide +kernel
theorem dX2_partWith_34 : decode cX2_partWith 34 = .ok (.iinc 3 1, 3) := by decide +kernel
theorem dX2_partWith_37 : decode cX2_partWith 37 = .ok (.goto (-35), 3) := by decide +kernel
theorem dX2_partWith_40 : decode cX2_partWith 40 = .ok (.iconst (-1), 1) := by decide +kernel
theorem dX2_partWith_41 : decode cX2_partWith 41 = .ok (.ireturn, 1) := by decide +kernel
theorem dX2_partsMeeting_0 : decode cX2_partsMeeting 0 = .ok (.iconst 0, 1) := by decide +kernel
theorem dX2_partsMeeting_1 : decode cX2_partsMeeting 1 = .ok (.istore_n 3, 1) := by decide +kernel
theorem dX2_partsMeeting_2 : decode cX2_partsMeeting 2 = .ok (.iconst 0, 1) := by decide +kernel
theorem dX2_partsMeeting_3 : decode cX2_partsMeeting 3 = .ok (.istore 4, 2) := by decide +kernel
theorem dX2_partsMeeting_5 : decode cX2_partsMeeting 5 = .ok (.iload 4, 2) := by decide +kernel
theorem dX2_partsMeeting_7 : decode cX2_partsMeeting 7 = .ok (.aload_n 0, 1) := by decide +kernel
theorem dX2_partsMeeting_8 : decode cX2_partsMeeting 8 = .ok (.getfield 25, 3) := by decide +kernel
theorem dX2_partsMeeting_11 : decode cX2_partsMeeting 11 = .ok (.if_icmp .ge 36, 3) := by decide +kernel
theorem dX2_partsMeeting_14 : decode cX2_partsMeeting 14 = .ok (.iload 4, 2) := by decide +kernel
theorem dX2_partsMeeting_16 : decode cX2_partsMeeting 16 = .ok (.aload_n 0, 1) := by decide +kernel
theorem dX2_partsMeeting_17 : decode cX2_partsMeeting 17 = .ok (.getfield 31, 3) := by decide +kernel
theorem dX2_partsMeeting_20 : decode cX2_partsMeeting 20 = .ok (.arraylength, 1) := by decide +kernel
theorem dX2_partsMeeting_21 : decode cX2_partsMeeting 21 = .ok (.if_icmp .ge 26, 3) := by decide +kernel
theorem dX2_partsMeeting_24 : decode cX2_partsMeeting 24 = .ok (.aload_n 0, 1) := by decide +kernel
theorem dX2_partsMeeting_25 : decode cX2_partsMeeting 25 = .ok (.getfield 31, 3) := by decide +kernel
theorem dX2_partsMeeting_28 : decode cX2_partsMeeting 28 = .ok (.iload 4, 2) := by decide +kernel
theorem dX2_partsMeeting_30 : decode cX2_partsMeeting 30 = .ok (.laload, 1) := by decide +kernel
theorem dX2_partsMeeting_31 : decode cX2_partsMeeting 31 = .ok (.lload_n 1, 1) := by decide +kernel
theorem dX2_partsMeeting_32 : decode cX2_partsMeeting 32 = .ok (.land, 1) := by decide +kernel
theorem dX2_partsMeeting_33 : decode cX2_partsMeeting 33 = .ok (.lconst 0, 1) := by decide +kernel
theorem dX2_partsMeeting_34 : decode cX2_partsMeeting 34 = .ok (.lcmp, 1) := by decide +kernel
theorem dX2_partsMeeting_35 : decode cX2_partsMeeting 35 = .ok (.ifCond .eq 6, 3) := by decide +kernel
theorem dX2_partsMeeting_38 : decode cX2_partsMeeting 38 = .ok (.iinc 3 1, 3) := by decide +kernel
theorem dX2_partsMeeting_41 : decode cX2_partsMeeting 41 = .ok (.iinc 4 1, 3) := by decide +kernel
theorem dX2_partsMeeting_44 : decode cX2_partsMeeting 44 = .ok (.goto (-39), 3) := by decide +kernel
theorem dX2_partsMeeting_47 : decode cX2_partsMeeting 47 = .ok (.iload_n 3, 1) := by decide +kernel
theorem dX2_partsMeeting_48 : decode cX2_partsMeeting 48 = .ok (.ireturn, 1) := by decide +kernel
theorem dX2_hasOddNode_0 : decode cX2_hasOddNode 0 = .ok (.iconst 0, 1) := by decide +kernel
theorem dX2_hasOddNode_1 : decode cX2_hasOddNode 1 = .ok (.istore_n 3, 1) := by decide +kernel
theorem dX2_hasOddNode_2 : decode cX2_hasOddNode 2 = .ok (.iload_n 3, 1) := by decide +kernel
theorem dX2_hasOddNode_3 : decode cX2_hasOddNode 3 = .ok (.aload_n 0, 1) := by decide +kernel
theorem dX2_hasOddNode_4 : decode cX2_hasOddNode 4 = .ok (.getfield 9, 3) := by decide +kernel
theorem dX2_hasOddNode_7 : decode cX2_hasOddNode 7 = .ok (.if_icmp .ge 26, 3) := by decide +kernel
theorem dX2_hasOddNode_10 : decode cX2_hasOddNode 10 = .ok (.lload_n 1, 1) := by decide +kernel
theorem dX2_hasOddNode_11 : decode cX2_hasOddNode 11 = .ok (.aload_n 0, 1) := by decide +kernel
theorem dX2_hasOddNode_12 : decode cX2_hasOddNode 12 = .ok (.iload_n 3, 1) := by decide +kernel
theorem dX2_hasOddNode_13 : decode cX2_hasOddNode 13 = .ok (.invokevirtual 66, 3) := by decide +kernel
theorem dX2_hasOddNode_16 : decode cX2_hasOddNode 16 = .ok (.land, 1) := by decide +kernel
theorem dX2_hasOddNode_17 : decode cX2_hasOddNode 17 = .ok (.invokestatic 70, 3) := by decide +kernel
theorem dX2_hasOddNode_20 : decode cX2_hasOddNode 20 = .ok (.iconst 2, 1) := by decide +kernel
theorem dX2_hasOddNode_21 : decode cX2_hasOddNode 21 = .ok (.irem, 1) := by decide +kernel
theorem dX2_hasOddNode_22 : decode cX2_hasOddNode 22 = .ok (.ifCond .eq 5, 3) := by decide +kernel
theorem dX2_hasOddNode_25 : decode cX2_hasOddNode 25 = .ok (.iconst 1, 1) := by decide +kernel
theorem dX2_hasOddNode_26 : decode cX2_hasOddNode 26 = .ok (.ireturn, 1) := by decide +kernel
theorem dX2_hasOddNode_27 : decode cX2_hasOddNode 27 = .ok (.iinc 3 1, 3) := by decide +kernel
theorem dX2_hasOddNode_30 : decode cX2_hasOddNode 30 = .ok (.goto (-28), 3) := by decide +kernel
theorem dX2_hasOddNode_33 : decode cX2_hasOddNode 33 = .ok (.iconst 0, 1) := by decide +kernel
theorem dX2_hasOddNode_34 : decode cX2_hasOddNode 34 = .ok (.ireturn, 1) := by decide +kernel
theorem dX2_putIn_0 : decode cX2_putIn 0 = .ok (.aload_n 0, 1) := by decide +kernel
theorem dX2_putIn_1 : decode cX2_putIn 1 = .ok (.getfield 25, 3) := by decide +kernel
theorem dX2_putIn_4 : decode cX2_putIn 4 = .ok (.ifCond .lt 35, 3) := by decide +kernel
theorem dX2_putIn_7 : decode cX2_putIn 7 = .ok (.aload_n 0, 1) := by decide +kernel
theorem dX2_putIn_8 : decode cX2_putIn 8 = .ok (.getfield 25, 3) := by decide +kernel
theorem dX2_putIn_11 : decode cX2_putIn 11 = .ok (.aload_n 0, 1) := by decide +kernel
theorem dX2_putIn_12 : decode cX2_putIn 12 = .ok (.getfield 31, 3) := by decide +kernel
theorem dX2_putIn_15 : decode cX2_putIn 15 = .ok (.arraylength, 1) := by decide +kernel
theorem dX2_putIn_16 : decode cX2_putIn 16 = .ok (.if_icmp .ge 23, 3) := by decide +kernel
theorem dX2_putIn_19 : decode cX2_putIn 19 = .ok (.aload_n 0, 1) := by decide +kernel
theorem dX2_putIn_20 : decode cX2_putIn 20 = .ok (.getfield 31, 3) := by decide +kernel
theorem dX2_putIn_23 : decode cX2_putIn 23 = .ok (.aload_n 0, 1) := by decide +kernel
theorem dX2_putIn_24 : decode cX2_putIn 24 = .ok (.getfield 25, 3) := by decide +kernel
theorem dX2_putIn_27 : decode cX2_putIn 27 = .ok (.lload_n 1, 1) := by decide +kernel
theorem dX2_putIn_28 : decode cX2_putIn 28 = .ok (.lastore, 1) := by decide +kernel
theorem dX2_putIn_29 : decode cX2_putIn 29 = .ok (.aload_n 0, 1) := by decide +kernel
theorem dX2_putIn_30 : decode cX2_putIn 30 = .ok (.dup, 1) := by decide +kernel
theorem dX2_putIn_31 : decode cX2_putIn 31 = .ok (.getfield 25, 3) := by decide +kernel
theorem dX2_putIn_34 : decode cX2_putIn 34 = .ok (.iconst 1, 1) := by decide +kernel
theorem dX2_putIn_35 : decode cX2_putIn 35 = .ok (.iadd, 1) := by decide +kernel
theorem dX2_putIn_36 : decode cX2_putIn 36 = .ok (.putfield 25, 3) := by decide +kernel
theorem dX2_putIn_39 : decode cX2_putIn 39 = .ok (.return_, 1) := by decide +kernel
theorem dX2_takeOut_0 : decode cX2_takeOut 0 = .ok (.aload_n 0, 1) := by decide +kernel
theorem dX2_takeOut_1 : decode cX2_takeOut 1 = .ok (.iload_n 1, 1) := by decide +kernel
theorem dX2_takeOut_2 : decode cX2_takeOut 2 = .ok (.invokevirtual 76, 3) := by decide +kernel
theorem dX2_takeOut_5 : decode cX2_takeOut 5 = .ok (.ifCond .ne 4, 3) := by decide +kernel
theorem dX2_takeOut_8 : decode cX2_takeOut 8 = .ok (.return_, 1) := by decide +kernel
theorem dX2_takeOut_9 : decode cX2_takeOut 9 = .ok (.iload_n 1, 1) := by decide +kernel
theorem dX2_takeOut_10 : decode cX2_takeOut 10 = .ok (.istore_n 2, 1) := by decide +kernel
theorem dX2_takeOut_11 : decode cX2_takeOut 11 = .ok (.iload_n 2, 1) := by decide +kernel
theorem dX2_takeOut_12 : decode cX2_takeOut 12 = .ok (.iconst 1, 1) := by decide +kernel
theorem dX2_takeOut_13 : decode cX2_takeOut 13 = .ok (.iadd, 1) := by decide +kernel
theorem dX2_takeOut_14 : decode cX2_takeOut 14 = .ok (.aload_n 0, 1) := by decide +kernel
theorem dX2_takeOut_15 : decode cX2_takeOut 15 = .ok (.getfield 25, 3) := by decide +kernel
theorem dX2_takeOut_18 : decode cX2_takeOut 18 = .ok (.if_icmp .ge 34, 3) := by decide +kernel
theorem dX2_takeOut_21 : decode cX2_takeOut 21 = .ok (.iload_n 2, 1) := by decide +kernel
theorem dX2_takeOut_22 : decode cX2_takeOut 22 = .ok (.iconst 1, 1) := by decide +kernel
theorem dX2_takeOut_23 : decode cX2_takeOut 23 = .ok (.iadd, 1) := by decide +kernel
theorem dX2_takeOut_24 : decode cX2_takeOut 24 = .ok (.aload_n 0, 1) := by decide +kernel
theorem dX2_takeOut_25 : decode cX2_takeOut 25 = .ok (.getfield 31, 3) := by decide +kernel
theorem dX2_takeOut_28 : decode cX2_takeOut 28 = .ok (.arraylength, 1) := by decide +kernel
theorem dX2_takeOut_29 : decode cX2_takeOut 29 = .ok (.if_icmp .ge 23, 3) := by decide +kernel
theorem dX2_takeOut_32 : decode cX2_takeOut 32 = .ok (.aload_n 0, 1) := by decide +kernel
theorem dX2_takeOut_33 : decode cX2_takeOut 33 = .ok (.getfield 31, 3) := by decide +kernel
theorem dX2_takeOut_36 : decode cX2_takeOut 36 = .ok (.iload_n 2, 1) := by decide +kernel
theorem dX2_takeOut_37 : decode cX2_takeOut 37 = .ok (.aload_n 0, 1) := by decide +kernel
theorem dX2_takeOut_38 : decode cX2_takeOut 38 = .ok (.getfield 31, 3) := by decide +kernel
theorem dX2_takeOut_41 : decode cX2_takeOut 41 = .ok (.iload_n 2, 1) := by decide +kernel
theorem dX2_takeOut_42 : decode cX2_takeOut 42 = .ok (.iconst 1, 1) := by decide +kernel
theorem dX2_takeOut_43 : decode cX2_takeOut 43 = .ok (.iadd, 1) := by decide +kernel
theorem dX2_takeOut_44 : decode cX2_takeOut 44 = .ok (.laload, 1) := by decide +kernel
theorem dX2_takeOut_45 : decode cX2_takeOut 45 = .ok (.lastore, 1) := by decide +kernel
theorem dX2_takeOut_46 : decode cX2_takeOut 46 = .ok (.iinc 2 1, 3) := by decide +kernel
theorem dX2_takeOut_49 : decode cX2_takeOut 49 = .ok (.goto (-38), 3) := by decide +kernel
theorem dX2_takeOut_52 : decode cX2_takeOut 52 = .ok (.aload_n 0, 1) := by decide +kernel
theorem dX2_takeOut_53 : decode cX2_takeOut 53 = .ok (.dup, 1) := by decide +kernel
theorem dX2_takeOut_54 : decode cX2_takeOut 54 = .ok (.getfield 25, 3) := by decide +kernel
theorem dX2_takeOut_57 : decode cX2_takeOut 57 = .ok (.iconst 1, 1) := by decide +kernel
theorem dX2_takeOut_58 : decode cX2_takeOut 58 = .ok (.isub, 1) := by decide +kernel
theorem dX2_takeOut_59 : decode cX2_takeOut 59 = .ok (.putfield 25, 3) := by decide +kernel
theorem dX2_takeOut_62 : decode cX2_takeOut 62 = .ok (.return_, 1) := by decide +kernel
theorem dX2_tellsPart_0 : decode cX2_tellsPart 0 = .ok (.iload_n 3, 1) := by decide +kernel
theorem dX2_tellsPart_1 : decode cX2_tellsPart 1 = .ok (.aload_n 0, 1) := by decide +kernel
theorem dX2_tellsPart_2 : decode cX2_tellsPart 2 = .ok (.invokevirtual 80, 3) := by decide +kernel
theorem dX2_tellsPart_5 : decode cX2_tellsPart 5 = .ok (.if_icmp .ne 15, 3) := by decide +kernel
theorem dX2_tellsPart_8 : decode cX2_tellsPart 8 = .ok (.iload_n 2, 1) := by decide +kernel
theorem dX2_tellsPart_9 : decode cX2_tellsPart 9 = .ok (.ifCond .lt 11, 3) := by decide +kernel
theorem dX2_tellsPart_12 : decode cX2_tellsPart 12 = .ok (.iload_n 2, 1) := by decide +kernel
theorem dX2_tellsPart_13 : decode cX2_tellsPart 13 = .ok (.iload_n 3, 1) := by decide +kernel
theorem dX2_tellsPart_14 : decode cX2_tellsPart 14 = .ok (.iadd, 1) := by decide +kernel
theorem dX2_tellsPart_15 : decode cX2_tellsPart 15 = .ok (.aload_n 1, 1) := by decide +kernel
theorem dX2_tellsPart_16 : decode cX2_tellsPart 16 = .ok (.arraylength, 1) := by decide +kernel
theorem dX2_tellsPart_17 : decode cX2_tellsPart 17 = .ok (.if_icmp .le 5, 3) := by decide +kernel
theorem dX2_tellsPart_20 : decode cX2_tellsPart 20 = .ok (.iconst 0, 1) := by decide +kernel
theorem dX2_tellsPart_21 : decode cX2_tellsPart 21 = .ok (.ireturn, 1) := by decide +kernel
theorem dX2_tellsPart_22 : decode cX2_tellsPart 22 = .ok (.iload_n 2, 1) := by decide +kernel
theorem dX2_tellsPart_23 : decode cX2_tellsPart 23 = .ok (.istore 5, 2) := by decide +kernel
theorem dX2_tellsPart_25 : decode cX2_tellsPart 25 = .ok (.iload 5, 2) := by decide +kernel
theorem dX2_tellsPart_27 : decode cX2_tellsPart 27 = .ok (.iload_n 2, 1) := by decide +kernel
theorem dX2_tellsPart_28 : decode cX2_tellsPart 28 = .ok (.iload_n 3, 1) := by decide +kernel
theorem dX2_tellsPart_29 : decode cX2_tellsPart 29 = .ok (.iadd, 1) := by decide +kernel
theorem dX2_tellsPart_30 : decode cX2_tellsPart 30 = .ok (.if_icmp .ge 56, 3) := by decide +kernel
theorem dX2_tellsPart_33 : decode cX2_tellsPart 33 = .ok (.aload_n 1, 1) := by decide +kernel
theorem dX2_tellsPart_34 : decode cX2_tellsPart 34 = .ok (.iload 5, 2) := by decide +kernel
theorem dX2_tellsPart_36 : decode cX2_tellsPart 36 = .ok (.iaload, 1) := by decide +kernel
theorem dX2_tellsPart_37 : decode cX2_tellsPart 37 = .ok (.ifCond .lt 12, 3) := by decide +kernel
theorem dX2_tellsPart_40 : decode cX2_tellsPart 40 = .ok (.aload_n 1, 1) := by decide +kernel
theorem dX2_tellsPart_41 : decode cX2_tellsPart 41 = .ok (.iload 5, 2) := by decide +kernel
theorem dX2_tellsPart_43 : decode cX2_tellsPart 43 = .ok (.iaload, 1) := by decide +kernel
theorem dX2_tellsPart_44 : decode cX2_tellsPart 44 = .ok (.iload 4, 2) := by decide +kernel
theorem dX2_tellsPart_46 : decode cX2_tellsPart 46 = .ok (.if_icmp .le 5, 3) := by decide +kernel
theorem dX2_tellsPart_49 : decode cX2_tellsPart 49 = .ok (.iconst 0, 1) := by decide +kernel
theorem dX2_tellsPart_50 : decode cX2_tellsPart 50 = .ok (.ireturn, 1) := by decide +kernel
theorem dX2_tellsPart_51 : decode cX2_tellsPart 51 = .ok (.iload_n 2, 1) := by decide +kernel
theorem dX2_tellsPart_52 : decode cX2_tellsPart 52 = .ok (.istore 6, 2) := by decide +kernel
theorem dX2_tellsPart_54 : decode cX2_tellsPart 54 = .ok (.iload 6, 2) := by decide +kernel
theorem dX2_tellsPart_56 : decode cX2_tellsPart 56 = .ok (.iload 5, 2) := by decide +kernel
theorem dX2_tellsPart_58 : decode cX2_tellsPart 58 = .ok (.if_icmp .ge 22, 3) := by decide +kernel
theorem dX2_tellsPart_61 : decode cX2_tellsPart 61 = .ok (.aload_n 1, 1) := by decide +kernel
theorem dX2_tellsPart_62 : decode cX2_tellsPart 62 = .ok (.iload 6, 2) := by decide +kernel
theorem dX2_tellsPart_64 : decode cX2_tellsPart 64 = .ok (.iaload, 1) := by decide +kernel
theorem dX2_tellsPart_65 : decode cX2_tellsPart 65 = .ok (.aload_n 1, 1) := by decide +kernel
theorem dX2_tellsPart_66 : decode cX2_tellsPart 66 = .ok (.iload 5, 2) := by decide +kernel
theorem dX2_tellsPart_68 : decode cX2_tellsPart 68 = .ok (.iaload, 1) := by decide +kernel
theorem dX2_tellsPart_69 : decode cX2_tellsPart 69 = .ok (.if_icmp .ne 5, 3) := by decide +kernel
theorem dX2_tellsPart_72 : decode cX2_tellsPart 72 = .ok (.iconst 0, 1) := by decide +kernel
theorem dX2_tellsPart_73 : decode cX2_tellsPart 73 = .ok (.ireturn, 1) := by decide +kernel
theorem dX2_tellsPart_74 : decode cX2_tellsPart 74 = .ok (.iinc 6 1, 3) := by decide +kernel
theorem dX2_tellsPart_77 : decode cX2_tellsPart 77 = .ok (.goto (-23), 3) := by decide +kernel
theorem dX2_tellsPart_80 : decode cX2_tellsPart 80 = .ok (.iinc 5 1, 3) := by decide +kernel
theorem dX2_tellsPart_83 : decode cX2_tellsPart 83 = .ok (.goto (-58), 3) := by decide +kernel
theorem dX2_tellsPart_86 : decode cX2_tellsPart 86 = .ok (.iconst 1, 1) := by decide +kernel
theorem dX2_tellsPart_87 : decode cX2_tellsPart 87 = .ok (.ireturn, 1) := by decide +kernel
theorem dX2_linesOfPart_0 : decode cX2_linesOfPart 0 = .ok (.aload_n 0, 1) := by decide +kernel
theorem dX2_linesOfPart_1 : decode cX2_linesOfPart 1 = .ok (.aload_n 1, 1) := by decide +kernel
theorem dX2_linesOfPart_2 : decode cX2_linesOfPart 2 = .ok (.iload_n 2, 1) := by decide +kernel
theorem dX2_linesOfPart_3 : decode cX2_linesOfPart 3 = .ok (.iload_n 3, 1) := by decide +kernel
theorem dX2_linesOfPart_4 : decode cX2_linesOfPart 4 = .ok (.aload_n 0, 1) := by decide +kernel
theorem dX2_linesOfPart_5 : decode cX2_linesOfPart 5 = .ok (.getfield 9, 3) := by decide +kernel
theorem dX2_linesOfPart_8 : decode cX2_linesOfPart 8 = .ok (.iconst 1, 1) := by decide +kernel
theorem dX2_linesOfPart_9 : decode cX2_linesOfPart 9 = .ok (.isub, 1) := by decide +kernel
theorem dX2_linesOfPart_10 : decode cX2_linesOfPart 10 = .ok (.invokevirtual 84, 3) := by decide +kernel
theorem dX2_linesOfPart_13 : decode cX2_linesOfPart 13 = .ok (.ifCond .ne 5, 3) := by decide +kernel
theorem dX2_linesOfPart_16 : decode cX2_linesOfPart 16 = .ok (.lconst 0, 1) := by decide +kernel
theorem dX2_linesOfPart_17 : decode cX2_linesOfPart 17 = .ok (.lreturn, 1) := by decide +kernel
theorem dX2_linesOfPart_18 : decode cX2_linesOfPart 18 = .ok (.lconst 0, 1) := by decide +kernel
theorem dX2_linesOfPart_19 : decode cX2_linesOfPart 19 = .ok (.lstore 4, 2) := by decide +kernel
theorem dX2_linesOfPart_21 : decode cX2_linesOfPart 21 = .ok (.iconst 0, 1) := by decide +kernel
theorem dX2_linesOfPart_22 : decode cX2_linesOfPart 22 = .ok (.istore 6, 2) := by decide +kernel
theorem dX2_linesOfPart_24 : decode cX2_linesOfPart 24 = .ok (.iload 6, 2) := by decide +kernel
theorem dX2_linesOfPart_26 : decode cX2_linesOfPart 26 = .ok (.aload_n 0, 1) := by decide +kernel
theorem dX2_linesOfPart_27 : decode cX2_linesOfPart 27 = .ok (.getfield 22, 3) := by decide +kernel
theorem dX2_linesOfPart_30 : decode cX2_linesOfPart 30 = .ok (.if_icmp .ge 62, 3) := by decide +kernel
theorem dX2_linesOfPart_33 : decode cX2_linesOfPart 33 = .ok (.iload_n 2, 1) := by decide +kernel
theorem dX2_linesOfPart_34 : decode cX2_linesOfPart 34 = .ok (.aload_n 0, 1) := by decide +kernel
theorem dX2_linesOfPart_35 : decode cX2_linesOfPart 35 = .ok (.iload 6, 2) := by decide +kernel
theorem dX2_linesOfPart_37 : decode cX2_linesOfPart 37 = .ok (.invokevirtual 88, 3) := by decide +kernel
theorem dX2_linesOfPart_40 : decode cX2_linesOfPart 40 = .ok (.iadd, 1) := by decide +kernel
theorem dX2_linesOfPart_41 : decode cX2_linesOfPart 41 = .ok (.istore 7, 2) := by decide +kernel
theorem dX2_linesOfPart_43 : decode cX2_linesOfPart 43 = .ok (.iload_n 2, 1) := by decide +kernel
theorem dX2_linesOfPart_44 : decode cX2_linesOfPart 44 = .ok (.aload_n 0, 1) := by decide +kernel
theorem dX2_linesOfPart_45 : decode cX2_linesOfPart 45 = .ok (.iload 6, 2) := by decide +kernel
theorem dX2_linesOfPart_47 : decode cX2_linesOfPart 47 = .ok (.invokevirtual 92, 3) := by decide +kernel
theorem dX2_linesOfPart_50 : decode cX2_linesOfPart 50 = .ok (.iadd, 1) := by decide +kernel
theorem dX2_linesOfPart_51 : decode cX2_linesOfPart 51 = .ok (.istore 8, 2) := by decide +kernel
theorem dX2_linesOfPart_53 : decode cX2_linesOfPart 53 = .ok (.iload 7, 2) := by decide +kernel
theorem dX2_linesOfPart_55 : decode cX2_linesOfPart 55 = .ok (.aload_n 1, 1) := by decide +kernel
theorem dX2_linesOfPart_56 : decode cX2_linesOfPart 56 = .ok (.arraylength, 1) := by decide +kernel
theorem dX2_linesOfPart_57 : decode cX2_linesOfPart 57 = .ok (.if_icmp .ge 29, 3) := by decide +kernel
theorem dX2_linesOfPart_60 : decode cX2_linesOfPart 60 = .ok (.iload 8, 2) := by decide +kernel
theorem dX2_linesOfPart_62 : decode cX2_linesOfPart 62 = .ok (.aload_n 1, 1) := by decide +kernel
theorem dX2_linesOfPart_63 : decode cX2_linesOfPart 63 = .ok (.arraylength, 1) := by decide +kernel
theorem dX2_linesOfPart_64 : decode cX2_linesOfPart 64 = .ok (.if_icmp .ge 22, 3) := by decide +kernel
theorem dX2_linesOfPart_67 : decode cX2_linesOfPart 67 = .ok (.lload 4, 2) := by decide +kernel
theorem dX2_linesOfPart_69 : decode cX2_linesOfPart 69 = .ok (.lconst 1, 1) := by decide +kernel
theorem dX2_linesOfPart_70 : decode cX2_linesOfPart 70 = .ok (.aload_n 0, 1) := by decide +kernel
theorem dX2_linesOfPart_71 : decode cX2_linesOfPart 71 = .ok (.aload_n 1, 1) := by decide +kernel
theorem dX2_linesOfPart_72 : decode cX2_linesOfPart 72 = .ok (.iload 7, 2) := by decide +kernel
theorem dX2_linesOfPart_74 : decode cX2_linesOfPart 74 = .ok (.iaload, 1) := by decide +kernel
theorem dX2_linesOfPart_75 : decode cX2_linesOfPart 75 = .ok (.aload_n 1, 1) := by decide +kernel
theorem dX2_linesOfPart_76 : decode cX2_linesOfPart 76 = .ok (.iload 8, 2) := by decide +kernel
theorem dX2_linesOfPart_78 : decode cX2_linesOfPart 78 = .ok (.iaload, 1) := by decide +kernel
theorem dX2_linesOfPart_79 : decode cX2_linesOfPart 79 = .ok (.invokevirtual 61, 3) := by decide +kernel
theorem dX2_linesOfPart_82 : decode cX2_linesOfPart 82 = .ok (.lshl, 1) := by decide +kernel
theorem dX2_linesOfPart_83 : decode cX2_linesOfPart 83 = .ok (.lor, 1) := by decide +kernel
theorem dX2_linesOfPart_84 : decode cX2_linesOfPart 84 = .ok (.lstore 4, 2) := by decide +kernel
theorem dX2_linesOfPart_86 : decode cX2_linesOfPart 86 = .ok (.iinc 6 1, 3) := by decide +kernel
theorem dX2_linesOfPart_89 : decode cX2_linesOfPart 89 = .ok (.goto (-65), 3) := by decide +kernel
theorem dX2_linesOfPart_92 : decode cX2_linesOfPart 92 = .ok (.lload 4, 2) := by decide +kernel
theorem dX2_linesOfPart_94 : decode cX2_linesOfPart 94 = .ok (.lreturn, 1) := by decide +kernel
theorem dX2_baseNode_0 : decode cX2_baseNode 0 = .ok (.iload_n 1, 1) := by decide +kernel
theorem dX2_baseNode_1 : decode cX2_baseNode 1 = .ok (.iconst 5, 1) := by decide +kernel
theorem dX2_baseNode_2 : decode cX2_baseNode 2 = .ok (.imul, 1) := by decide +kernel
theorem dX2_baseNode_3 : decode cX2_baseNode 3 = .ok (.iload_n 2, 1) := by decide +kernel
theorem dX2_baseNode_4 : decode cX2_baseNode 4 = .ok (.iadd, 1) := by decide +kernel
theorem dX2_baseNode_5 : decode cX2_baseNode 5 = .ok (.istore_n 3, 1) := by decide +kernel
theorem dX2_baseNode_6 : decode cX2_baseNode 6 = .ok (.iload_n 3, 1) := by decide +kernel
theorem dX2_baseNode_7 : decode cX2_baseNode 7 = .ok (.ifCond .lt 21, 3) := by decide +kernel
theorem dX2_baseNode_10 : decode cX2_baseNode 10 = .ok (.iload_n 3, 1) := by decide +kernel
theorem dX2_baseNode_11 : decode cX2_baseNode 11 = .ok (.aload_n 0, 1) := by decide +kernel
theorem dX2_baseNode_12 : decode cX2_baseNode 12 = .ok (.getfield 35, 3) := by decide +kernel
theorem dX2_baseNode_15 : decode cX2_baseNode 15 = .ok (.arraylength, 1) := by decide +kernel
theorem dX2_baseNode_16 : decode cX2_baseNode 16 = .ok (.if_icmp .ge 12, 3) := by decide +kernel
theorem dX2_baseNode_19 : decode cX2_baseNode 19 = .ok (.aload_n 0, 1) := by decide +kernel
theorem dX2_baseNode_20 : decode cX2_baseNode 20 = .ok (.getfield 35, 3) := by decide +kernel
theorem dX2_baseNode_23 : decode cX2_baseNode 23 = .ok (.iload_n 3, 1) := by decide +kernel
theorem dX2_baseNode_24 : decode cX2_baseNode 24 = .ok (.iaload, 1) := by decide +kernel
theorem dX2_baseNode_25 : decode cX2_baseNode 25 = .ok (.goto 4, 3) := by decide +kernel
theorem dX2_baseNode_28 : decode cX2_baseNode 28 = .ok (.iconst 0, 1) := by decide +kernel
theorem dX2_baseNode_29 : decode cX2_baseNode 29 = .ok (.ireturn, 1) := by decide +kernel
theorem dX2_difference_0 : decode cX2_difference 0 = .ok (.iload_n 1, 1) := by decide +kernel
theorem dX2_difference_1 : decode cX2_difference 1 = .ok (.iload_n 2, 1) := by decide +kernel
theorem dX2_difference_2 : decode cX2_difference 2 = .ok (.isub, 1) := by decide +kernel
theorem dX2_difference_3 : decode cX2_difference 3 = .ok (.iload_n 3, 1) := by decide +kernel
theorem dX2_difference_4 : decode cX2_difference 4 = .ok (.invokestatic 95, 3) := by decide +kernel
theorem dX2_difference_7 : decode cX2_difference 7 = .ok (.istore 4, 2) := by decide +kernel
theorem dX2_difference_9 : decode cX2_difference 9 = .ok (.iload 4, 2) := by decide +kernel
theorem dX2_difference_11 : decode cX2_difference 11 = .ok (.iload_n 3, 1) := by decide +kernel
theorem dX2_difference_12 : decode cX2_difference 12 = .ok (.iload 4, 2) := by decide +kernel
theorem dX2_difference_14 : decode cX2_difference 14 = .ok (.isub, 1) := by decide +kernel
theorem dX2_difference_15 : decode cX2_difference 15 = .ok (.iload_n 3, 1) := by decide +kernel
theorem dX2_difference_16 : decode cX2_difference 16 = .ok (.invokestatic 95, 3) := by decide +kernel
theorem dX2_difference_19 : decode cX2_difference 19 = .ok (.invokestatic 52, 3) := by decide +kernel
theorem dX2_difference_22 : decode cX2_difference 22 = .ok (.ireturn, 1) := by decide +kernel
theorem dX2_coverOf_0 : decode cX2_coverOf 0 = .ok (.iload_n 1, 1) := by decide +kernel
theorem dX2_coverOf_1 : decode cX2_coverOf 1 = .ok (.iconst 1, 1) := by decide +kernel
theorem dX2_coverOf_2 : decode cX2_coverOf 2 = .ok (.if_icmp .ge 5, 3) := by decide +kernel
theorem dX2_coverOf_5 : decode cX2_coverOf 5 = .ok (.iconst 0, 1) := by decide +kernel
theorem dX2_coverOf_6 : decode cX2_coverOf 6 = .ok (.ireturn, 1) := by decide +kernel
theorem dX2_coverOf_7 : decode cX2_coverOf 7 = .ok (.iconst 0, 1) := by decide +kernel
theorem dX2_coverOf_8 : decode cX2_coverOf 8 = .ok (.istore_n 3, 1) := by decide +kernel
theorem dX2_coverOf_9 : decode cX2_coverOf 9 = .ok (.iconst 0, 1) := by decide +kernel
theorem dX2_coverOf_10 : decode cX2_coverOf 10 = .ok (.istore 4, 2) := by decide +kernel
theorem dX2_coverOf_12 : decode cX2_coverOf 12 = .ok (.iload 4, 2) := by decide +kernel
theorem dX2_coverOf_14 : decode cX2_coverOf 14 = .ok (.aload_n 0, 1) := by decide +kernel
theorem dX2_coverOf_15 : decode cX2_coverOf 15 = .ok (.getfield 28, 3) := by decide +kernel
theorem dX2_coverOf_18 : decode cX2_coverOf 18 = .ok (.if_icmp .ge 71, 3) := by decide +kernel
theorem dX2_coverOf_21 : decode cX2_coverOf 21 = .ok (.iconst 0, 1) := by decide +kernel
theorem dX2_coverOf_22 : decode cX2_coverOf 22 = .ok (.istore 5, 2) := by decide +kernel
theorem dX2_coverOf_24 : decode cX2_coverOf 24 = .ok (.iload 5, 2) := by decide +kernel
theorem dX2_coverOf_26 : decode cX2_coverOf 26 = .ok (.aload_n 0, 1) := by decide +kernel
theorem dX2_coverOf_27 : decode cX2_coverOf 27 = .ok (.getfield 22, 3) := by decide +kernel
theorem dX2_coverOf_30 : decode cX2_coverOf 30 = .ok (.if_icmp .ge 53, 3) := by decide +kernel
theorem dX2_coverOf_33 : decode cX2_coverOf 33 = .ok (.aload_n 0, 1) := by decide +kernel
theorem dX2_coverOf_34 : decode cX2_coverOf 34 = .ok (.iload 4, 2) := by decide +kernel
theorem dX2_coverOf_36 : decode cX2_coverOf 36 = .ok (.aload_n 0, 1) := by decide +kernel
theorem dX2_coverOf_37 : decode cX2_coverOf 37 = .ok (.iload 5, 2) := by decide +kernel
theorem dX2_coverOf_39 : decode cX2_coverOf 39 = .ok (.invokevirtual 88, 3) := by decide +kernel
theorem dX2_coverOf_42 : decode cX2_coverOf 42 = .ok (.invokevirtual 98, 3) := by decide +kernel
theorem dX2_coverOf_45 : decode cX2_coverOf 45 = .ok (.istore 6, 2) := by decide +kernel
theorem dX2_coverOf_47 : decode cX2_coverOf 47 = .ok (.aload_n 0, 1) := by decide +kernel
theorem dX2_coverOf_48 : decode cX2_coverOf 48 = .ok (.iload 4, 2) := by decide +kernel
theorem dX2_coverOf_50 : decode cX2_coverOf 50 = .ok (.aload_n 0, 1) := by decide +kernel
theorem dX2_coverOf_51 : decode cX2_coverOf 51 = .ok (.iload 5, 2) := by decide +kernel
theorem dX2_coverOf_53 : decode cX2_coverOf 53 = .ok (.invokevirtual 92, 3) := by decide +kernel
theorem dX2_coverOf_56 : decode cX2_coverOf 56 = .ok (.invokevirtual 98, 3) := by decide +kernel
theorem dX2_coverOf_59 : decode cX2_coverOf 59 = .ok (.istore 7, 2) := by decide +kernel
theorem dX2_coverOf_61 : decode cX2_coverOf 61 = .ok (.aload_n 0, 1) := by decide +kernel
theorem dX2_coverOf_62 : decode cX2_coverOf 62 = .ok (.iload 6, 2) := by decide +kernel
theorem dX2_coverOf_64 : decode cX2_coverOf 64 = .ok (.iload 7, 2) := by decide +kernel
theorem dX2_coverOf_66 : decode cX2_coverOf 66 = .ok (.iload_n 1, 1) := by decide +kernel
theorem dX2_coverOf_67 : decode cX2_coverOf 67 = .ok (.invokevirtual 101, 3) := by decide +kernel
theorem dX2_coverOf_70 : decode cX2_coverOf 70 = .ok (.iload_n 2, 1) := by decide +kernel
theorem dX2_coverOf_71 : decode cX2_coverOf 71 = .ok (.if_icmp .ne 6, 3) := by decide +kernel
theorem dX2_coverOf_74 : decode cX2_coverOf 74 = .ok (.iinc 3 1, 3) := by decide +kernel
theorem dX2_coverOf_77 : decode cX2_coverOf 77 = .ok (.iinc 5 1, 3) := by decide +kernel
theorem dX2_coverOf_80 : decode cX2_coverOf 80 = .ok (.goto (-56), 3) := by decide +kernel
theorem dX2_coverOf_83 : decode cX2_coverOf 83 = .ok (.iinc 4 1, 3) := by decide +kernel
theorem dX2_coverOf_86 : decode cX2_coverOf 86 = .ok (.goto (-74), 3) := by decide +kernel
theorem dX2_coverOf_89 : decode cX2_coverOf 89 = .ok (.iload_n 3, 1) := by decide +kernel
theorem dX2_coverOf_90 : decode cX2_coverOf 90 = .ok (.ireturn, 1) := by decide +kernel
theorem dX2_badDifference_0 : decode cX2_badDifference 0 = .ok (.iconst 0, 1) := by decide +kernel
theorem dX2_badDifference_1 : decode cX2_badDifference 1 = .ok (.istore_n 2, 1) := by decide +kernel
theorem dX2_badDifference_2 : decode cX2_badDifference 2 = .ok (.iconst 2, 1) := by decide +kernel
theorem dX2_badDifference_3 : decode cX2_badDifference 3 = .ok (.iload_n 2, 1) := by decide +kernel
theorem dX2_badDifference_4 : decode cX2_badDifference 4 = .ok (.imul, 1) := by decide +kernel
theorem dX2_badDifference_5 : decode cX2_badDifference 5 = .ok (.iload_n 1, 1) := by decide +kernel
theorem dX2_badDifference_6 : decode cX2_badDifference 6 = .ok (.if_icmp .gt 38, 3) := by decide +kernel
theorem dX2_badDifference_9 : decode cX2_badDifference 9 = .ok (.iload_n 2, 1) := by decide +kernel
theorem dX2_badDifference_10 : decode cX2_badDifference 10 = .ok (.ifCond .eq 10, 3) := by decide +kernel
theorem dX2_badDifference_13 : decode cX2_badDifference 13 = .ok (.iconst 2, 1) := by decide +kernel
theorem dX2_badDifference_14 : decode cX2_badDifference 14 = .ok (.iload_n 2, 1) := by decide +kernel
theorem dX2_badDifference_15 : decode cX2_badDifference 15 = .ok (.imul, 1) := by decide +kernel
theorem dX2_badDifference_16 : decode cX2_badDifference 16 = .ok (.iload_n 1, 1) := by decide +kernel
theorem dX2_badDifference_17 : decode cX2_badDifference 17 = .ok (.if_icmp .ne 7, 3) := by decide +kernel
theorem dX2_badDifference_20 : decode cX2_badDifference 20 = .ok (.iconst 0, 1) := by decide +kernel
theorem dX2_badDifference_21 : decode cX2_badDifference 21 = .ok (.goto 4, 3) := by decide +kernel
theorem dX2_badDifference_24 : decode cX2_badDifference 24 = .ok (.iconst 1, 1) := by decide +kernel
theorem dX2_badDifference_25 : decode cX2_badDifference 25 = .ok (.istore_n 3, 1) := by decide +kernel
theorem dX2_badDifference_26 : decode cX2_badDifference 26 = .ok (.aload_n 0, 1) := by decide +kernel
theorem dX2_badDifference_27 : decode cX2_badDifference 27 = .ok (.iload_n 1, 1) := by decide +kernel
theorem dX2_badDifference_28 : decode cX2_badDifference 28 = .ok (.iload_n 2, 1) := by decide +kernel
theorem dX2_badDifference_29 : decode cX2_badDifference 29 = .ok (.invokevirtual 105, 3) := by decide +kernel
theorem dX2_badDifference_32 : decode cX2_badDifference 32 = .ok (.iload_n 3, 1) := by decide +kernel
theorem dX2_badDifference_33 : decode cX2_badDifference 33 = .ok (.if_icmp .eq 5, 3) := by decide +kernel
theorem dX2_badDifference_36 : decode cX2_badDifference 36 = .ok (.iload_n 2, 1) := by decide +kernel
theorem dX2_badDifference_37 : decode cX2_badDifference 37 = .ok (.ireturn, 1) := by decide +kernel
theorem dX2_badDifference_38 : decode cX2_badDifference 38 = .ok (.iinc 2 1, 3) := by decide +kernel
theorem dX2_badDifference_41 : decode cX2_badDifference 41 = .ok (.goto (-39), 3) := by decide +kernel
theorem dX2_badDifference_44 : decode cX2_badDifference 44 = .ok (.iconst (-1), 1) := by decide +kernel
theorem dX2_badDifference_45 : decode cX2_badDifference 45 = .ok (.ireturn, 1) := by decide +kernel
theorem dX2_shiftedPart_0 : decode cX2_shiftedPart 0 = .ok (.aload_n 0, 1) := by decide +kernel
theorem dX2_shiftedPart_1 : decode cX2_shiftedPart 1 = .ok (.getfield 9, 3) := by decide +kernel
theorem dX2_shiftedPart_4 : decode cX2_shiftedPart 4 = .ok (.iconst 1, 1) := by decide +kernel
theorem dX2_shiftedPart_5 : decode cX2_shiftedPart 5 = .ok (.if_icmp .ge 5, 3) := by decide +kernel
theorem dX2_shiftedPart_8 : decode cX2_shiftedPart 8 = .ok (.lconst 0, 1) := by decide +kernel
theorem dX2_shiftedPart_9 : decode cX2_shiftedPart 9 = .ok (.lreturn, 1) := by decide +kernel
theorem dX2_shiftedPart_10 : decode cX2_shiftedPart 10 = .ok (.iconst 0, 1) := by decide +kernel
theorem dX2_shiftedPart_11 : decode cX2_shiftedPart 11 = .ok (.istore_n 3, 1) := by decide +kernel
theorem dX2_shiftedPart_12 : decode cX2_shiftedPart 12 = .ok (.iload_n 3, 1) := by decide +kernel
theorem dX2_shiftedPart_13 : decode cX2_shiftedPart 13 = .ok (.aload_n 0, 1) := by decide +kernel
theorem dX2_shiftedPart_14 : decode cX2_shiftedPart 14 = .ok (.getfield 39, 3) := by decide +kernel
theorem dX2_shiftedPart_17 : decode cX2_shiftedPart 17 = .ok (.arraylength, 1) := by decide +kernel
theorem dX2_shiftedPart_18 : decode cX2_shiftedPart 18 = .ok (.if_icmp .ge 30, 3) := by decide +kernel
theorem dX2_shiftedPart_21 : decode cX2_shiftedPart 21 = .ok (.aload_n 0, 1) := by decide +kernel
theorem dX2_shiftedPart_22 : decode cX2_shiftedPart 22 = .ok (.getfield 39, 3) := by decide +kernel
theorem dX2_shiftedPart_25 : decode cX2_shiftedPart 25 = .ok (.iload_n 3, 1) := by decide +kernel
theorem dX2_shiftedPart_26 : decode cX2_shiftedPart 26 = .ok (.aload_n 0, 1) := by decide +kernel
theorem dX2_shiftedPart_27 : decode cX2_shiftedPart 27 = .ok (.iload_n 1, 1) := by decide +kernel
theorem dX2_shiftedPart_28 : decode cX2_shiftedPart 28 = .ok (.iload_n 3, 1) := by decide +kernel
theorem dX2_shiftedPart_29 : decode cX2_shiftedPart 29 = .ok (.invokevirtual 98, 3) := by decide +kernel
theorem dX2_shiftedPart_32 : decode cX2_shiftedPart 32 = .ok (.iload_n 2, 1) := by decide +kernel
theorem dX2_shiftedPart_33 : decode cX2_shiftedPart 33 = .ok (.iadd, 1) := by decide +kernel
theorem dX2_shiftedPart_34 : decode cX2_shiftedPart 34 = .ok (.aload_n 0, 1) := by decide +kernel
theorem dX2_shiftedPart_35 : decode cX2_shiftedPart 35 = .ok (.getfield 9, 3) := by decide +kernel
theorem dX2_shiftedPart_38 : decode cX2_shiftedPart 38 = .ok (.invokestatic 95, 3) := by decide +kernel
theorem dX2_shiftedPart_41 : decode cX2_shiftedPart 41 = .ok (.iastore, 1) := by decide +kernel
theorem dX2_shiftedPart_42 : decode cX2_shiftedPart 42 = .ok (.iinc 3 1, 3) := by decide +kernel
theorem dX2_shiftedPart_45 : decode cX2_shiftedPart 45 = .ok (.goto (-33), 3) := by decide +kernel
theorem dX2_shiftedPart_48 : decode cX2_shiftedPart 48 = .ok (.aload_n 0, 1) := by decide +kernel
theorem dX2_shiftedPart_49 : decode cX2_shiftedPart 49 = .ok (.aload_n 0, 1) := by decide +kernel
theorem dX2_shiftedPart_50 : decode cX2_shiftedPart 50 = .ok (.getfield 39, 3) := by decide +kernel
theorem dX2_shiftedPart_53 : decode cX2_shiftedPart 53 = .ok (.iconst 0, 1) := by decide +kernel
theorem dX2_shiftedPart_54 : decode cX2_shiftedPart 54 = .ok (.aload_n 0, 1) := by decide +kernel
theorem dX2_shiftedPart_55 : decode cX2_shiftedPart 55 = .ok (.invokevirtual 80, 3) := by decide +kernel
theorem dX2_shiftedPart_58 : decode cX2_shiftedPart 58 = .ok (.invokevirtual 108, 3) := by decide +kernel
theorem dX2_shiftedPart_61 : decode cX2_shiftedPart 61 = .ok (.lreturn, 1) := by decide +kernel
theorem dX2_canDevelop_0 : decode cX2_canDevelop 0 = .ok (.aload_n 0, 1) := by decide +kernel
theorem dX2_canDevelop_1 : decode cX2_canDevelop 1 = .ok (.getfield 9, 3) := by decide +kernel
theorem dX2_canDevelop_4 : decode cX2_canDevelop 4 = .ok (.iconst 3, 1) := by decide +kernel
theorem dX2_canDevelop_5 : decode cX2_canDevelop 5 = .ok (.if_icmp .lt 15, 3) := by decide +kernel
theorem dX2_canDevelop_8 : decode cX2_canDevelop 8 = .ok (.aload_n 0, 1) := by decide +kernel
theorem dX2_canDevelop_9 : decode cX2_canDevelop 9 = .ok (.aload_n 0, 1) := by decide +kernel
theorem dX2_canDevelop_10 : decode cX2_canDevelop 10 = .ok (.getfield 9, 3) := by decide +kernel
theorem dX2_canDevelop_13 : decode cX2_canDevelop 13 = .ok (.invokevirtual 112, 3) := by decide +kernel
theorem dX2_canDevelop_16 : decode cX2_canDevelop 16 = .ok (.iconst (-1), 1) := by decide +kernel
theorem dX2_canDevelop_17 : decode cX2_canDevelop 17 = .ok (.if_icmp .eq 5, 3) := by decide +kernel
theorem dX2_canDevelop_20 : decode cX2_canDevelop 20 = .ok (.iconst 0, 1) := by decide +kernel
theorem dX2_canDevelop_21 : decode cX2_canDevelop 21 = .ok (.ireturn, 1) := by decide +kernel
theorem dX2_canDevelop_22 : decode cX2_canDevelop 22 = .ok (.iconst 0, 1) := by decide +kernel
theorem dX2_canDevelop_23 : decode cX2_canDevelop 23 = .ok (.istore_n 1, 1) := by decide +kernel
theorem dX2_canDevelop_24 : decode cX2_canDevelop 24 = .ok (.iload_n 1, 1) := by decide +kernel
theorem dX2_canDevelop_25 : decode cX2_canDevelop 25 = .ok (.aload_n 0, 1) := by decide +kernel
theorem dX2_canDevelop_26 : decode cX2_canDevelop 26 = .ok (.getfield 28, 3) := by decide +kernel
theorem dX2_canDevelop_29 : decode cX2_canDevelop 29 = .ok (.if_icmp .ge 22, 3) := by decide +kernel
theorem dX2_canDevelop_32 : decode cX2_canDevelop 32 = .ok (.aload_n 0, 1) := by decide +kernel
theorem dX2_canDevelop_33 : decode cX2_canDevelop 33 = .ok (.iload_n 1, 1) := by decide +kernel
theorem dX2_canDevelop_34 : decode cX2_canDevelop 34 = .ok (.iconst 0, 1) := by decide +kernel
theorem dX2_canDevelop_35 : decode cX2_canDevelop 35 = .ok (.invokevirtual 115, 3) := by decide +kernel
theorem dX2_canDevelop_38 : decode cX2_canDevelop 38 = .ok (.lconst 0, 1) := by decide +kernel
theorem dX2_canDevelop_39 : decode cX2_canDevelop 39 = .ok (.lcmp, 1) := by decide +kernel
theorem dX2_canDevelop_40 : decode cX2_canDevelop 40 = .ok (.ifCond .ne 5, 3) := by decide +kernel
theorem dX2_canDevelop_43 : decode cX2_canDevelop 43 = .ok (.iconst 0, 1) := by decide +kernel
theorem dX2_canDevelop_44 : decode cX2_canDevelop 44 = .ok (.ireturn, 1) := by decide +kernel
theorem dX2_canDevelop_45 : decode cX2_canDevelop 45 = .ok (.iinc 1 1, 3) := by decide +kernel
theorem dX2_canDevelop_48 : decode cX2_canDevelop 48 = .ok (.goto (-24), 3) := by decide +kernel
theorem dX2_canDevelop_51 : decode cX2_canDevelop 51 = .ok (.iconst 1, 1) := by decide +kernel
theorem dX2_canDevelop_52 : decode cX2_canDevelop 52 = .ok (.ireturn, 1) := by decide +kernel
theorem dX2_developBases_0 : decode cX2_developBases 0 = .ok (.aload_n 0, 1) := by decide +kernel
theorem dX2_developBases_1 : decode cX2_developBases 1 = .ok (.iconst 0, 1) := by decide +kernel
theorem dX2_developBases_2 : decode cX2_developBases 2 = .ok (.putfield 25, 3) := by decide +kernel
theorem dX2_developBases_5 : decode cX2_developBases 5 = .ok (.aload_n 0, 1) := by decide +kernel
theorem dX2_developBases_6 : decode cX2_developBases 6 = .ok (.lconst 0, 1) := by decide +kernel
theorem dX2_developBases_7 : decode cX2_developBases 7 = .ok (.putfield 15, 3) := by decide +kernel
theorem dX2_developBases_10 : decode cX2_developBases 10 = .ok (.iconst 0, 1) := by decide +kernel
theorem dX2_developBases_11 : decode cX2_developBases 11 = .ok (.istore_n 1, 1) := by decide +kernel
theorem dX2_developBases_12 : decode cX2_developBases 12 = .ok (.iload_n 1, 1) := by decide +kernel
theorem dX2_developBases_13 : decode cX2_developBases 13 = .ok (.aload_n 0, 1) := by decide +kernel
theorem dX2_developBases_14 : decode cX2_developBases 14 = .ok (.getfield 28, 3) := by decide +kernel
theorem dX2_developBases_17 : decode cX2_developBases 17 = .ok (.if_icmp .ge 47, 3) := by decide +kernel
theorem dX2_developBases_20 : decode cX2_developBases 20 = .ok (.iconst 0, 1) := by decide +kernel
theorem dX2_developBases_21 : decode cX2_developBases 21 = .ok (.istore_n 2, 1) := by decide +kernel
theorem dX2_developBases_22 : decode cX2_developBases 22 = .ok (.iload_n 2, 1) := by decide +kernel
theorem dX2_developBases_23 : decode cX2_developBases 23 = .ok (.aload_n 0, 1) := by decide +kernel
theorem dX2_developBases_24 : decode cX2_developBases 24 = .ok (.getfield 9, 3) := by decide +kernel
theorem dX2_developBases_27 : decode cX2_developBases 27 = .ok (.if_icmp .ge 31, 3) := by decide +kernel
theorem dX2_developBases_30 : decode cX2_developBases 30 = .ok (.aload_n 0, 1) := by decide +kernel
theorem dX2_developBases_31 : decode cX2_developBases 31 = .ok (.iload_n 1, 1) := by decide +kernel
theorem dX2_developBases_32 : decode cX2_developBases 32 = .ok (.iload_n 2, 1) := by decide +kernel
theorem dX2_developBases_33 : decode cX2_developBases 33 = .ok (.invokevirtual 115, 3) := by decide +kernel
theorem dX2_developBases_36 : decode cX2_developBases 36 = .ok (.lstore_n 3, 1) := by decide +kernel
theorem dX2_developBases_37 : decode cX2_developBases 37 = .ok (.aload_n 0, 1) := by decide +kernel
theorem dX2_developBases_38 : decode cX2_developBases 38 = .ok (.dup, 1) := by decide +kernel
theorem dX2_developBases_39 : decode cX2_developBases 39 = .ok (.getfield 15, 3) := by decide +kernel
theorem dX2_developBases_42 : decode cX2_developBases 42 = .ok (.lload_n 3, 1) := by decide +kernel
theorem dX2_developBases_43 : decode cX2_developBases 43 = .ok (.lor, 1) := by decide +kernel
theorem dX2_developBases_44 : decode cX2_developBases 44 = .ok (.putfield 15, 3) := by decide +kernel
theorem dX2_developBases_47 : decode cX2_developBases 47 = .ok (.aload_n 0, 1) := by decide +kernel
theorem dX2_developBases_48 : decode cX2_developBases 48 = .ok (.lload_n 3, 1) := by decide +kernel
theorem dX2_developBases_49 : decode cX2_developBases 49 = .ok (.invokevirtual 119, 3) := by decide +kernel
theorem dX2_developBases_52 : decode cX2_developBases 52 = .ok (.iinc 2 1, 3) := by decide +kernel
theorem dX2_developBases_55 : decode cX2_developBases 55 = .ok (.goto (-33), 3) := by decide +kernel
theorem dX2_developBases_58 : decode cX2_developBases 58 = .ok (.iinc 1 1, 3) := by decide +kernel
theorem dX2_developBases_61 : decode cX2_developBases 61 = .ok (.goto (-49), 3) := by decide +kernel
theorem dX2_developBases_64 : decode cX2_developBases 64 = .ok (.return_, 1) := by decide +kernel
