theorem dX0_init_0 : decode cX0_init 0 = .ok (.aload_n 0, 1) := by decide +kernel
theorem dX0_init_1 : decode cX0_init 1 = .ok (.invokespecial 1, 3) := by decide +kernel
theorem dX0_init_4 : decode cX0_init 4 = .ok (.aload_n 0, 1) := by decide +kernel
theorem dX0_init_5 : decode cX0_init 5 = .ok (.aload_n 1, 1) := by decide +kernel
theorem dX0_init_6 : decode cX0_init 6 = .ok (.putfield 7, 3) := by decide +kernel
theorem dX0_init_9 : decode cX0_init 9 = .ok (.aload_n 0, 1) := by decide +kernel
theorem dX0_init_10 : decode cX0_init 10 = .ok (.iload_n 2, 1) := by decide +kernel
theorem dX0_init_11 : decode cX0_init 11 = .ok (.putfield 13, 3) := by decide +kernel
theorem dX0_init_14 : decode cX0_init 14 = .ok (.aload_n 0, 1) := by decide +kernel
theorem dX0_init_15 : decode cX0_init 15 = .ok (.iload_n 3, 1) := by decide +kernel
theorem dX0_init_16 : decode cX0_init 16 = .ok (.putfield 17, 3) := by decide +kernel
theorem dX0_init_19 : decode cX0_init 19 = .ok (.aload_n 0, 1) := by decide +kernel
theorem dX0_init_20 : decode cX0_init 20 = .ok (.iconst 1, 1) := by decide +kernel
theorem dX0_init_21 : decode cX0_init 21 = .ok (.putfield 20, 3) := by decide +kernel
theorem dX0_init_24 : decode cX0_init 24 = .ok (.return_, 1) := by decide +kernel
theorem dX0_isOpenOn_0 : decode cX0_isOpenOn 0 = .ok (.aload_n 0, 1) := by decide +kernel
theorem dX0_isOpenOn_1 : decode cX0_isOpenOn 1 = .ok (.getfield 20, 3) := by decide +kernel
theorem dX0_isOpenOn_4 : decode cX0_isOpenOn 4 = .ok (.ifCond .eq 15, 3) := by decide +kernel
theorem dX0_isOpenOn_7 : decode cX0_isOpenOn 7 = .ok (.aload_n 0, 1) := by decide +kernel
theorem dX0_isOpenOn_8 : decode cX0_isOpenOn 8 = .ok (.getfield 7, 3) := by decide +kernel
theorem dX0_isOpenOn_11 : decode cX0_isOpenOn 11 = .ok (.aload_n 1, 1) := by decide +kernel
theorem dX0_isOpenOn_12 : decode cX0_isOpenOn 12 = .ok (.if_acmp .ne 7, 3) := by decide +kernel
theorem dX0_isOpenOn_15 : decode cX0_isOpenOn 15 = .ok (.iconst 1, 1) := by decide +kernel
theorem dX0_isOpenOn_16 : decode cX0_isOpenOn 16 = .ok (.goto 4, 3) := by decide +kernel
theorem dX0_isOpenOn_19 : decode cX0_isOpenOn 19 = .ok (.iconst 0, 1) := by decide +kernel
theorem dX0_isOpenOn_20 : decode cX0_isOpenOn 20 = .ok (.ireturn, 1) := by decide +kernel
theorem dX0_freezes_0 : decode cX0_freezes 0 = .ok (.iload_n 2, 1) := by decide +kernel
theorem dX0_freezes_1 : decode cX0_freezes 1 = .ok (.ifCond .eq 12, 3) := by decide +kernel
theorem dX0_freezes_4 : decode cX0_freezes 4 = .ok (.aload_n 0, 1) := by decide +kernel
theorem dX0_freezes_5 : decode cX0_freezes 5 = .ok (.getfield 13, 3) := by decide +kernel
theorem dX0_freezes_8 : decode cX0_freezes 8 = .ok (.iconst 1, 1) := by decide +kernel
theorem dX0_freezes_9 : decode cX0_freezes 9 = .ok (.iadd, 1) := by decide +kernel
theorem dX0_freezes_10 : decode cX0_freezes 10 = .ok (.goto 7, 3) := by decide +kernel
theorem dX0_freezes_13 : decode cX0_freezes 13 = .ok (.aload_n 0, 1) := by decide +kernel
theorem dX0_freezes_14 : decode cX0_freezes 14 = .ok (.getfield 13, 3) := by decide +kernel
theorem dX0_freezes_17 : decode cX0_freezes 17 = .ok (.istore_n 3, 1) := by decide +kernel
theorem dX0_freezes_18 : decode cX0_freezes 18 = .ok (.iload_n 1, 1) := by decide +kernel
theorem dX0_freezes_19 : decode cX0_freezes 19 = .ok (.iload_n 3, 1) := by decide +kernel
theorem dX0_freezes_20 : decode cX0_freezes 20 = .ok (.if_icmp .lt 15, 3) := by decide +kernel
theorem dX0_freezes_23 : decode cX0_freezes 23 = .ok (.iload_n 1, 1) := by decide +kernel
theorem dX0_freezes_24 : decode cX0_freezes 24 = .ok (.aload_n 0, 1) := by decide +kernel
theorem dX0_freezes_25 : decode cX0_freezes 25 = .ok (.getfield 17, 3) := by decide +kernel
theorem dX0_freezes_28 : decode cX0_freezes 28 = .ok (.if_icmp .ge 7, 3) := by decide +kernel
theorem dX0_freezes_31 : decode cX0_freezes 31 = .ok (.iconst 1, 1) := by decide +kernel
theorem dX0_freezes_32 : decode cX0_freezes 32 = .ok (.goto 4, 3) := by decide +kernel
theorem dX0_freezes_35 : decode cX0_freezes 35 = .ok (.iconst 0, 1) := by decide +kernel
theorem dX0_freezes_36 : decode cX0_freezes 36 = .ok (.ireturn, 1) := by decide +kernel
theorem dX0_moveBy_0 : decode cX0_moveBy 0 = .ok (.aload_n 0, 1) := by decide +kernel
theorem dX0_moveBy_1 : decode cX0_moveBy 1 = .ok (.dup, 1) := by decide +kernel
theorem dX0_moveBy_2 : decode cX0_moveBy 2 = .ok (.getfield 13, 3) := by decide +kernel
theorem dX0_moveBy_5 : decode cX0_moveBy 5 = .ok (.iload_n 1, 1) := by decide +kernel
theorem dX0_moveBy_6 : decode cX0_moveBy 6 = .ok (.iadd, 1) := by decide +kernel
theorem dX0_moveBy_7 : decode cX0_moveBy 7 = .ok (.putfield 13, 3) := by decide +kernel
theorem dX0_moveBy_10 : decode cX0_moveBy 10 = .ok (.aload_n 0, 1) := by decide +kernel
theorem dX0_moveBy_11 : decode cX0_moveBy 11 = .ok (.dup, 1) := by decide +kernel
theorem dX0_moveBy_12 : decode cX0_moveBy 12 = .ok (.getfield 17, 3) := by decide +kernel
theorem dX0_moveBy_15 : decode cX0_moveBy 15 = .ok (.iload_n 1, 1) := by decide +kernel
theorem dX0_moveBy_16 : decode cX0_moveBy 16 = .ok (.iadd, 1) := by decide +kernel
theorem dX0_moveBy_17 : decode cX0_moveBy 17 = .ok (.putfield 17, 3) := by decide +kernel
theorem dX0_moveBy_20 : decode cX0_moveBy 20 = .ok (.return_, 1) := by decide +kernel
theorem dX1_init_0 : decode cX1_init 0 = .ok (.aload_n 0, 1) := by decide +kernel
theorem dX1_init_1 : decode cX1_init 1 = .ok (.invokespecial 3, 3) := by decide +kernel
theorem dX1_init_4 : decode cX1_init 4 = .ok (.aload_n 0, 1) := by decide +kernel
theorem dX1_init_5 : decode cX1_init 5 = .ok (.iload_n 1, 1) := by decide +kernel
theorem dX1_init_6 : decode cX1_init 6 = .ok (.putfield 9, 3) := by decide +kernel
theorem dX1_init_9 : decode cX1_init 9 = .ok (.aload_n 0, 1) := by decide +kernel
theorem dX1_init_10 : decode cX1_init 10 = .ok (.new 15, 3) := by decide +kernel
theorem dX1_init_13 : decode cX1_init 13 = .ok (.dup, 1) := by decide +kernel
theorem dX1_init_14 : decode cX1_init 14 = .ok (.invokespecial 17, 3) := by decide +kernel
theorem dX1_init_17 : decode cX1_init 17 = .ok (.putfield 18, 3) := by decide +kernel
theorem dX1_init_20 : decode cX1_init 20 = .ok (.aload_n 0, 1) := by decide +kernel
theorem dX1_init_21 : decode cX1_init 21 = .ok (.new 15, 3) := by decide +kernel
theorem dX1_init_24 : decode cX1_init 24 = .ok (.dup, 1) := by decide +kernel
theorem dX1_init_25 : decode cX1_init 25 = .ok (.invokespecial 17, 3) := by decide +kernel
theorem dX1_init_28 : decode cX1_init 28 = .ok (.putfield 22, 3) := by decide +kernel
theorem dX1_init_31 : decode cX1_init 31 = .ok (.aload_n 0, 1) := by decide +kernel
theorem dX1_init_32 : decode cX1_init 32 = .ok (.iconst (-1), 1) := by decide +kernel
theorem dX1_init_33 : decode cX1_init 33 = .ok (.putfield 25, 3) := by decide +kernel
theorem dX1_init_36 : decode cX1_init 36 = .ok (.aload_n 0, 1) := by decide +kernel
theorem dX1_init_37 : decode cX1_init 37 = .ok (.sipush 999, 3) := by decide +kernel
theorem dX1_init_40 : decode cX1_init 40 = .ok (.putfield 28, 3) := by decide +kernel
theorem dX1_init_43 : decode cX1_init 43 = .ok (.return_, 1) := by decide +kernel
theorem dX1_hasProof_0 : decode cX1_hasProof 0 = .ok (.aload_n 0, 1) := by decide +kernel
theorem dX1_hasProof_1 : decode cX1_hasProof 1 = .ok (.getfield 25, 3) := by decide +kernel
theorem dX1_hasProof_4 : decode cX1_hasProof 4 = .ok (.iconst (-1), 1) := by decide +kernel
theorem dX1_hasProof_5 : decode cX1_hasProof 5 = .ok (.if_icmp .eq 7, 3) := by decide +kernel
theorem dX1_hasProof_8 : decode cX1_hasProof 8 = .ok (.iconst 1, 1) := by decide +kernel
theorem dX1_hasProof_9 : decode cX1_hasProof 9 = .ok (.goto 4, 3) := by decide +kernel
theorem dX1_hasProof_12 : decode cX1_hasProof 12 = .ok (.iconst 0, 1) := by decide +kernel
theorem dX1_hasProof_13 : decode cX1_hasProof 13 = .ok (.ireturn, 1) := by decide +kernel
theorem dX1_makeProof_0 : decode cX1_makeProof 0 = .ok (.aload_n 0, 1) := by decide +kernel
theorem dX1_makeProof_1 : decode cX1_makeProof 1 = .ok (.getfield 22, 3) := by decide +kernel
theorem dX1_makeProof_4 : decode cX1_makeProof 4 = .ok (.aload_n 0, 1) := by decide +kernel
theorem dX1_makeProof_5 : decode cX1_makeProof 5 = .ok (.getfield 18, 3) := by decide +kernel
theorem dX1_makeProof_8 : decode cX1_makeProof 8 = .ok (.invokevirtual 31, 3) := by decide +kernel
theorem dX1_makeProof_11 : decode cX1_makeProof 11 = .ok (.aload_n 0, 1) := by decide +kernel
theorem dX1_makeProof_12 : decode cX1_makeProof 12 = .ok (.aload_n 0, 1) := by decide +kernel
theorem dX1_makeProof_13 : decode cX1_makeProof 13 = .ok (.getfield 35, 3) := by decide +kernel
theorem dX1_makeProof_16 : decode cX1_makeProof 16 = .ok (.putfield 25, 3) := by decide +kernel
theorem dX1_makeProof_19 : decode cX1_makeProof 19 = .ok (.aload_n 0, 1) := by decide +kernel
theorem dX1_makeProof_20 : decode cX1_makeProof 20 = .ok (.aload_n 0, 1) := by decide +kernel
theorem dX1_makeProof_21 : decode cX1_makeProof 21 = .ok (.getfield 22, 3) := by decide +kernel
theorem dX1_makeProof_24 : decode cX1_makeProof 24 = .ok (.getfield 38, 3) := by decide +kernel
theorem dX1_makeProof_27 : decode cX1_makeProof 27 = .ok (.invokestatic 41, 3) := by decide +kernel
theorem dX1_makeProof_30 : decode cX1_makeProof 30 = .ok (.putfield 47, 3) := by decide +kernel
theorem dX1_makeProof_33 : decode cX1_makeProof 33 = .ok (.return_, 1) := by decide +kernel
theorem dX1_codeOnSheet_0 : decode cX1_codeOnSheet 0 = .ok (.aload_n 0, 1) := by decide +kernel
theorem dX1_codeOnSheet_1 : decode cX1_codeOnSheet 1 = .ok (.getfield 47, 3) := by decide +kernel
theorem dX1_codeOnSheet_4 : decode cX1_codeOnSheet 4 = .ok (.iload_n 1, 1) := by decide +kernel
theorem dX1_codeOnSheet_5 : decode cX1_codeOnSheet 5 = .ok (.iload_n 2, 1) := by decide +kernel
theorem dX1_codeOnSheet_6 : decode cX1_codeOnSheet 6 = .ok (.bipush 8, 2) := by decide +kernel
theorem dX1_codeOnSheet_8 : decode cX1_codeOnSheet 8 = .ok (.idiv, 1) := by decide +kernel
theorem dX1_codeOnSheet_9 : decode cX1_codeOnSheet 9 = .ok (.invokestatic 50, 3) := by decide +kernel
theorem dX1_codeOnSheet_12 : decode cX1_codeOnSheet 12 = .ok (.istore_n 3, 1) := by decide +kernel
theorem dX1_codeOnSheet_13 : decode cX1_codeOnSheet 13 = .ok (.aload_n 0, 1) := by decide +kernel
theorem dX1_codeOnSheet_14 : decode cX1_codeOnSheet 14 = .ok (.getfield 22, 3) := by decide +kernel
theorem dX1_codeOnSheet_17 : decode cX1_codeOnSheet 17 = .ok (.bipush 8, 2) := by decide +kernel
theorem dX1_codeOnSheet_19 : decode cX1_codeOnSheet 19 = .ok (.iload_n 3, 1) := by decide +kernel
theorem dX1_codeOnSheet_20 : decode cX1_codeOnSheet 20 = .ok (.imul, 1) := by decide +kernel
theorem dX1_codeOnSheet_21 : decode cX1_codeOnSheet 21 = .ok (.iload_n 2, 1) := by decide +kernel
theorem dX1_codeOnSheet_22 : decode cX1_codeOnSheet 22 = .ok (.bipush 8, 2) := by decide +kernel
theorem dX1_codeOnSheet_24 : decode cX1_codeOnSheet 24 = .ok (.irem, 1) := by decide +kernel
theorem dX1_codeOnSheet_25 : decode cX1_codeOnSheet 25 = .ok (.iadd, 1) := by decide +kernel
theorem dX1_codeOnSheet_26 : decode cX1_codeOnSheet 26 = .ok (.invokevirtual 54, 3) := by decide +kernel
theorem dX1_codeOnSheet_29 : decode cX1_codeOnSheet 29 = .ok (.ireturn, 1) := by decide +kernel
theorem dX2_sheetCount_0 : decode cX2_sheetCount 0 = .ok (.iload_n 0, 1) := by decide +kernel
theorem dX2_sheetCount_1 : decode cX2_sheetCount 1 = .ok (.bipush 8, 2) := by decide +kernel
theorem dX2_sheetCount_3 : decode cX2_sheetCount 3 = .ok (.iadd, 1) := by decide +kernel
theorem dX2_sheetCount_4 : decode cX2_sheetCount 4 = .ok (.iconst 1, 1) := by decide +kernel
theorem dX2_sheetCount_5 : decode cX2_sheetCount 5 = .ok (.isub, 1) := by decide +kernel
theorem dX2_sheetCount_6 : decode cX2_sheetCount 6 = .ok (.bipush 8, 2) := by decide +kernel
theorem dX2_sheetCount_8 : decode cX2_sheetCount 8 = .ok (.idiv, 1) := by decide +kernel
theorem dX2_sheetCount_9 : decode cX2_sheetCount 9 = .ok (.istore_n 1, 1) := by decide +kernel
theorem dX2_sheetCount_10 : decode cX2_sheetCount 10 = .ok (.iload_n 1, 1) := by decide +kernel
theorem dX2_sheetCount_11 : decode cX2_sheetCount 11 = .ok (.iconst 4, 1) := by decide +kernel
theorem dX2_sheetCount_12 : decode cX2_sheetCount 12 = .ok (.iadd, 1) := by decide +kernel
theorem dX2_sheetCount_13 : decode cX2_sheetCount 13 = .ok (.iconst 1, 1) := by decide +kernel
theorem dX2_sheetCount_14 : decode cX2_sheetCount 14 = .ok (.isub, 1) := by decide +kernel
theorem dX2_sheetCount_15 : decode cX2_sheetCount 15 = .ok (.iconst 4, 1) := by decide +kernel
theorem dX2_sheetCount_16 : decode cX2_sheetCount 16 = .ok (.idiv, 1) := by decide +kernel
theorem dX2_sheetCount_17 : decode cX2_sheetCount 17 = .ok (.ireturn, 1) := by decide +kernel
theorem dX2_pageAt_0 : decode cX2_pageAt 0 = .ok (.iconst 4, 1) := by decide +kernel
theorem dX2_pageAt_1 : decode cX2_pageAt 1 = .ok (.iload_n 0, 1) := by decide +kernel
theorem dX2_pageAt_2 : decode cX2_pageAt 2 = .ok (.imul, 1) := by decide +kernel
theorem dX2_pageAt_3 : decode cX2_pageAt 3 = .ok (.istore_n 3, 1) := by decide +kernel
theorem dX2_pageAt_4 : decode cX2_pageAt 4 = .ok (.iload_n 2, 1) := by decide +kernel
theorem dX2_pageAt_5 : decode cX2_pageAt 5 = .ok (.tableswitch 45 0 2 #[27, 35, 39], 27) := by decide +kernel
theorem dX2_pageAt_32 : decode cX2_pageAt 32 = .ok (.iload_n 3, 1) := by decide +kernel
theorem dX2_pageAt_33 : decode cX2_pageAt 33 = .ok (.iconst 1, 1) := by decide +kernel
theorem dX2_pageAt_34 : decode cX2_pageAt 34 = .ok (.isub, 1) := by decide +kernel
theorem dX2_pageAt_35 : decode cX2_pageAt 35 = .ok (.iconst 2, 1) := by decide +kernel
theorem dX2_pageAt_36 : decode cX2_pageAt 36 = .ok (.iload_n 1, 1) := by decide +kernel
theorem dX2_pageAt_37 : decode cX2_pageAt 37 = .ok (.imul, 1) := by decide +kernel
theorem dX2_pageAt_38 : decode cX2_pageAt 38 = .ok (.isub, 1) := by decide +kernel
theorem dX2_pageAt_39 : decode cX2_pageAt 39 = .ok (.ireturn, 1) := by decide +kernel
theorem dX2_pageAt_40 : decode cX2_pageAt 40 = .ok (.iconst 2, 1) := by decide +kernel
theorem dX2_pageAt_41 : decode cX2_pageAt 41 = .ok (.iload_n 1, 1) := by decide +kernel
theorem dX2_pageAt_42 : decode cX2_pageAt 42 = .ok (.imul, 1) := by decide +kernel
theorem dX2_pageAt_43 : decode cX2_pageAt 43 = .ok (.ireturn, 1) := by decide +kernel
theorem dX2_pageAt_44 : decode cX2_pageAt 44 = .ok (.iconst 2, 1) := by decide +kernel
theorem dX2_pageAt_45 : decode cX2_pageAt 45 = .ok (.iload_n 1, 1) := by decide +kernel
theorem dX2_pageAt_46 : decode cX2_pageAt 46 = .ok (.imul, 1) := by decide +kernel
theorem dX2_pageAt_47 : decode cX2_pageAt 47 = .ok (.iconst 1, 1) := by decide +kernel
theorem dX2_pageAt_48 : decode cX2_pageAt 48 = .ok (.iadd, 1) := by decide +kernel
theorem dX2_pageAt_49 : decode cX2_pageAt 49 = .ok (.ireturn, 1) := by decide +kernel
theorem dX2_pageAt_50 : decode cX2_pageAt 50 = .ok (.iload_n 3, 1) := by decide +kernel
theorem dX2_pageAt_51 : decode cX2_pageAt 51 = .ok (.iconst 2, 1) := by decide +kernel
theorem dX2_pageAt_52 : decode cX2_pageAt 52 = .ok (.isub, 1) := by decide +kernel
theorem dX2_pageAt_53 : decode cX2_pageAt 53 = .ok (.iconst 2, 1) := by decide +kernel
theorem dX2_pageAt_54 : decode cX2_pageAt 54 = .ok (.iload_n 1, 1) := by decide +kernel
theorem dX2_pageAt_55 : decode cX2_pageAt 55 = .ok (.imul, 1) := by decide +kernel
theorem dX2_pageAt_56 : decode cX2_pageAt 56 = .ok (.isub, 1) := by decide +kernel
theorem dX2_pageAt_57 : decode cX2_pageAt 57 = .ok (.ireturn, 1) := by decide +kernel
theorem dX2_greatestPage_0 : decode cX2_greatestPage 0 = .ok (.iconst 0, 1) := by decide +kernel
theorem dX2_greatestPage_1 : decode cX2_greatestPage 1 = .ok (.istore_n 2, 1) := by decide +kernel
theorem dX2_greatestPage_2 : decode cX2_greatestPage 2 = .ok (.iconst 0, 1) := by decide +kernel
theorem dX2_greatestPage_3 : decode cX2_greatestPage 3 = .ok (.istore_n 3, 1) := by decide +kernel
theorem dX2_greatestPage_4 : decode cX2_greatestPage 4 = .ok (.iload_n 3, 1) := by decide +kernel
theorem dX2_greatestPage_5 : decode cX2_greatestPage 5 = .ok (.iconst 4, 1) := by decide +kernel
theorem dX2_greatestPage_6 : decode cX2_greatestPage 6 = .ok (.if_icmp .ge 20, 3) := by decide +kernel
theorem dX2_greatestPage_9 : decode cX2_greatestPage 9 = .ok (.iload_n 2, 1) := by decide +kernel
theorem dX2_greatestPage_10 : decode cX2_greatestPage 10 = .ok (.iload_n 0, 1) := by decide +kernel
theorem dX2_greatestPage_11 : decode cX2_greatestPage 11 = .ok (.iload_n 1, 1) := by decide +kernel
theorem dX2_greatestPage_12 : decode cX2_greatestPage 12 = .ok (.iload_n 3, 1) := by decide +kernel
theorem dX2_greatestPage_13 : decode cX2_greatestPage 13 = .ok (.invokestatic 9, 3) := by decide +kernel
theorem dX2_greatestPage_16 : decode cX2_greatestPage 16 = .ok (.invokestatic 15, 3) := by decide +kernel
theorem dX2_greatestPage_19 : decode cX2_greatestPage 19 = .ok (.istore_n 2, 1) := by decide +kernel
theorem dX2_greatestPage_20 : decode cX2_greatestPage 20 = .ok (.iinc 3 1, 3) := by decide +kernel
theorem dX2_greatestPage_23 : decode cX2_greatestPage 23 = .ok (.goto (-19), 3) := by decide +kernel
theorem dX2_greatestPage_26 : decode cX2_greatestPage 26 = .ok (.iload_n 2, 1) := by decide +kernel
theorem dX2_greatestPage_27 : decode cX2_greatestPage 27 = .ok (.ireturn, 1) := by decide +kernel
theorem dX3_init_0 : decode cX3_init 0 = .ok (.aload_n 0, 1) := by decide +kernel
theorem dX3_init_1 : decode cX3_init 1 = .ok (.invokespecial 3, 3) := by decide +kernel
theorem dX3_init_4 : decode cX3_init 4 = .ok (.aload_n 0, 1) := by decide +kernel
theorem dX3_init_5 : decode cX3_init 5 = .ok (.sipush 512, 3) := by decide +kernel
theorem dX3_init_8 : decode cX3_init 8 = .ok (.newarray .int, 2) := by decide +kernel
theorem dX3_init_10 : decode cX3_init 10 = .ok (.putfield 9, 3) := by decide +kernel
theorem dX3_init_13 : decode cX3_init 13 = .ok (.aload_n 0, 1) := by decide +kernel
theorem dX3_init_14 : decode cX3_init 14 = .ok (.sipush 512, 3) := by decide +kernel
theorem dX3_init_17 : decode cX3_init 17 = .ok (.newarray .int, 2) := by decide +kernel
theorem dX3_init_19 : decode cX3_init 19 = .ok (.putfield 15, 3) := by decide +kernel
theorem dX3_init_22 : decode cX3_init 22 = .ok (.aload_n 0, 1) := by decide +kernel
theorem dX3_init_23 : decode cX3_init 23 = .ok (.sipush 512, 3) := by decide +kernel
theorem dX3_init_26 : decode cX3_init 26 = .ok (.newarray .int, 2) := by decide +kernel
theorem dX3_init_28 : decode cX3_init 28 = .ok (.putfield 18, 3) := by decide +kernel
theorem dX3_init_31 : decode cX3_init 31 = .ok (.aload_n 0, 1) := by decide +kernel
theorem dX3_init_32 : decode cX3_init 32 = .ok (.sipush 512, 3) := by decide +kernel
theorem dX3_init_35 : decode cX3_init 35 = .ok (.newarray .int, 2) := by decide +kernel
theorem dX3_init_37 : decode cX3_init 37 = .ok (.putfield 21, 3) := by decide +kernel
theorem dX3_init_40 : decode cX3_init 40 = .ok (.return_, 1) := by decide +kernel
theorem dX3_addInsertion_0 : decode cX3_addInsertion 0 = .ok (.aload_n 0, 1) := by decide +kernel
theorem dX3_addInsertion_1 : decode cX3_addInsertion 1 = .ok (.iconst 0, 1) := by decide +kernel
theorem dX3_addInsertion_2 : decode cX3_addInsertion 2 = .ok (.iload_n 1, 1) := by decide +kernel
theorem dX3_addInsertion_3 : decode cX3_addInsertion 3 = .ok (.iload_n 2, 1) := by decide +kernel
theorem dX3_addInsertion_4 : decode cX3_addInsertion 4 = .ok (.iload_n 3, 1) := by decide +kernel
theorem dX3_addInsertion_5 : decode cX3_addInsertion 5 = .ok (.invokevirtual 24, 3) := by decide +kernel
theorem dX3_addInsertion_8 : decode cX3_addInsertion 8 = .ok (.return_, 1) := by decide +kernel
theorem dX3_addDeletion_0 : decode cX3_addDeletion 0 = .ok (.aload_n 0, 1) := by decide +kernel
theorem dX3_addDeletion_1 : decode cX3_addDeletion 1 = .ok (.iconst 1, 1) := by decide +kernel
theorem dX3_addDeletion_2 : decode cX3_addDeletion 2 = .ok (.iload_n 1, 1) := by decide +kernel
theorem dX3_addDeletion_3 : decode cX3_addDeletion 3 = .ok (.iload_n 2, 1) := by decide +kernel
theorem dX3_addDeletion_4 : decode cX3_addDeletion 4 = .ok (.iconst (-1), 1) := by decide +kernel
theorem dX3_addDeletion_5 : decode cX3_addDeletion 5 = .ok (.invokevirtual 24, 3) := by decide +kernel
theorem dX3_addDeletion_8 : decode cX3_addDeletion 8 = .ok (.return_, 1) := by decide +kernel
theorem dX3_addSignature_0 : decode cX3_addSignature 0 = .ok (.aload_n 0, 1) := by decide +kernel
theorem dX3_addSignature_1 : decode cX3_addSignature 1 = .ok (.iconst 2, 1) := by decide +kernel
theorem dX3_addSignature_2 : decode cX3_addSignature 2 = .ok (.iload_n 1, 1) := by decide +kernel
theorem dX3_addSignature_3 : decode cX3_addSignature 3 = .ok (.iconst 0, 1) := by decide +kernel
theorem dX3_addSignature_4 : decode cX3_addSignature 4 = .ok (.iconst (-1), 1) := by decide +kernel
theorem dX3_addSignature_5 : decode cX3_addSignature 5 = .ok (.invokevirtual 24, 3) := by decide +kernel
theorem dX3_addSignature_8 : decode cX3_addSignature 8 = .ok (.return_, 1) := by decide +kernel
theorem dX3_add_0 : decode cX3_add 0 = .ok (.aload_n 0, 1) := by decide +kernel
theorem dX3_add_1 : decode cX3_add 1 = .ok (.getfield 28, 3) := by decide +kernel
theorem dX3_add_4 : decode cX3_add 4 = .ok (.sipush 512, 3) := by decide +kernel
theorem dX3_add_7 : decode cX3_add 7 = .ok (.if_icmp .lt 4, 3) := by decide +kernel
theorem dX3_add_10 : decode cX3_add 10 = .ok (.return_, 1) := by decide +kernel
theorem dX3_add_11 : decode cX3_add 11 = .ok (.aload_n 0, 1) := by decide +kernel
theorem dX3_add_12 : decode cX3_add 12 = .ok (.getfield 9, 3) := by decide +kernel
theorem dX3_add_15 : decode cX3_add 15 = .ok (.aload_n 0, 1) := by decide +kernel
theorem dX3_add_16 : decode cX3_add 16 = .ok (.getfield 28, 3) := by decide +kernel
theorem dX3_add_19 : decode cX3_add 19 = .ok (.iload_n 1, 1) := by decide +kernel
theorem dX3_add_20 : decode cX3_add 20 = .ok (.iastore, 1) := by decide +kernel
theorem dX3_add_21 : decode cX3_add 21 = .ok (.aload_n 0, 1) := by decide +kernel
theorem dX3_add_22 : decode cX3_add 22 = .ok (.getfield 15, 3) := by decide +kernel
theorem dX3_add_25 : decode cX3_add 25 = .ok (.aload_n 0, 1) := by decide +kernel
theorem dX3_add_26 : decode cX3_add 26 = .ok (.getfield 28, 3) := by decide +kernel
theorem dX3_add_29 : decode cX3_add 29 = .ok (.iload_n 2, 1) := by decide +kernel
theorem dX3_add_30 : decode cX3_add 30 = .ok (.iastore, 1) := by decide +kernel
theorem dX3_add_31 : decode cX3_add 31 = .ok (.aload_n 0, 1) := by decide +kernel
theorem dX3_add_32 : decode cX3_add 32 = .ok (.getfield 18, 3) := by decide +kernel
theorem dX3_add_35 : decode cX3_add 35 = .ok (.aload_n 0, 1) := by decide +kernel
theorem dX3_add_36 : decode cX3_add 36 = .ok (.getfield 28, 3) := by decide +kernel
theorem dX3_add_39 : decode cX3_add 39 = .ok (.iload_n 3, 1) := by decide +kernel
theorem dX3_add_40 : decode cX3_add 40 = .ok (.iastore, 1) := by decide +kernel
theorem dX3_add_41 : decode cX3_add 41 = .ok (.aload_n 0, 1) := by decide +kernel
theorem dX3_add_42 : decode cX3_add 42 = .ok (.getfield 21, 3) := by decide +kernel
theorem dX3_add_45 : decode cX3_add 45 = .ok (.aload_n 0, 1) := by decide +kernel
theorem dX3_add_46 : decode cX3_add 46 = .ok (.getfield 28, 3) := by decide +kernel
theorem dX3_add_49 : decode cX3_add 49 = .ok (.iload 4, 2) := by decide +kernel
theorem dX3_add_51 : decode cX3_add 51 = .ok (.iastore, 1) := by decide +kernel
theorem dX3_add_52 : decode cX3_add 52 = .ok (.aload_n 0, 1) := by decide +kernel
theorem dX3_add_53 : decode cX3_add 53 = .ok (.dup, 1) := by decide +kernel
theorem dX3_add_54 : decode cX3_add 54 = .ok (.getfield 28, 3) := by decide +kernel
theorem dX3_add_57 : decode cX3_add 57 = .ok (.iconst 1, 1) := by decide +kernel
theorem dX3_add_58 : decode cX3_add 58 = .ok (.iadd, 1) := by decide +kernel
theorem dX3_add_59 : decode cX3_add 59 = .ok (.putfield 28, 3) := by decide +kernel
theorem dX3_add_62 : decode cX3_add 62 = .ok (.return_, 1) := by decide +kernel
theorem dX3_codeOnSheet_0 : decode cX3_codeOnSheet 0 = .ok (.aload_n 0, 1) := by decide +kernel
theorem dX3_codeOnSheet_1 : decode cX3_codeOnSheet 1 = .ok (.iload_n 1, 1) := by decide +kernel
theorem dX3_codeOnSheet_2 : decode cX3_codeOnSheet 2 = .ok (.invokevirtual 32, 3) := by decide +kernel
theorem dX3_codeOnSheet_5 : decode cX3_codeOnSheet 5 = .ok (.istore 4, 2) := by decide +kernel
theorem dX3_codeOnSheet_7 : decode cX3_codeOnSheet 7 = .ok (.aload_n 0, 1) := by decide +kernel
theorem dX3_codeOnSheet_8 : decode cX3_codeOnSheet 8 = .ok (.iload 4, 2) := by decide +kernel
theorem dX3_codeOnSheet_10 : decode cX3_codeOnSheet 10 = .ok (.iload_n 1, 1) := by decide +kernel
theorem dX3_codeOnSheet_11 : decode cX3_codeOnSheet 11 = .ok (.invokevirtual 36, 3) := by decide +kernel
theorem dX3_codeOnSheet_14 : decode cX3_codeOnSheet 14 = .ok (.istore 5, 2) := by decide +kernel
theorem dX3_codeOnSheet_16 : decode cX3_codeOnSheet 16 = .ok (.iload 5, 2) := by decide +kernel
theorem dX3_codeOnSheet_18 : decode cX3_codeOnSheet 18 = .ok (.invokestatic 40, 3) := by decide +kernel
theorem dX3_codeOnSheet_21 : decode cX3_codeOnSheet 21 = .ok (.iload_n 2, 1) := by decide +kernel
theorem dX3_codeOnSheet_22 : decode cX3_codeOnSheet 22 = .ok (.iload_n 3, 1) := by decide +kernel
theorem dX3_codeOnSheet_23 : decode cX3_codeOnSheet 23 = .ok (.bipush 8, 2) := by decide +kernel
theorem dX3_codeOnSheet_25 : decode cX3_codeOnSheet 25 = .ok (.idiv, 1) := by decide +kernel
theorem dX3_codeOnSheet_26 : decode cX3_codeOnSheet 26 = .ok (.invokestatic 45, 3) := by decide +kernel
theorem dX3_codeOnSheet_29 : decode cX3_codeOnSheet 29 = .ok (.istore 6, 2) := by decide +kernel
theorem dX3_codeOnSheet_31 : decode cX3_codeOnSheet 31 = .ok (.bipush 8, 2) := by decide +kernel
theorem dX3_codeOnSheet_33 : decode cX3_codeOnSheet 33 = .ok (.iload 6, 2) := by decide +kernel
theorem dX3_codeOnSheet_35 : decode cX3_codeOnSheet 35 = .ok (.imul, 1) := by decide +kernel
theorem dX3_codeOnSheet_36 : decode cX3_codeOnSheet 36 = .ok (.iload_n 3, 1) := by decide +kernel
theorem dX3_codeOnSheet_37 : decode cX3_codeOnSheet 37 = .ok (.bipush 8, 2) := by decide +kernel
theorem dX3_codeOnSheet_39 : decode cX3_codeOnSheet 39 = .ok (.irem, 1) := by decide +kernel
theorem dX3_codeOnSheet_40 : decode cX3_codeOnSheet 40 = .ok (.iadd, 1) := by decide +kernel
theorem dX3_codeOnSheet_41 : decode cX3_codeOnSheet 41 = .ok (.istore 7, 2) := by decide +kernel
theorem dX3_codeOnSheet_43 : decode cX3_codeOnSheet 43 = .ok (.iload 7, 2) := by decide +kernel
theorem dX3_codeOnSheet_45 : decode cX3_codeOnSheet 45 = .ok (.ifCond .lt 10, 3) := by decide +kernel
theorem dX3_codeOnSheet_48 : decode cX3_codeOnSheet 48 = .ok (.iload 7, 2) := by decide +kernel
theorem dX3_codeOnSheet_50 : decode cX3_codeOnSheet 50 = .ok (.iload 5, 2) := by decide +kernel
theorem dX3_codeOnSheet_52 : decode cX3_codeOnSheet 52 = .ok (.if_icmp .lt 5, 3) := by decide +kernel
theorem dX3_codeOnSheet_55 : decode cX3_codeOnSheet 55 = .ok (.iconst (-1), 1) := by decide +kernel
theorem dX3_codeOnSheet_56 : decode cX3_codeOnSheet 56 = .ok (.ireturn, 1) := by decide +kernel
theorem dX3_codeOnSheet_57 : decode cX3_codeOnSheet 57 = .ok (.aload_n 0, 1) := by decide +kernel
theorem dX3_codeOnSheet_58 : decode cX3_codeOnSheet 58 = .ok (.iload 4, 2) := by decide +kernel
theorem dX3_codeOnSheet_60 : decode cX3_codeOnSheet 60 = .ok (.iload_n 1, 1) := by decide +kernel
theorem dX3_codeOnSheet_61 : decode cX3_codeOnSheet 61 = .ok (.iload 7, 2) := by decide +kernel
theorem dX3_codeOnSheet_63 : decode cX3_codeOnSheet 63 = .ok (.invokevirtual 49, 3) := by decide +kernel
theorem dX3_codeOnSheet_66 : decode cX3_codeOnSheet 66 = .ok (.ireturn, 1) := by decide +kernel
theorem dX3_lastSignature_0 : decode cX3_lastSignature 0 = .ok (.aload_n 0, 1) := by decide +kernel
theorem dX3_lastSignature_1 : decode cX3_lastSignature 1 = .ok (.getfield 28, 3) := by decide +kernel
theorem dX3_lastSignature_4 : decode cX3_lastSignature 4 = .ok (.iconst 1, 1) := by decide +kernel
theorem dX3_lastSignature_5 : decode cX3_lastSignature 5 = .ok (.isub, 1) := by decide +kernel
theorem dX3_lastSignature_6 : decode cX3_lastSignature 6 = .ok (.istore_n 2, 1) := by decide +kernel
theorem dX3_lastSignature_7 : decode cX3_lastSignature 7 = .ok (.iload_n 2, 1) := by decide +kernel
theorem dX3_lastSignature_8 : decode cX3_lastSignature 8 = .ok (.ifCond .lt 31, 3) := by decide +kernel
theorem dX3_lastSignature_11 : decode cX3_lastSignature 11 = .ok (.aload_n 0, 1) := by decide +kernel
theorem dX3_lastSignature_12 : decode cX3_lastSignature 12 = .ok (.getfield 15, 3) := by decide +kernel
theorem dX3_lastSignature_15 : decode cX3_lastSignature 15 = .ok (.iload_n 2, 1) := by decide +kernel
theorem dX3_lastSignature_16 : decode cX3_lastSignature 16 = .ok (.iaload, 1) := by decide +kernel
theorem dX3_lastSignature_17 : decode cX3_lastSignature 17 = .ok (.iload_n 1, 1) := by decide +kernel
theorem dX3_lastSignature_18 : decode cX3_lastSignature 18 = .ok (.if_icmp .ne 15, 3) := by decide +kernel
theorem dX3_lastSignature_21 : decode cX3_lastSignature 21 = .ok (.aload_n 0, 1) := by decide +kernel
theorem dX3_lastSignature_22 : decode cX3_lastSignature 22 = .ok (.getfield 9, 3) := by decide +kernel
theorem dX3_lastSignature_25 : decode cX3_lastSignature 25 = .ok (.iload_n 2, 1) := by decide +kernel
theorem dX3_lastSignature_26 : decode cX3_lastSignature 26 = .ok (.iaload, 1) := by decide +kernel
theorem dX3_lastSignature_27 : decode cX3_lastSignature 27 = .ok (.iconst 2, 1) := by decide +kernel
theorem dX3_lastSignature_28 : decode cX3_lastSignature 28 = .ok (.if_icmp .ne 5, 3) := by decide +kernel
theorem dX3_lastSignature_31 : decode cX3_lastSignature 31 = .ok (.iload_n 2, 1) := by decide +kernel
theorem dX3_lastSignature_32 : decode cX3_lastSignature 32 = .ok (.ireturn, 1) := by decide +kernel
theorem dX3_lastSignature_33 : decode cX3_lastSignature 33 = .ok (.iinc 2 (-1), 3) := by decide +kernel
theorem dX3_lastSignature_36 : decode cX3_lastSignature 36 = .ok (.goto (-29), 3) := by decide +kernel
theorem dX3_lastSignature_39 : decode cX3_lastSignature 39 = .ok (.iconst 0, 1) := by decide +kernel
theorem dX3_lastSignature_40 : decode cX3_lastSignature 40 = .ok (.ireturn, 1) := by decide +kernel
theorem dX3_charactersBefore_0 : decode cX3_charactersBefore 0 = .ok (.iconst 0, 1) := by decide +kernel
theorem dX3_charactersBefore_1 : decode cX3_charactersBefore 1 = .ok (.istore_n 3, 1) := by decide +kernel
theorem dX3_charactersBefore_2 : decode cX3_charactersBefore 2 = .ok (.iconst 0, 1) := by decide +kernel
theorem dX3_charactersBefore_3 : decode cX3_charactersBefore 3 = .ok (.istore 4, 2) := by decide +kernel
theorem dX3_charactersBefore_5 : decode cX3_charactersBefore 5 = .ok (.iload 4, 2) := by decide +kernel
theorem dX3_charactersBefore_7 : decode cX3_charactersBefore 7 = .ok (.iload_n 1, 1) := by decide +kernel
theorem dX3_charactersBefore_8 : decode cX3_charactersBefore 8 = .ok (.if_icmp .ge 61, 3) := by decide +kernel
theorem dX3_charactersBefore_11 : decode cX3_charactersBefore 11 = .ok (.aload_n 0, 1) := by decide +kernel
theorem dX3_charactersBefore_12 : decode cX3_charactersBefore 12 = .ok (.getfield 15, 3) := by decide +kernel
theorem dX3_charactersBefore_15 : decode cX3_charactersBefore 15 = .ok (.iload 4, 2) := by decide +kernel
theorem dX3_charactersBefore_17 : decode cX3_charactersBefore 17 = .ok (.iaload, 1) := by decide +kernel
theorem dX3_charactersBefore_18 : decode cX3_charactersBefore 18 = .ok (.iload_n 2, 1) := by decide +kernel
theorem dX3_charactersBefore_19 : decode cX3_charactersBefore 19 = .ok (.if_icmp .ne 19, 3) := by decide +kernel
theorem dX3_charactersBefore_22 : decode cX3_charactersBefore 22 = .ok (.aload_n 0, 1) := by decide +kernel
theorem dX3_charactersBefore_23 : decode cX3_charactersBefore 23 = .ok (.getfield 9, 3) := by decide +kernel
theorem dX3_charactersBefore_26 : decode cX3_charactersBefore 26 = .ok (.iload 4, 2) := by decide +kernel
theorem dX3_charactersBefore_28 : decode cX3_charactersBefore 28 = .ok (.iaload, 1) := by decide +kernel
theorem dX3_charactersBefore_29 : decode cX3_charactersBefore 29 = .ok (.ifCond .ne 9, 3) := by decide +kernel
theorem dX3_charactersBefore_32 : decode cX3_charactersBefore 32 = .ok (.iinc 3 1, 3) := by decide +kernel
theorem dX3_charactersBefore_35 : decode cX3_charactersBefore 35 = .ok (.goto 28, 3) := by decide +kernel
theorem dX3_charactersBefore_38 : decode cX3_charactersBefore 38 = .ok (.aload_n 0, 1) := by decide +kernel
theorem dX3_charactersBefore_39 : decode cX3_charactersBefore 39 = .ok (.getfield 15, 3) := by decide +kernel
theorem dX3_charactersBefore_42 : decode cX3_charactersBefore 42 = .ok (.iload 4, 2) := by decide +kernel
theorem dX3_charactersBefore_44 : decode cX3_charactersBefore 44 = .ok (.iaload, 1) := by decide +kernel
theorem dX3_charactersBefore_45 : decode cX3_charactersBefore 45 = .ok (.iload_n 2, 1) := by decide +kernel
theorem dX3_charactersBefore_46 : decode cX3_charactersBefore 46 = .ok (.if_icmp .ne 17, 3) := by decide +kernel
theorem dX3_charactersBefore_49 : decode cX3_charactersBefore 49 = .ok (.aload_n 0, 1) := by decide +kernel
theorem dX3_charactersBefore_50 : decode cX3_charactersBefore 50 = .ok (.getfield 9, 3) := by decide +kernel
theorem dX3_charactersBefore_53 : decode cX3_charactersBefore 53 = .ok (.iload 4, 2) := by decide +kernel
theorem dX3_charactersBefore_55 : decode cX3_charactersBefore 55 = .ok (.iaload, 1) := by decide +kernel
theorem dX3_charactersBefore_56 : decode cX3_charactersBefore 56 = .ok (.iconst 1, 1) := by decide +kernel
theorem dX3_charactersBefore_57 : decode cX3_charactersBefore 57 = .ok (.if_icmp .ne 6, 3) := by decide +kernel
theorem dX3_charactersBefore_60 : decode cX3_charactersBefore 60 = .ok (.iinc 3 (-1), 3) := by decide +kernel
theorem dX3_charactersBefore_63 : decode cX3_charactersBefore 63 = .ok (.iinc 4 1, 3) := by decide +kernel
theorem dX3_charactersBefore_66 : decode cX3_charactersBefore 66 = .ok (.goto (-61), 3) := by decide +kernel
theorem dX3_charactersBefore_69 : decode cX3_charactersBefore 69 = .ok (.iload_n 3, 1) := by decide +kernel
theorem dX3_charactersBefore_70 : decode cX3_charactersBefore 70 = .ok (.ireturn, 1) := by decide +kernel
theorem dX3_codeBefore_0 : decode cX3_codeBefore 0 = .ok (.iload_n 3, 1) := by decide +kernel
theorem dX3_codeBefore_1 : decode cX3_codeBefore 1 = .ok (.istore 4, 2) := by decide +kernel
theorem dX3_codeBefore_3 : decode cX3_codeBefore 3 = .ok (.iload_n 1, 1) := by decide +kernel
theorem dX3_codeBefore_4 : decode cX3_codeBefore 4 = .ok (.iconst 1, 1) := by decide +kernel
theorem dX3_codeBefore_5 : decode cX3_codeBefore 5 = .ok (.isub, 1) := by decide +kernel
theorem dX3_codeBefore_6 : decode cX3_codeBefore 6 = .ok (.istore 5, 2) := by decide +kernel
theorem dX3_codeBefore_8 : decode cX3_codeBefore 8 = .ok (.iload 5, 2) := by decide +kernel
theorem dX3_codeBefore_10 : decode cX3_codeBefore 10 = .ok (.ifCond .lt 107, 3) := by decide +kernel
theorem dX3_codeBefore_13 : decode cX3_codeBefore 13 = .ok (.aload_n 0, 1) := by decide +kernel
theorem dX3_codeBefore_14 : decode cX3_codeBefore 14 = .ok (.getfield 15, 3) := by decide +kernel
theorem dX3_codeBefore_17 : decode cX3_codeBefore 17 = .ok (.iload 5, 2) := by decide +kernel
theorem dX3_codeBefore_19 : decode cX3_codeBefore 19 = .ok (.iaload, 1) := by decide +kernel
theorem dX3_codeBefore_20 : decode cX3_codeBefore 20 = .ok (.iload_n 2, 1) := by decide +kernel
theorem dX3_codeBefore_21 : decode cX3_codeBefore 21 = .ok (.if_icmp .eq 6, 3) := by decide +kernel
theorem dX3_codeBefore_24 : decode cX3_codeBefore 24 = .ok (.goto 87, 3) := by decide +kernel
theorem dX3_codeBefore_27 : decode cX3_codeBefore 27 = .ok (.aload_n 0, 1) := by decide +kernel
theorem dX3_codeBefore_28 : decode cX3_codeBefore 28 = .ok (.getfield 9, 3) := by decide +kernel
theorem dX3_codeBefore_31 : decode cX3_codeBefore 31 = .ok (.iload 5, 2) := by decide +kernel
theorem dX3_codeBefore_33 : decode cX3_codeBefore 33 = .ok (.iaload, 1) := by decide +kernel
theorem dX3_codeBefore_34 : decode cX3_codeBefore 34 = .ok (.ifCond .ne 23, 3) := by decide +kernel
theorem dX3_codeBefore_37 : decode cX3_codeBefore 37 = .ok (.aload_n 0, 1) := by decide +kernel
theorem dX3_codeBefore_38 : decode cX3_codeBefore 38 = .ok (.getfield 18, 3) := by decide +kernel
theorem dX3_codeBefore_41 : decode cX3_codeBefore 41 = .ok (.iload 5, 2) := by decide +kernel
theorem dX3_codeBefore_43 : decode cX3_codeBefore 43 = .ok (.iaload, 1) := by decide +kernel
theorem dX3_codeBefore_44 : decode cX3_codeBefore 44 = .ok (.iload 4, 2) := by decide +kernel
theorem dX3_codeBefore_46 : decode cX3_codeBefore 46 = .ok (.if_icmp .ne 11, 3) := by decide +kernel
theorem dX3_codeBefore_49 : decode cX3_codeBefore 49 = .ok (.aload_n 0, 1) := by decide +kernel
theorem dX3_codeBefore_50 : decode cX3_codeBefore 50 = .ok (.getfield 21, 3) := by decide +kernel
theorem dX3_codeBefore_53 : decode cX3_codeBefore 53 = .ok (.iload 5, 2) := by decide +kernel
theorem dX3_codeBefore_55 : decode cX3_codeBefore 55 = .ok (.iaload, 1) := by decide +kernel
theorem dX3_codeBefore_56 : decode cX3_codeBefore 56 = .ok (.ireturn, 1) := by decide +kernel
theorem dX3_codeBefore_57 : decode cX3_codeBefore 57 = .ok (.aload_n 0, 1) := by decide +kernel
theorem dX3_codeBefore_58 : decode cX3_codeBefore 58 = .ok (.getfield 9, 3) := by decide +kernel
theorem dX3_codeBefore_61 : decode cX3_codeBefore 61 = .ok (.iload 5, 2) := by decide +kernel
theorem dX3_codeBefore_63 : decode cX3_codeBefore 63 = .ok (.iaload, 1) := by decide +kernel
theorem dX3_codeBefore_64 : decode cX3_codeBefore 64 = .ok (.ifCond .ne 21, 3) := by decide +kernel
theorem dX3_codeBefore_67 : decode cX3_codeBefore 67 = .ok (.aload_n 0, 1) := by decide +kernel
theorem dX3_codeBefore_68 : decode cX3_codeBefore 68 = .ok (.getfield 18, 3) := by decide +kernel
theorem dX3_codeBefore_71 : decode cX3_codeBefore 71 = .ok (.iload 5, 2) := by decide +kernel
theorem dX3_codeBefore_73 : decode cX3_codeBefore 73 = .ok (.iaload, 1) := by decide +kernel
theorem dX3_codeBefore_74 : decode cX3_codeBefore 74 = .ok (.iload 4, 2) := by decide +kernel
theorem dX3_codeBefore_76 : decode cX3_codeBefore 76 = .ok (.if_icmp .ge 9, 3) := by decide +kernel
theorem dX3_codeBefore_79 : decode cX3_codeBefore 79 = .ok (.iinc 4 (-1), 3) := by decide +kernel
theorem dX3_codeBefore_82 : decode cX3_codeBefore 82 = .ok (.goto 29, 3) := by decide +kernel
theorem dX3_codeBefore_85 : decode cX3_codeBefore 85 = .ok (.aload_n 0, 1) := by decide +kernel
theorem dX3_codeBefore_86 : decode cX3_codeBefore 86 = .ok (.getfield 9, 3) := by decide +kernel
theorem dX3_codeBefore_89 : decode cX3_codeBefore 89 = .ok (.iload 5, 2) := by decide +kernel
theorem dX3_codeBefore_91 : decode cX3_codeBefore 91 = .ok (.iaload, 1) := by decide +kernel
theorem dX3_codeBefore_92 : decode cX3_codeBefore 92 = .ok (.iconst 1, 1) := by decide +kernel
theorem dX3_codeBefore_93 : decode cX3_codeBefore 93 = .ok (.if_icmp .ne 18, 3) := by decide +kernel
theorem dX3_codeBefore_96 : decode cX3_codeBefore 96 = .ok (.aload_n 0, 1) := by decide +kernel
theorem dX3_codeBefore_97 : decode cX3_codeBefore 97 = .ok (.getfield 18, 3) := by decide +kernel
theorem dX3_codeBefore_100 : decode cX3_codeBefore 100 = .ok (.iload 5, 2) := by decide +kernel
theorem dX3_codeBefore_102 : decode cX3_codeBefore 102 = .ok (.iaload, 1) := by decide +kernel
theorem dX3_codeBefore_103 : decode cX3_codeBefore 103 = .ok (.iload 4, 2) := by decide +kernel
theorem dX3_codeBefore_105 : decode cX3_codeBefore 105 = .ok (.if_icmp .gt 6, 3) := by decide +kernel
theorem dX3_codeBefore_108 : decode cX3_codeBefore 108 = .ok (.iinc 4 1, 3) := by decide +kernel
theorem dX3_codeBefore_111 : decode cX3_codeBefore 111 = .ok (.iinc 5 (-1), 3) := by decide +kernel
theorem dX3_codeBefore_114 : decode cX3_codeBefore 114 = .ok (.goto (-106), 3) := by decide +kernel
theorem dX3_codeBefore_117 : decode cX3_codeBefore 117 = .ok (.iconst (-1), 1) := by decide +kernel
theorem dX3_codeBefore_118 : decode cX3_codeBefore 118 = .ok (.ireturn, 1) := by decide +kernel
theorem dX4_init_0 : decode cX4_init 0 = .ok (.aload_n 0, 1) := by decide +kernel
theorem dX4_init_1 : decode cX4_init 1 = .ok (.invokespecial 3, 3) := by decide +kernel
theorem dX4_init_4 : decode cX4_init 4 = .ok (.aload_n 0, 1) := by decide +kernel
theorem dX4_init_5 : decode cX4_init 5 = .ok (.iload_n 1, 1) := by decide +kernel
theorem dX4_init_6 : decode cX4_init 6 = .ok (.putfield 9, 3) := by decide +kernel
theorem dX4_init_9 : decode cX4_init 9 = .ok (.aload_n 0, 1) := by decide +kernel
theorem dX4_init_10 : decode cX4_init 10 = .ok (.aload_n 2, 1) := by decide +kernel
theorem dX4_init_11 : decode cX4_init 11 = .ok (.putfield 15, 3) := by decide +kernel
theorem dX4_init_14 : decode cX4_init 14 = .ok (.aload_n 0, 1) := by decide +kernel
theorem dX4_init_15 : decode cX4_init 15 = .ok (.iload_n 3, 1) := by decide +kernel
theorem dX4_init_16 : decode cX4_init 16 = .ok (.putfield 19, 3) := by decide +kernel
theorem dX4_init_19 : decode cX4_init 19 = .ok (.aload_n 0, 1) := by decide +kernel
theorem dX4_init_20 : decode cX4_init 20 = .ok (.iload 4, 2) := by decide +kernel
theorem dX4_init_22 : decode cX4_init 22 = .ok (.putfield 22, 3) := by decide +kernel
theorem dX4_init_25 : decode cX4_init 25 = .ok (.aload_n 0, 1) := by decide +kernel
theorem dX4_init_26 : decode cX4_init 26 = .ok (.iconst 3, 1) := by decide +kernel
theorem dX4_init_27 : decode cX4_init 27 = .ok (.anewarray 25, 3) := by decide +kernel
theorem dX4_init_30 : decode cX4_init 30 = .ok (.putfield 27, 3) := by decide +kernel
theorem dX4_init_33 : decode cX4_init 33 = .ok (.iconst 0, 1) := by decide +kernel
theorem dX4_init_34 : decode cX4_init 34 = .ok (.istore 5, 2) := by decide +kernel
theorem dX4_init_36 : decode cX4_init 36 = .ok (.iload 5, 2) := by decide +kernel
theorem dX4_init_38 : decode cX4_init 38 = .ok (.iconst 3, 1) := by decide +kernel
theorem dX4_init_39 : decode cX4_init 39 = .ok (.if_icmp .ge 23, 3) := by decide +kernel
theorem dX4_init_42 : decode cX4_init 42 = .ok (.aload_n 0, 1) := by decide +kernel
theorem dX4_init_43 : decode cX4_init 43 = .ok (.getfield 27, 3) := by decide +kernel
theorem dX4_init_46 : decode cX4_init 46 = .ok (.iload 5, 2) := by decide +kernel
theorem dX4_init_48 : decode cX4_init 48 = .ok (.new 25, 3) := by decide +kernel
theorem dX4_init_51 : decode cX4_init 51 = .ok (.dup, 1) := by decide +kernel
theorem dX4_init_52 : decode cX4_init 52 = .ok (.invokespecial 31, 3) := by decide +kernel
theorem dX4_init_55 : decode cX4_init 55 = .ok (.aastore, 1) := by decide +kernel
theorem dX4_init_56 : decode cX4_init 56 = .ok (.iinc 5 1, 3) := by decide +kernel
theorem dX4_init_59 : decode cX4_init 59 = .ok (.goto (-23), 3) := by decide +kernel
theorem dX4_init_62 : decode cX4_init 62 = .ok (.return_, 1) := by decide +kernel
theorem dX4_isMoreUrgentThan_0 : decode cX4_isMoreUrgentThan 0 = .ok (.aload_n 0, 1) := by decide +kernel
theorem dX4_isMoreUrgentThan_1 : decode cX4_isMoreUrgentThan 1 = .ok (.getfield 22, 3) := by decide +kernel
theorem dX4_isMoreUrgentThan_4 : decode cX4_isMoreUrgentThan 4 = .ok (.aload_n 1, 1) := by decide +kernel
theorem dX4_isMoreUrgentThan_5 : decode cX4_isMoreUrgentThan 5 = .ok (.getfield 22, 3) := by decide +kernel
theorem dX4_isMoreUrgentThan_8 : decode cX4_isMoreUrgentThan 8 = .ok (.if_icmp .lt 25, 3) := by decide +kernel
theorem dX4_isMoreUrgentThan_11 : decode cX4_isMoreUrgentThan 11 = .ok (.aload_n 0, 1) := by decide +kernel
theorem dX4_isMoreUrgentThan_12 : decode cX4_isMoreUrgentThan 12 = .ok (.getfield 22, 3) := by decide +kernel
theorem dX4_isMoreUrgentThan_15 : decode cX4_isMoreUrgentThan 15 = .ok (.aload_n 1, 1) := by decide +kernel
theorem dX4_isMoreUrgentThan_16 : decode cX4_isMoreUrgentThan 16 = .ok (.getfield 22, 3) := by decide +kernel
theorem dX4_isMoreUrgentThan_19 : decode cX4_isMoreUrgentThan 19 = .ok (.if_icmp .ne 18, 3) := by decide +kernel
theorem dX4_isMoreUrgentThan_22 : decode cX4_isMoreUrgentThan 22 = .ok (.aload_n 0, 1) := by decide +kernel
theorem dX4_isMoreUrgentThan_23 : decode cX4_isMoreUrgentThan 23 = .ok (.getfield 19, 3) := by decide +kernel
theorem dX4_isMoreUrgentThan_26 : decode cX4_isMoreUrgentThan 26 = .ok (.aload_n 1, 1) := by decide +kernel
theorem dX4_isMoreUrgentThan_27 : decode cX4_isMoreUrgentThan 27 = .ok (.getfield 19, 3) := by decide +kernel
theorem dX4_isMoreUrgentThan_30 : decode cX4_isMoreUrgentThan 30 = .ok (.if_icmp .le 7, 3) := by decide +kernel
theorem dX4_isMoreUrgentThan_33 : decode cX4_isMoreUrgentThan 33 = .ok (.iconst 1, 1) := by decide +kernel
theorem dX4_isMoreUrgentThan_34 : decode cX4_isMoreUrgentThan 34 = .ok (.goto 4, 3) := by decide +kernel
theorem dX4_isMoreUrgentThan_37 : decode cX4_isMoreUrgentThan 37 = .ok (.iconst 0, 1) := by decide +kernel
theorem dX4_isMoreUrgentThan_38 : decode cX4_isMoreUrgentThan 38 = .ok (.ireturn, 1) := by decide +kernel
theorem dX4_takePrinted_0 : decode cX4_takePrinted 0 = .ok (.aload_n 0, 1) := by decide +kernel
theorem dX4_takePrinted_1 : decode cX4_takePrinted 1 = .ok (.getfield 27, 3) := by decide +kernel
theorem dX4_takePrinted_4 : decode cX4_takePrinted 4 = .ok (.iload_n 1, 1) := by decide +kernel
theorem dX4_takePrinted_5 : decode cX4_takePrinted 5 = .ok (.aaload, 1) := by decide +kernel
theorem dX4_takePrinted_6 : decode cX4_takePrinted 6 = .ok (.astore_n 3, 1) := by decide +kernel
theorem dX4_takePrinted_7 : decode cX4_takePrinted 7 = .ok (.aload_n 3, 1) := by decide +kernel
theorem dX4_takePrinted_8 : decode cX4_takePrinted 8 = .ok (.getfield 32, 3) := by decide +kernel
theorem dX4_takePrinted_11 : decode cX4_takePrinted 11 = .ok (.ifCond .eq 16, 3) := by decide +kernel
theorem dX4_takePrinted_14 : decode cX4_takePrinted 14 = .ok (.aload_n 0, 1) := by decide +kernel
theorem dX4_takePrinted_15 : decode cX4_takePrinted 15 = .ok (.dup, 1) := by decide +kernel
theorem dX4_takePrinted_16 : decode cX4_takePrinted 16 = .ok (.getfield 36, 3) := by decide +kernel
theorem dX4_takePrinted_19 : decode cX4_takePrinted 19 = .ok (.aload_n 0, 1) := by decide +kernel
theorem dX4_takePrinted_20 : decode cX4_takePrinted 20 = .ok (.getfield 19, 3) := by decide +kernel
theorem dX4_takePrinted_23 : decode cX4_takePrinted 23 = .ok (.iadd, 1) := by decide +kernel
theorem dX4_takePrinted_24 : decode cX4_takePrinted 24 = .ok (.putfield 36, 3) := by decide +kernel
theorem dX4_takePrinted_27 : decode cX4_takePrinted 27 = .ok (.aload_n 3, 1) := by decide +kernel
theorem dX4_takePrinted_28 : decode cX4_takePrinted 28 = .ok (.aload_n 2, 1) := by decide +kernel
theorem dX4_takePrinted_29 : decode cX4_takePrinted 29 = .ok (.invokevirtual 39, 3) := by decide +kernel
theorem dX4_takePrinted_32 : decode cX4_takePrinted 32 = .ok (.return_, 1) := by decide +kernel
theorem dX5_init_0 : decode cX5_init 0 = .ok (.aload_n 0, 1) := by decide +kernel
theorem dX5_init_1 : decode cX5_init 1 = .ok (.invokespecial 3, 3) := by decide +kernel
theorem dX5_init_4 : decode cX5_init 4 = .ok (.aload_n 0, 1) := by decide +kernel
theorem dX5_init_5 : decode cX5_init 5 = .ok (.bipush 32, 2) := by decide +kernel
theorem dX5_init_7 : decode cX5_init 7 = .ok (.newarray .int, 2) := by decide +kernel
theorem dX5_init_9 : decode cX5_init 9 = .ok (.putfield 9, 3) := by decide +kernel
theorem dX5_init_12 : decode cX5_init 12 = .ok (.return_, 1) := by decide +kernel
theorem dX5_holds_0 : decode cX5_holds 0 = .ok (.aload_n 0, 1) := by decide +kernel
theorem dX5_holds_1 : decode cX5_holds 1 = .ok (.getfield 15, 3) := by decide +kernel
theorem dX5_holds_4 : decode cX5_holds 4 = .ok (.ifnull 23, 3) := by decide +kernel
theorem dX5_holds_7 : decode cX5_holds 7 = .ok (.aload_n 0, 1) := by decide +kernel
theorem dX5_holds_8 : decode cX5_holds 8 = .ok (.getfield 15, 3) := by decide +kernel
theorem dX5_holds_11 : decode cX5_holds 11 = .ok (.aload_n 1, 1) := by decide +kernel
theorem dX5_holds_12 : decode cX5_holds 12 = .ok (.if_acmp .ne 15, 3) := by decide +kernel
theorem dX5_holds_15 : decode cX5_holds 15 = .ok (.aload_n 0, 1) := by decide +kernel
theorem dX5_holds_16 : decode cX5_holds 16 = .ok (.getfield 19, 3) := by decide +kernel
theorem dX5_holds_19 : decode cX5_holds 19 = .ok (.iload_n 2, 1) := by decide +kernel
theorem dX5_holds_20 : decode cX5_holds 20 = .ok (.if_icmp .ne 7, 3) := by decide +kernel
theorem dX5_holds_23 : decode cX5_holds 23 = .ok (.iconst 1, 1) := by decide +kernel
theorem dX5_holds_24 : decode cX5_holds 24 = .ok (.goto 4, 3) := by decide +kernel
theorem dX5_holds_27 : decode cX5_holds 27 = .ok (.iconst 0, 1) := by decide +kernel
theorem dX5_holds_28 : decode cX5_holds 28 = .ok (.ireturn, 1) := by decide +kernel
theorem dX5_locks_0 : decode cX5_locks 0 = .ok (.aload_n 0, 1) := by decide +kernel
theorem dX5_locks_1 : decode cX5_locks 1 = .ok (.getfield 15, 3) := by decide +kernel
theorem dX5_locks_4 : decode cX5_locks 4 = .ok (.ifnull 29, 3) := by decide +kernel
theorem dX5_locks_7 : decode cX5_locks 7 = .ok (.aload_n 0, 1) := by decide +kernel
theorem dX5_locks_8 : decode cX5_locks 8 = .ok (.getfield 15, 3) := by decide +kernel
theorem dX5_locks_11 : decode cX5_locks 11 = .ok (.getfield 23, 3) := by decide +kernel
theorem dX5_locks_14 : decode cX5_locks 14 = .ok (.aload_n 1, 1) := by decide +kernel
theorem dX5_locks_15 : decode cX5_locks 15 = .ok (.if_acmp .ne 18, 3) := by decide +kernel
theorem dX5_locks_18 : decode cX5_locks 18 = .ok (.aload_n 0, 1) := by decide +kernel
theorem dX5_locks_19 : decode cX5_locks 19 = .ok (.getfield 29, 3) := by decide +kernel
theorem dX5_locks_22 : decode cX5_locks 22 = .ok (.iload_n 2, 1) := by decide +kernel
theorem dX5_locks_23 : decode cX5_locks 23 = .ok (.bipush 8, 2) := by decide +kernel
theorem dX5_locks_25 : decode cX5_locks 25 = .ok (.idiv, 1) := by decide +kernel
theorem dX5_locks_26 : decode cX5_locks 26 = .ok (.if_icmp .lt 7, 3) := by decide +kernel
theorem dX5_locks_29 : decode cX5_locks 29 = .ok (.iconst 1, 1) := by decide +kernel
theorem dX5_locks_30 : decode cX5_locks 30 = .ok (.goto 4, 3) := by decide +kernel
theorem dX5_locks_33 : decode cX5_locks 33 = .ok (.iconst 0, 1) := by decide +kernel
theorem dX5_locks_34 : decode cX5_locks 34 = .ok (.ireturn, 1) := by decide +kernel
theorem dX5_load_0 : decode cX5_load 0 = .ok (.aload_n 0, 1) := by decide +kernel
theorem dX5_load_1 : decode cX5_load 1 = .ok (.aload_n 1, 1) := by decide +kernel
theorem dX5_load_2 : decode cX5_load 2 = .ok (.putfield 15, 3) := by decide +kernel
theorem dX5_load_5 : decode cX5_load 5 = .ok (.aload_n 0, 1) := by decide +kernel
theorem dX5_load_6 : decode cX5_load 6 = .ok (.iload_n 2, 1) := by decide +kernel
theorem dX5_load_7 : decode cX5_load 7 = .ok (.putfield 19, 3) := by decide +kernel
theorem dX5_load_10 : decode cX5_load 10 = .ok (.aload_n 0, 1) := by decide +kernel
theorem dX5_load_11 : decode cX5_load 11 = .ok (.iload_n 3, 1) := by decide +kernel
theorem dX5_load_12 : decode cX5_load 12 = .ok (.putfield 32, 3) := by decide +kernel
theorem dX5_load_15 : decode cX5_load 15 = .ok (.aload_n 0, 1) := by decide +kernel
theorem dX5_load_16 : decode cX5_load 16 = .ok (.aload_n 1, 1) := by decide +kernel
theorem dX5_load_17 : decode cX5_load 17 = .ok (.getfield 23, 3) := by decide +kernel
theorem dX5_load_20 : decode cX5_load 20 = .ok (.getfield 35, 3) := by decide +kernel
theorem dX5_load_23 : decode cX5_load 23 = .ok (.iload_n 2, 1) := by decide +kernel
theorem dX5_load_24 : decode cX5_load 24 = .ok (.invokestatic 40, 3) := by decide +kernel
theorem dX5_load_27 : decode cX5_load 27 = .ok (.putfield 29, 3) := by decide +kernel
theorem dX5_load_30 : decode cX5_load 30 = .ok (.iconst 0, 1) := by decide +kernel
theorem dX5_load_31 : decode cX5_load 31 = .ok (.istore 4, 2) := by decide +kernel
theorem dX5_load_33 : decode cX5_load 33 = .ok (.iload 4, 2) := by decide +kernel
theorem dX5_load_35 : decode cX5_load 35 = .ok (.bipush 32, 2) := by decide +kernel
theorem dX5_load_37 : decode cX5_load 37 = .ok (.if_icmp .ge 26, 3) := by decide +kernel
theorem dX5_load_40 : decode cX5_load 40 = .ok (.aload_n 0, 1) := by decide +kernel
theorem dX5_load_41 : decode cX5_load 41 = .ok (.getfield 9, 3) := by decide +kernel
theorem dX5_load_44 : decode cX5_load 44 = .ok (.iload 4, 2) := by decide +kernel
theorem dX5_load_46 : decode cX5_load 46 = .ok (.aload_n 1, 1) := by decide +kernel
theorem dX5_load_47 : decode cX5_load 47 = .ok (.getfield 23, 3) := by decide +kernel
theorem dX5_load_50 : decode cX5_load 50 = .ok (.iload_n 2, 1) := by decide +kernel
theorem dX5_load_51 : decode cX5_load 51 = .ok (.iload 4, 2) := by decide +kernel
theorem dX5_load_53 : decode cX5_load 53 = .ok (.invokevirtual 45, 3) := by decide +kernel
theorem dX5_load_56 : decode cX5_load 56 = .ok (.iastore, 1) := by decide +kernel
theorem dX5_load_57 : decode cX5_load 57 = .ok (.iinc 4 1, 3) := by decide +kernel
theorem dX5_load_60 : decode cX5_load 60 = .ok (.goto (-27), 3) := by decide +kernel
theorem dX5_load_63 : decode cX5_load 63 = .ok (.return_, 1) := by decide +kernel
theorem dX5_unload_0 : decode cX5_unload 0 = .ok (.aload_n 0, 1) := by decide +kernel
theorem dX5_unload_1 : decode cX5_unload 1 = .ok (.getfield 15, 3) := by decide +kernel
theorem dX5_unload_4 : decode cX5_unload 4 = .ok (.ifnull 23, 3) := by decide +kernel
theorem dX5_unload_7 : decode cX5_unload 7 = .ok (.aload_n 0, 1) := by decide +kernel
theorem dX5_unload_8 : decode cX5_unload 8 = .ok (.getfield 15, 3) := by decide +kernel
theorem dX5_unload_11 : decode cX5_unload 11 = .ok (.aload_n 0, 1) := by decide +kernel
theorem dX5_unload_12 : decode cX5_unload 12 = .ok (.getfield 19, 3) := by decide +kernel
theorem dX5_unload_15 : decode cX5_unload 15 = .ok (.aload_n 0, 1) := by decide +kernel
theorem dX5_unload_16 : decode cX5_unload 16 = .ok (.getfield 9, 3) := by decide +kernel
theorem dX5_unload_19 : decode cX5_unload 19 = .ok (.invokevirtual 48, 3) := by decide +kernel
theorem dX5_unload_22 : decode cX5_unload 22 = .ok (.aload_n 0, 1) := by decide +kernel
theorem dX5_unload_23 : decode cX5_unload 23 = .ok (.aconst_null, 1) := by decide +kernel
theorem dX5_unload_24 : decode cX5_unload 24 = .ok (.putfield 15, 3) := by decide +kernel
theorem dX5_unload_27 : decode cX5_unload 27 = .ok (.return_, 1) := by decide +kernel
theorem dX6_init_0 : decode cX6_init 0 = .ok (.aload_n 0, 1) := by decide +kernel
theorem dX6_init_1 : decode cX6_init 1 = .ok (.invokespecial 3, 3) := by decide +kernel
theorem dX6_init_4 : decode cX6_init 4 = .ok (.aload_n 0, 1) := by decide +kernel
theorem dX6_init_5 : decode cX6_init 5 = .ok (.bipush 32, 2) := by decide +kernel
theorem dX6_init_7 : decode cX6_init 7 = .ok (.newarray .int, 2) := by decide +kernel
theorem dX6_init_9 : decode cX6_init 9 = .ok (.putfield 9, 3) := by decide +kernel
theorem dX6_init_12 : decode cX6_init 12 = .ok (.aload_n 0, 1) := by decide +kernel
theorem dX6_init_13 : decode cX6_init 13 = .ok (.bipush 32, 2) := by decide +kernel
theorem dX6_init_15 : decode cX6_init 15 = .ok (.newarray .int, 2) := by decide +kernel
theorem dX6_init_17 : decode cX6_init 17 = .ok (.putfield 15, 3) := by decide +kernel
theorem dX6_init_20 : decode cX6_init 20 = .ok (.return_, 1) := by decide +kernel
theorem dX6_takePrinted_0 : decode cX6_takePrinted 0 = .ok (.iconst 0, 1) := by decide +kernel
theorem dX6_takePrinted_1 : decode cX6_takePrinted 1 = .ok (.istore_n 2, 1) := by decide +kernel
theorem dX6_takePrinted_2 : decode cX6_takePrinted 2 = .ok (.iload_n 2, 1) := by decide +kernel
theorem dX6_takePrinted_3 : decode cX6_takePrinted 3 = .ok (.bipush 32, 2) := by decide +kernel
theorem dX6_takePrinted_5 : decode cX6_takePrinted 5 = .ok (.if_icmp .ge 18, 3) := by decide +kernel
theorem dX6_takePrinted_8 : decode cX6_takePrinted 8 = .ok (.aload_n 0, 1) := by decide +kernel
theorem dX6_takePrinted_9 : decode cX6_takePrinted 9 = .ok (.getfield 9, 3) := by decide +kernel
theorem dX6_takePrinted_12 : decode cX6_takePrinted 12 = .ok (.iload_n 2, 1) := by decide +kernel
theorem dX6_takePrinted_13 : decode cX6_takePrinted 13 = .ok (.aload_n 1, 1) := by decide +kernel
theorem dX6_takePrinted_14 : decode cX6_takePrinted 14 = .ok (.iload_n 2, 1) := by decide +kernel
theorem dX6_takePrinted_15 : decode cX6_takePrinted 15 = .ok (.iaload, 1) := by decide +kernel
theorem dX6_takePrinted_16 : decode cX6_takePrinted 16 = .ok (.iastore, 1) := by decide +kernel
theorem dX6_takePrinted_17 : decode cX6_takePrinted 17 = .ok (.iinc 2 1, 3) := by decide +kernel
theorem dX6_takePrinted_20 : decode cX6_takePrinted 20 = .ok (.goto (-18), 3) := by decide +kernel
theorem dX6_takePrinted_23 : decode cX6_takePrinted 23 = .ok (.aload_n 0, 1) := by decide +kernel
theorem dX6_takePrinted_24 : decode cX6_takePrinted 24 = .ok (.iconst 1, 1) := by decide +kernel
theorem dX6_takePrinted_25 : decode cX6_takePrinted 25 = .ok (.putfield 18, 3) := by decide +kernel
theorem dX6_takePrinted_28 : decode cX6_takePrinted 28 = .ok (.return_, 1) := by decide +kernel
theorem dX6_isPrintedAs_0 : decode cX6_isPrintedAs 0 = .ok (.iconst 0, 1) := by decide +kernel
theorem dX6_isPrintedAs_1 : decode cX6_isPrintedAs 1 = .ok (.istore_n 3, 1) := by decide +kernel
theorem dX6_isPrintedAs_2 : decode cX6_isPrintedAs 2 = .ok (.iload_n 3, 1) := by decide +kernel
theorem dX6_isPrintedAs_3 : decode cX6_isPrintedAs 3 = .ok (.bipush 32, 2) := by decide +kernel
theorem dX6_isPrintedAs_5 : decode cX6_isPrintedAs 5 = .ok (.if_icmp .ge 26, 3) := by decide +kernel
theorem dX6_isPrintedAs_8 : decode cX6_isPrintedAs 8 = .ok (.aload_n 0, 1) := by decide +kernel
theorem dX6_isPrintedAs_9 : decode cX6_isPrintedAs 9 = .ok (.getfield 9, 3) := by decide +kernel
theorem dX6_isPrintedAs_12 : decode cX6_isPrintedAs 12 = .ok (.iload_n 3, 1) := by decide +kernel
theorem dX6_isPrintedAs_13 : decode cX6_isPrintedAs 13 = .ok (.iaload, 1) := by decide +kernel
theorem dX6_isPrintedAs_14 : decode cX6_isPrintedAs 14 = .ok (.aload_n 1, 1) := by decide +kernel
theorem dX6_isPrintedAs_15 : decode cX6_isPrintedAs 15 = .ok (.iload_n 2, 1) := by decide +kernel
theorem dX6_isPrintedAs_16 : decode cX6_isPrintedAs 16 = .ok (.iload_n 3, 1) := by decide +kernel
theorem dX6_isPrintedAs_17 : decode cX6_isPrintedAs 17 = .ok (.invokevirtual 22, 3) := by decide +kernel
theorem dX6_isPrintedAs_20 : decode cX6_isPrintedAs 20 = .ok (.if_icmp .eq 5, 3) := by decide +kernel
theorem dX6_isPrintedAs_23 : decode cX6_isPrintedAs 23 = .ok (.iconst 0, 1) := by decide +kernel
theorem dX6_isPrintedAs_24 : decode cX6_isPrintedAs 24 = .ok (.ireturn, 1) := by decide +kernel
theorem dX6_isPrintedAs_25 : decode cX6_isPrintedAs 25 = .ok (.iinc 3 1, 3) := by decide +kernel
theorem dX6_isPrintedAs_28 : decode cX6_isPrintedAs 28 = .ok (.goto (-26), 3) := by decide +kernel
theorem dX6_isPrintedAs_31 : decode cX6_isPrintedAs 31 = .ok (.iconst 1, 1) := by decide +kernel
theorem dX6_isPrintedAs_32 : decode cX6_isPrintedAs 32 = .ok (.ireturn, 1) := by decide +kernel
theorem dX6_makePlate_0 : decode cX6_makePlate 0 = .ok (.aload_n 0, 1) := by decide +kernel
theorem dX6_makePlate_1 : decode cX6_makePlate 1 = .ok (.iconst 0, 1) := by decide +kernel
theorem dX6_makePlate_2 : decode cX6_makePlate 2 = .ok (.putfield 28, 3) := by decide +kernel
theorem dX6_makePlate_5 : decode cX6_makePlate 5 = .ok (.bipush 31, 2) := by decide +kernel
theorem dX6_makePlate_7 : decode cX6_makePlate 7 = .ok (.istore_n 3, 1) := by decide +kernel
theorem dX6_makePlate_8 : decode cX6_makePlate 8 = .ok (.iload_n 3, 1) := by decide +kernel
theorem dX6_makePlate_9 : decode cX6_makePlate 9 = .ok (.ifCond .lt 44, 3) := by decide +kernel
theorem dX6_makePlate_12 : decode cX6_makePlate 12 = .ok (.aload_n 1, 1) := by decide +kernel
theorem dX6_makePlate_13 : decode cX6_makePlate 13 = .ok (.iload_n 2, 1) := by decide +kernel
theorem dX6_makePlate_14 : decode cX6_makePlate 14 = .ok (.iload_n 3, 1) := by decide +kernel
theorem dX6_makePlate_15 : decode cX6_makePlate 15 = .ok (.invokevirtual 22, 3) := by decide +kernel
theorem dX6_makePlate_18 : decode cX6_makePlate 18 = .ok (.istore 4, 2) := by decide +kernel
theorem dX6_makePlate_20 : decode cX6_makePlate 20 = .ok (.iload 4, 2) := by decide +kernel
theorem dX6_makePlate_22 : decode cX6_makePlate 22 = .ok (.iconst (-1), 1) := by decide +kernel
theorem dX6_makePlate_23 : decode cX6_makePlate 23 = .ok (.if_icmp .eq 24, 3) := by decide +kernel
theorem dX6_makePlate_26 : decode cX6_makePlate 26 = .ok (.aload_n 0, 1) := by decide +kernel
theorem dX6_makePlate_27 : decode cX6_makePlate 27 = .ok (.getfield 15, 3) := by decide +kernel
theorem dX6_makePlate_30 : decode cX6_makePlate 30 = .ok (.aload_n 0, 1) := by decide +kernel
theorem dX6_makePlate_31 : decode cX6_makePlate 31 = .ok (.getfield 28, 3) := by decide +kernel
theorem dX6_makePlate_34 : decode cX6_makePlate 34 = .ok (.iload 4, 2) := by decide +kernel
theorem dX6_makePlate_36 : decode cX6_makePlate 36 = .ok (.iastore, 1) := by decide +kernel
theorem dX6_makePlate_37 : decode cX6_makePlate 37 = .ok (.aload_n 0, 1) := by decide +kernel
theorem dX6_makePlate_38 : decode cX6_makePlate 38 = .ok (.dup, 1) := by decide +kernel
theorem dX6_makePlate_39 : decode cX6_makePlate 39 = .ok (.getfield 28, 3) := by decide +kernel
theorem dX6_makePlate_42 : decode cX6_makePlate 42 = .ok (.iconst 1, 1) := by decide +kernel
theorem dX6_makePlate_43 : decode cX6_makePlate 43 = .ok (.iadd, 1) := by decide +kernel
theorem dX6_makePlate_44 : decode cX6_makePlate 44 = .ok (.putfield 28, 3) := by decide +kernel
theorem dX6_makePlate_47 : decode cX6_makePlate 47 = .ok (.iinc 3 (-1), 3) := by decide +kernel
theorem dX6_makePlate_50 : decode cX6_makePlate 50 = .ok (.goto (-42), 3) := by decide +kernel
theorem dX6_makePlate_53 : decode cX6_makePlate 53 = .ok (.aload_n 0, 1) := by decide +kernel
theorem dX6_makePlate_54 : decode cX6_makePlate 54 = .ok (.iconst 1, 1) := by decide +kernel
theorem dX6_makePlate_55 : decode cX6_makePlate 55 = .ok (.putfield 32, 3) := by decide +kernel
theorem dX6_makePlate_58 : decode cX6_makePlate 58 = .ok (.return_, 1) := by decide +kernel
theorem dX6_hasPlateFor_0 : decode cX6_hasPlateFor 0 = .ok (.iconst 0, 1) := by decide +kernel
theorem dX6_hasPlateFor_1 : decode cX6_hasPlateFor 1 = .ok (.istore_n 3, 1) := by decide +kernel
theorem dX6_hasPlateFor_2 : decode cX6_hasPlateFor 2 = .ok (.bipush 31, 2) := by decide +kernel
theorem dX6_hasPlateFor_4 : decode cX6_hasPlateFor 4 = .ok (.istore 4, 2) := by decide +kernel
theorem dX6_hasPlateFor_6 : decode cX6_hasPlateFor 6 = .ok (.iload 4, 2) := by decide +kernel
theorem dX6_hasPlateFor_8 : decode cX6_hasPlateFor 8 = .ok (.ifCond .lt 51, 3) := by decide +kernel
theorem dX6_hasPlateFor_11 : decode cX6_hasPlateFor 11 = .ok (.aload_n 1, 1) := by decide +kernel
theorem dX6_hasPlateFor_12 : decode cX6_hasPlateFor 12 = .ok (.iload_n 2, 1) := by decide +kernel
theorem dX6_hasPlateFor_13 : decode cX6_hasPlateFor 13 = .ok (.iload 4, 2) := by decide +kernel
theorem dX6_hasPlateFor_15 : decode cX6_hasPlateFor 15 = .ok (.invokevirtual 22, 3) := by decide +kernel
theorem dX6_hasPlateFor_18 : decode cX6_hasPlateFor 18 = .ok (.istore 5, 2) := by decide +kernel
theorem dX6_hasPlateFor_20 : decode cX6_hasPlateFor 20 = .ok (.iload 5, 2) := by decide +kernel
theorem dX6_hasPlateFor_22 : decode cX6_hasPlateFor 22 = .ok (.iconst (-1), 1) := by decide +kernel
theorem dX6_hasPlateFor_23 : decode cX6_hasPlateFor 23 = .ok (.if_icmp .ne 6, 3) := by decide +kernel
theorem dX6_hasPlateFor_26 : decode cX6_hasPlateFor 26 = .ok (.goto 27, 3) := by decide +kernel
theorem dX6_hasPlateFor_29 : decode cX6_hasPlateFor 29 = .ok (.iload_n 3, 1) := by decide +kernel
theorem dX6_hasPlateFor_30 : decode cX6_hasPlateFor 30 = .ok (.aload_n 0, 1) := by decide +kernel
theorem dX6_hasPlateFor_31 : decode cX6_hasPlateFor 31 = .ok (.getfield 28, 3) := by decide +kernel
theorem dX6_hasPlateFor_34 : decode cX6_hasPlateFor 34 = .ok (.if_icmp .ge 14, 3) := by decide +kernel
theorem dX6_hasPlateFor_37 : decode cX6_hasPlateFor 37 = .ok (.aload_n 0, 1) := by decide +kernel
theorem dX6_hasPlateFor_38 : decode cX6_hasPlateFor 38 = .ok (.getfield 15, 3) := by decide +kernel
theorem dX6_hasPlateFor_41 : decode cX6_hasPlateFor 41 = .ok (.iload_n 3, 1) := by decide +kernel
theorem dX6_hasPlateFor_42 : decode cX6_hasPlateFor 42 = .ok (.iaload, 1) := by decide +kernel
theorem dX6_hasPlateFor_43 : decode cX6_hasPlateFor 43 = .ok (.iload 5, 2) := by decide +kernel
theorem dX6_hasPlateFor_45 : decode cX6_hasPlateFor 45 = .ok (.if_icmp .eq 5, 3) := by decide +kernel
theorem dX6_hasPlateFor_48 : decode cX6_hasPlateFor 48 = .ok (.iconst 0, 1) := by decide +kernel
theorem dX6_hasPlateFor_49 : decode cX6_hasPlateFor 49 = .ok (.ireturn, 1) := by decide +kernel
theorem dX6_hasPlateFor_50 : decode cX6_hasPlateFor 50 = .ok (.iinc 3 1, 3) := by decide +kernel
theorem dX6_hasPlateFor_53 : decode cX6_hasPlateFor 53 = .ok (.iinc 4 (-1), 3) := by decide +kernel
theorem dX6_hasPlateFor_56 : decode cX6_hasPlateFor 56 = .ok (.goto (-50), 3) := by decide +kernel
theorem dX6_hasPlateFor_59 : decode cX6_hasPlateFor 59 = .ok (.aload_n 0, 1) := by decide +kernel
theorem dX6_hasPlateFor_60 : decode cX6_hasPlateFor 60 = .ok (.getfield 32, 3) := by decide +kernel
theorem dX6_hasPlateFor_63 : decode cX6_hasPlateFor 63 = .ok (.ifCond .eq 15, 3) := by decide +kernel
theorem dX6_hasPlateFor_66 : decode cX6_hasPlateFor 66 = .ok (.iload_n 3, 1) := by decide +kernel
theorem dX6_hasPlateFor_67 : decode cX6_hasPlateFor 67 = .ok (.aload_n 0, 1) := by decide +kernel
theorem dX6_hasPlateFor_68 : decode cX6_hasPlateFor 68 = .ok (.getfield 28, 3) := by decide +kernel
theorem dX6_hasPlateFor_71 : decode cX6_hasPlateFor 71 = .ok (.if_icmp .ne 7, 3) := by decide +kernel
theorem dX6_hasPlateFor_74 : decode cX6_hasPlateFor 74 = .ok (.iconst 1, 1) := by decide +kernel
theorem dX6_hasPlateFor_75 : decode cX6_hasPlateFor 75 = .ok (.goto 4, 3) := by decide +kernel
theorem dX6_hasPlateFor_78 : decode cX6_hasPlateFor 78 = .ok (.iconst 0, 1) := by decide +kernel
theorem dX6_hasPlateFor_79 : decode cX6_hasPlateFor 79 = .ok (.ireturn, 1) := by decide +kernel
theorem dX7_init_0 : decode cX7_init 0 = .ok (.aload_n 0, 1) := by decide +kernel
theorem dX7_init_1 : decode cX7_init 1 = .ok (.invokespecial 3, 3) := by decide +kernel
theorem dX7_init_4 : decode cX7_init 4 = .ok (.aload_n 0, 1) := by decide +kernel
theorem dX7_init_5 : decode cX7_init 5 = .ok (.bipush 80, 2) := by decide +kernel
theorem dX7_init_7 : decode cX7_init 7 = .ok (.newarray .int, 2) := by decide +kernel
theorem dX7_init_9 : decode cX7_init 9 = .ok (.putfield 9, 3) := by decide +kernel
theorem dX7_init_12 : decode cX7_init 12 = .ok (.return_, 1) := by decide +kernel
theorem dX7_at_0 : decode cX7_at 0 = .ok (.iload_n 1, 1) := by decide +kernel
theorem dX7_at_1 : decode cX7_at 1 = .ok (.ifCond .lt 20, 3) := by decide +kernel
theorem dX7_at_4 : decode cX7_at 4 = .ok (.iload_n 1, 1) := by decide +kernel
theorem dX7_at_5 : decode cX7_at 5 = .ok (.aload_n 0, 1) := by decide +kernel
theorem dX7_at_6 : decode cX7_at 6 = .ok (.getfield 15, 3) := by decide +kernel
theorem dX7_at_9 : decode cX7_at 9 = .ok (.if_icmp .ge 12, 3) := by decide +kernel
theorem dX7_at_12 : decode cX7_at 12 = .ok (.aload_n 0, 1) := by decide +kernel
theorem dX7_at_13 : decode cX7_at 13 = .ok (.getfield 9, 3) := by decide +kernel
theorem dX7_at_16 : decode cX7_at 16 = .ok (.iload_n 1, 1) := by decide +kernel
theorem dX7_at_17 : decode cX7_at 17 = .ok (.iaload, 1) := by decide +kernel
theorem dX7_at_18 : decode cX7_at 18 = .ok (.goto 4, 3) := by decide +kernel
theorem dX7_at_21 : decode cX7_at 21 = .ok (.iconst (-1), 1) := by decide +kernel
theorem dX7_at_22 : decode cX7_at 22 = .ok (.ireturn, 1) := by decide +kernel
theorem dX7_putIn_0 : decode cX7_putIn 0 = .ok (.iload_n 1, 1) := by decide +kernel
theorem dX7_putIn_1 : decode cX7_putIn 1 = .ok (.ifCond .lt 20, 3) := by decide +kernel
theorem dX7_putIn_4 : decode cX7_putIn 4 = .ok (.iload_n 1, 1) := by decide +kernel
theorem dX7_putIn_5 : decode cX7_putIn 5 = .ok (.aload_n 0, 1) := by decide +kernel
theorem dX7_putIn_6 : decode cX7_putIn 6 = .ok (.getfield 15, 3) := by decide +kernel
theorem dX7_putIn_9 : decode cX7_putIn 9 = .ok (.if_icmp .gt 12, 3) := by decide +kernel
theorem dX7_putIn_12 : decode cX7_putIn 12 = .ok (.aload_n 0, 1) := by decide +kernel
theorem dX7_putIn_13 : decode cX7_putIn 13 = .ok (.getfield 15, 3) := by decide +kernel
theorem dX7_putIn_16 : decode cX7_putIn 16 = .ok (.bipush 80, 2) := by decide +kernel
theorem dX7_putIn_18 : decode cX7_putIn 18 = .ok (.if_icmp .lt 4, 3) := by decide +kernel
theorem dX7_putIn_21 : decode cX7_putIn 21 = .ok (.return_, 1) := by decide +kernel
theorem dX7_putIn_22 : decode cX7_putIn 22 = .ok (.aload_n 0, 1) := by decide +kernel
theorem dX7_putIn_23 : decode cX7_putIn 23 = .ok (.getfield 15, 3) := by decide +kernel
theorem dX7_putIn_26 : decode cX7_putIn 26 = .ok (.istore_n 3, 1) := by decide +kernel
theorem dX7_putIn_27 : decode cX7_putIn 27 = .ok (.iload_n 3, 1) := by decide +kernel
theorem dX7_putIn_28 : decode cX7_putIn 28 = .ok (.iload_n 1, 1) := by decide +kernel
theorem dX7_putIn_29 : decode cX7_putIn 29 = .ok (.if_icmp .le 23, 3) := by decide +kernel
theorem dX7_putIn_32 : decode cX7_putIn 32 = .ok (.aload_n 0, 1) := by decide +kernel
theorem dX7_putIn_33 : decode cX7_putIn 33 = .ok (.getfield 9, 3) := by decide +kernel
theorem dX7_putIn_36 : decode cX7_putIn 36 = .ok (.iload_n 3, 1) := by decide +kernel
theorem dX7_putIn_37 : decode cX7_putIn 37 = .ok (.aload_n 0, 1) := by decide +kernel
theorem dX7_putIn_38 : decode cX7_putIn 38 = .ok (.getfield 9, 3) := by decide +kernel
theorem dX7_putIn_41 : decode cX7_putIn 41 = .ok (.iload_n 3, 1) := by decide +kernel
theorem dX7_putIn_42 : decode cX7_putIn 42 = .ok (.iconst 1, 1) := by decide +kernel
theorem dX7_putIn_43 : decode cX7_putIn 43 = .ok (.isub, 1) := by decide +kernel
theorem dX7_putIn_44 : decode cX7_putIn 44 = .ok (.iaload, 1) := by decide +kernel
theorem dX7_putIn_45 : decode cX7_putIn 45 = .ok (.iastore, 1) := by decide +kernel
theorem dX7_putIn_46 : decode cX7_putIn 46 = .ok (.iinc 3 (-1), 3) := by decide +kernel
theorem dX7_putIn_49 : decode cX7_putIn 49 = .ok (.goto (-22), 3) := by decide +kernel
theorem dX7_putIn_52 : decode cX7_putIn 52 = .ok (.aload_n 0, 1) := by decide +kernel
theorem dX7_putIn_53 : decode cX7_putIn 53 = .ok (.getfield 9, 3) := by decide +kernel
theorem dX7_putIn_56 : decode cX7_putIn 56 = .ok (.iload_n 1, 1) := by decide +kernel
theorem dX7_putIn_57 : decode cX7_putIn 57 = .ok (.iload_n 2, 1) := by decide +kernel
theorem dX7_putIn_58 : decode cX7_putIn 58 = .ok (.iastore, 1) := by decide +kernel
theorem dX7_putIn_59 : decode cX7_putIn 59 = .ok (.aload_n 0, 1) := by decide +kernel
theorem dX7_putIn_60 : decode cX7_putIn 60 = .ok (.dup, 1) := by decide +kernel
theorem dX7_putIn_61 : decode cX7_putIn 61 = .ok (.getfield 15, 3) := by decide +kernel
theorem dX7_putIn_64 : decode cX7_putIn 64 = .ok (.iconst 1, 1) := by decide +kernel
theorem dX7_putIn_65 : decode cX7_putIn 65 = .ok (.iadd, 1) := by decide +kernel
theorem dX7_putIn_66 : decode cX7_putIn 66 = .ok (.putfield 15, 3) := by decide +kernel
theorem dX7_putIn_69 : decode cX7_putIn 69 = .ok (.return_, 1) := by decide +kernel
theorem dX7_takeOut_0 : decode cX7_takeOut 0 = .ok (.iload_n 1, 1) := by decide +kernel
theorem dX7_takeOut_1 : decode cX7_takeOut 1 = .ok (.ifCond .lt 11, 3) := by decide +kernel
theorem dX7_takeOut_4 : decode cX7_takeOut 4 = .ok (.iload_n 1, 1) := by decide +kernel
theorem dX7_takeOut_5 : decode cX7_takeOut 5 = .ok (.aload_n 0, 1) := by decide +kernel
theorem dX7_takeOut_6 : decode cX7_takeOut 6 = .ok (.getfield 15, 3) := by decide +kernel
theorem dX7_takeOut_9 : decode cX7_takeOut 9 = .ok (.if_icmp .lt 4, 3) := by decide +kernel
theorem dX7_takeOut_12 : decode cX7_takeOut 12 = .ok (.return_, 1) := by decide +kernel
theorem dX7_takeOut_13 : decode cX7_takeOut 13 = .ok (.aload_n 0, 1) := by decide +kernel
theorem dX7_takeOut_14 : decode cX7_takeOut 14 = .ok (.dup, 1) := by decide +kernel
theorem dX7_takeOut_15 : decode cX7_takeOut 15 = .ok (.getfield 15, 3) := by decide +kernel
theorem dX7_takeOut_18 : decode cX7_takeOut 18 = .ok (.iconst 1, 1) := by decide +kernel
theorem dX7_takeOut_19 : decode cX7_takeOut 19 = .ok (.isub, 1) := by decide +kernel
theorem dX7_takeOut_20 : decode cX7_takeOut 20 = .ok (.putfield 15, 3) := by decide +kernel
theorem dX7_takeOut_23 : decode cX7_takeOut 23 = .ok (.iload_n 1, 1) := by decide +kernel
theorem dX7_takeOut_24 : decode cX7_takeOut 24 = .ok (.istore_n 2, 1) := by decide +kernel
theorem dX7_takeOut_25 : decode cX7_takeOut 25 = .ok (.iload_n 2, 1) := by decide +kernel
theorem dX7_takeOut_26 : decode cX7_takeOut 26 = .ok (.aload_n 0, 1) := by decide +kernel
theorem dX7_takeOut_27 : decode cX7_takeOut 27 = .ok (.getfield 15, 3) := by decide +kernel
theorem dX7_takeOut_30 : decode cX7_takeOut 30 = .ok (.if_icmp .ge 23, 3) := by decide +kernel
theorem dX7_takeOut_33 : decode cX7_takeOut 33 = .ok (.aload_n 0, 1) := by decide +kernel
theorem dX7_takeOut_34 : decode cX7_takeOut 34 = .ok (.getfield 9, 3) := by decide +kernel
theorem dX7_takeOut_37 : decode cX7_takeOut 37 = .ok (.iload_n 2, 1) := by decide +kernel
theorem dX7_takeOut_38 : decode cX7_takeOut 38 = .ok (.aload_n 0, 1) := by decide +kernel
theorem dX7_takeOut_39 : decode cX7_takeOut 39 = .ok (.getfield 9, 3) := by decide +kernel
theorem dX7_takeOut_42 : decode cX7_takeOut 42 = .ok (.iload_n 2, 1) := by decide +kernel
theorem dX7_takeOut_43 : decode cX7_takeOut 43 = .ok (.iconst 1, 1) := by decide +kernel
theorem dX7_takeOut_44 : decode cX7_takeOut 44 = .ok (.iadd, 1) := by decide +kernel
theorem dX7_takeOut_45 : decode cX7_takeOut 45 = .ok (.iaload, 1) := by decide +kernel
theorem dX7_takeOut_46 : decode cX7_takeOut 46 = .ok (.iastore, 1) := by decide +kernel
theorem dX7_takeOut_47 : decode cX7_takeOut 47 = .ok (.iinc 2 1, 3) := by decide +kernel
theorem dX7_takeOut_50 : decode cX7_takeOut 50 = .ok (.goto (-25), 3) := by decide +kernel
theorem dX7_takeOut_53 : decode cX7_takeOut 53 = .ok (.return_, 1) := by decide +kernel
theorem dX7_become_0 : decode cX7_become 0 = .ok (.aload_n 0, 1) := by decide +kernel
theorem dX7_become_1 : decode cX7_become 1 = .ok (.aload_n 1, 1) := by decide +kernel
theorem dX7_become_2 : decode cX7_become 2 = .ok (.getfield 15, 3) := by decide +kernel
theorem dX7_become_5 : decode cX7_become 5 = .ok (.putfield 15, 3) := by decide +kernel
theorem dX7_become_8 : decode cX7_become 8 = .ok (.iconst 0, 1) := by decide +kernel
theorem dX7_become_9 : decode cX7_become 9 = .ok (.istore_n 2, 1) := by decide +kernel
theorem dX7_become_10 : decode cX7_become 10 = .ok (.iload_n 2, 1) := by decide +kernel
theorem dX7_become_11 : decode cX7_become 11 = .ok (.aload_n 0, 1) := by decide +kernel
theorem dX7_become_12 : decode cX7_become 12 = .ok (.getfield 15, 3) := by decide +kernel
theorem dX7_become_15 : decode cX7_become 15 = .ok (.if_icmp .ge 21, 3) := by decide +kernel
theorem dX7_become_18 : decode cX7_become 18 = .ok (.aload_n 0, 1) := by decide +kernel
theorem dX7_become_19 : decode cX7_become 19 = .ok (.getfield 9, 3) := by decide +kernel
theorem dX7_become_22 : decode cX7_become 22 = .ok (.iload_n 2, 1) := by decide +kernel
theorem dX7_become_23 : decode cX7_become 23 = .ok (.aload_n 1, 1) := by decide +kernel
theorem dX7_become_24 : decode cX7_become 24 = .ok (.getfield 9, 3) := by decide +kernel
theorem dX7_become_27 : decode cX7_become 27 = .ok (.iload_n 2, 1) := by decide +kernel
theorem dX7_become_28 : decode cX7_become 28 = .ok (.iaload, 1) := by decide +kernel
theorem dX7_become_29 : decode cX7_become 29 = .ok (.iastore, 1) := by decide +kernel
theorem dX7_become_30 : decode cX7_become 30 = .ok (.iinc 2 1, 3) := by decide +kernel
theorem dX7_become_33 : decode cX7_become 33 = .ok (.goto (-23), 3) := by decide +kernel
theorem dX7_become_36 : decode cX7_become 36 = .ok (.return_, 1) := by decide +kernel
theorem dX8_init_0 : decode cX8_init 0 = .ok (.aload_n 0, 1) := by decide +kernel
theorem dX8_init_1 : decode cX8_init 1 = .ok (.invokespecial 3, 3) := by decide +kernel
theorem dX8_init_4 : decode cX8_init 4 = .ok (.aload_n 0, 1) := by decide +kernel
theorem dX8_init_5 : decode cX8_init 5 = .ok (.iconst 3, 1) := by decide +kernel
theorem dX8_init_6 : decode cX8_init 6 = .ok (.anewarray 9, 3) := by decide +kernel
theorem dX8_init_9 : decode cX8_init 9 = .ok (.putfield 11, 3) := by decide +kernel
theorem dX8_init_12 : decode cX8_init 12 = .ok (.aload_n 0, 1) := by decide +kernel
theorem dX8_init_13 : decode cX8_init 13 = .ok (.bipush 8, 2) := by decide +kernel
theorem dX8_init_15 : decode cX8_init 15 = .ok (.anewarray 15, 3) := by decide +kernel
theorem dX8_init_18 : decode cX8_init 18 = .ok (.putfield 17, 3) := by decide +kernel
theorem dX8_init_21 : decode cX8_init 21 = .ok (.aload_n 0, 1) := by decide +kernel
theorem dX8_init_22 : decode cX8_init 22 = .ok (.bipush 6, 2) := by decide +kernel
theorem dX8_init_24 : decode cX8_init 24 = .ok (.anewarray 21, 3) := by decide +kernel
theorem dX8_init_27 : decode cX8_init 27 = .ok (.putfield 23, 3) := by decide +kernel
theorem dX8_init_30 : decode cX8_init 30 = .ok (.aload_n 0, 1) := by decide +kernel
theorem dX8_init_31 : decode cX8_init 31 = .ok (.new 27, 3) := by decide +kernel
theorem dX8_init_34 : decode cX8_init 34 = .ok (.dup, 1) := by decide +kernel
theorem dX8_init_35 : decode cX8_init 35 = .ok (.invokespecial 29, 3) := by decide +kernel
theorem dX8_init_38 : decode cX8_init 38 = .ok (.putfield 30, 3) := by decide +kernel
theorem dX8_init_41 : decode cX8_init 41 = .ok (.aload_n 0, 1) := by decide +kernel
theorem dX8_init_42 : decode cX8_init 42 = .ok (.new 34, 3) := by decide +kernel
theorem dX8_init_45 : decode cX8_init 45 = .ok (.dup, 1) := by decide +kernel
theorem dX8_init_46 : decode cX8_init 46 = .ok (.invokespecial 36, 3) := by decide +kernel
theorem dX8_init_49 : decode cX8_init 49 = .ok (.putfield 37, 3) := by decide +kernel
theorem dX8_init_52 : decode cX8_init 52 = .ok (.return_, 1) := by decide +kernel
theorem dX8_addDocument_0 : decode cX8_addDocument 0 = .ok (.aload_n 0, 1) := by decide +kernel
theorem dX8_addDocument_1 : decode cX8_addDocument 1 = .ok (.getfield 41, 3) := by decide +kernel
theorem dX8_addDocument_4 : decode cX8_addDocument 4 = .ok (.iconst 3, 1) := by decide +kernel
theorem dX8_addDocument_5 : decode cX8_addDocument 5 = .ok (.if_icmp .lt 13, 3) := by decide +kernel
theorem dX8_addDocument_8 : decode cX8_addDocument 8 = .ok (.new 45, 3) := by decide +kernel
theorem dX8_addDocument_11 : decode cX8_addDocument 11 = .ok (.dup, 1) := by decide +kernel
theorem dX8_addDocument_12 : decode cX8_addDocument 12 = .ok (.ldc 47, 2) := by decide +kernel
theorem dX8_addDocument_14 : decode cX8_addDocument 14 = .ok (.invokespecial 49, 3) := by decide +kernel
theorem dX8_addDocument_17 : decode cX8_addDocument 17 = .ok (.athrow, 1) := by decide +kernel
theorem dX8_addDocument_18 : decode cX8_addDocument 18 = .ok (.aload_n 0, 1) := by decide +kernel
theorem dX8_addDocument_19 : decode cX8_addDocument 19 = .ok (.getfield 41, 3) := by decide +kernel
theorem dX8_addDocument_22 : decode cX8_addDocument 22 = .ok (.istore_n 1, 1) := by decide +kernel
theorem dX8_addDocument_23 : decode cX8_addDocument 23 = .ok (.aload_n 0, 1) := by decide +kernel
theorem dX8_addDocument_24 : decode cX8_addDocument 24 = .ok (.getfield 11, 3) := by decide +kernel
theorem dX8_addDocument_27 : decode cX8_addDocument 27 = .ok (.iload_n 1, 1) := by decide +kernel
theorem dX8_addDocument_28 : decode cX8_addDocument 28 = .ok (.new 9, 3) := by decide +kernel
theorem dX8_addDocument_31 : decode cX8_addDocument 31 = .ok (.dup, 1) := by decide +kernel
theorem dX8_addDocument_32 : decode cX8_addDocument 32 = .ok (.iload_n 1, 1) := by decide +kernel
theorem dX8_addDocument_33 : decode cX8_addDocument 33 = .ok (.invokespecial 52, 3) := by decide +kernel
theorem dX8_addDocument_36 : decode cX8_addDocument 36 = .ok (.aastore, 1) := by decide +kernel
theorem dX8_addDocument_37 : decode cX8_addDocument 37 = .ok (.aload_n 0, 1) := by decide +kernel
theorem dX8_addDocument_38 : decode cX8_addDocument 38 = .ok (.dup, 1) := by decide +kernel
theorem dX8_addDocument_39 : decode cX8_addDocument 39 = .ok (.getfield 41, 3) := by decide +kernel
theorem dX8_addDocument_42 : decode cX8_addDocument 42 = .ok (.iconst 1, 1) := by decide +kernel
theorem dX8_addDocument_43 : decode cX8_addDocument 43 = .ok (.iadd, 1) := by decide +kernel
theorem dX8_addDocument_44 : decode cX8_addDocument 44 = .ok (.putfield 41, 3) := by decide +kernel
theorem dX8_addDocument_47 : decode cX8_addDocument 47 = .ok (.iload_n 1, 1) := by decide +kernel
theorem dX8_addDocument_48 : decode cX8_addDocument 48 = .ok (.ireturn, 1) := by decide +kernel
theorem dX8_insert_0 : decode cX8_insert 0 = .ok (.aload_n 0, 1) := by decide +kernel
theorem dX8_insert_1 : decode cX8_insert 1 = .ok (.iload_n 1, 1) := by decide +kernel
theorem dX8_insert_2 : decode cX8_insert 2 = .ok (.invokevirtual 55, 3) := by decide +kernel
theorem dX8_insert_5 : decode cX8_insert 5 = .ok (.astore 4, 2) := by decide +kernel
theorem dX8_insert_7 : decode cX8_insert 7 = .ok (.aload 4, 2) := by decide +kernel
theorem dX8_insert_9 : decode cX8_insert 9 = .ok (.iload_n 2, 1) := by decide +kernel
theorem dX8_insert_10 : decode cX8_insert 10 = .ok (.iconst 1, 1) := by decide +kernel
theorem dX8_insert_11 : decode cX8_insert 11 = .ok (.invokestatic 59, 3) := by decide +kernel
theorem dX8_insert_14 : decode cX8_insert 14 = .ok (.iload_n 3, 1) := by decide +kernel
theorem dX8_insert_15 : decode cX8_insert 15 = .ok (.invokestatic 63, 3) := by decide +kernel
theorem dX8_insert_18 : decode cX8_insert 18 = .ok (.ifCond .ne 13, 3) := by decide +kernel
theorem dX8_insert_21 : decode cX8_insert 21 = .ok (.new 67, 3) := by decide +kernel
theorem dX8_insert_24 : decode cX8_insert 24 = .ok (.dup, 1) := by decide +kernel
theorem dX8_insert_25 : decode cX8_insert 25 = .ok (.ldc 69, 2) := by decide +kernel
theorem dX8_insert_27 : decode cX8_insert 27 = .ok (.invokespecial 71, 3) := by decide +kernel
theorem dX8_insert_30 : decode cX8_insert 30 = .ok (.athrow, 1) := by decide +kernel
theorem dX8_insert_31 : decode cX8_insert 31 = .ok (.aload 4, 2) := by decide +kernel
theorem dX8_insert_33 : decode cX8_insert 33 = .ok (.getfield 72, 3) := by decide +kernel
theorem dX8_insert_36 : decode cX8_insert 36 = .ok (.getfield 76, 3) := by decide +kernel
theorem dX8_insert_39 : decode cX8_insert 39 = .ok (.bipush 80, 2) := by decide +kernel
theorem dX8_insert_41 : decode cX8_insert 41 = .ok (.if_icmp .lt 13, 3) := by decide +kernel
theorem dX8_insert_44 : decode cX8_insert 44 = .ok (.new 45, 3) := by decide +kernel
theorem dX8_insert_47 : decode cX8_insert 47 = .ok (.dup, 1) := by decide +kernel
theorem dX8_insert_48 : decode cX8_insert 48 = .ok (.ldc 81, 2) := by decide +kernel
theorem dX8_insert_50 : decode cX8_insert 50 = .ok (.invokespecial 49, 3) := by decide +kernel
theorem dX8_insert_53 : decode cX8_insert 53 = .ok (.athrow, 1) := by decide +kernel
theorem dX8_insert_54 : decode cX8_insert 54 = .ok (.aload_n 0, 1) := by decide +kernel
theorem dX8_insert_55 : decode cX8_insert 55 = .ok (.aload 4, 2) := by decide +kernel
theorem dX8_insert_57 : decode cX8_insert 57 = .ok (.iload_n 2, 1) := by decide +kernel
theorem dX8_insert_58 : decode cX8_insert 58 = .ok (.iconst 1, 1) := by decide +kernel
theorem dX8_insert_59 : decode cX8_insert 59 = .ok (.invokevirtual 83, 3) := by decide +kernel
theorem dX8_insert_62 : decode cX8_insert 62 = .ok (.aload 4, 2) := by decide +kernel
theorem dX8_insert_64 : decode cX8_insert 64 = .ok (.getfield 72, 3) := by decide +kernel
theorem dX8_insert_67 : decode cX8_insert 67 = .ok (.iload_n 2, 1) := by decide +kernel
theorem dX8_insert_68 : decode cX8_insert 68 = .ok (.iload_n 3, 1) := by decide +kernel
theorem dX8_insert_69 : decode cX8_insert 69 = .ok (.invokevirtual 86, 3) := by decide +kernel
theorem dX8_insert_72 : decode cX8_insert 72 = .ok (.aload 4, 2) := by decide +kernel
theorem dX8_insert_74 : decode cX8_insert 74 = .ok (.dup, 1) := by decide +kernel
theorem dX8_insert_75 : decode cX8_insert 75 = .ok (.getfield 90, 3) := by decide +kernel
theorem dX8_insert_78 : decode cX8_insert 78 = .ok (.iconst 1, 1) := by decide +kernel
theorem dX8_insert_79 : decode cX8_insert 79 = .ok (.iadd, 1) := by decide +kernel
theorem dX8_insert_80 : decode cX8_insert 80 = .ok (.putfield 90, 3) := by decide +kernel
theorem dX8_insert_83 : decode cX8_insert 83 = .ok (.aload_n 0, 1) := by decide +kernel
theorem dX8_insert_84 : decode cX8_insert 84 = .ok (.aload 4, 2) := by decide +kernel
theorem dX8_insert_86 : decode cX8_insert 86 = .ok (.iload_n 2, 1) := by decide +kernel
theorem dX8_insert_87 : decode cX8_insert 87 = .ok (.invokevirtual 93, 3) := by decide +kernel
theorem dX8_insert_90 : decode cX8_insert 90 = .ok (.aload_n 0, 1) := by decide +kernel
theorem dX8_insert_91 : decode cX8_insert 91 = .ok (.getfield 30, 3) := by decide +kernel
theorem dX8_insert_94 : decode cX8_insert 94 = .ok (.iload_n 1, 1) := by decide +kernel
theorem dX8_insert_95 : decode cX8_insert 95 = .ok (.iload_n 2, 1) := by decide +kernel
theorem dX8_insert_96 : decode cX8_insert 96 = .ok (.iload_n 3, 1) := by decide +kernel
theorem dX8_insert_97 : decode cX8_insert 97 = .ok (.invokevirtual 97, 3) := by decide +kernel
theorem dX8_insert_100 : decode cX8_insert 100 = .ok (.aload 4, 2) := by decide +kernel
theorem dX8_insert_102 : decode cX8_insert 102 = .ok (.getfield 90, 3) := by decide +kernel
theorem dX8_insert_105 : decode cX8_insert 105 = .ok (.ireturn, 1) := by decide +kernel
theorem dX8_delete_0 : decode cX8_delete 0 = .ok (.aload_n 0, 1) := by decide +kernel
theorem dX8_delete_1 : decode cX8_delete 1 = .ok (.iload_n 1, 1) := by decide +kernel
theorem dX8_delete_2 : decode cX8_delete 2 = .ok (.invokevirtual 55, 3) := by decide +kernel
theorem dX8_delete_5 : decode cX8_delete 5 = .ok (.astore_n 3, 1) := by decide +kernel
theorem dX8_delete_6 : decode cX8_delete 6 = .ok (.aload_n 3, 1) := by decide +kernel
theorem dX8_delete_7 : decode cX8_delete 7 = .ok (.iload_n 2, 1) := by decide +kernel
theorem dX8_delete_8 : decode cX8_delete 8 = .ok (.iconst 0, 1) := by decide +kernel
theorem dX8_delete_9 : decode cX8_delete 9 = .ok (.invokestatic 59, 3) := by decide +kernel
theorem dX8_delete_12 : decode cX8_delete 12 = .ok (.aload_n 0, 1) := by decide +kernel
theorem dX8_delete_13 : decode cX8_delete 13 = .ok (.aload_n 3, 1) := by decide +kernel
theorem dX8_delete_14 : decode cX8_delete 14 = .ok (.iload_n 2, 1) := by decide +kernel
theorem dX8_delete_15 : decode cX8_delete 15 = .ok (.iconst 0, 1) := by decide +kernel
theorem dX8_delete_16 : decode cX8_delete 16 = .ok (.invokevirtual 83, 3) := by decide +kernel
theorem dX8_delete_19 : decode cX8_delete 19 = .ok (.aload_n 3, 1) := by decide +kernel
theorem dX8_delete_20 : decode cX8_delete 20 = .ok (.getfield 72, 3) := by decide +kernel
theorem dX8_delete_23 : decode cX8_delete 23 = .ok (.iload_n 2, 1) := by decide +kernel
theorem dX8_delete_24 : decode cX8_delete 24 = .ok (.invokevirtual 101, 3) := by decide +kernel
theorem dX8_delete_27 : decode cX8_delete 27 = .ok (.istore 4, 2) := by decide +kernel
theorem dX8_delete_29 : decode cX8_delete 29 = .ok (.aload_n 3, 1) := by decide +kernel
theorem dX8_delete_30 : decode cX8_delete 30 = .ok (.getfield 72, 3) := by decide +kernel
theorem dX8_delete_33 : decode cX8_delete 33 = .ok (.iload_n 2, 1) := by decide +kernel
theorem dX8_delete_34 : decode cX8_delete 34 = .ok (.invokevirtual 105, 3) := by decide +kernel
theorem dX8_delete_37 : decode cX8_delete 37 = .ok (.aload_n 3, 1) := by decide +kernel
theorem dX8_delete_38 : decode cX8_delete 38 = .ok (.dup, 1) := by decide +kernel
theorem dX8_delete_39 : decode cX8_delete 39 = .ok (.getfield 90, 3) := by decide +kernel
theorem dX8_delete_42 : decode cX8_delete 42 = .ok (.iconst 1, 1) := by decide +kernel
theorem dX8_delete_43 : decode cX8_delete 43 = .ok (.iadd, 1) := by decide +kernel
theorem dX8_delete_44 : decode cX8_delete 44 = .ok (.putfield 90, 3) := by decide +kernel
theorem dX8_delete_47 : decode cX8_delete 47 = .ok (.aload_n 0, 1) := by decide +kernel
theorem dX8_delete_48 : decode cX8_delete 48 = .ok (.aload_n 3, 1) := by decide +kernel
theorem dX8_delete_49 : decode cX8_delete 49 = .ok (.iload_n 2, 1) := by decide +kernel
theorem dX8_delete_50 : decode cX8_delete 50 = .ok (.invokevirtual 108, 3) := by decide +kernel
theorem dX8_delete_53 : decode cX8_delete 53 = .ok (.aload_n 0, 1) := by decide +kernel
theorem dX8_delete_54 : decode cX8_delete 54 = .ok (.getfield 30, 3) := by decide +kernel
theorem dX8_delete_57 : decode cX8_delete 57 = .ok (.iload_n 1, 1) := by decide +kernel
theorem dX8_delete_58 : decode cX8_delete 58 = .ok (.iload_n 2, 1) := by decide +kernel
theorem dX8_delete_59 : decode cX8_delete 59 = .ok (.invokevirtual 111, 3) := by decide +kernel
theorem dX8_delete_62 : decode cX8_delete 62 = .ok (.iload 4, 2) := by decide +kernel
theorem dX8_delete_64 : decode cX8_delete 64 = .ok (.ireturn, 1) := by decide +kernel
theorem dX8_bar_0 : decode cX8_bar 0 = .ok (.aload_n 0, 1) := by decide +kernel
theorem dX8_bar_1 : decode cX8_bar 1 = .ok (.iload_n 1, 1) := by decide +kernel
theorem dX8_bar_2 : decode cX8_bar 2 = .ok (.invokevirtual 55, 3) := by decide +kernel
theorem dX8_bar_5 : decode cX8_bar 5 = .ok (.astore 4, 2) := by decide +kernel
theorem dX8_bar_7 : decode cX8_bar 7 = .ok (.aload 4, 2) := by decide +kernel
theorem dX8_bar_9 : decode cX8_bar 9 = .ok (.iload_n 2, 1) := by decide +kernel
theorem dX8_bar_10 : decode cX8_bar 10 = .ok (.iload_n 3, 1) := by decide +kernel
theorem dX8_bar_11 : decode cX8_bar 11 = .ok (.invokestatic 59, 3) := by decide +kernel
theorem dX8_bar_14 : decode cX8_bar 14 = .ok (.aload_n 0, 1) := by decide +kernel
theorem dX8_bar_15 : decode cX8_bar 15 = .ok (.aload 4, 2) := by decide +kernel
theorem dX8_bar_17 : decode cX8_bar 17 = .ok (.iload_n 2, 1) := by decide +kernel
theorem dX8_bar_18 : decode cX8_bar 18 = .ok (.iload_n 3, 1) := by decide +kernel
theorem dX8_bar_19 : decode cX8_bar 19 = .ok (.invokevirtual 114, 3) := by decide +kernel
theorem dX8_bar_22 : decode cX8_bar 22 = .ok (.ireturn, 1) := by decide +kernel
theorem dX8_close_0 : decode cX8_close 0 = .ok (.aload_n 0, 1) := by decide +kernel
theorem dX8_close_1 : decode cX8_close 1 = .ok (.iload_n 1, 1) := by decide +kernel
theorem dX8_close_2 : decode cX8_close 2 = .ok (.invokevirtual 55, 3) := by decide +kernel
theorem dX8_close_5 : decode cX8_close 5 = .ok (.astore_n 3, 1) := by decide +kernel
theorem dX8_close_6 : decode cX8_close 6 = .ok (.iload_n 2, 1) := by decide +kernel
theorem dX8_close_7 : decode cX8_close 7 = .ok (.ifCond .lt 10, 3) := by decide +kernel
theorem dX8_close_10 : decode cX8_close 10 = .ok (.iload_n 2, 1) := by decide +kernel
theorem dX8_close_11 : decode cX8_close 11 = .ok (.sipush 999, 3) := by decide +kernel
theorem dX8_close_14 : decode cX8_close 14 = .ok (.if_icmp .le 13, 3) := by decide +kernel
theorem dX8_close_17 : decode cX8_close 17 = .ok (.new 67, 3) := by decide +kernel
theorem dX8_close_20 : decode cX8_close 20 = .ok (.dup, 1) := by decide +kernel
theorem dX8_close_21 : decode cX8_close 21 = .ok (.ldc 118, 2) := by decide +kernel
theorem dX8_close_23 : decode cX8_close 23 = .ok (.invokespecial 71, 3) := by decide +kernel
theorem dX8_close_26 : decode cX8_close 26 = .ok (.athrow, 1) := by decide +kernel
theorem dX8_close_27 : decode cX8_close 27 = .ok (.aload_n 3, 1) := by decide +kernel
theorem dX8_close_28 : decode cX8_close 28 = .ok (.getfield 120, 3) := by decide +kernel
theorem dX8_close_31 : decode cX8_close 31 = .ok (.istore 4, 2) := by decide +kernel
theorem dX8_close_33 : decode cX8_close 33 = .ok (.aload_n 3, 1) := by decide +kernel
theorem dX8_close_34 : decode cX8_close 34 = .ok (.iload_n 2, 1) := by decide +kernel
theorem dX8_close_35 : decode cX8_close 35 = .ok (.putfield 120, 3) := by decide +kernel
theorem dX8_close_38 : decode cX8_close 38 = .ok (.iload 4, 2) := by decide +kernel
theorem dX8_close_40 : decode cX8_close 40 = .ok (.ireturn, 1) := by decide +kernel
theorem dX8_length_0 : decode cX8_length 0 = .ok (.aload_n 0, 1) := by decide +kernel
theorem dX8_length_1 : decode cX8_length 1 = .ok (.iload_n 1, 1) := by decide +kernel
theorem dX8_length_2 : decode cX8_length 2 = .ok (.invokevirtual 55, 3) := by decide +kernel
theorem dX8_length_5 : decode cX8_length 5 = .ok (.getfield 72, 3) := by decide +kernel
theorem dX8_length_8 : decode cX8_length 8 = .ok (.getfield 76, 3) := by decide +kernel
theorem dX8_length_11 : decode cX8_length 11 = .ok (.ireturn, 1) := by decide +kernel
theorem dX8_codeAt_0 : decode cX8_codeAt 0 = .ok (.aload_n 0, 1) := by decide +kernel
theorem dX8_codeAt_1 : decode cX8_codeAt 1 = .ok (.iload_n 1, 1) := by decide +kernel
theorem dX8_codeAt_2 : decode cX8_codeAt 2 = .ok (.invokevirtual 55, 3) := by decide +kernel
theorem dX8_codeAt_5 : decode cX8_codeAt 5 = .ok (.getfield 72, 3) := by decide +kernel
theorem dX8_codeAt_8 : decode cX8_codeAt 8 = .ok (.astore_n 3, 1) := by decide +kernel
theorem dX8_codeAt_9 : decode cX8_codeAt 9 = .ok (.iload_n 2, 1) := by decide +kernel
theorem dX8_codeAt_10 : decode cX8_codeAt 10 = .ok (.ifCond .lt 11, 3) := by decide +kernel
theorem dX8_codeAt_13 : decode cX8_codeAt 13 = .ok (.iload_n 2, 1) := by decide +kernel
theorem dX8_codeAt_14 : decode cX8_codeAt 14 = .ok (.aload_n 3, 1) := by decide +kernel
theorem dX8_codeAt_15 : decode cX8_codeAt 15 = .ok (.getfield 76, 3) := by decide +kernel
theorem dX8_codeAt_18 : decode cX8_codeAt 18 = .ok (.if_icmp .lt 13, 3) := by decide +kernel
theorem dX8_codeAt_21 : decode cX8_codeAt 21 = .ok (.new 123, 3) := by decide +kernel
theorem dX8_codeAt_24 : decode cX8_codeAt 24 = .ok (.dup, 1) := by decide +kernel
theorem dX8_codeAt_25 : decode cX8_codeAt 25 = .ok (.ldc 125, 2) := by decide +kernel
theorem dX8_codeAt_27 : decode cX8_codeAt 27 = .ok (.invokespecial 127, 3) := by decide +kernel
theorem dX8_codeAt_30 : decode cX8_codeAt 30 = .ok (.athrow, 1) := by decide +kernel
theorem dX8_codeAt_31 : decode cX8_codeAt 31 = .ok (.aload_n 3, 1) := by decide +kernel
theorem dX8_codeAt_32 : decode cX8_codeAt 32 = .ok (.iload_n 2, 1) := by decide +kernel
theorem dX8_codeAt_33 : decode cX8_codeAt 33 = .ok (.invokevirtual 101, 3) := by decide +kernel
theorem dX8_codeAt_36 : decode cX8_codeAt 36 = .ok (.ireturn, 1) := by decide +kernel
theorem dX8_version_0 : decode cX8_version 0 = .ok (.aload_n 0, 1) := by decide +kernel
theorem dX8_version_1 : decode cX8_version 1 = .ok (.iload_n 1, 1) := by decide +kernel
theorem dX8_version_2 : decode cX8_version 2 = .ok (.invokevirtual 55, 3) := by decide +kernel
theorem dX8_version_5 : decode cX8_version 5 = .ok (.getfield 90, 3) := by decide +kernel
theorem dX8_version_8 : decode cX8_version 8 = .ok (.ireturn, 1) := by decide +kernel
theorem dX8_documentOf_0 : decode cX8_documentOf 0 = .ok (.iload_n 1, 1) := by decide +kernel
theorem dX8_documentOf_1 : decode cX8_documentOf 1 = .ok (.ifCond .lt 11, 3) := by decide +kernel
theorem dX8_documentOf_4 : decode cX8_documentOf 4 = .ok (.iload_n 1, 1) := by decide +kernel
theorem dX8_documentOf_5 : decode cX8_documentOf 5 = .ok (.aload_n 0, 1) := by decide +kernel
theorem dX8_documentOf_6 : decode cX8_documentOf 6 = .ok (.getfield 41, 3) := by decide +kernel
theorem dX8_documentOf_9 : decode cX8_documentOf 9 = .ok (.if_icmp .lt 13, 3) := by decide +kernel
theorem dX8_documentOf_12 : decode cX8_documentOf 12 = .ok (.new 128, 3) := by decide +kernel
theorem dX8_documentOf_15 : decode cX8_documentOf 15 = .ok (.dup, 1) := by decide +kernel
theorem dX8_documentOf_16 : decode cX8_documentOf 16 = .ok (.ldc 130, 2) := by decide +kernel
theorem dX8_documentOf_18 : decode cX8_documentOf 18 = .ok (.invokespecial 132, 3) := by decide +kernel
theorem dX8_documentOf_21 : decode cX8_documentOf 21 = .ok (.athrow, 1) := by decide +kernel
theorem dX8_documentOf_22 : decode cX8_documentOf 22 = .ok (.aload_n 0, 1) := by decide +kernel
theorem dX8_documentOf_23 : decode cX8_documentOf 23 = .ok (.getfield 11, 3) := by decide +kernel
theorem dX8_documentOf_26 : decode cX8_documentOf 26 = .ok (.iload_n 1, 1) := by decide +kernel
theorem dX8_documentOf_27 : decode cX8_documentOf 27 = .ok (.aaload, 1) := by decide +kernel
theorem dX8_documentOf_28 : decode cX8_documentOf 28 = .ok (.areturn, 1) := by decide +kernel
theorem dX8_isCode_0 : decode cX8_isCode 0 = .ok (.iload_n 0, 1) := by decide +kernel
theorem dX8_isCode_1 : decode cX8_isCode 1 = .ok (.bipush 32, 2) := by decide +kernel
theorem dX8_isCode_3 : decode cX8_isCode 3 = .ok (.if_icmp .eq 27, 3) := by decide +kernel
theorem dX8_isCode_6 : decode cX8_isCode 6 = .ok (.iload_n 0, 1) := by decide +kernel
theorem dX8_isCode_7 : decode cX8_isCode 7 = .ok (.bipush 97, 2) := by decide +kernel
theorem dX8_isCode_9 : decode cX8_isCode 9 = .ok (.if_icmp .lt 9, 3) := by decide +kernel
theorem dX8_isCode_12 : decode cX8_isCode 12 = .ok (.iload_n 0, 1) := by decide +kernel
theorem dX8_isCode_13 : decode cX8_isCode 13 = .ok (.bipush 122, 2) := by decide +kernel
theorem dX8_isCode_15 : decode cX8_isCode 15 = .ok (.if_icmp .le 15, 3) := by decide +kernel
theorem dX8_isCode_18 : decode cX8_isCode 18 = .ok (.iload_n 0, 1) := by decide +kernel
theorem dX8_isCode_19 : decode cX8_isCode 19 = .ok (.ldc 133, 2) := by decide +kernel
theorem dX8_isCode_21 : decode cX8_isCode 21 = .ok (.if_icmp .lt 13, 3) := by decide +kernel
theorem dX8_isCode_24 : decode cX8_isCode 24 = .ok (.iload_n 0, 1) := by decide +kernel
theorem dX8_isCode_25 : decode cX8_isCode 25 = .ok (.ldc 134, 2) := by decide +kernel
theorem dX8_isCode_27 : decode cX8_isCode 27 = .ok (.if_icmp .gt 7, 3) := by decide +kernel
theorem dX8_isCode_30 : decode cX8_isCode 30 = .ok (.iconst 1, 1) := by decide +kernel
theorem dX8_isCode_31 : decode cX8_isCode 31 = .ok (.goto 4, 3) := by decide +kernel
theorem dX8_isCode_34 : decode cX8_isCode 34 = .ok (.iconst 0, 1) := by decide +kernel
theorem dX8_isCode_35 : decode cX8_isCode 35 = .ok (.ireturn, 1) := by decide +kernel
theorem dX8_requirePlaceOfEdit_0 : decode cX8_requirePlaceOfEdit 0 = .ok (.iload_n 2, 1) := by decide +kernel
theorem dX8_requirePlaceOfEdit_1 : decode cX8_requirePlaceOfEdit 1 = .ok (.ifCond .eq 15, 3) := by decide +kernel
theorem dX8_requirePlaceOfEdit_4 : decode cX8_requirePlaceOfEdit 4 = .ok (.aload_n 0, 1) := by decide +kernel
theorem dX8_requirePlaceOfEdit_5 : decode cX8_requirePlaceOfEdit 5 = .ok (.getfield 72, 3) := by decide +kernel
theorem dX8_requirePlaceOfEdit_8 : decode cX8_requirePlaceOfEdit 8 = .ok (.getfield 76, 3) := by decide +kernel
theorem dX8_requirePlaceOfEdit_11 : decode cX8_requirePlaceOfEdit 11 = .ok (.iconst 1, 1) := by decide +kernel
theorem dX8_requirePlaceOfEdit_12 : decode cX8_requirePlaceOfEdit 12 = .ok (.iadd, 1) := by decide +kernel
theorem dX8_requirePlaceOfEdit_13 : decode cX8_requirePlaceOfEdit 13 = .ok (.goto 10, 3) := by decide +kernel
theorem dX8_requirePlaceOfEdit_16 : decode cX8_requirePlaceOfEdit 16 = .ok (.aload_n 0, 1) := by decide +kernel
theorem dX8_requirePlaceOfEdit_17 : decode cX8_requirePlaceOfEdit 17 = .ok (.getfield 72, 3) := by decide +kernel
theorem dX8_requirePlaceOfEdit_20 : decode cX8_requirePlaceOfEdit 20 = .ok (.getfield 76, 3) := by decide +kernel
theorem dX8_requirePlaceOfEdit_23 : decode cX8_requirePlaceOfEdit 23 = .ok (.istore_n 3, 1) := by decide +kernel
theorem dX8_requirePlaceOfEdit_24 : decode cX8_requirePlaceOfEdit 24 = .ok (.iload_n 1, 1) := by decide +kernel
theorem dX8_requirePlaceOfEdit_25 : decode cX8_requirePlaceOfEdit 25 = .ok (.ifCond .lt 8, 3) := by decide +kernel
theorem dX8_requirePlaceOfEdit_28 : decode cX8_requirePlaceOfEdit 28 = .ok (.iload_n 1, 1) := by decide +kernel
theorem dX8_requirePlaceOfEdit_29 : decode cX8_requirePlaceOfEdit 29 = .ok (.iload_n 3, 1) := by decide +kernel
theorem dX8_requirePlaceOfEdit_30 : decode cX8_requirePlaceOfEdit 30 = .ok (.if_icmp .lt 13, 3) := by decide +kernel
theorem dX8_requirePlaceOfEdit_33 : decode cX8_requirePlaceOfEdit 33 = .ok (.new 123, 3) := by decide +kernel
theorem dX8_requirePlaceOfEdit_36 : decode cX8_requirePlaceOfEdit 36 = .ok (.dup, 1) := by decide +kernel
theorem dX8_requirePlaceOfEdit_37 : decode cX8_requirePlaceOfEdit 37 = .ok (.ldc 125, 2) := by decide +kernel
theorem dX8_requirePlaceOfEdit_39 : decode cX8_requirePlaceOfEdit 39 = .ok (.invokespecial 127, 3) := by decide +kernel
theorem dX8_requirePlaceOfEdit_42 : decode cX8_requirePlaceOfEdit 42 = .ok (.athrow, 1) := by decide +kernel
theorem dX8_requirePlaceOfEdit_43 : decode cX8_requirePlaceOfEdit 43 = .ok (.return_, 1) := by decide +kernel
theorem dX8_requireNotBarred_0 : decode cX8_requireNotBarred 0 = .ok (.aload_n 0, 1) := by decide +kernel
theorem dX8_requireNotBarred_1 : decode cX8_requireNotBarred 1 = .ok (.aload_n 1, 1) := by decide +kernel
theorem dX8_requireNotBarred_2 : decode cX8_requireNotBarred 2 = .ok (.iload_n 2, 1) := by decide +kernel
theorem dX8_requireNotBarred_3 : decode cX8_requireNotBarred 3 = .ok (.iload_n 3, 1) := by decide +kernel
theorem dX8_requireNotBarred_4 : decode cX8_requireNotBarred 4 = .ok (.invokevirtual 114, 3) := by decide +kernel
theorem dX8_requireNotBarred_7 : decode cX8_requireNotBarred 7 = .ok (.bipush 45, 2) := by decide +kernel
theorem dX8_requireNotBarred_9 : decode cX8_requireNotBarred 9 = .ok (.if_icmp .eq 13, 3) := by decide +kernel
theorem dX8_requireNotBarred_12 : decode cX8_requireNotBarred 12 = .ok (.new 135, 3) := by decide +kernel
theorem dX8_requireNotBarred_15 : decode cX8_requireNotBarred 15 = .ok (.dup, 1) := by decide +kernel
theorem dX8_requireNotBarred_16 : decode cX8_requireNotBarred 16 = .ok (.ldc 137, 2) := by decide +kernel
theorem dX8_requireNotBarred_18 : decode cX8_requireNotBarred 18 = .ok (.invokespecial 139, 3) := by decide +kernel
theorem dX8_requireNotBarred_21 : decode cX8_requireNotBarred 21 = .ok (.athrow, 1) := by decide +kernel
theorem dX8_requireNotBarred_22 : decode cX8_requireNotBarred 22 = .ok (.return_, 1) := by decide +kernel
theorem dX8_barOf_0 : decode cX8_barOf 0 = .ok (.aload_n 0, 1) := by decide +kernel
theorem dX8_barOf_1 : decode cX8_barOf 1 = .ok (.getfield 140, 3) := by decide +kernel
theorem dX8_barOf_4 : decode cX8_barOf 4 = .ok (.aload_n 1, 1) := by decide +kernel
theorem dX8_barOf_5 : decode cX8_barOf 5 = .ok (.getfield 120, 3) := by decide +kernel
theorem dX8_barOf_8 : decode cX8_barOf 8 = .ok (.if_icmp .lt 6, 3) := by decide +kernel
theorem dX8_barOf_11 : decode cX8_barOf 11 = .ok (.bipush 99, 2) := by decide +kernel
theorem dX8_barOf_13 : decode cX8_barOf 13 = .ok (.ireturn, 1) := by decide +kernel
theorem dX8_barOf_14 : decode cX8_barOf 14 = .ok (.aload_n 0, 1) := by decide +kernel
theorem dX8_barOf_15 : decode cX8_barOf 15 = .ok (.aload_n 1, 1) := by decide +kernel
theorem dX8_barOf_16 : decode cX8_barOf 16 = .ok (.iload_n 2, 1) := by decide +kernel
theorem dX8_barOf_17 : decode cX8_barOf 17 = .ok (.iload_n 3, 1) := by decide +kernel
theorem dX8_barOf_18 : decode cX8_barOf 18 = .ok (.invokevirtual 143, 3) := by decide +kernel
theorem dX8_barOf_21 : decode cX8_barOf 21 = .ok (.ifCond .eq 6, 3) := by decide +kernel
theorem dX8_barOf_24 : decode cX8_barOf 24 = .ok (.bipush 102, 2) := by decide +kernel
theorem dX8_barOf_26 : decode cX8_barOf 26 = .ok (.ireturn, 1) := by decide +kernel
theorem dX8_barOf_27 : decode cX8_barOf 27 = .ok (.aload_n 0, 1) := by decide +kernel
theorem dX8_barOf_28 : decode cX8_barOf 28 = .ok (.getfield 37, 3) := by decide +kernel
theorem dX8_barOf_31 : decode cX8_barOf 31 = .ok (.aload_n 1, 1) := by decide +kernel
theorem dX8_barOf_32 : decode cX8_barOf 32 = .ok (.iload_n 2, 1) := by decide +kernel
theorem dX8_barOf_33 : decode cX8_barOf 33 = .ok (.invokevirtual 147, 3) := by decide +kernel
theorem dX8_barOf_36 : decode cX8_barOf 36 = .ok (.ifCond .eq 6, 3) := by decide +kernel
theorem dX8_barOf_39 : decode cX8_barOf 39 = .ok (.bipush 108, 2) := by decide +kernel
theorem dX8_barOf_41 : decode cX8_barOf 41 = .ok (.ireturn, 1) := by decide +kernel
theorem dX8_barOf_42 : decode cX8_barOf 42 = .ok (.bipush 45, 2) := by decide +kernel
theorem dX8_barOf_44 : decode cX8_barOf 44 = .ok (.ireturn, 1) := by decide +kernel
theorem dX8_isFrozen_0 : decode cX8_isFrozen 0 = .ok (.iconst 0, 1) := by decide +kernel
theorem dX8_isFrozen_1 : decode cX8_isFrozen 1 = .ok (.istore 4, 2) := by decide +kernel
theorem dX8_isFrozen_3 : decode cX8_isFrozen 3 = .ok (.iload 4, 2) := by decide +kernel
theorem dX8_isFrozen_5 : decode cX8_isFrozen 5 = .ok (.aload_n 0, 1) := by decide +kernel
theorem dX8_isFrozen_6 : decode cX8_isFrozen 6 = .ok (.getfield 151, 3) := by decide +kernel
theorem dX8_isFrozen_9 : decode cX8_isFrozen 9 = .ok (.if_icmp .ge 40, 3) := by decide +kernel
theorem dX8_isFrozen_12 : decode cX8_isFrozen 12 = .ok (.aload_n 0, 1) := by decide +kernel
theorem dX8_isFrozen_13 : decode cX8_isFrozen 13 = .ok (.getfield 17, 3) := by decide +kernel
theorem dX8_isFrozen_16 : decode cX8_isFrozen 16 = .ok (.iload 4, 2) := by decide +kernel
theorem dX8_isFrozen_18 : decode cX8_isFrozen 18 = .ok (.aaload, 1) := by decide +kernel
theorem dX8_isFrozen_19 : decode cX8_isFrozen 19 = .ok (.aload_n 1, 1) := by decide +kernel
theorem dX8_isFrozen_20 : decode cX8_isFrozen 20 = .ok (.invokevirtual 154, 3) := by decide +kernel
theorem dX8_isFrozen_23 : decode cX8_isFrozen 23 = .ok (.ifCond .eq 20, 3) := by decide +kernel
theorem dX8_isFrozen_26 : decode cX8_isFrozen 26 = .ok (.aload_n 0, 1) := by decide +kernel
theorem dX8_isFrozen_27 : decode cX8_isFrozen 27 = .ok (.getfield 17, 3) := by decide +kernel
theorem dX8_isFrozen_30 : decode cX8_isFrozen 30 = .ok (.iload 4, 2) := by decide +kernel
theorem dX8_isFrozen_32 : decode cX8_isFrozen 32 = .ok (.aaload, 1) := by decide +kernel
theorem dX8_isFrozen_33 : decode cX8_isFrozen 33 = .ok (.iload_n 2, 1) := by decide +kernel
theorem dX8_isFrozen_34 : decode cX8_isFrozen 34 = .ok (.iload_n 3, 1) := by decide +kernel
theorem dX8_isFrozen_35 : decode cX8_isFrozen 35 = .ok (.invokevirtual 158, 3) := by decide +kernel
theorem dX8_isFrozen_38 : decode cX8_isFrozen 38 = .ok (.ifCond .eq 5, 3) := by decide +kernel
theorem dX8_isFrozen_41 : decode cX8_isFrozen 41 = .ok (.iconst 1, 1) := by decide +kernel
theorem dX8_isFrozen_42 : decode cX8_isFrozen 42 = .ok (.ireturn, 1) := by decide +kernel
theorem dX8_isFrozen_43 : decode cX8_isFrozen 43 = .ok (.iinc 4 1, 3) := by decide +kernel
theorem dX8_isFrozen_46 : decode cX8_isFrozen 46 = .ok (.goto (-43), 3) := by decide +kernel
theorem dX8_isFrozen_49 : decode cX8_isFrozen 49 = .ok (.iconst 0, 1) := by decide +kernel
theorem dX8_isFrozen_50 : decode cX8_isFrozen 50 = .ok (.ireturn, 1) := by decide +kernel
theorem dX8_moveSpansForInsertion_0 : decode cX8_moveSpansForInsertion 0 = .ok (.iconst 0, 1) := by decide +kernel
theorem dX8_moveSpansForInsertion_1 : decode cX8_moveSpansForInsertion 1 = .ok (.istore_n 3, 1) := by decide +kernel
theorem dX8_moveSpansForInsertion_2 : decode cX8_moveSpansForInsertion 2 = .ok (.iload_n 3, 1) := by decide +kernel
theorem dX8_moveSpansForInsertion_3 : decode cX8_moveSpansForInsertion 3 = .ok (.aload_n 0, 1) := by decide +kernel
theorem dX8_moveSpansForInsertion_4 : decode cX8_moveSpansForInsertion 4 = .ok (.getfield 151, 3) := by decide +kernel
theorem dX8_moveSpansForInsertion_7 : decode cX8_moveSpansForInsertion 7 = .ok (.if_icmp .ge 45, 3) := by decide +kernel
theorem dX8_moveSpansForInsertion_10 : decode cX8_moveSpansForInsertion 10 = .ok (.aload_n 0, 1) := by decide +kernel
theorem dX8_moveSpansForInsertion_11 : decode cX8_moveSpansForInsertion 11 = .ok (.getfield 17, 3) := by decide +kernel
theorem dX8_moveSpansForInsertion_14 : decode cX8_moveSpansForInsertion 14 = .ok (.iload_n 3, 1) := by decide +kernel
theorem dX8_moveSpansForInsertion_15 : decode cX8_moveSpansForInsertion 15 = .ok (.aaload, 1) := by decide +kernel
theorem dX8_moveSpansForInsertion_16 : decode cX8_moveSpansForInsertion 16 = .ok (.aload_n 1, 1) := by decide +kernel
theorem dX8_moveSpansForInsertion_17 : decode cX8_moveSpansForInsertion 17 = .ok (.invokevirtual 154, 3) := by decide +kernel
theorem dX8_moveSpansForInsertion_20 : decode cX8_moveSpansForInsertion 20 = .ok (.ifCond .eq 26, 3) := by decide +kernel
theorem dX8_moveSpansForInsertion_23 : decode cX8_moveSpansForInsertion 23 = .ok (.iload_n 2, 1) := by decide +kernel
theorem dX8_moveSpansForInsertion_24 : decode cX8_moveSpansForInsertion 24 = .ok (.aload_n 0, 1) := by decide +kernel
theorem dX8_moveSpansForInsertion_25 : decode cX8_moveSpansForInsertion 25 = .ok (.getfield 17, 3) := by decide +kernel
theorem dX8_moveSpansForInsertion_28 : decode cX8_moveSpansForInsertion 28 = .ok (.iload_n 3, 1) := by decide +kernel
theorem dX8_moveSpansForInsertion_29 : decode cX8_moveSpansForInsertion 29 = .ok (.aaload, 1) := by decide +kernel
theorem dX8_moveSpansForInsertion_30 : decode cX8_moveSpansForInsertion 30 = .ok (.getfield 162, 3) := by decide +kernel
theorem dX8_moveSpansForInsertion_33 : decode cX8_moveSpansForInsertion 33 = .ok (.if_icmp .gt 13, 3) := by decide +kernel
theorem dX8_moveSpansForInsertion_36 : decode cX8_moveSpansForInsertion 36 = .ok (.aload_n 0, 1) := by decide +kernel
theorem dX8_moveSpansForInsertion_37 : decode cX8_moveSpansForInsertion 37 = .ok (.getfield 17, 3) := by decide +kernel
theorem dX8_moveSpansForInsertion_40 : decode cX8_moveSpansForInsertion 40 = .ok (.iload_n 3, 1) := by decide +kernel
theorem dX8_moveSpansForInsertion_41 : decode cX8_moveSpansForInsertion 41 = .ok (.aaload, 1) := by decide +kernel
theorem dX8_moveSpansForInsertion_42 : decode cX8_moveSpansForInsertion 42 = .ok (.iconst 1, 1) := by decide +kernel
theorem dX8_moveSpansForInsertion_43 : decode cX8_moveSpansForInsertion 43 = .ok (.invokevirtual 165, 3) := by decide +kernel
theorem dX8_moveSpansForInsertion_46 : decode cX8_moveSpansForInsertion 46 = .ok (.iinc 3 1, 3) := by decide +kernel
theorem dX8_moveSpansForInsertion_49 : decode cX8_moveSpansForInsertion 49 = .ok (.goto (-47), 3) := by decide +kernel
theorem dX8_moveSpansForInsertion_52 : decode cX8_moveSpansForInsertion 52 = .ok (.return_, 1) := by decide +kernel
theorem dX8_moveSpansForDeletion_0 : decode cX8_moveSpansForDeletion 0 = .ok (.iconst 0, 1) := by decide +kernel
theorem dX8_moveSpansForDeletion_1 : decode cX8_moveSpansForDeletion 1 = .ok (.istore_n 3, 1) := by decide +kernel
theorem dX8_moveSpansForDeletion_2 : decode cX8_moveSpansForDeletion 2 = .ok (.iload_n 3, 1) := by decide +kernel
theorem dX8_moveSpansForDeletion_3 : decode cX8_moveSpansForDeletion 3 = .ok (.aload_n 0, 1) := by decide +kernel
theorem dX8_moveSpansForDeletion_4 : decode cX8_moveSpansForDeletion 4 = .ok (.getfield 151, 3) := by decide +kernel
theorem dX8_moveSpansForDeletion_7 : decode cX8_moveSpansForDeletion 7 = .ok (.if_icmp .ge 45, 3) := by decide +kernel
theorem dX8_moveSpansForDeletion_10 : decode cX8_moveSpansForDeletion 10 = .ok (.aload_n 0, 1) := by decide +kernel
theorem dX8_moveSpansForDeletion_11 : decode cX8_moveSpansForDeletion 11 = .ok (.getfield 17, 3) := by decide +kernel
theorem dX8_moveSpansForDeletion_14 : decode cX8_moveSpansForDeletion 14 = .ok (.iload_n 3, 1) := by decide +kernel
theorem dX8_moveSpansForDeletion_15 : decode cX8_moveSpansForDeletion 15 = .ok (.aaload, 1) := by decide +kernel
theorem dX8_moveSpansForDeletion_16 : decode cX8_moveSpansForDeletion 16 = .ok (.aload_n 1, 1) := by decide +kernel
theorem dX8_moveSpansForDeletion_17 : decode cX8_moveSpansForDeletion 17 = .ok (.invokevirtual 154, 3) := by decide +kernel
theorem dX8_moveSpansForDeletion_20 : decode cX8_moveSpansForDeletion 20 = .ok (.ifCond .eq 26, 3) := by decide +kernel
theorem dX8_moveSpansForDeletion_23 : decode cX8_moveSpansForDeletion 23 = .ok (.iload_n 2, 1) := by decide +kernel
theorem dX8_moveSpansForDeletion_24 : decode cX8_moveSpansForDeletion 24 = .ok (.aload_n 0, 1) := by decide +kernel
theorem dX8_moveSpansForDeletion_25 : decode cX8_moveSpansForDeletion 25 = .ok (.getfield 17, 3) := by decide +kernel
theorem dX8_moveSpansForDeletion_28 : decode cX8_moveSpansForDeletion 28 = .ok (.iload_n 3, 1) := by decide +kernel
theorem dX8_moveSpansForDeletion_29 : decode cX8_moveSpansForDeletion 29 = .ok (.aaload, 1) := by decide +kernel
theorem dX8_moveSpansForDeletion_30 : decode cX8_moveSpansForDeletion 30 = .ok (.getfield 162, 3) := by decide +kernel
theorem dX8_moveSpansForDeletion_33 : decode cX8_moveSpansForDeletion 33 = .ok (.if_icmp .ge 13, 3) := by decide +kernel
theorem dX8_moveSpansForDeletion_36 : decode cX8_moveSpansForDeletion 36 = .ok (.aload_n 0, 1) := by decide +kernel
theorem dX8_moveSpansForDeletion_37 : decode cX8_moveSpansForDeletion 37 = .ok (.getfield 17, 3) := by decide +kernel
theorem dX8_moveSpansForDeletion_40 : decode cX8_moveSpansForDeletion 40 = .ok (.iload_n 3, 1) := by decide +kernel
theorem dX8_moveSpansForDeletion_41 : decode cX8_moveSpansForDeletion 41 = .ok (.aaload, 1) := by decide +kernel
theorem dX8_moveSpansForDeletion_42 : decode cX8_moveSpansForDeletion 42 = .ok (.iconst (-1), 1) := by decide +kernel
theorem dX8_moveSpansForDeletion_43 : decode cX8_moveSpansForDeletion 43 = .ok (.invokevirtual 165, 3) := by decide +kernel
theorem dX8_moveSpansForDeletion_46 : decode cX8_moveSpansForDeletion 46 = .ok (.iinc 3 1, 3) := by decide +kernel
theorem dX8_moveSpansForDeletion_49 : decode cX8_moveSpansForDeletion 49 = .ok (.goto (-47), 3) := by decide +kernel
theorem dX8_moveSpansForDeletion_52 : decode cX8_moveSpansForDeletion 52 = .ok (.return_, 1) := by decide +kernel
theorem dX8_comment_0 : decode cX8_comment 0 = .ok (.aload_n 0, 1) := by decide +kernel
theorem dX8_comment_1 : decode cX8_comment 1 = .ok (.iload_n 1, 1) := by decide +kernel
theorem dX8_comment_2 : decode cX8_comment 2 = .ok (.invokevirtual 55, 3) := by decide +kernel
theorem dX8_comment_5 : decode cX8_comment 5 = .ok (.astore 4, 2) := by decide +kernel
theorem dX8_comment_7 : decode cX8_comment 7 = .ok (.iload_n 2, 1) := by decide +kernel
theorem dX8_comment_8 : decode cX8_comment 8 = .ok (.ifCond .lt 20, 3) := by decide +kernel
theorem dX8_comment_11 : decode cX8_comment 11 = .ok (.iload_n 2, 1) := by decide +kernel
theorem dX8_comment_12 : decode cX8_comment 12 = .ok (.iload_n 3, 1) := by decide +kernel
theorem dX8_comment_13 : decode cX8_comment 13 = .ok (.if_icmp .ge 15, 3) := by decide +kernel
theorem dX8_comment_16 : decode cX8_comment 16 = .ok (.iload_n 3, 1) := by decide +kernel
theorem dX8_comment_17 : decode cX8_comment 17 = .ok (.aload 4, 2) := by decide +kernel
theorem dX8_comment_19 : decode cX8_comment 19 = .ok (.getfield 72, 3) := by decide +kernel
theorem dX8_comment_22 : decode cX8_comment 22 = .ok (.getfield 76, 3) := by decide +kernel
theorem dX8_comment_25 : decode cX8_comment 25 = .ok (.if_icmp .le 13, 3) := by decide +kernel
theorem dX8_comment_28 : decode cX8_comment 28 = .ok (.new 123, 3) := by decide +kernel
theorem dX8_comment_31 : decode cX8_comment 31 = .ok (.dup, 1) := by decide +kernel
theorem dX8_comment_32 : decode cX8_comment 32 = .ok (.ldc 168, 2) := by decide +kernel
theorem dX8_comment_34 : decode cX8_comment 34 = .ok (.invokespecial 127, 3) := by decide +kernel
theorem dX8_comment_37 : decode cX8_comment 37 = .ok (.athrow, 1) := by decide +kernel
theorem dX8_comment_38 : decode cX8_comment 38 = .ok (.aload_n 0, 1) := by decide +kernel
theorem dX8_comment_39 : decode cX8_comment 39 = .ok (.getfield 151, 3) := by decide +kernel
theorem dX8_comment_42 : decode cX8_comment 42 = .ok (.bipush 8, 2) := by decide +kernel
theorem dX8_comment_44 : decode cX8_comment 44 = .ok (.if_icmp .lt 13, 3) := by decide +kernel
theorem dX8_comment_47 : decode cX8_comment 47 = .ok (.new 45, 3) := by decide +kernel
theorem dX8_comment_50 : decode cX8_comment 50 = .ok (.dup, 1) := by decide +kernel
theorem dX8_comment_51 : decode cX8_comment 51 = .ok (.ldc 170, 2) := by decide +kernel
theorem dX8_comment_53 : decode cX8_comment 53 = .ok (.invokespecial 49, 3) := by decide +kernel
theorem dX8_comment_56 : decode cX8_comment 56 = .ok (.athrow, 1) := by decide +kernel
theorem dX8_comment_57 : decode cX8_comment 57 = .ok (.aload_n 0, 1) := by decide +kernel
theorem dX8_comment_58 : decode cX8_comment 58 = .ok (.getfield 151, 3) := by decide +kernel
theorem dX8_comment_61 : decode cX8_comment 61 = .ok (.istore 5, 2) := by decide +kernel
theorem dX8_comment_63 : decode cX8_comment 63 = .ok (.aload_n 0, 1) := by decide +kernel
theorem dX8_comment_64 : decode cX8_comment 64 = .ok (.getfield 17, 3) := by decide +kernel
theorem dX8_comment_67 : decode cX8_comment 67 = .ok (.iload 5, 2) := by decide +kernel
theorem dX8_comment_69 : decode cX8_comment 69 = .ok (.new 15, 3) := by decide +kernel
theorem dX8_comment_72 : decode cX8_comment 72 = .ok (.dup, 1) := by decide +kernel
theorem dX8_comment_73 : decode cX8_comment 73 = .ok (.aload 4, 2) := by decide +kernel
theorem dX8_comment_75 : decode cX8_comment 75 = .ok (.iload_n 2, 1) := by decide +kernel
theorem dX8_comment_76 : decode cX8_comment 76 = .ok (.iload_n 3, 1) := by decide +kernel
theorem dX8_comment_77 : decode cX8_comment 77 = .ok (.invokespecial 172, 3) := by decide +kernel
theorem dX8_comment_80 : decode cX8_comment 80 = .ok (.aastore, 1) := by decide +kernel
theorem dX8_comment_81 : decode cX8_comment 81 = .ok (.aload_n 0, 1) := by decide +kernel
theorem dX8_comment_82 : decode cX8_comment 82 = .ok (.dup, 1) := by decide +kernel
theorem dX8_comment_83 : decode cX8_comment 83 = .ok (.getfield 151, 3) := by decide +kernel
theorem dX8_comment_86 : decode cX8_comment 86 = .ok (.iconst 1, 1) := by decide +kernel
theorem dX8_comment_87 : decode cX8_comment 87 = .ok (.iadd, 1) := by decide +kernel
theorem dX8_comment_88 : decode cX8_comment 88 = .ok (.putfield 151, 3) := by decide +kernel
theorem dX8_comment_91 : decode cX8_comment 91 = .ok (.iload 5, 2) := by decide +kernel
theorem dX8_comment_93 : decode cX8_comment 93 = .ok (.ireturn, 1) := by decide +kernel
theorem dX8_answer_0 : decode cX8_answer 0 = .ok (.aload_n 0, 1) := by decide +kernel
theorem dX8_answer_1 : decode cX8_answer 1 = .ok (.iload_n 1, 1) := by decide +kernel
theorem dX8_answer_2 : decode cX8_answer 2 = .ok (.invokevirtual 175, 3) := by decide +kernel
theorem dX8_answer_5 : decode cX8_answer 5 = .ok (.astore_n 2, 1) := by decide +kernel
theorem dX8_answer_6 : decode cX8_answer 6 = .ok (.aload_n 2, 1) := by decide +kernel
theorem dX8_answer_7 : decode cX8_answer 7 = .ok (.iconst 0, 1) := by decide +kernel
theorem dX8_answer_8 : decode cX8_answer 8 = .ok (.putfield 179, 3) := by decide +kernel
theorem dX8_answer_11 : decode cX8_answer 11 = .ok (.aload_n 0, 1) := by decide +kernel
theorem dX8_answer_12 : decode cX8_answer 12 = .ok (.aload_n 2, 1) := by decide +kernel
theorem dX8_answer_13 : decode cX8_answer 13 = .ok (.getfield 183, 3) := by decide +kernel
theorem dX8_answer_16 : decode cX8_answer 16 = .ok (.invokevirtual 187, 3) := by decide +kernel
theorem dX8_answer_19 : decode cX8_answer 19 = .ok (.ireturn, 1) := by decide +kernel
theorem dX8_isOpen_0 : decode cX8_isOpen 0 = .ok (.aload_n 0, 1) := by decide +kernel
theorem dX8_isOpen_1 : decode cX8_isOpen 1 = .ok (.iload_n 1, 1) := by decide +kernel
theorem dX8_isOpen_2 : decode cX8_isOpen 2 = .ok (.invokevirtual 191, 3) := by decide +kernel
theorem dX8_isOpen_5 : decode cX8_isOpen 5 = .ok (.getfield 179, 3) := by decide +kernel
theorem dX8_isOpen_8 : decode cX8_isOpen 8 = .ok (.ireturn, 1) := by decide +kernel
theorem dX8_spanFrom_0 : decode cX8_spanFrom 0 = .ok (.aload_n 0, 1) := by decide +kernel
theorem dX8_spanFrom_1 : decode cX8_spanFrom 1 = .ok (.iload_n 1, 1) := by decide +kernel
theorem dX8_spanFrom_2 : decode cX8_spanFrom 2 = .ok (.invokevirtual 175, 3) := by decide +kernel
theorem dX8_spanFrom_5 : decode cX8_spanFrom 5 = .ok (.getfield 162, 3) := by decide +kernel
theorem dX8_spanFrom_8 : decode cX8_spanFrom 8 = .ok (.ireturn, 1) := by decide +kernel
theorem dX8_spanTo_0 : decode cX8_spanTo 0 = .ok (.aload_n 0, 1) := by decide +kernel
theorem dX8_spanTo_1 : decode cX8_spanTo 1 = .ok (.iload_n 1, 1) := by decide +kernel
theorem dX8_spanTo_2 : decode cX8_spanTo 2 = .ok (.invokevirtual 175, 3) := by decide +kernel
theorem dX8_spanTo_5 : decode cX8_spanTo 5 = .ok (.getfield 194, 3) := by decide +kernel
theorem dX8_spanTo_8 : decode cX8_spanTo 8 = .ok (.ireturn, 1) := by decide +kernel
theorem dX8_commentOf_0 : decode cX8_commentOf 0 = .ok (.iload_n 1, 1) := by decide +kernel
theorem dX8_commentOf_1 : decode cX8_commentOf 1 = .ok (.ifCond .lt 11, 3) := by decide +kernel
theorem dX8_commentOf_4 : decode cX8_commentOf 4 = .ok (.iload_n 1, 1) := by decide +kernel
theorem dX8_commentOf_5 : decode cX8_commentOf 5 = .ok (.aload_n 0, 1) := by decide +kernel
theorem dX8_commentOf_6 : decode cX8_commentOf 6 = .ok (.getfield 151, 3) := by decide +kernel
theorem dX8_commentOf_9 : decode cX8_commentOf 9 = .ok (.if_icmp .lt 13, 3) := by decide +kernel
theorem dX8_commentOf_12 : decode cX8_commentOf 12 = .ok (.new 128, 3) := by decide +kernel
theorem dX8_commentOf_15 : decode cX8_commentOf 15 = .ok (.dup, 1) := by decide +kernel
theorem dX8_commentOf_16 : decode cX8_commentOf 16 = .ok (.ldc 197, 2) := by decide +kernel
theorem dX8_commentOf_18 : decode cX8_commentOf 18 = .ok (.invokespecial 132, 3) := by decide +kernel
theorem dX8_commentOf_21 : decode cX8_commentOf 21 = .ok (.athrow, 1) := by decide +kernel
theorem dX8_commentOf_22 : decode cX8_commentOf 22 = .ok (.aload_n 0, 1) := by decide +kernel
theorem dX8_commentOf_23 : decode cX8_commentOf 23 = .ok (.getfield 17, 3) := by decide +kernel
theorem dX8_commentOf_26 : decode cX8_commentOf 26 = .ok (.iload_n 1, 1) := by decide +kernel
theorem dX8_commentOf_27 : decode cX8_commentOf 27 = .ok (.aaload, 1) := by decide +kernel
theorem dX8_commentOf_28 : decode cX8_commentOf 28 = .ok (.areturn, 1) := by decide +kernel
theorem dX8_openCommentOf_0 : decode cX8_openCommentOf 0 = .ok (.aload_n 0, 1) := by decide +kernel
theorem dX8_openCommentOf_1 : decode cX8_openCommentOf 1 = .ok (.iload_n 1, 1) := by decide +kernel
theorem dX8_openCommentOf_2 : decode cX8_openCommentOf 2 = .ok (.invokevirtual 191, 3) := by decide +kernel
theorem dX8_openCommentOf_5 : decode cX8_openCommentOf 5 = .ok (.astore_n 2, 1) := by decide +kernel
theorem dX8_openCommentOf_6 : decode cX8_openCommentOf 6 = .ok (.aload_n 2, 1) := by decide +kernel
theorem dX8_openCommentOf_7 : decode cX8_openCommentOf 7 = .ok (.getfield 179, 3) := by decide +kernel
theorem dX8_openCommentOf_10 : decode cX8_openCommentOf 10 = .ok (.ifCond .ne 13, 3) := by decide +kernel
theorem dX8_openCommentOf_13 : decode cX8_openCommentOf 13 = .ok (.new 45, 3) := by decide +kernel
theorem dX8_openCommentOf_16 : decode cX8_openCommentOf 16 = .ok (.dup, 1) := by decide +kernel
theorem dX8_openCommentOf_17 : decode cX8_openCommentOf 17 = .ok (.ldc 199, 2) := by decide +kernel
theorem dX8_openCommentOf_19 : decode cX8_openCommentOf 19 = .ok (.invokespecial 49, 3) := by decide +kernel
theorem dX8_openCommentOf_22 : decode cX8_openCommentOf 22 = .ok (.athrow, 1) := by decide +kernel
theorem dX8_openCommentOf_23 : decode cX8_openCommentOf 23 = .ok (.aload_n 2, 1) := by decide +kernel
theorem dX8_openCommentOf_24 : decode cX8_openCommentOf 24 = .ok (.areturn, 1) := by decide +kernel
theorem dX8_openCommentsOn_0 : decode cX8_openCommentsOn 0 = .ok (.iconst 0, 1) := by decide +kernel
theorem dX8_openCommentsOn_1 : decode cX8_openCommentsOn 1 = .ok (.istore_n 2, 1) := by decide +kernel
theorem dX8_openCommentsOn_2 : decode cX8_openCommentsOn 2 = .ok (.iconst 0, 1) := by decide +kernel
theorem dX8_openCommentsOn_3 : decode cX8_openCommentsOn 3 = .ok (.istore_n 3, 1) := by decide +kernel
theorem dX8_openCommentsOn_4 : decode cX8_openCommentsOn 4 = .ok (.iload_n 3, 1) := by decide +kernel
theorem dX8_openCommentsOn_5 : decode cX8_openCommentsOn 5 = .ok (.aload_n 0, 1) := by decide +kernel
theorem dX8_openCommentsOn_6 : decode cX8_openCommentsOn 6 = .ok (.getfield 151, 3) := by decide +kernel
theorem dX8_openCommentsOn_9 : decode cX8_openCommentsOn 9 = .ok (.if_icmp .ge 25, 3) := by decide +kernel
theorem dX8_openCommentsOn_12 : decode cX8_openCommentsOn 12 = .ok (.aload_n 0, 1) := by decide +kernel
theorem dX8_openCommentsOn_13 : decode cX8_openCommentsOn 13 = .ok (.getfield 17, 3) := by decide +kernel
theorem dX8_openCommentsOn_16 : decode cX8_openCommentsOn 16 = .ok (.iload_n 3, 1) := by decide +kernel
theorem dX8_openCommentsOn_17 : decode cX8_openCommentsOn 17 = .ok (.aaload, 1) := by decide +kernel
theorem dX8_openCommentsOn_18 : decode cX8_openCommentsOn 18 = .ok (.aload_n 1, 1) := by decide +kernel
theorem dX8_openCommentsOn_19 : decode cX8_openCommentsOn 19 = .ok (.invokevirtual 154, 3) := by decide +kernel
theorem dX8_openCommentsOn_22 : decode cX8_openCommentsOn 22 = .ok (.ifCond .eq 6, 3) := by decide +kernel
theorem dX8_openCommentsOn_25 : decode cX8_openCommentsOn 25 = .ok (.iinc 2 1, 3) := by decide +kernel
theorem dX8_openCommentsOn_28 : decode cX8_openCommentsOn 28 = .ok (.iinc 3 1, 3) := by decide +kernel
theorem dX8_openCommentsOn_31 : decode cX8_openCommentsOn 31 = .ok (.goto (-27), 3) := by decide +kernel
theorem dX8_openCommentsOn_34 : decode cX8_openCommentsOn 34 = .ok (.iload_n 2, 1) := by decide +kernel
theorem dX8_openCommentsOn_35 : decode cX8_openCommentsOn 35 = .ok (.ireturn, 1) := by decide +kernel
theorem dX8_sign_0 : decode cX8_sign 0 = .ok (.aload_n 0, 1) := by decide +kernel
theorem dX8_sign_1 : decode cX8_sign 1 = .ok (.iload_n 1, 1) := by decide +kernel
theorem dX8_sign_2 : decode cX8_sign 2 = .ok (.invokevirtual 55, 3) := by decide +kernel
theorem dX8_sign_5 : decode cX8_sign 5 = .ok (.astore_n 2, 1) := by decide +kernel
theorem dX8_sign_6 : decode cX8_sign 6 = .ok (.aload_n 2, 1) := by decide +kernel
theorem dX8_sign_7 : decode cX8_sign 7 = .ok (.getfield 72, 3) := by decide +kernel
theorem dX8_sign_10 : decode cX8_sign 10 = .ok (.getfield 76, 3) := by decide +kernel
theorem dX8_sign_13 : decode cX8_sign 13 = .ok (.ifCond .ne 13, 3) := by decide +kernel
theorem dX8_sign_16 : decode cX8_sign 16 = .ok (.new 45, 3) := by decide +kernel
theorem dX8_sign_19 : decode cX8_sign 19 = .ok (.dup, 1) := by decide +kernel
theorem dX8_sign_20 : decode cX8_sign 20 = .ok (.ldc 201, 2) := by decide +kernel
theorem dX8_sign_22 : decode cX8_sign 22 = .ok (.invokespecial 49, 3) := by decide +kernel
theorem dX8_sign_25 : decode cX8_sign 25 = .ok (.athrow, 1) := by decide +kernel
theorem dX8_sign_26 : decode cX8_sign 26 = .ok (.aload_n 0, 1) := by decide +kernel
theorem dX8_sign_27 : decode cX8_sign 27 = .ok (.aload_n 2, 1) := by decide +kernel
theorem dX8_sign_28 : decode cX8_sign 28 = .ok (.invokevirtual 187, 3) := by decide +kernel
theorem dX8_sign_31 : decode cX8_sign 31 = .ok (.ifCond .le 13, 3) := by decide +kernel
theorem dX8_sign_34 : decode cX8_sign 34 = .ok (.new 45, 3) := by decide +kernel
theorem dX8_sign_37 : decode cX8_sign 37 = .ok (.dup, 1) := by decide +kernel
theorem dX8_sign_38 : decode cX8_sign 38 = .ok (.ldc 203, 2) := by decide +kernel
theorem dX8_sign_40 : decode cX8_sign 40 = .ok (.invokespecial 49, 3) := by decide +kernel
theorem dX8_sign_43 : decode cX8_sign 43 = .ok (.athrow, 1) := by decide +kernel
theorem dX8_sign_44 : decode cX8_sign 44 = .ok (.aload_n 2, 1) := by decide +kernel
theorem dX8_sign_45 : decode cX8_sign 45 = .ok (.getfield 90, 3) := by decide +kernel
theorem dX8_sign_48 : decode cX8_sign 48 = .ok (.aload_n 2, 1) := by decide +kernel
theorem dX8_sign_49 : decode cX8_sign 49 = .ok (.getfield 205, 3) := by decide +kernel
theorem dX8_sign_52 : decode cX8_sign 52 = .ok (.if_icmp .ne 13, 3) := by decide +kernel
theorem dX8_sign_55 : decode cX8_sign 55 = .ok (.new 45, 3) := by decide +kernel
theorem dX8_sign_58 : decode cX8_sign 58 = .ok (.dup, 1) := by decide +kernel
theorem dX8_sign_59 : decode cX8_sign 59 = .ok (.ldc 208, 2) := by decide +kernel
theorem dX8_sign_61 : decode cX8_sign 61 = .ok (.invokespecial 49, 3) := by decide +kernel
theorem dX8_sign_64 : decode cX8_sign 64 = .ok (.athrow, 1) := by decide +kernel
theorem dX8_sign_65 : decode cX8_sign 65 = .ok (.aload_n 2, 1) := by decide +kernel
theorem dX8_sign_66 : decode cX8_sign 66 = .ok (.invokevirtual 210, 3) := by decide +kernel
theorem dX8_sign_69 : decode cX8_sign 69 = .ok (.aload_n 0, 1) := by decide +kernel
theorem dX8_sign_70 : decode cX8_sign 70 = .ok (.getfield 30, 3) := by decide +kernel
theorem dX8_sign_73 : decode cX8_sign 73 = .ok (.iload_n 1, 1) := by decide +kernel
theorem dX8_sign_74 : decode cX8_sign 74 = .ok (.invokevirtual 213, 3) := by decide +kernel
theorem dX8_sign_77 : decode cX8_sign 77 = .ok (.aload_n 2, 1) := by decide +kernel
theorem dX8_sign_78 : decode cX8_sign 78 = .ok (.getfield 216, 3) := by decide +kernel
theorem dX8_sign_81 : decode cX8_sign 81 = .ok (.ireturn, 1) := by decide +kernel
theorem dX8_signed_0 : decode cX8_signed 0 = .ok (.aload_n 0, 1) := by decide +kernel
theorem dX8_signed_1 : decode cX8_signed 1 = .ok (.iload_n 1, 1) := by decide +kernel
theorem dX8_signed_2 : decode cX8_signed 2 = .ok (.invokevirtual 219, 3) := by decide +kernel
theorem dX8_signed_5 : decode cX8_signed 5 = .ok (.getfield 205, 3) := by decide +kernel
theorem dX8_signed_8 : decode cX8_signed 8 = .ok (.ireturn, 1) := by decide +kernel
theorem dX8_sheets_0 : decode cX8_sheets 0 = .ok (.aload_n 0, 1) := by decide +kernel
theorem dX8_sheets_1 : decode cX8_sheets 1 = .ok (.iload_n 1, 1) := by decide +kernel
theorem dX8_sheets_2 : decode cX8_sheets 2 = .ok (.invokevirtual 219, 3) := by decide +kernel
theorem dX8_sheets_5 : decode cX8_sheets 5 = .ok (.getfield 216, 3) := by decide +kernel
theorem dX8_sheets_8 : decode cX8_sheets 8 = .ok (.ireturn, 1) := by decide +kernel
theorem dX8_pageOn_0 : decode cX8_pageOn 0 = .ok (.aload_n 0, 1) := by decide +kernel
theorem dX8_pageOn_1 : decode cX8_pageOn 1 = .ok (.iload_n 1, 1) := by decide +kernel
theorem dX8_pageOn_2 : decode cX8_pageOn 2 = .ok (.invokevirtual 219, 3) := by decide +kernel
theorem dX8_pageOn_5 : decode cX8_pageOn 5 = .ok (.astore 4, 2) := by decide +kernel
theorem dX8_pageOn_7 : decode cX8_pageOn 7 = .ok (.aload 4, 2) := by decide +kernel
theorem dX8_pageOn_9 : decode cX8_pageOn 9 = .ok (.iload_n 2, 1) := by decide +kernel
theorem dX8_pageOn_10 : decode cX8_pageOn 10 = .ok (.invokestatic 222, 3) := by decide +kernel
theorem dX8_pageOn_13 : decode cX8_pageOn 13 = .ok (.iload_n 3, 1) := by decide +kernel
theorem dX8_pageOn_14 : decode cX8_pageOn 14 = .ok (.ifCond .lt 8, 3) := by decide +kernel
theorem dX8_pageOn_17 : decode cX8_pageOn 17 = .ok (.iload_n 3, 1) := by decide +kernel
theorem dX8_pageOn_18 : decode cX8_pageOn 18 = .ok (.iconst 4, 1) := by decide +kernel
theorem dX8_pageOn_19 : decode cX8_pageOn 19 = .ok (.if_icmp .lt 13, 3) := by decide +kernel
theorem dX8_pageOn_22 : decode cX8_pageOn 22 = .ok (.new 123, 3) := by decide +kernel
theorem dX8_pageOn_25 : decode cX8_pageOn 25 = .ok (.dup, 1) := by decide +kernel
theorem dX8_pageOn_26 : decode cX8_pageOn 26 = .ok (.ldc 225, 2) := by decide +kernel
theorem dX8_pageOn_28 : decode cX8_pageOn 28 = .ok (.invokespecial 127, 3) := by decide +kernel
theorem dX8_pageOn_31 : decode cX8_pageOn 31 = .ok (.athrow, 1) := by decide +kernel
theorem dX8_pageOn_32 : decode cX8_pageOn 32 = .ok (.aload 4, 2) := by decide +kernel
theorem dX8_pageOn_34 : decode cX8_pageOn 34 = .ok (.getfield 216, 3) := by decide +kernel
theorem dX8_pageOn_37 : decode cX8_pageOn 37 = .ok (.iload_n 2, 1) := by decide +kernel
theorem dX8_pageOn_38 : decode cX8_pageOn 38 = .ok (.iload_n 3, 1) := by decide +kernel
theorem dX8_pageOn_39 : decode cX8_pageOn 39 = .ok (.invokestatic 227, 3) := by decide +kernel
theorem dX8_pageOn_42 : decode cX8_pageOn 42 = .ok (.ireturn, 1) := by decide +kernel
theorem dX8_shown_0 : decode cX8_shown 0 = .ok (.aload_n 0, 1) := by decide +kernel
theorem dX8_shown_1 : decode cX8_shown 1 = .ok (.iload_n 1, 1) := by decide +kernel
theorem dX8_shown_2 : decode cX8_shown 2 = .ok (.invokevirtual 219, 3) := by decide +kernel
theorem dX8_shown_5 : decode cX8_shown 5 = .ok (.astore 4, 2) := by decide +kernel
theorem dX8_shown_7 : decode cX8_shown 7 = .ok (.aload 4, 2) := by decide +kernel
theorem dX8_shown_9 : decode cX8_shown 9 = .ok (.iload_n 2, 1) := by decide +kernel
theorem dX8_shown_10 : decode cX8_shown 10 = .ok (.invokestatic 222, 3) := by decide +kernel
theorem dX8_shown_13 : decode cX8_shown 13 = .ok (.iload_n 3, 1) := by decide +kernel
theorem dX8_shown_14 : decode cX8_shown 14 = .ok (.invokestatic 233, 3) := by decide +kernel
theorem dX8_shown_17 : decode cX8_shown 17 = .ok (.aload 4, 2) := by decide +kernel
theorem dX8_shown_19 : decode cX8_shown 19 = .ok (.iload_n 2, 1) := by decide +kernel
theorem dX8_shown_20 : decode cX8_shown 20 = .ok (.iload_n 3, 1) := by decide +kernel
theorem dX8_shown_21 : decode cX8_shown 21 = .ok (.invokevirtual 236, 3) := by decide +kernel
theorem dX8_shown_24 : decode cX8_shown 24 = .ok (.ireturn, 1) := by decide +kernel
theorem dX8_shownByLog_0 : decode cX8_shownByLog 0 = .ok (.aload_n 0, 1) := by decide +kernel
theorem dX8_shownByLog_1 : decode cX8_shownByLog 1 = .ok (.iload_n 1, 1) := by decide +kernel
theorem dX8_shownByLog_2 : decode cX8_shownByLog 2 = .ok (.invokevirtual 219, 3) := by decide +kernel
theorem dX8_shownByLog_5 : decode cX8_shownByLog 5 = .ok (.astore 4, 2) := by decide +kernel
theorem dX8_shownByLog_7 : decode cX8_shownByLog 7 = .ok (.aload 4, 2) := by decide +kernel
theorem dX8_shownByLog_9 : decode cX8_shownByLog 9 = .ok (.iload_n 2, 1) := by decide +kernel
theorem dX8_shownByLog_10 : decode cX8_shownByLog 10 = .ok (.invokestatic 222, 3) := by decide +kernel
theorem dX8_shownByLog_13 : decode cX8_shownByLog 13 = .ok (.iload_n 3, 1) := by decide +kernel
theorem dX8_shownByLog_14 : decode cX8_shownByLog 14 = .ok (.invokestatic 233, 3) := by decide +kernel
theorem dX8_shownByLog_17 : decode cX8_shownByLog 17 = .ok (.aload_n 0, 1) := by decide +kernel
theorem dX8_shownByLog_18 : decode cX8_shownByLog 18 = .ok (.getfield 30, 3) := by decide +kernel
theorem dX8_shownByLog_21 : decode cX8_shownByLog 21 = .ok (.iload_n 1, 1) := by decide +kernel
theorem dX8_shownByLog_22 : decode cX8_shownByLog 22 = .ok (.iload_n 2, 1) := by decide +kernel
theorem dX8_shownByLog_23 : decode cX8_shownByLog 23 = .ok (.iload_n 3, 1) := by decide +kernel
theorem dX8_shownByLog_24 : decode cX8_shownByLog 24 = .ok (.invokevirtual 240, 3) := by decide +kernel
theorem dX8_shownByLog_27 : decode cX8_shownByLog 27 = .ok (.ireturn, 1) := by decide +kernel
theorem dX8_proofedDocumentOf_0 : decode cX8_proofedDocumentOf 0 = .ok (.aload_n 0, 1) := by decide +kernel
theorem dX8_proofedDocumentOf_1 : decode cX8_proofedDocumentOf 1 = .ok (.iload_n 1, 1) := by decide +kernel
theorem dX8_proofedDocumentOf_2 : decode cX8_proofedDocumentOf 2 = .ok (.invokevirtual 55, 3) := by decide +kernel
theorem dX8_proofedDocumentOf_5 : decode cX8_proofedDocumentOf 5 = .ok (.astore_n 2, 1) := by decide +kernel
theorem dX8_proofedDocumentOf_6 : decode cX8_proofedDocumentOf 6 = .ok (.aload_n 2, 1) := by decide +kernel
theorem dX8_proofedDocumentOf_7 : decode cX8_proofedDocumentOf 7 = .ok (.invokevirtual 242, 3) := by decide +kernel
theorem dX8_proofedDocumentOf_10 : decode cX8_proofedDocumentOf 10 = .ok (.ifCond .ne 13, 3) := by decide +kernel
theorem dX8_proofedDocumentOf_13 : decode cX8_proofedDocumentOf 13 = .ok (.new 45, 3) := by decide +kernel
theorem dX8_proofedDocumentOf_16 : decode cX8_proofedDocumentOf 16 = .ok (.dup, 1) := by decide +kernel
theorem dX8_proofedDocumentOf_17 : decode cX8_proofedDocumentOf 17 = .ok (.ldc 246, 2) := by decide +kernel
theorem dX8_proofedDocumentOf_19 : decode cX8_proofedDocumentOf 19 = .ok (.invokespecial 49, 3) := by decide +kernel
theorem dX8_proofedDocumentOf_22 : decode cX8_proofedDocumentOf 22 = .ok (.athrow, 1) := by decide +kernel
theorem dX8_proofedDocumentOf_23 : decode cX8_proofedDocumentOf 23 = .ok (.aload_n 2, 1) := by decide +kernel
theorem dX8_proofedDocumentOf_24 : decode cX8_proofedDocumentOf 24 = .ok (.areturn, 1) := by decide +kernel
theorem dX8_requireSheet_0 : decode cX8_requireSheet 0 = .ok (.iload_n 1, 1) := by decide +kernel
theorem dX8_requireSheet_1 : decode cX8_requireSheet 1 = .ok (.ifCond .lt 11, 3) := by decide +kernel
theorem dX8_requireSheet_4 : decode cX8_requireSheet 4 = .ok (.iload_n 1, 1) := by decide +kernel
theorem dX8_requireSheet_5 : decode cX8_requireSheet 5 = .ok (.aload_n 0, 1) := by decide +kernel
theorem dX8_requireSheet_6 : decode cX8_requireSheet 6 = .ok (.getfield 216, 3) := by decide +kernel
theorem dX8_requireSheet_9 : decode cX8_requireSheet 9 = .ok (.if_icmp .lt 13, 3) := by decide +kernel
theorem dX8_requireSheet_12 : decode cX8_requireSheet 12 = .ok (.new 123, 3) := by decide +kernel
theorem dX8_requireSheet_15 : decode cX8_requireSheet 15 = .ok (.dup, 1) := by decide +kernel
theorem dX8_requireSheet_16 : decode cX8_requireSheet 16 = .ok (.ldc 248, 2) := by decide +kernel
theorem dX8_requireSheet_18 : decode cX8_requireSheet 18 = .ok (.invokespecial 127, 3) := by decide +kernel
theorem dX8_requireSheet_21 : decode cX8_requireSheet 21 = .ok (.athrow, 1) := by decide +kernel
theorem dX8_requireSheet_22 : decode cX8_requireSheet 22 = .ok (.return_, 1) := by decide +kernel
theorem dX8_requireIndexOnSheet_0 : decode cX8_requireIndexOnSheet 0 = .ok (.iload_n 0, 1) := by decide +kernel
theorem dX8_requireIndexOnSheet_1 : decode cX8_requireIndexOnSheet 1 = .ok (.ifCond .lt 9, 3) := by decide +kernel
theorem dX8_requireIndexOnSheet_4 : decode cX8_requireIndexOnSheet 4 = .ok (.iload_n 0, 1) := by decide +kernel
theorem dX8_requireIndexOnSheet_5 : decode cX8_requireIndexOnSheet 5 = .ok (.bipush 32, 2) := by decide +kernel
theorem dX8_requireIndexOnSheet_7 : decode cX8_requireIndexOnSheet 7 = .ok (.if_icmp .lt 13, 3) := by decide +kernel
theorem dX8_requireIndexOnSheet_10 : decode cX8_requireIndexOnSheet 10 = .ok (.new 123, 3) := by decide +kernel
theorem dX8_requireIndexOnSheet_13 : decode cX8_requireIndexOnSheet 13 = .ok (.dup, 1) := by decide +kernel
theorem dX8_requireIndexOnSheet_14 : decode cX8_requireIndexOnSheet 14 = .ok (.ldc 250, 2) := by decide +kernel
theorem dX8_requireIndexOnSheet_16 : decode cX8_requireIndexOnSheet 16 = .ok (.invokespecial 127, 3) := by decide +kernel
theorem dX8_requireIndexOnSheet_19 : decode cX8_requireIndexOnSheet 19 = .ok (.athrow, 1) := by decide +kernel
theorem dX8_requireIndexOnSheet_20 : decode cX8_requireIndexOnSheet 20 = .ok (.return_, 1) := by decide +kernel
theorem dX8_supply_0 : decode cX8_supply 0 = .ok (.iload_n 1, 1) := by decide +kernel
theorem dX8_supply_1 : decode cX8_supply 1 = .ok (.ifCond .lt 20, 3) := by decide +kernel
theorem dX8_supply_4 : decode cX8_supply 4 = .ok (.iload_n 1, 1) := by decide +kernel
theorem dX8_supply_5 : decode cX8_supply 5 = .ok (.sipush 9999, 3) := by decide +kernel
theorem dX8_supply_8 : decode cX8_supply 8 = .ok (.if_icmp .gt 13, 3) := by decide +kernel
theorem dX8_supply_11 : decode cX8_supply 11 = .ok (.iload_n 2, 1) := by decide +kernel
theorem dX8_supply_12 : decode cX8_supply 12 = .ok (.ifCond .lt 9, 3) := by decide +kernel
theorem dX8_supply_15 : decode cX8_supply 15 = .ok (.iload_n 2, 1) := by decide +kernel
theorem dX8_supply_16 : decode cX8_supply 16 = .ok (.bipush 99, 2) := by decide +kernel
theorem dX8_supply_18 : decode cX8_supply 18 = .ok (.if_icmp .le 13, 3) := by decide +kernel
theorem dX8_supply_21 : decode cX8_supply 21 = .ok (.new 67, 3) := by decide +kernel
theorem dX8_supply_24 : decode cX8_supply 24 = .ok (.dup, 1) := by decide +kernel
theorem dX8_supply_25 : decode cX8_supply 25 = .ok (.ldc 252, 2) := by decide +kernel
theorem dX8_supply_27 : decode cX8_supply 27 = .ok (.invokespecial 71, 3) := by decide +kernel
theorem dX8_supply_30 : decode cX8_supply 30 = .ok (.athrow, 1) := by decide +kernel
theorem dX8_supply_31 : decode cX8_supply 31 = .ok (.aload_n 0, 1) := by decide +kernel
theorem dX8_supply_32 : decode cX8_supply 32 = .ok (.getfield 254, 3) := by decide +kernel
theorem dX8_supply_35 : decode cX8_supply 35 = .ok (.iload_n 1, 1) := by decide +kernel
theorem dX8_supply_36 : decode cX8_supply 36 = .ok (.iadd, 1) := by decide +kernel
theorem dX8_supply_37 : decode cX8_supply 37 = .ok (.ldc_w 257, 3) := by decide +kernel
theorem dX8_supply_40 : decode cX8_supply 40 = .ok (.if_icmp .gt 15, 3) := by decide +kernel
theorem dX8_supply_43 : decode cX8_supply 43 = .ok (.aload_n 0, 1) := by decide +kernel
theorem dX8_supply_44 : decode cX8_supply 44 = .ok (.getfield 258, 3) := by decide +kernel
theorem dX8_supply_47 : decode cX8_supply 47 = .ok (.iload_n 2, 1) := by decide +kernel
theorem dX8_supply_48 : decode cX8_supply 48 = .ok (.iadd, 1) := by decide +kernel
theorem dX8_supply_49 : decode cX8_supply 49 = .ok (.sipush 999, 3) := by decide +kernel
theorem dX8_supply_52 : decode cX8_supply 52 = .ok (.if_icmp .le 14, 3) := by decide +kernel
theorem dX8_supply_55 : decode cX8_supply 55 = .ok (.new 45, 3) := by decide +kernel
theorem dX8_supply_58 : decode cX8_supply 58 = .ok (.dup, 1) := by decide +kernel
theorem dX8_supply_59 : decode cX8_supply 59 = .ok (.ldc_w 261, 3) := by decide +kernel
theorem dX8_supply_62 : decode cX8_supply 62 = .ok (.invokespecial 49, 3) := by decide +kernel
theorem dX8_supply_65 : decode cX8_supply 65 = .ok (.athrow, 1) := by decide +kernel
theorem dX8_supply_66 : decode cX8_supply 66 = .ok (.aload_n 0, 1) := by decide +kernel
theorem dX8_supply_67 : decode cX8_supply 67 = .ok (.dup, 1) := by decide +kernel
theorem dX8_supply_68 : decode cX8_supply 68 = .ok (.getfield 254, 3) := by decide +kernel
theorem dX8_supply_71 : decode cX8_supply 71 = .ok (.iload_n 1, 1) := by decide +kernel
theorem dX8_supply_72 : decode cX8_supply 72 = .ok (.iadd, 1) := by decide +kernel
theorem dX8_supply_73 : decode cX8_supply 73 = .ok (.putfield 254, 3) := by decide +kernel
theorem dX8_supply_76 : decode cX8_supply 76 = .ok (.aload_n 0, 1) := by decide +kernel
theorem dX8_supply_77 : decode cX8_supply 77 = .ok (.dup, 1) := by decide +kernel
theorem dX8_supply_78 : decode cX8_supply 78 = .ok (.getfield 258, 3) := by decide +kernel
theorem dX8_supply_81 : decode cX8_supply 81 = .ok (.iload_n 2, 1) := by decide +kernel
theorem dX8_supply_82 : decode cX8_supply 82 = .ok (.iadd, 1) := by decide +kernel
theorem dX8_supply_83 : decode cX8_supply 83 = .ok (.putfield 258, 3) := by decide +kernel
theorem dX8_supply_86 : decode cX8_supply 86 = .ok (.aload_n 0, 1) := by decide +kernel
theorem dX8_supply_87 : decode cX8_supply 87 = .ok (.getfield 254, 3) := by decide +kernel
theorem dX8_supply_90 : decode cX8_supply 90 = .ok (.ireturn, 1) := by decide +kernel
theorem dX8_paper_0 : decode cX8_paper 0 = .ok (.aload_n 0, 1) := by decide +kernel
theorem dX8_paper_1 : decode cX8_paper 1 = .ok (.getfield 254, 3) := by decide +kernel
theorem dX8_paper_4 : decode cX8_paper 4 = .ok (.ireturn, 1) := by decide +kernel
theorem dX8_plates_0 : decode cX8_plates 0 = .ok (.aload_n 0, 1) := by decide +kernel
theorem dX8_plates_1 : decode cX8_plates 1 = .ok (.getfield 258, 3) := by decide +kernel
theorem dX8_plates_4 : decode cX8_plates 4 = .ok (.ireturn, 1) := by decide +kernel
theorem dX8_order_0 : decode cX8_order 0 = .ok (.aload_n 0, 1) := by decide +kernel
theorem dX8_order_1 : decode cX8_order 1 = .ok (.iload_n 1, 1) := by decide +kernel
theorem dX8_order_2 : decode cX8_order 2 = .ok (.invokevirtual 55, 3) := by decide +kernel
theorem dX8_order_5 : decode cX8_order 5 = .ok (.astore 4, 2) := by decide +kernel
theorem dX8_order_7 : decode cX8_order 7 = .ok (.iload_n 2, 1) := by decide +kernel
theorem dX8_order_8 : decode cX8_order 8 = .ok (.iconst 1, 1) := by decide +kernel
theorem dX8_order_9 : decode cX8_order 9 = .ok (.if_icmp .lt 21, 3) := by decide +kernel
theorem dX8_order_12 : decode cX8_order 12 = .ok (.iload_n 2, 1) := by decide +kernel
theorem dX8_order_13 : decode cX8_order 13 = .ok (.sipush 500, 3) := by decide +kernel
theorem dX8_order_16 : decode cX8_order 16 = .ok (.if_icmp .gt 14, 3) := by decide +kernel
theorem dX8_order_19 : decode cX8_order 19 = .ok (.iload_n 3, 1) := by decide +kernel
theorem dX8_order_20 : decode cX8_order 20 = .ok (.ifCond .lt 10, 3) := by decide +kernel
theorem dX8_order_23 : decode cX8_order 23 = .ok (.iload_n 3, 1) := by decide +kernel
theorem dX8_order_24 : decode cX8_order 24 = .ok (.sipush 999, 3) := by decide +kernel
theorem dX8_order_27 : decode cX8_order 27 = .ok (.if_icmp .le 13, 3) := by decide +kernel
theorem dX8_order_30 : decode cX8_order 30 = .ok (.new 67, 3) := by decide +kernel
theorem dX8_order_33 : decode cX8_order 33 = .ok (.dup, 1) := by decide +kernel
theorem dX8_order_34 : decode cX8_order 34 = .ok (.ldc 252, 2) := by decide +kernel
theorem dX8_order_36 : decode cX8_order 36 = .ok (.invokespecial 71, 3) := by decide +kernel
theorem dX8_order_39 : decode cX8_order 39 = .ok (.athrow, 1) := by decide +kernel
theorem dX8_order_40 : decode cX8_order 40 = .ok (.aload 4, 2) := by decide +kernel
theorem dX8_order_42 : decode cX8_order 42 = .ok (.invokevirtual 242, 3) := by decide +kernel
theorem dX8_order_45 : decode cX8_order 45 = .ok (.ifCond .eq 12, 3) := by decide +kernel
theorem dX8_order_48 : decode cX8_order 48 = .ok (.aload_n 0, 1) := by decide +kernel
theorem dX8_order_49 : decode cX8_order 49 = .ok (.getfield 263, 3) := by decide +kernel
theorem dX8_order_52 : decode cX8_order 52 = .ok (.bipush 6, 2) := by decide +kernel
theorem dX8_order_54 : decode cX8_order 54 = .ok (.if_icmp .lt 14, 3) := by decide +kernel
theorem dX8_order_57 : decode cX8_order 57 = .ok (.new 45, 3) := by decide +kernel
theorem dX8_order_60 : decode cX8_order 60 = .ok (.dup, 1) := by decide +kernel
theorem dX8_order_61 : decode cX8_order 61 = .ok (.ldc_w 266, 3) := by decide +kernel
theorem dX8_order_64 : decode cX8_order 64 = .ok (.invokespecial 49, 3) := by decide +kernel
theorem dX8_order_67 : decode cX8_order 67 = .ok (.athrow, 1) := by decide +kernel
theorem dX8_order_68 : decode cX8_order 68 = .ok (.iload_n 2, 1) := by decide +kernel
theorem dX8_order_69 : decode cX8_order 69 = .ok (.aload 4, 2) := by decide +kernel
theorem dX8_order_71 : decode cX8_order 71 = .ok (.getfield 216, 3) := by decide +kernel
theorem dX8_order_74 : decode cX8_order 74 = .ok (.imul, 1) := by decide +kernel
theorem dX8_order_75 : decode cX8_order 75 = .ok (.aload_n 0, 1) := by decide +kernel
theorem dX8_order_76 : decode cX8_order 76 = .ok (.invokevirtual 268, 3) := by decide +kernel
theorem dX8_order_79 : decode cX8_order 79 = .ok (.if_icmp .le 14, 3) := by decide +kernel
theorem dX8_order_82 : decode cX8_order 82 = .ok (.new 135, 3) := by decide +kernel
theorem dX8_order_85 : decode cX8_order 85 = .ok (.dup, 1) := by decide +kernel
theorem dX8_order_86 : decode cX8_order 86 = .ok (.ldc_w 272, 3) := by decide +kernel
theorem dX8_order_89 : decode cX8_order 89 = .ok (.invokespecial 139, 3) := by decide +kernel
theorem dX8_order_92 : decode cX8_order 92 = .ok (.athrow, 1) := by decide +kernel
theorem dX8_order_93 : decode cX8_order 93 = .ok (.aload_n 0, 1) := by decide +kernel
theorem dX8_order_94 : decode cX8_order 94 = .ok (.getfield 263, 3) := by decide +kernel
theorem dX8_order_97 : decode cX8_order 97 = .ok (.istore 5, 2) := by decide +kernel
theorem dX8_order_99 : decode cX8_order 99 = .ok (.aload_n 0, 1) := by decide +kernel
theorem dX8_order_100 : decode cX8_order 100 = .ok (.getfield 23, 3) := by decide +kernel
theorem dX8_order_103 : decode cX8_order 103 = .ok (.iload 5, 2) := by decide +kernel
theorem dX8_order_105 : decode cX8_order 105 = .ok (.new 21, 3) := by decide +kernel
theorem dX8_order_108 : decode cX8_order 108 = .ok (.dup, 1) := by decide +kernel
theorem dX8_order_109 : decode cX8_order 109 = .ok (.iload 5, 2) := by decide +kernel
theorem dX8_order_111 : decode cX8_order 111 = .ok (.aload 4, 2) := by decide +kernel
theorem dX8_order_113 : decode cX8_order 113 = .ok (.iload_n 2, 1) := by decide +kernel
theorem dX8_order_114 : decode cX8_order 114 = .ok (.iload_n 3, 1) := by decide +kernel
theorem dX8_order_115 : decode cX8_order 115 = .ok (.invokespecial 274, 3) := by decide +kernel
theorem dX8_order_118 : decode cX8_order 118 = .ok (.aastore, 1) := by decide +kernel
theorem dX8_order_119 : decode cX8_order 119 = .ok (.aload_n 0, 1) := by decide +kernel
theorem dX8_order_120 : decode cX8_order 120 = .ok (.dup, 1) := by decide +kernel
theorem dX8_order_121 : decode cX8_order 121 = .ok (.getfield 263, 3) := by decide +kernel
theorem dX8_order_124 : decode cX8_order 124 = .ok (.iconst 1, 1) := by decide +kernel
theorem dX8_order_125 : decode cX8_order 125 = .ok (.iadd, 1) := by decide +kernel
theorem dX8_order_126 : decode cX8_order 126 = .ok (.putfield 263, 3) := by decide +kernel
theorem dX8_order_129 : decode cX8_order 129 = .ok (.iload 5, 2) := by decide +kernel
theorem dX8_order_131 : decode cX8_order 131 = .ok (.ireturn, 1) := by decide +kernel
theorem dX8_needs_0 : decode cX8_needs 0 = .ok (.aload_n 0, 1) := by decide +kernel
theorem dX8_needs_1 : decode cX8_needs 1 = .ok (.aload_n 0, 1) := by decide +kernel
theorem dX8_needs_2 : decode cX8_needs 2 = .ok (.iload_n 1, 1) := by decide +kernel
theorem dX8_needs_3 : decode cX8_needs 3 = .ok (.invokevirtual 277, 3) := by decide +kernel
theorem dX8_needs_6 : decode cX8_needs 6 = .ok (.invokevirtual 281, 3) := by decide +kernel
theorem dX8_needs_9 : decode cX8_needs 9 = .ok (.ireturn, 1) := by decide +kernel
theorem dX8_freePaper_0 : decode cX8_freePaper 0 = .ok (.aload_n 0, 1) := by decide +kernel
theorem dX8_freePaper_1 : decode cX8_freePaper 1 = .ok (.getfield 254, 3) := by decide +kernel
theorem dX8_freePaper_4 : decode cX8_freePaper 4 = .ok (.istore_n 1, 1) := by decide +kernel
theorem dX8_freePaper_5 : decode cX8_freePaper 5 = .ok (.iconst 0, 1) := by decide +kernel
theorem dX8_freePaper_6 : decode cX8_freePaper 6 = .ok (.istore_n 2, 1) := by decide +kernel
theorem dX8_freePaper_7 : decode cX8_freePaper 7 = .ok (.iload_n 2, 1) := by decide +kernel
theorem dX8_freePaper_8 : decode cX8_freePaper 8 = .ok (.aload_n 0, 1) := by decide +kernel
theorem dX8_freePaper_9 : decode cX8_freePaper 9 = .ok (.getfield 263, 3) := by decide +kernel
theorem dX8_freePaper_12 : decode cX8_freePaper 12 = .ok (.if_icmp .ge 22, 3) := by decide +kernel
theorem dX8_freePaper_15 : decode cX8_freePaper 15 = .ok (.iload_n 1, 1) := by decide +kernel
theorem dX8_freePaper_16 : decode cX8_freePaper 16 = .ok (.aload_n 0, 1) := by decide +kernel
theorem dX8_freePaper_17 : decode cX8_freePaper 17 = .ok (.aload_n 0, 1) := by decide +kernel
theorem dX8_freePaper_18 : decode cX8_freePaper 18 = .ok (.getfield 23, 3) := by decide +kernel
theorem dX8_freePaper_21 : decode cX8_freePaper 21 = .ok (.iload_n 2, 1) := by decide +kernel
theorem dX8_freePaper_22 : decode cX8_freePaper 22 = .ok (.aaload, 1) := by decide +kernel
theorem dX8_freePaper_23 : decode cX8_freePaper 23 = .ok (.invokevirtual 281, 3) := by decide +kernel
theorem dX8_freePaper_26 : decode cX8_freePaper 26 = .ok (.isub, 1) := by decide +kernel
theorem dX8_freePaper_27 : decode cX8_freePaper 27 = .ok (.istore_n 1, 1) := by decide +kernel
theorem dX8_freePaper_28 : decode cX8_freePaper 28 = .ok (.iinc 2 1, 3) := by decide +kernel
theorem dX8_freePaper_31 : decode cX8_freePaper 31 = .ok (.goto (-24), 3) := by decide +kernel
theorem dX8_freePaper_34 : decode cX8_freePaper 34 = .ok (.iload_n 1, 1) := by decide +kernel
theorem dX8_freePaper_35 : decode cX8_freePaper 35 = .ok (.ireturn, 1) := by decide +kernel
theorem dX8_stateOf_0 : decode cX8_stateOf 0 = .ok (.aload_n 0, 1) := by decide +kernel
theorem dX8_stateOf_1 : decode cX8_stateOf 1 = .ok (.iload_n 1, 1) := by decide +kernel
theorem dX8_stateOf_2 : decode cX8_stateOf 2 = .ok (.invokevirtual 277, 3) := by decide +kernel
theorem dX8_stateOf_5 : decode cX8_stateOf 5 = .ok (.astore_n 3, 1) := by decide +kernel
theorem dX8_stateOf_6 : decode cX8_stateOf 6 = .ok (.aload_n 3, 1) := by decide +kernel
theorem dX8_stateOf_7 : decode cX8_stateOf 7 = .ok (.getfield 285, 3) := by decide +kernel
theorem dX8_stateOf_10 : decode cX8_stateOf 10 = .ok (.iload_n 2, 1) := by decide +kernel
theorem dX8_stateOf_11 : decode cX8_stateOf 11 = .ok (.invokestatic 222, 3) := by decide +kernel
theorem dX8_stateOf_14 : decode cX8_stateOf 14 = .ok (.aload_n 0, 1) := by decide +kernel
theorem dX8_stateOf_15 : decode cX8_stateOf 15 = .ok (.aload_n 3, 1) := by decide +kernel
theorem dX8_stateOf_16 : decode cX8_stateOf 16 = .ok (.iload_n 2, 1) := by decide +kernel
theorem dX8_stateOf_17 : decode cX8_stateOf 17 = .ok (.invokevirtual 286, 3) := by decide +kernel
theorem dX8_stateOf_20 : decode cX8_stateOf 20 = .ok (.ireturn, 1) := by decide +kernel
theorem dX8_isDone_0 : decode cX8_isDone 0 = .ok (.aload_n 0, 1) := by decide +kernel
theorem dX8_isDone_1 : decode cX8_isDone 1 = .ok (.aload_n 0, 1) := by decide +kernel
theorem dX8_isDone_2 : decode cX8_isDone 2 = .ok (.iload_n 1, 1) := by decide +kernel
theorem dX8_isDone_3 : decode cX8_isDone 3 = .ok (.invokevirtual 277, 3) := by decide +kernel
theorem dX8_isDone_6 : decode cX8_isDone 6 = .ok (.invokevirtual 290, 3) := by decide +kernel
theorem dX8_isDone_9 : decode cX8_isDone 9 = .ok (.ireturn, 1) := by decide +kernel
theorem dX8_lateBy_0 : decode cX8_lateBy 0 = .ok (.aload_n 0, 1) := by decide +kernel
theorem dX8_lateBy_1 : decode cX8_lateBy 1 = .ok (.iload_n 1, 1) := by decide +kernel
theorem dX8_lateBy_2 : decode cX8_lateBy 2 = .ok (.invokevirtual 277, 3) := by decide +kernel
theorem dX8_lateBy_5 : decode cX8_lateBy 5 = .ok (.astore_n 2, 1) := by decide +kernel
theorem dX8_lateBy_6 : decode cX8_lateBy 6 = .ok (.aload_n 0, 1) := by decide +kernel
theorem dX8_lateBy_7 : decode cX8_lateBy 7 = .ok (.getfield 140, 3) := by decide +kernel
theorem dX8_lateBy_10 : decode cX8_lateBy 10 = .ok (.aload_n 2, 1) := by decide +kernel
theorem dX8_lateBy_11 : decode cX8_lateBy 11 = .ok (.getfield 294, 3) := by decide +kernel
theorem dX8_lateBy_14 : decode cX8_lateBy 14 = .ok (.if_icmp .le 11, 3) := by decide +kernel
theorem dX8_lateBy_17 : decode cX8_lateBy 17 = .ok (.aload_n 0, 1) := by decide +kernel
theorem dX8_lateBy_18 : decode cX8_lateBy 18 = .ok (.aload_n 2, 1) := by decide +kernel
theorem dX8_lateBy_19 : decode cX8_lateBy 19 = .ok (.invokevirtual 290, 3) := by decide +kernel
theorem dX8_lateBy_22 : decode cX8_lateBy 22 = .ok (.ifCond .eq 5, 3) := by decide +kernel
theorem dX8_lateBy_25 : decode cX8_lateBy 25 = .ok (.iconst 0, 1) := by decide +kernel
theorem dX8_lateBy_26 : decode cX8_lateBy 26 = .ok (.ireturn, 1) := by decide +kernel
theorem dX8_lateBy_27 : decode cX8_lateBy 27 = .ok (.aload_n 0, 1) := by decide +kernel
theorem dX8_lateBy_28 : decode cX8_lateBy 28 = .ok (.getfield 140, 3) := by decide +kernel
theorem dX8_lateBy_31 : decode cX8_lateBy 31 = .ok (.aload_n 2, 1) := by decide +kernel
theorem dX8_lateBy_32 : decode cX8_lateBy 32 = .ok (.getfield 294, 3) := by decide +kernel
theorem dX8_lateBy_35 : decode cX8_lateBy 35 = .ok (.isub, 1) := by decide +kernel
theorem dX8_lateBy_36 : decode cX8_lateBy 36 = .ok (.ireturn, 1) := by decide +kernel
theorem dX8_nextOrder_0 : decode cX8_nextOrder 0 = .ok (.aconst_null, 1) := by decide +kernel
theorem dX8_nextOrder_1 : decode cX8_nextOrder 1 = .ok (.astore_n 1, 1) := by decide +kernel
theorem dX8_nextOrder_2 : decode cX8_nextOrder 2 = .ok (.iconst 0, 1) := by decide +kernel
theorem dX8_nextOrder_3 : decode cX8_nextOrder 3 = .ok (.istore_n 2, 1) := by decide +kernel
theorem dX8_nextOrder_4 : decode cX8_nextOrder 4 = .ok (.iload_n 2, 1) := by decide +kernel
theorem dX8_nextOrder_5 : decode cX8_nextOrder 5 = .ok (.aload_n 0, 1) := by decide +kernel
theorem dX8_nextOrder_6 : decode cX8_nextOrder 6 = .ok (.getfield 263, 3) := by decide +kernel
theorem dX8_nextOrder_9 : decode cX8_nextOrder 9 = .ok (.if_icmp .ge 46, 3) := by decide +kernel
theorem dX8_nextOrder_12 : decode cX8_nextOrder 12 = .ok (.aload_n 0, 1) := by decide +kernel
theorem dX8_nextOrder_13 : decode cX8_nextOrder 13 = .ok (.aload_n 0, 1) := by decide +kernel
theorem dX8_nextOrder_14 : decode cX8_nextOrder 14 = .ok (.getfield 23, 3) := by decide +kernel
theorem dX8_nextOrder_17 : decode cX8_nextOrder 17 = .ok (.iload_n 2, 1) := by decide +kernel
theorem dX8_nextOrder_18 : decode cX8_nextOrder 18 = .ok (.aaload, 1) := by decide +kernel
theorem dX8_nextOrder_19 : decode cX8_nextOrder 19 = .ok (.invokevirtual 290, 3) := by decide +kernel
theorem dX8_nextOrder_22 : decode cX8_nextOrder 22 = .ok (.ifCond .ne 27, 3) := by decide +kernel
theorem dX8_nextOrder_25 : decode cX8_nextOrder 25 = .ok (.aload_n 1, 1) := by decide +kernel
theorem dX8_nextOrder_26 : decode cX8_nextOrder 26 = .ok (.ifnull 16, 3) := by decide +kernel
theorem dX8_nextOrder_29 : decode cX8_nextOrder 29 = .ok (.aload_n 0, 1) := by decide +kernel
theorem dX8_nextOrder_30 : decode cX8_nextOrder 30 = .ok (.getfield 23, 3) := by decide +kernel
theorem dX8_nextOrder_33 : decode cX8_nextOrder 33 = .ok (.iload_n 2, 1) := by decide +kernel
theorem dX8_nextOrder_34 : decode cX8_nextOrder 34 = .ok (.aaload, 1) := by decide +kernel
theorem dX8_nextOrder_35 : decode cX8_nextOrder 35 = .ok (.aload_n 1, 1) := by decide +kernel
theorem dX8_nextOrder_36 : decode cX8_nextOrder 36 = .ok (.invokevirtual 297, 3) := by decide +kernel
theorem dX8_nextOrder_39 : decode cX8_nextOrder 39 = .ok (.ifCond .eq 10, 3) := by decide +kernel
theorem dX8_nextOrder_42 : decode cX8_nextOrder 42 = .ok (.aload_n 0, 1) := by decide +kernel
theorem dX8_nextOrder_43 : decode cX8_nextOrder 43 = .ok (.getfield 23, 3) := by decide +kernel
theorem dX8_nextOrder_46 : decode cX8_nextOrder 46 = .ok (.iload_n 2, 1) := by decide +kernel
theorem dX8_nextOrder_47 : decode cX8_nextOrder 47 = .ok (.aaload, 1) := by decide +kernel
theorem dX8_nextOrder_48 : decode cX8_nextOrder 48 = .ok (.astore_n 1, 1) := by decide +kernel
theorem dX8_nextOrder_49 : decode cX8_nextOrder 49 = .ok (.iinc 2 1, 3) := by decide +kernel
theorem dX8_nextOrder_52 : decode cX8_nextOrder 52 = .ok (.goto (-48), 3) := by decide +kernel
theorem dX8_nextOrder_55 : decode cX8_nextOrder 55 = .ok (.aload_n 1, 1) := by decide +kernel
theorem dX8_nextOrder_56 : decode cX8_nextOrder 56 = .ok (.ifnonnull 14, 3) := by decide +kernel
theorem dX8_nextOrder_59 : decode cX8_nextOrder 59 = .ok (.new 45, 3) := by decide +kernel
theorem dX8_nextOrder_62 : decode cX8_nextOrder 62 = .ok (.dup, 1) := by decide +kernel
theorem dX8_nextOrder_63 : decode cX8_nextOrder 63 = .ok (.ldc_w 300, 3) := by decide +kernel
theorem dX8_nextOrder_66 : decode cX8_nextOrder 66 = .ok (.invokespecial 49, 3) := by decide +kernel
theorem dX8_nextOrder_69 : decode cX8_nextOrder 69 = .ok (.athrow, 1) := by decide +kernel
theorem dX8_nextOrder_70 : decode cX8_nextOrder 70 = .ok (.aload_n 1, 1) := by decide +kernel
theorem dX8_nextOrder_71 : decode cX8_nextOrder 71 = .ok (.getfield 302, 3) := by decide +kernel
theorem dX8_nextOrder_74 : decode cX8_nextOrder 74 = .ok (.ireturn, 1) := by decide +kernel
theorem dX8_nextSheet_0 : decode cX8_nextSheet 0 = .ok (.aload_n 0, 1) := by decide +kernel
theorem dX8_nextSheet_1 : decode cX8_nextSheet 1 = .ok (.iload_n 1, 1) := by decide +kernel
theorem dX8_nextSheet_2 : decode cX8_nextSheet 2 = .ok (.invokevirtual 277, 3) := by decide +kernel
theorem dX8_nextSheet_5 : decode cX8_nextSheet 5 = .ok (.astore_n 2, 1) := by decide +kernel
theorem dX8_nextSheet_6 : decode cX8_nextSheet 6 = .ok (.aload_n 2, 1) := by decide +kernel
theorem dX8_nextSheet_7 : decode cX8_nextSheet 7 = .ok (.getfield 285, 3) := by decide +kernel
theorem dX8_nextSheet_10 : decode cX8_nextSheet 10 = .ok (.getfield 216, 3) := by decide +kernel
theorem dX8_nextSheet_13 : decode cX8_nextSheet 13 = .ok (.istore_n 3, 1) := by decide +kernel
theorem dX8_nextSheet_14 : decode cX8_nextSheet 14 = .ok (.iconst 0, 1) := by decide +kernel
theorem dX8_nextSheet_15 : decode cX8_nextSheet 15 = .ok (.istore 4, 2) := by decide +kernel
theorem dX8_nextSheet_17 : decode cX8_nextSheet 17 = .ok (.iload 4, 2) := by decide +kernel
theorem dX8_nextSheet_19 : decode cX8_nextSheet 19 = .ok (.iload_n 3, 1) := by decide +kernel
theorem dX8_nextSheet_20 : decode cX8_nextSheet 20 = .ok (.if_icmp .ge 25, 3) := by decide +kernel
theorem dX8_nextSheet_23 : decode cX8_nextSheet 23 = .ok (.aload_n 0, 1) := by decide +kernel
theorem dX8_nextSheet_24 : decode cX8_nextSheet 24 = .ok (.aload_n 2, 1) := by decide +kernel
theorem dX8_nextSheet_25 : decode cX8_nextSheet 25 = .ok (.iload 4, 2) := by decide +kernel
theorem dX8_nextSheet_27 : decode cX8_nextSheet 27 = .ok (.invokevirtual 286, 3) := by decide +kernel
theorem dX8_nextSheet_30 : decode cX8_nextSheet 30 = .ok (.invokestatic 305, 3) := by decide +kernel
theorem dX8_nextSheet_33 : decode cX8_nextSheet 33 = .ok (.ifCond .eq 6, 3) := by decide +kernel
theorem dX8_nextSheet_36 : decode cX8_nextSheet 36 = .ok (.iload 4, 2) := by decide +kernel
theorem dX8_nextSheet_38 : decode cX8_nextSheet 38 = .ok (.ireturn, 1) := by decide +kernel
theorem dX8_nextSheet_39 : decode cX8_nextSheet 39 = .ok (.iinc 4 1, 3) := by decide +kernel
theorem dX8_nextSheet_42 : decode cX8_nextSheet 42 = .ok (.goto (-25), 3) := by decide +kernel
theorem dX8_nextSheet_45 : decode cX8_nextSheet 45 = .ok (.new 45, 3) := by decide +kernel
theorem dX8_nextSheet_48 : decode cX8_nextSheet 48 = .ok (.dup, 1) := by decide +kernel
theorem dX8_nextSheet_49 : decode cX8_nextSheet 49 = .ok (.ldc_w 309, 3) := by decide +kernel
theorem dX8_nextSheet_52 : decode cX8_nextSheet 52 = .ok (.invokespecial 49, 3) := by decide +kernel
theorem dX8_nextSheet_55 : decode cX8_nextSheet 55 = .ok (.athrow, 1) := by decide +kernel
theorem dX8_orderOf_0 : decode cX8_orderOf 0 = .ok (.iload_n 1, 1) := by decide +kernel
theorem dX8_orderOf_1 : decode cX8_orderOf 1 = .ok (.ifCond .lt 11, 3) := by decide +kernel
theorem dX8_orderOf_4 : decode cX8_orderOf 4 = .ok (.iload_n 1, 1) := by decide +kernel
theorem dX8_orderOf_5 : decode cX8_orderOf 5 = .ok (.aload_n 0, 1) := by decide +kernel
theorem dX8_orderOf_6 : decode cX8_orderOf 6 = .ok (.getfield 263, 3) := by decide +kernel
theorem dX8_orderOf_9 : decode cX8_orderOf 9 = .ok (.if_icmp .lt 14, 3) := by decide +kernel
theorem dX8_orderOf_12 : decode cX8_orderOf 12 = .ok (.new 128, 3) := by decide +kernel
theorem dX8_orderOf_15 : decode cX8_orderOf 15 = .ok (.dup, 1) := by decide +kernel
theorem dX8_orderOf_16 : decode cX8_orderOf 16 = .ok (.ldc_w 311, 3) := by decide +kernel
theorem dX8_orderOf_19 : decode cX8_orderOf 19 = .ok (.invokespecial 132, 3) := by decide +kernel
theorem dX8_orderOf_22 : decode cX8_orderOf 22 = .ok (.athrow, 1) := by decide +kernel
theorem dX8_orderOf_23 : decode cX8_orderOf 23 = .ok (.aload_n 0, 1) := by decide +kernel
theorem dX8_orderOf_24 : decode cX8_orderOf 24 = .ok (.getfield 23, 3) := by decide +kernel
theorem dX8_orderOf_27 : decode cX8_orderOf 27 = .ok (.iload_n 1, 1) := by decide +kernel
theorem dX8_orderOf_28 : decode cX8_orderOf 28 = .ok (.aaload, 1) := by decide +kernel
theorem dX8_orderOf_29 : decode cX8_orderOf 29 = .ok (.areturn, 1) := by decide +kernel
theorem dX8_stateOn_0 : decode cX8_stateOn 0 = .ok (.aload_n 0, 1) := by decide +kernel
theorem dX8_stateOn_1 : decode cX8_stateOn 1 = .ok (.getfield 37, 3) := by decide +kernel
theorem dX8_stateOn_4 : decode cX8_stateOn 4 = .ok (.aload_n 1, 1) := by decide +kernel
theorem dX8_stateOn_5 : decode cX8_stateOn 5 = .ok (.iload_n 2, 1) := by decide +kernel
theorem dX8_stateOn_6 : decode cX8_stateOn 6 = .ok (.invokevirtual 313, 3) := by decide +kernel
theorem dX8_stateOn_9 : decode cX8_stateOn 9 = .ok (.ifCond .eq 6, 3) := by decide +kernel
theorem dX8_stateOn_12 : decode cX8_stateOn 12 = .ok (.bipush 111, 2) := by decide +kernel
theorem dX8_stateOn_14 : decode cX8_stateOn 14 = .ok (.ireturn, 1) := by decide +kernel
theorem dX8_stateOn_15 : decode cX8_stateOn 15 = .ok (.aload_n 1, 1) := by decide +kernel
theorem dX8_stateOn_16 : decode cX8_stateOn 16 = .ok (.getfield 317, 3) := by decide +kernel
theorem dX8_stateOn_19 : decode cX8_stateOn 19 = .ok (.iload_n 2, 1) := by decide +kernel
theorem dX8_stateOn_20 : decode cX8_stateOn 20 = .ok (.aaload, 1) := by decide +kernel
theorem dX8_stateOn_21 : decode cX8_stateOn 21 = .ok (.astore_n 3, 1) := by decide +kernel
theorem dX8_stateOn_22 : decode cX8_stateOn 22 = .ok (.aload_n 3, 1) := by decide +kernel
theorem dX8_stateOn_23 : decode cX8_stateOn 23 = .ok (.getfield 321, 3) := by decide +kernel
theorem dX8_stateOn_26 : decode cX8_stateOn 26 = .ok (.ifCond .ne 6, 3) := by decide +kernel
theorem dX8_stateOn_29 : decode cX8_stateOn 29 = .ok (.bipush 119, 2) := by decide +kernel
theorem dX8_stateOn_31 : decode cX8_stateOn 31 = .ok (.ireturn, 1) := by decide +kernel
theorem dX8_stateOn_32 : decode cX8_stateOn 32 = .ok (.aload_n 3, 1) := by decide +kernel
theorem dX8_stateOn_33 : decode cX8_stateOn 33 = .ok (.aload_n 1, 1) := by decide +kernel
theorem dX8_stateOn_34 : decode cX8_stateOn 34 = .ok (.getfield 285, 3) := by decide +kernel
theorem dX8_stateOn_37 : decode cX8_stateOn 37 = .ok (.iload_n 2, 1) := by decide +kernel
theorem dX8_stateOn_38 : decode cX8_stateOn 38 = .ok (.invokevirtual 326, 3) := by decide +kernel
theorem dX8_stateOn_41 : decode cX8_stateOn 41 = .ok (.ifCond .eq 8, 3) := by decide +kernel
theorem dX8_stateOn_44 : decode cX8_stateOn 44 = .ok (.bipush 112, 2) := by decide +kernel
theorem dX8_stateOn_46 : decode cX8_stateOn 46 = .ok (.goto 5, 3) := by decide +kernel
theorem dX8_stateOn_49 : decode cX8_stateOn 49 = .ok (.bipush 115, 2) := by decide +kernel
theorem dX8_stateOn_51 : decode cX8_stateOn 51 = .ok (.ireturn, 1) := by decide +kernel
theorem dX8_isToBePrinted_0 : decode cX8_isToBePrinted 0 = .ok (.iload_n 0, 1) := by decide +kernel
theorem dX8_isToBePrinted_1 : decode cX8_isToBePrinted 1 = .ok (.bipush 119, 2) := by decide +kernel
theorem dX8_isToBePrinted_3 : decode cX8_isToBePrinted 3 = .ok (.if_icmp .eq 9, 3) := by decide +kernel
theorem dX8_isToBePrinted_6 : decode cX8_isToBePrinted 6 = .ok (.iload_n 0, 1) := by decide +kernel
theorem dX8_isToBePrinted_7 : decode cX8_isToBePrinted 7 = .ok (.bipush 115, 2) := by decide +kernel
theorem dX8_isToBePrinted_9 : decode cX8_isToBePrinted 9 = .ok (.if_icmp .ne 7, 3) := by decide +kernel
theorem dX8_isToBePrinted_12 : decode cX8_isToBePrinted 12 = .ok (.iconst 1, 1) := by decide +kernel
theorem dX8_isToBePrinted_13 : decode cX8_isToBePrinted 13 = .ok (.goto 4, 3) := by decide +kernel
theorem dX8_isToBePrinted_16 : decode cX8_isToBePrinted 16 = .ok (.iconst 0, 1) := by decide +kernel
theorem dX8_isToBePrinted_17 : decode cX8_isToBePrinted 17 = .ok (.ireturn, 1) := by decide +kernel
theorem dX8_goodSheetsOf_0 : decode cX8_goodSheetsOf 0 = .ok (.aload_n 1, 1) := by decide +kernel
theorem dX8_goodSheetsOf_1 : decode cX8_goodSheetsOf 1 = .ok (.getfield 285, 3) := by decide +kernel
theorem dX8_goodSheetsOf_4 : decode cX8_goodSheetsOf 4 = .ok (.getfield 216, 3) := by decide +kernel
theorem dX8_goodSheetsOf_7 : decode cX8_goodSheetsOf 7 = .ok (.istore_n 2, 1) := by decide +kernel
theorem dX8_goodSheetsOf_8 : decode cX8_goodSheetsOf 8 = .ok (.iconst 0, 1) := by decide +kernel
theorem dX8_goodSheetsOf_9 : decode cX8_goodSheetsOf 9 = .ok (.istore_n 3, 1) := by decide +kernel
theorem dX8_goodSheetsOf_10 : decode cX8_goodSheetsOf 10 = .ok (.iconst 0, 1) := by decide +kernel
theorem dX8_goodSheetsOf_11 : decode cX8_goodSheetsOf 11 = .ok (.istore 4, 2) := by decide +kernel
theorem dX8_goodSheetsOf_13 : decode cX8_goodSheetsOf 13 = .ok (.iload 4, 2) := by decide +kernel
theorem dX8_goodSheetsOf_15 : decode cX8_goodSheetsOf 15 = .ok (.iload_n 2, 1) := by decide +kernel
theorem dX8_goodSheetsOf_16 : decode cX8_goodSheetsOf 16 = .ok (.if_icmp .ge 24, 3) := by decide +kernel
theorem dX8_goodSheetsOf_19 : decode cX8_goodSheetsOf 19 = .ok (.aload_n 0, 1) := by decide +kernel
theorem dX8_goodSheetsOf_20 : decode cX8_goodSheetsOf 20 = .ok (.aload_n 1, 1) := by decide +kernel
theorem dX8_goodSheetsOf_21 : decode cX8_goodSheetsOf 21 = .ok (.iload 4, 2) := by decide +kernel
theorem dX8_goodSheetsOf_23 : decode cX8_goodSheetsOf 23 = .ok (.invokevirtual 286, 3) := by decide +kernel
theorem dX8_goodSheetsOf_26 : decode cX8_goodSheetsOf 26 = .ok (.bipush 112, 2) := by decide +kernel
theorem dX8_goodSheetsOf_28 : decode cX8_goodSheetsOf 28 = .ok (.if_icmp .ne 6, 3) := by decide +kernel
theorem dX8_goodSheetsOf_31 : decode cX8_goodSheetsOf 31 = .ok (.iinc 3 1, 3) := by decide +kernel
theorem dX8_goodSheetsOf_34 : decode cX8_goodSheetsOf 34 = .ok (.iinc 4 1, 3) := by decide +kernel
theorem dX8_goodSheetsOf_37 : decode cX8_goodSheetsOf 37 = .ok (.goto (-24), 3) := by decide +kernel
theorem dX8_goodSheetsOf_40 : decode cX8_goodSheetsOf 40 = .ok (.iload_n 3, 1) := by decide +kernel
theorem dX8_goodSheetsOf_41 : decode cX8_goodSheetsOf 41 = .ok (.ireturn, 1) := by decide +kernel
theorem dX8_isFinished_0 : decode cX8_isFinished 0 = .ok (.aload_n 0, 1) := by decide +kernel
theorem dX8_isFinished_1 : decode cX8_isFinished 1 = .ok (.aload_n 1, 1) := by decide +kernel
theorem dX8_isFinished_2 : decode cX8_isFinished 2 = .ok (.invokevirtual 329, 3) := by decide +kernel
theorem dX8_isFinished_5 : decode cX8_isFinished 5 = .ok (.aload_n 1, 1) := by decide +kernel
theorem dX8_isFinished_6 : decode cX8_isFinished 6 = .ok (.getfield 285, 3) := by decide +kernel
theorem dX8_isFinished_9 : decode cX8_isFinished 9 = .ok (.getfield 216, 3) := by decide +kernel
theorem dX8_isFinished_12 : decode cX8_isFinished 12 = .ok (.if_icmp .ne 7, 3) := by decide +kernel
theorem dX8_isFinished_15 : decode cX8_isFinished 15 = .ok (.iconst 1, 1) := by decide +kernel
theorem dX8_isFinished_16 : decode cX8_isFinished 16 = .ok (.goto 4, 3) := by decide +kernel
theorem dX8_isFinished_19 : decode cX8_isFinished 19 = .ok (.iconst 0, 1) := by decide +kernel
theorem dX8_isFinished_20 : decode cX8_isFinished 20 = .ok (.ireturn, 1) := by decide +kernel
theorem dX8_paperNeededBy_0 : decode cX8_paperNeededBy 0 = .ok (.aload_n 1, 1) := by decide +kernel
theorem dX8_paperNeededBy_1 : decode cX8_paperNeededBy 1 = .ok (.getfield 285, 3) := by decide +kernel
theorem dX8_paperNeededBy_4 : decode cX8_paperNeededBy 4 = .ok (.getfield 216, 3) := by decide +kernel
theorem dX8_paperNeededBy_7 : decode cX8_paperNeededBy 7 = .ok (.istore_n 2, 1) := by decide +kernel
theorem dX8_paperNeededBy_8 : decode cX8_paperNeededBy 8 = .ok (.iconst 0, 1) := by decide +kernel
theorem dX8_paperNeededBy_9 : decode cX8_paperNeededBy 9 = .ok (.istore_n 3, 1) := by decide +kernel
theorem dX8_paperNeededBy_10 : decode cX8_paperNeededBy 10 = .ok (.iconst 0, 1) := by decide +kernel
theorem dX8_paperNeededBy_11 : decode cX8_paperNeededBy 11 = .ok (.istore 4, 2) := by decide +kernel
theorem dX8_paperNeededBy_13 : decode cX8_paperNeededBy 13 = .ok (.iload 4, 2) := by decide +kernel
theorem dX8_paperNeededBy_15 : decode cX8_paperNeededBy 15 = .ok (.iload_n 2, 1) := by decide +kernel
theorem dX8_paperNeededBy_16 : decode cX8_paperNeededBy 16 = .ok (.if_icmp .ge 25, 3) := by decide +kernel
theorem dX8_paperNeededBy_19 : decode cX8_paperNeededBy 19 = .ok (.aload_n 0, 1) := by decide +kernel
theorem dX8_paperNeededBy_20 : decode cX8_paperNeededBy 20 = .ok (.aload_n 1, 1) := by decide +kernel
theorem dX8_paperNeededBy_21 : decode cX8_paperNeededBy 21 = .ok (.iload 4, 2) := by decide +kernel
theorem dX8_paperNeededBy_23 : decode cX8_paperNeededBy 23 = .ok (.invokevirtual 286, 3) := by decide +kernel
theorem dX8_paperNeededBy_26 : decode cX8_paperNeededBy 26 = .ok (.invokestatic 305, 3) := by decide +kernel
theorem dX8_paperNeededBy_29 : decode cX8_paperNeededBy 29 = .ok (.ifCond .eq 6, 3) := by decide +kernel
theorem dX8_paperNeededBy_32 : decode cX8_paperNeededBy 32 = .ok (.iinc 3 1, 3) := by decide +kernel
theorem dX8_paperNeededBy_35 : decode cX8_paperNeededBy 35 = .ok (.iinc 4 1, 3) := by decide +kernel
theorem dX8_paperNeededBy_38 : decode cX8_paperNeededBy 38 = .ok (.goto (-25), 3) := by decide +kernel
theorem dX8_paperNeededBy_41 : decode cX8_paperNeededBy 41 = .ok (.aload_n 1, 1) := by decide +kernel
theorem dX8_paperNeededBy_42 : decode cX8_paperNeededBy 42 = .ok (.getfield 332, 3) := by decide +kernel
theorem dX8_paperNeededBy_45 : decode cX8_paperNeededBy 45 = .ok (.iload_n 3, 1) := by decide +kernel
theorem dX8_paperNeededBy_46 : decode cX8_paperNeededBy 46 = .ok (.imul, 1) := by decide +kernel
theorem dX8_paperNeededBy_47 : decode cX8_paperNeededBy 47 = .ok (.ireturn, 1) := by decide +kernel
theorem dX8_print_0 : decode cX8_print 0 = .ok (.aload_n 0, 1) := by decide +kernel
theorem dX8_print_1 : decode cX8_print 1 = .ok (.iload_n 1, 1) := by decide +kernel
theorem dX8_print_2 : decode cX8_print 2 = .ok (.invokevirtual 277, 3) := by decide +kernel
theorem dX8_print_5 : decode cX8_print 5 = .ok (.astore_n 3, 1) := by decide +kernel
theorem dX8_print_6 : decode cX8_print 6 = .ok (.aload_n 3, 1) := by decide +kernel
theorem dX8_print_7 : decode cX8_print 7 = .ok (.getfield 285, 3) := by decide +kernel
theorem dX8_print_10 : decode cX8_print 10 = .ok (.iload_n 2, 1) := by decide +kernel
theorem dX8_print_11 : decode cX8_print 11 = .ok (.invokestatic 222, 3) := by decide +kernel
theorem dX8_print_14 : decode cX8_print 14 = .ok (.aload_n 0, 1) := by decide +kernel
theorem dX8_print_15 : decode cX8_print 15 = .ok (.getfield 37, 3) := by decide +kernel
theorem dX8_print_18 : decode cX8_print 18 = .ok (.getfield 335, 3) := by decide +kernel
theorem dX8_print_21 : decode cX8_print 21 = .ok (.ifnonnull 14, 3) := by decide +kernel
theorem dX8_print_24 : decode cX8_print 24 = .ok (.aload_n 0, 1) := by decide +kernel
theorem dX8_print_25 : decode cX8_print 25 = .ok (.aload_n 3, 1) := by decide +kernel
theorem dX8_print_26 : decode cX8_print 26 = .ok (.iload_n 2, 1) := by decide +kernel
theorem dX8_print_27 : decode cX8_print 27 = .ok (.invokevirtual 286, 3) := by decide +kernel
theorem dX8_print_30 : decode cX8_print 30 = .ok (.bipush 112, 2) := by decide +kernel
theorem dX8_print_32 : decode cX8_print 32 = .ok (.if_icmp .ne 14, 3) := by decide +kernel
theorem dX8_print_35 : decode cX8_print 35 = .ok (.new 45, 3) := by decide +kernel
theorem dX8_print_38 : decode cX8_print 38 = .ok (.dup, 1) := by decide +kernel
theorem dX8_print_39 : decode cX8_print 39 = .ok (.ldc_w 339, 3) := by decide +kernel
theorem dX8_print_42 : decode cX8_print 42 = .ok (.invokespecial 49, 3) := by decide +kernel
theorem dX8_print_45 : decode cX8_print 45 = .ok (.athrow, 1) := by decide +kernel
theorem dX8_print_46 : decode cX8_print 46 = .ok (.aload_n 3, 1) := by decide +kernel
theorem dX8_print_47 : decode cX8_print 47 = .ok (.getfield 317, 3) := by decide +kernel
theorem dX8_print_50 : decode cX8_print 50 = .ok (.iload_n 2, 1) := by decide +kernel
theorem dX8_print_51 : decode cX8_print 51 = .ok (.aaload, 1) := by decide +kernel
theorem dX8_print_52 : decode cX8_print 52 = .ok (.astore 4, 2) := by decide +kernel
theorem dX8_print_54 : decode cX8_print 54 = .ok (.aload 4, 2) := by decide +kernel
theorem dX8_print_56 : decode cX8_print 56 = .ok (.aload_n 3, 1) := by decide +kernel
theorem dX8_print_57 : decode cX8_print 57 = .ok (.getfield 285, 3) := by decide +kernel
theorem dX8_print_60 : decode cX8_print 60 = .ok (.iload_n 2, 1) := by decide +kernel
theorem dX8_print_61 : decode cX8_print 61 = .ok (.invokevirtual 341, 3) := by decide +kernel
theorem dX8_print_64 : decode cX8_print 64 = .ok (.ifCond .ne 7, 3) := by decide +kernel
theorem dX8_print_67 : decode cX8_print 67 = .ok (.iconst 1, 1) := by decide +kernel
theorem dX8_print_68 : decode cX8_print 68 = .ok (.goto 4, 3) := by decide +kernel
theorem dX8_print_71 : decode cX8_print 71 = .ok (.iconst 0, 1) := by decide +kernel
theorem dX8_print_72 : decode cX8_print 72 = .ok (.istore 5, 2) := by decide +kernel
theorem dX8_print_74 : decode cX8_print 74 = .ok (.aload_n 0, 1) := by decide +kernel
theorem dX8_print_75 : decode cX8_print 75 = .ok (.getfield 254, 3) := by decide +kernel
theorem dX8_print_78 : decode cX8_print 78 = .ok (.aload_n 3, 1) := by decide +kernel
theorem dX8_print_79 : decode cX8_print 79 = .ok (.getfield 332, 3) := by decide +kernel
theorem dX8_print_82 : decode cX8_print 82 = .ok (.if_icmp .lt 16, 3) := by decide +kernel
theorem dX8_print_85 : decode cX8_print 85 = .ok (.iload 5, 2) := by decide +kernel
theorem dX8_print_87 : decode cX8_print 87 = .ok (.ifCond .eq 22, 3) := by decide +kernel
theorem dX8_print_90 : decode cX8_print 90 = .ok (.aload_n 0, 1) := by decide +kernel
theorem dX8_print_91 : decode cX8_print 91 = .ok (.getfield 258, 3) := by decide +kernel
theorem dX8_print_94 : decode cX8_print 94 = .ok (.iconst 1, 1) := by decide +kernel
theorem dX8_print_95 : decode cX8_print 95 = .ok (.if_icmp .ge 14, 3) := by decide +kernel
theorem dX8_print_98 : decode cX8_print 98 = .ok (.new 135, 3) := by decide +kernel
theorem dX8_print_101 : decode cX8_print 101 = .ok (.dup, 1) := by decide +kernel
theorem dX8_print_102 : decode cX8_print 102 = .ok (.ldc_w 344, 3) := by decide +kernel
theorem dX8_print_105 : decode cX8_print 105 = .ok (.invokespecial 139, 3) := by decide +kernel
theorem dX8_print_108 : decode cX8_print 108 = .ok (.athrow, 1) := by decide +kernel
theorem dX8_print_109 : decode cX8_print 109 = .ok (.aload_n 0, 1) := by decide +kernel
theorem dX8_print_110 : decode cX8_print 110 = .ok (.dup, 1) := by decide +kernel
theorem dX8_print_111 : decode cX8_print 111 = .ok (.getfield 254, 3) := by decide +kernel
theorem dX8_print_114 : decode cX8_print 114 = .ok (.aload_n 3, 1) := by decide +kernel
theorem dX8_print_115 : decode cX8_print 115 = .ok (.getfield 332, 3) := by decide +kernel
theorem dX8_print_118 : decode cX8_print 118 = .ok (.isub, 1) := by decide +kernel
theorem dX8_print_119 : decode cX8_print 119 = .ok (.putfield 254, 3) := by decide +kernel
theorem dX8_print_122 : decode cX8_print 122 = .ok (.aload_n 3, 1) := by decide +kernel
theorem dX8_print_123 : decode cX8_print 123 = .ok (.dup, 1) := by decide +kernel
theorem dX8_print_124 : decode cX8_print 124 = .ok (.getfield 346, 3) := by decide +kernel
theorem dX8_print_127 : decode cX8_print 127 = .ok (.aload_n 3, 1) := by decide +kernel
theorem dX8_print_128 : decode cX8_print 128 = .ok (.getfield 332, 3) := by decide +kernel
theorem dX8_print_131 : decode cX8_print 131 = .ok (.iadd, 1) := by decide +kernel
theorem dX8_print_132 : decode cX8_print 132 = .ok (.putfield 346, 3) := by decide +kernel
theorem dX8_print_135 : decode cX8_print 135 = .ok (.iload 5, 2) := by decide +kernel
theorem dX8_print_137 : decode cX8_print 137 = .ok (.ifCond .eq 33, 3) := by decide +kernel
theorem dX8_print_140 : decode cX8_print 140 = .ok (.aload_n 0, 1) := by decide +kernel
theorem dX8_print_141 : decode cX8_print 141 = .ok (.dup, 1) := by decide +kernel
theorem dX8_print_142 : decode cX8_print 142 = .ok (.getfield 258, 3) := by decide +kernel
theorem dX8_print_145 : decode cX8_print 145 = .ok (.iconst 1, 1) := by decide +kernel
theorem dX8_print_146 : decode cX8_print 146 = .ok (.isub, 1) := by decide +kernel
theorem dX8_print_147 : decode cX8_print 147 = .ok (.putfield 258, 3) := by decide +kernel
theorem dX8_print_150 : decode cX8_print 150 = .ok (.aload_n 3, 1) := by decide +kernel
theorem dX8_print_151 : decode cX8_print 151 = .ok (.dup, 1) := by decide +kernel
theorem dX8_print_152 : decode cX8_print 152 = .ok (.getfield 349, 3) := by decide +kernel
theorem dX8_print_155 : decode cX8_print 155 = .ok (.iconst 1, 1) := by decide +kernel
theorem dX8_print_156 : decode cX8_print 156 = .ok (.iadd, 1) := by decide +kernel
theorem dX8_print_157 : decode cX8_print 157 = .ok (.putfield 349, 3) := by decide +kernel
theorem dX8_print_160 : decode cX8_print 160 = .ok (.aload 4, 2) := by decide +kernel
theorem dX8_print_162 : decode cX8_print 162 = .ok (.aload_n 3, 1) := by decide +kernel
theorem dX8_print_163 : decode cX8_print 163 = .ok (.getfield 285, 3) := by decide +kernel
theorem dX8_print_166 : decode cX8_print 166 = .ok (.iload_n 2, 1) := by decide +kernel
theorem dX8_print_167 : decode cX8_print 167 = .ok (.invokevirtual 352, 3) := by decide +kernel
theorem dX8_print_170 : decode cX8_print 170 = .ok (.aload_n 0, 1) := by decide +kernel
theorem dX8_print_171 : decode cX8_print 171 = .ok (.getfield 37, 3) := by decide +kernel
theorem dX8_print_174 : decode cX8_print 174 = .ok (.aload_n 3, 1) := by decide +kernel
theorem dX8_print_175 : decode cX8_print 175 = .ok (.iload_n 2, 1) := by decide +kernel
theorem dX8_print_176 : decode cX8_print 176 = .ok (.aload_n 0, 1) := by decide +kernel
theorem dX8_print_177 : decode cX8_print 177 = .ok (.getfield 140, 3) := by decide +kernel
theorem dX8_print_180 : decode cX8_print 180 = .ok (.iconst 1, 1) := by decide +kernel
theorem dX8_print_181 : decode cX8_print 181 = .ok (.iadd, 1) := by decide +kernel
theorem dX8_print_182 : decode cX8_print 182 = .ok (.aload_n 3, 1) := by decide +kernel
theorem dX8_print_183 : decode cX8_print 183 = .ok (.getfield 332, 3) := by decide +kernel
theorem dX8_print_186 : decode cX8_print 186 = .ok (.bipush 100, 2) := by decide +kernel
theorem dX8_print_188 : decode cX8_print 188 = .ok (.idiv, 1) := by decide +kernel
theorem dX8_print_189 : decode cX8_print 189 = .ok (.iadd, 1) := by decide +kernel
theorem dX8_print_190 : decode cX8_print 190 = .ok (.invokevirtual 355, 3) := by decide +kernel
theorem dX8_print_193 : decode cX8_print 193 = .ok (.aload_n 0, 1) := by decide +kernel
theorem dX8_print_194 : decode cX8_print 194 = .ok (.getfield 37, 3) := by decide +kernel
theorem dX8_print_197 : decode cX8_print 197 = .ok (.getfield 359, 3) := by decide +kernel
theorem dX8_print_200 : decode cX8_print 200 = .ok (.ireturn, 1) := by decide +kernel
theorem dX8_onPress_0 : decode cX8_onPress 0 = .ok (.aload_n 0, 1) := by decide +kernel
theorem dX8_onPress_1 : decode cX8_onPress 1 = .ok (.getfield 37, 3) := by decide +kernel
theorem dX8_onPress_4 : decode cX8_onPress 4 = .ok (.getfield 335, 3) := by decide +kernel
theorem dX8_onPress_7 : decode cX8_onPress 7 = .ok (.ifnonnull 7, 3) := by decide +kernel
theorem dX8_onPress_10 : decode cX8_onPress 10 = .ok (.iconst (-1), 1) := by decide +kernel
theorem dX8_onPress_11 : decode cX8_onPress 11 = .ok (.goto 13, 3) := by decide +kernel
theorem dX8_onPress_14 : decode cX8_onPress 14 = .ok (.aload_n 0, 1) := by decide +kernel
theorem dX8_onPress_15 : decode cX8_onPress 15 = .ok (.getfield 37, 3) := by decide +kernel
theorem dX8_onPress_18 : decode cX8_onPress 18 = .ok (.getfield 335, 3) := by decide +kernel
theorem dX8_onPress_21 : decode cX8_onPress 21 = .ok (.getfield 302, 3) := by decide +kernel
theorem dX8_onPress_24 : decode cX8_onPress 24 = .ok (.ireturn, 1) := by decide +kernel
theorem dX8_pass_0 : decode cX8_pass 0 = .ok (.iload_n 1, 1) := by decide +kernel
theorem dX8_pass_1 : decode cX8_pass 1 = .ok (.iconst 1, 1) := by decide +kernel
theorem dX8_pass_2 : decode cX8_pass 2 = .ok (.if_icmp .lt 9, 3) := by decide +kernel
theorem dX8_pass_5 : decode cX8_pass 5 = .ok (.iload_n 1, 1) := by decide +kernel
theorem dX8_pass_6 : decode cX8_pass 6 = .ok (.bipush 100, 2) := by decide +kernel
theorem dX8_pass_8 : decode cX8_pass 8 = .ok (.if_icmp .le 14, 3) := by decide +kernel
theorem dX8_pass_11 : decode cX8_pass 11 = .ok (.new 67, 3) := by decide +kernel
theorem dX8_pass_14 : decode cX8_pass 14 = .ok (.dup, 1) := by decide +kernel
theorem dX8_pass_15 : decode cX8_pass 15 = .ok (.ldc_w 362, 3) := by decide +kernel
theorem dX8_pass_18 : decode cX8_pass 18 = .ok (.invokespecial 71, 3) := by decide +kernel
theorem dX8_pass_21 : decode cX8_pass 21 = .ok (.athrow, 1) := by decide +kernel
theorem dX8_pass_22 : decode cX8_pass 22 = .ok (.aload_n 0, 1) := by decide +kernel
theorem dX8_pass_23 : decode cX8_pass 23 = .ok (.getfield 140, 3) := by decide +kernel
theorem dX8_pass_26 : decode cX8_pass 26 = .ok (.iload_n 1, 1) := by decide +kernel
theorem dX8_pass_27 : decode cX8_pass 27 = .ok (.iadd, 1) := by decide +kernel
theorem dX8_pass_28 : decode cX8_pass 28 = .ok (.sipush 999, 3) := by decide +kernel
theorem dX8_pass_31 : decode cX8_pass 31 = .ok (.if_icmp .le 14, 3) := by decide +kernel
theorem dX8_pass_34 : decode cX8_pass 34 = .ok (.new 45, 3) := by decide +kernel
theorem dX8_pass_37 : decode cX8_pass 37 = .ok (.dup, 1) := by decide +kernel
theorem dX8_pass_38 : decode cX8_pass 38 = .ok (.ldc_w 364, 3) := by decide +kernel
theorem dX8_pass_41 : decode cX8_pass 41 = .ok (.invokespecial 49, 3) := by decide +kernel
theorem dX8_pass_44 : decode cX8_pass 44 = .ok (.athrow, 1) := by decide +kernel
theorem dX8_pass_45 : decode cX8_pass 45 = .ok (.aload_n 0, 1) := by decide +kernel
theorem dX8_pass_46 : decode cX8_pass 46 = .ok (.dup, 1) := by decide +kernel
theorem dX8_pass_47 : decode cX8_pass 47 = .ok (.getfield 140, 3) := by decide +kernel
theorem dX8_pass_50 : decode cX8_pass 50 = .ok (.iload_n 1, 1) := by decide +kernel
theorem dX8_pass_51 : decode cX8_pass 51 = .ok (.iadd, 1) := by decide +kernel
theorem dX8_pass_52 : decode cX8_pass 52 = .ok (.putfield 140, 3) := by decide +kernel
theorem dX8_pass_55 : decode cX8_pass 55 = .ok (.aload_n 0, 1) := by decide +kernel
theorem dX8_pass_56 : decode cX8_pass 56 = .ok (.getfield 37, 3) := by decide +kernel
theorem dX8_pass_59 : decode cX8_pass 59 = .ok (.getfield 335, 3) := by decide +kernel
theorem dX8_pass_62 : decode cX8_pass 62 = .ok (.ifnull 17, 3) := by decide +kernel
theorem dX8_pass_65 : decode cX8_pass 65 = .ok (.aload_n 0, 1) := by decide +kernel
theorem dX8_pass_66 : decode cX8_pass 66 = .ok (.getfield 37, 3) := by decide +kernel
theorem dX8_pass_69 : decode cX8_pass 69 = .ok (.getfield 359, 3) := by decide +kernel
theorem dX8_pass_72 : decode cX8_pass 72 = .ok (.aload_n 0, 1) := by decide +kernel
theorem dX8_pass_73 : decode cX8_pass 73 = .ok (.getfield 140, 3) := by decide +kernel
theorem dX8_pass_76 : decode cX8_pass 76 = .ok (.if_icmp .le 5, 3) := by decide +kernel
theorem dX8_pass_79 : decode cX8_pass 79 = .ok (.iconst 0, 1) := by decide +kernel
theorem dX8_pass_80 : decode cX8_pass 80 = .ok (.ireturn, 1) := by decide +kernel
theorem dX8_pass_81 : decode cX8_pass 81 = .ok (.aload_n 0, 1) := by decide +kernel
theorem dX8_pass_82 : decode cX8_pass 82 = .ok (.getfield 37, 3) := by decide +kernel
theorem dX8_pass_85 : decode cX8_pass 85 = .ok (.invokevirtual 366, 3) := by decide +kernel
theorem dX8_pass_88 : decode cX8_pass 88 = .ok (.iconst 1, 1) := by decide +kernel
theorem dX8_pass_89 : decode cX8_pass 89 = .ok (.ireturn, 1) := by decide +kernel
theorem dX8_hour_0 : decode cX8_hour 0 = .ok (.aload_n 0, 1) := by decide +kernel
theorem dX8_hour_1 : decode cX8_hour 1 = .ok (.getfield 140, 3) := by decide +kernel
theorem dX8_hour_4 : decode cX8_hour 4 = .ok (.ireturn, 1) := by decide +kernel
theorem dX8_plateLength_0 : decode cX8_plateLength 0 = .ok (.aload_n 0, 1) := by decide +kernel
theorem dX8_plateLength_1 : decode cX8_plateLength 1 = .ok (.iload_n 1, 1) := by decide +kernel
theorem dX8_plateLength_2 : decode cX8_plateLength 2 = .ok (.iload_n 2, 1) := by decide +kernel
theorem dX8_plateLength_3 : decode cX8_plateLength 3 = .ok (.invokevirtual 369, 3) := by decide +kernel
theorem dX8_plateLength_6 : decode cX8_plateLength 6 = .ok (.getfield 373, 3) := by decide +kernel
theorem dX8_plateLength_9 : decode cX8_plateLength 9 = .ok (.ireturn, 1) := by decide +kernel
theorem dX8_plateAt_0 : decode cX8_plateAt 0 = .ok (.aload_n 0, 1) := by decide +kernel
theorem dX8_plateAt_1 : decode cX8_plateAt 1 = .ok (.iload_n 1, 1) := by decide +kernel
theorem dX8_plateAt_2 : decode cX8_plateAt 2 = .ok (.iload_n 2, 1) := by decide +kernel
theorem dX8_plateAt_3 : decode cX8_plateAt 3 = .ok (.invokevirtual 369, 3) := by decide +kernel
theorem dX8_plateAt_6 : decode cX8_plateAt 6 = .ok (.astore 4, 2) := by decide +kernel
theorem dX8_plateAt_8 : decode cX8_plateAt 8 = .ok (.iload_n 3, 1) := by decide +kernel
theorem dX8_plateAt_9 : decode cX8_plateAt 9 = .ok (.ifCond .lt 12, 3) := by decide +kernel
theorem dX8_plateAt_12 : decode cX8_plateAt 12 = .ok (.iload_n 3, 1) := by decide +kernel
theorem dX8_plateAt_13 : decode cX8_plateAt 13 = .ok (.aload 4, 2) := by decide +kernel
theorem dX8_plateAt_15 : decode cX8_plateAt 15 = .ok (.getfield 373, 3) := by decide +kernel
theorem dX8_plateAt_18 : decode cX8_plateAt 18 = .ok (.if_icmp .lt 13, 3) := by decide +kernel
theorem dX8_plateAt_21 : decode cX8_plateAt 21 = .ok (.new 45, 3) := by decide +kernel
theorem dX8_plateAt_24 : decode cX8_plateAt 24 = .ok (.dup, 1) := by decide +kernel
theorem dX8_plateAt_25 : decode cX8_plateAt 25 = .ok (.ldc 250, 2) := by decide +kernel
theorem dX8_plateAt_27 : decode cX8_plateAt 27 = .ok (.invokespecial 49, 3) := by decide +kernel
theorem dX8_plateAt_30 : decode cX8_plateAt 30 = .ok (.athrow, 1) := by decide +kernel
theorem dX8_plateAt_31 : decode cX8_plateAt 31 = .ok (.aload 4, 2) := by decide +kernel
theorem dX8_plateAt_33 : decode cX8_plateAt 33 = .ok (.getfield 376, 3) := by decide +kernel
theorem dX8_plateAt_36 : decode cX8_plateAt 36 = .ok (.iload_n 3, 1) := by decide +kernel
theorem dX8_plateAt_37 : decode cX8_plateAt 37 = .ok (.iaload, 1) := by decide +kernel
theorem dX8_plateAt_38 : decode cX8_plateAt 38 = .ok (.ireturn, 1) := by decide +kernel
theorem dX8_platedRecordOf_0 : decode cX8_platedRecordOf 0 = .ok (.aload_n 0, 1) := by decide +kernel
theorem dX8_platedRecordOf_1 : decode cX8_platedRecordOf 1 = .ok (.iload_n 1, 1) := by decide +kernel
theorem dX8_platedRecordOf_2 : decode cX8_platedRecordOf 2 = .ok (.invokevirtual 277, 3) := by decide +kernel
theorem dX8_platedRecordOf_5 : decode cX8_platedRecordOf 5 = .ok (.astore_n 3, 1) := by decide +kernel
theorem dX8_platedRecordOf_6 : decode cX8_platedRecordOf 6 = .ok (.aload_n 3, 1) := by decide +kernel
theorem dX8_platedRecordOf_7 : decode cX8_platedRecordOf 7 = .ok (.getfield 285, 3) := by decide +kernel
theorem dX8_platedRecordOf_10 : decode cX8_platedRecordOf 10 = .ok (.iload_n 2, 1) := by decide +kernel
theorem dX8_platedRecordOf_11 : decode cX8_platedRecordOf 11 = .ok (.invokestatic 222, 3) := by decide +kernel
theorem dX8_platedRecordOf_14 : decode cX8_platedRecordOf 14 = .ok (.aload_n 3, 1) := by decide +kernel
theorem dX8_platedRecordOf_15 : decode cX8_platedRecordOf 15 = .ok (.getfield 317, 3) := by decide +kernel
theorem dX8_platedRecordOf_18 : decode cX8_platedRecordOf 18 = .ok (.iload_n 2, 1) := by decide +kernel
theorem dX8_platedRecordOf_19 : decode cX8_platedRecordOf 19 = .ok (.aaload, 1) := by decide +kernel
theorem dX8_platedRecordOf_20 : decode cX8_platedRecordOf 20 = .ok (.astore 4, 2) := by decide +kernel
theorem dX8_platedRecordOf_22 : decode cX8_platedRecordOf 22 = .ok (.aload 4, 2) := by decide +kernel
theorem dX8_platedRecordOf_24 : decode cX8_platedRecordOf 24 = .ok (.getfield 380, 3) := by decide +kernel
theorem dX8_platedRecordOf_27 : decode cX8_platedRecordOf 27 = .ok (.ifCond .ne 14, 3) := by decide +kernel
theorem dX8_platedRecordOf_30 : decode cX8_platedRecordOf 30 = .ok (.new 45, 3) := by decide +kernel
theorem dX8_platedRecordOf_33 : decode cX8_platedRecordOf 33 = .ok (.dup, 1) := by decide +kernel
theorem dX8_platedRecordOf_34 : decode cX8_platedRecordOf 34 = .ok (.ldc_w 383, 3) := by decide +kernel
theorem dX8_platedRecordOf_37 : decode cX8_platedRecordOf 37 = .ok (.invokespecial 49, 3) := by decide +kernel
theorem dX8_platedRecordOf_40 : decode cX8_platedRecordOf 40 = .ok (.athrow, 1) := by decide +kernel
theorem dX8_platedRecordOf_41 : decode cX8_platedRecordOf 41 = .ok (.aload 4, 2) := by decide +kernel
theorem dX8_platedRecordOf_43 : decode cX8_platedRecordOf 43 = .ok (.areturn, 1) := by decide +kernel
theorem dX8_platesFor_0 : decode cX8_platesFor 0 = .ok (.aload_n 0, 1) := by decide +kernel
theorem dX8_platesFor_1 : decode cX8_platesFor 1 = .ok (.iload_n 1, 1) := by decide +kernel
theorem dX8_platesFor_2 : decode cX8_platesFor 2 = .ok (.invokevirtual 277, 3) := by decide +kernel
theorem dX8_platesFor_5 : decode cX8_platesFor 5 = .ok (.getfield 349, 3) := by decide +kernel
theorem dX8_platesFor_8 : decode cX8_platesFor 8 = .ok (.ireturn, 1) := by decide +kernel
theorem dX8_wasted_0 : decode cX8_wasted 0 = .ok (.aload_n 0, 1) := by decide +kernel
theorem dX8_wasted_1 : decode cX8_wasted 1 = .ok (.iload_n 1, 1) := by decide +kernel
theorem dX8_wasted_2 : decode cX8_wasted 2 = .ok (.invokevirtual 277, 3) := by decide +kernel
theorem dX8_wasted_5 : decode cX8_wasted 5 = .ok (.getfield 385, 3) := by decide +kernel
theorem dX8_wasted_8 : decode cX8_wasted 8 = .ok (.ireturn, 1) := by decide +kernel
theorem dX8_cost_0 : decode cX8_cost 0 = .ok (.aload_n 0, 1) := by decide +kernel
theorem dX8_cost_1 : decode cX8_cost 1 = .ok (.iload_n 1, 1) := by decide +kernel
theorem dX8_cost_2 : decode cX8_cost 2 = .ok (.invokevirtual 277, 3) := by decide +kernel
theorem dX8_cost_5 : decode cX8_cost 5 = .ok (.astore_n 2, 1) := by decide +kernel
theorem dX8_cost_6 : decode cX8_cost 6 = .ok (.ldc2_w 388, 3) := by decide +kernel
theorem dX8_cost_9 : decode cX8_cost 9 = .ok (.aload_n 2, 1) := by decide +kernel
theorem dX8_cost_10 : decode cX8_cost 10 = .ok (.getfield 346, 3) := by decide +kernel
theorem dX8_cost_13 : decode cX8_cost 13 = .ok (.i2l, 1) := by decide +kernel
theorem dX8_cost_14 : decode cX8_cost 14 = .ok (.lmul, 1) := by decide +kernel
theorem dX8_cost_15 : decode cX8_cost 15 = .ok (.ldc2_w 390, 3) := by decide +kernel
theorem dX8_cost_18 : decode cX8_cost 18 = .ok (.aload_n 2, 1) := by decide +kernel
theorem dX8_cost_19 : decode cX8_cost 19 = .ok (.getfield 349, 3) := by decide +kernel
theorem dX8_cost_22 : decode cX8_cost 22 = .ok (.i2l, 1) := by decide +kernel
theorem dX8_cost_23 : decode cX8_cost 23 = .ok (.lmul, 1) := by decide +kernel
theorem dX8_cost_24 : decode cX8_cost 24 = .ok (.ladd, 1) := by decide +kernel
theorem dX8_cost_25 : decode cX8_cost 25 = .ok (.lreturn, 1) := by decide +kernel
theorem dX8_goodShare_0 : decode cX8_goodShare 0 = .ok (.iconst 0, 1) := by decide +kernel
theorem dX8_goodShare_1 : decode cX8_goodShare 1 = .ok (.istore_n 1, 1) := by decide +kernel
theorem dX8_goodShare_2 : decode cX8_goodShare 2 = .ok (.iconst 0, 1) := by decide +kernel
theorem dX8_goodShare_3 : decode cX8_goodShare 3 = .ok (.istore_n 2, 1) := by decide +kernel
theorem dX8_goodShare_4 : decode cX8_goodShare 4 = .ok (.iconst 0, 1) := by decide +kernel
theorem dX8_goodShare_5 : decode cX8_goodShare 5 = .ok (.istore_n 3, 1) := by decide +kernel
theorem dX8_goodShare_6 : decode cX8_goodShare 6 = .ok (.iload_n 3, 1) := by decide +kernel
theorem dX8_goodShare_7 : decode cX8_goodShare 7 = .ok (.aload_n 0, 1) := by decide +kernel
theorem dX8_goodShare_8 : decode cX8_goodShare 8 = .ok (.getfield 263, 3) := by decide +kernel
theorem dX8_goodShare_11 : decode cX8_goodShare 11 = .ok (.if_icmp .ge 37, 3) := by decide +kernel
theorem dX8_goodShare_14 : decode cX8_goodShare 14 = .ok (.iload_n 1, 1) := by decide +kernel
theorem dX8_goodShare_15 : decode cX8_goodShare 15 = .ok (.aload_n 0, 1) := by decide +kernel
theorem dX8_goodShare_16 : decode cX8_goodShare 16 = .ok (.aload_n 0, 1) := by decide +kernel
theorem dX8_goodShare_17 : decode cX8_goodShare 17 = .ok (.getfield 23, 3) := by decide +kernel
theorem dX8_goodShare_20 : decode cX8_goodShare 20 = .ok (.iload_n 3, 1) := by decide +kernel
theorem dX8_goodShare_21 : decode cX8_goodShare 21 = .ok (.aaload, 1) := by decide +kernel
theorem dX8_goodShare_22 : decode cX8_goodShare 22 = .ok (.invokevirtual 329, 3) := by decide +kernel
theorem dX8_goodShare_25 : decode cX8_goodShare 25 = .ok (.iadd, 1) := by decide +kernel
theorem dX8_goodShare_26 : decode cX8_goodShare 26 = .ok (.istore_n 1, 1) := by decide +kernel
theorem dX8_goodShare_27 : decode cX8_goodShare 27 = .ok (.iload_n 2, 1) := by decide +kernel
theorem dX8_goodShare_28 : decode cX8_goodShare 28 = .ok (.aload_n 0, 1) := by decide +kernel
theorem dX8_goodShare_29 : decode cX8_goodShare 29 = .ok (.getfield 23, 3) := by decide +kernel
theorem dX8_goodShare_32 : decode cX8_goodShare 32 = .ok (.iload_n 3, 1) := by decide +kernel
theorem dX8_goodShare_33 : decode cX8_goodShare 33 = .ok (.aaload, 1) := by decide +kernel
theorem dX8_goodShare_34 : decode cX8_goodShare 34 = .ok (.getfield 285, 3) := by decide +kernel
theorem dX8_goodShare_37 : decode cX8_goodShare 37 = .ok (.getfield 216, 3) := by decide +kernel
theorem dX8_goodShare_40 : decode cX8_goodShare 40 = .ok (.iadd, 1) := by decide +kernel
theorem dX8_goodShare_41 : decode cX8_goodShare 41 = .ok (.istore_n 2, 1) := by decide +kernel
theorem dX8_goodShare_42 : decode cX8_goodShare 42 = .ok (.iinc 3 1, 3) := by decide +kernel
theorem dX8_goodShare_45 : decode cX8_goodShare 45 = .ok (.goto (-39), 3) := by decide +kernel
theorem dX8_goodShare_48 : decode cX8_goodShare 48 = .ok (.iload_n 2, 1) := by decide +kernel
theorem dX8_goodShare_49 : decode cX8_goodShare 49 = .ok (.ifCond .ne 14, 3) := by decide +kernel
theorem dX8_goodShare_52 : decode cX8_goodShare 52 = .ok (.new 392, 3) := by decide +kernel
theorem dX8_goodShare_55 : decode cX8_goodShare 55 = .ok (.dup, 1) := by decide +kernel
theorem dX8_goodShare_56 : decode cX8_goodShare 56 = .ok (.ldc_w 394, 3) := by decide +kernel
theorem dX8_goodShare_59 : decode cX8_goodShare 59 = .ok (.invokespecial 396, 3) := by decide +kernel
theorem dX8_goodShare_62 : decode cX8_goodShare 62 = .ok (.athrow, 1) := by decide +kernel
theorem dX8_goodShare_63 : decode cX8_goodShare 63 = .ok (.iload_n 1, 1) := by decide +kernel
theorem dX8_goodShare_64 : decode cX8_goodShare 64 = .ok (.i2f, 1) := by decide +kernel
theorem dX8_goodShare_65 : decode cX8_goodShare 65 = .ok (.iload_n 2, 1) := by decide +kernel
theorem dX8_goodShare_66 : decode cX8_goodShare 66 = .ok (.i2f, 1) := by decide +kernel
theorem dX8_goodShare_67 : decode cX8_goodShare 67 = .ok (.fdiv, 1) := by decide +kernel
theorem dX8_goodShare_68 : decode cX8_goodShare 68 = .ok (.freturn, 1) := by decide +kernel
theorem dX8_meanLength_0 : decode cX8_meanLength 0 = .ok (.aload_n 0, 1) := by decide +kernel
theorem dX8_meanLength_1 : decode cX8_meanLength 1 = .ok (.getfield 41, 3) := by decide +kernel
theorem dX8_meanLength_4 : decode cX8_meanLength 4 = .ok (.ifCond .ne 14, 3) := by decide +kernel
theorem dX8_meanLength_7 : decode cX8_meanLength 7 = .ok (.new 392, 3) := by decide +kernel
theorem dX8_meanLength_10 : decode cX8_meanLength 10 = .ok (.dup, 1) := by decide +kernel
theorem dX8_meanLength_11 : decode cX8_meanLength 11 = .ok (.ldc_w 397, 3) := by decide +kernel
theorem dX8_meanLength_14 : decode cX8_meanLength 14 = .ok (.invokespecial 396, 3) := by decide +kernel
theorem dX8_meanLength_17 : decode cX8_meanLength 17 = .ok (.athrow, 1) := by decide +kernel
theorem dX8_meanLength_18 : decode cX8_meanLength 18 = .ok (.iconst 0, 1) := by decide +kernel
theorem dX8_meanLength_19 : decode cX8_meanLength 19 = .ok (.istore_n 1, 1) := by decide +kernel
theorem dX8_meanLength_20 : decode cX8_meanLength 20 = .ok (.iconst 0, 1) := by decide +kernel
theorem dX8_meanLength_21 : decode cX8_meanLength 21 = .ok (.istore_n 2, 1) := by decide +kernel
theorem dX8_meanLength_22 : decode cX8_meanLength 22 = .ok (.iload_n 2, 1) := by decide +kernel
theorem dX8_meanLength_23 : decode cX8_meanLength 23 = .ok (.aload_n 0, 1) := by decide +kernel
theorem dX8_meanLength_24 : decode cX8_meanLength 24 = .ok (.getfield 41, 3) := by decide +kernel
theorem dX8_meanLength_27 : decode cX8_meanLength 27 = .ok (.if_icmp .ge 24, 3) := by decide +kernel
theorem dX8_meanLength_30 : decode cX8_meanLength 30 = .ok (.iload_n 1, 1) := by decide +kernel
theorem dX8_meanLength_31 : decode cX8_meanLength 31 = .ok (.aload_n 0, 1) := by decide +kernel
theorem dX8_meanLength_32 : decode cX8_meanLength 32 = .ok (.getfield 11, 3) := by decide +kernel
theorem dX8_meanLength_35 : decode cX8_meanLength 35 = .ok (.iload_n 2, 1) := by decide +kernel
theorem dX8_meanLength_36 : decode cX8_meanLength 36 = .ok (.aaload, 1) := by decide +kernel
theorem dX8_meanLength_37 : decode cX8_meanLength 37 = .ok (.getfield 72, 3) := by decide +kernel
theorem dX8_meanLength_40 : decode cX8_meanLength 40 = .ok (.getfield 76, 3) := by decide +kernel
theorem dX8_meanLength_43 : decode cX8_meanLength 43 = .ok (.iadd, 1) := by decide +kernel
theorem dX8_meanLength_44 : decode cX8_meanLength 44 = .ok (.istore_n 1, 1) := by decide +kernel
theorem dX8_meanLength_45 : decode cX8_meanLength 45 = .ok (.iinc 2 1, 3) := by decide +kernel
theorem dX8_meanLength_48 : decode cX8_meanLength 48 = .ok (.goto (-26), 3) := by decide +kernel
theorem dX8_meanLength_51 : decode cX8_meanLength 51 = .ok (.iload_n 1, 1) := by decide +kernel
theorem dX8_meanLength_52 : decode cX8_meanLength 52 = .ok (.i2d, 1) := by decide +kernel
theorem dX8_meanLength_53 : decode cX8_meanLength 53 = .ok (.aload_n 0, 1) := by decide +kernel
theorem dX8_meanLength_54 : decode cX8_meanLength 54 = .ok (.getfield 41, 3) := by decide +kernel
theorem dX8_meanLength_57 : decode cX8_meanLength 57 = .ok (.i2d, 1) := by decide +kernel
theorem dX8_meanLength_58 : decode cX8_meanLength 58 = .ok (.ddiv, 1) := by decide +kernel
theorem dX8_meanLength_59 : decode cX8_meanLength 59 = .ok (.dreturn, 1) := by decide +kernel
theorem dX9_init_0 : decode cX9_init 0 = .ok (.aload_n 0, 1) := by decide +kernel
theorem dX9_init_1 : decode cX9_init 1 = .ok (.invokespecial 1, 3) := by decide +kernel
theorem dX9_init_4 : decode cX9_init 4 = .ok (.aload_n 0, 1) := by decide +kernel
theorem dX9_init_5 : decode cX9_init 5 = .ok (.sipush 240, 3) := by decide +kernel
theorem dX9_init_8 : decode cX9_init 8 = .ok (.newarray .int, 2) := by decide +kernel
theorem dX9_init_10 : decode cX9_init 10 = .ok (.putfield 7, 3) := by decide +kernel
theorem dX9_init_13 : decode cX9_init 13 = .ok (.aload_n 0, 1) := by decide +kernel
theorem dX9_init_14 : decode cX9_init 14 = .ok (.iconst 3, 1) := by decide +kernel
theorem dX9_init_15 : decode cX9_init 15 = .ok (.newarray .int, 2) := by decide +kernel
theorem dX9_init_17 : decode cX9_init 17 = .ok (.putfield 13, 3) := by decide +kernel
theorem dX9_init_20 : decode cX9_init 20 = .ok (.aload_n 0, 1) := by decide +kernel
theorem dX9_init_21 : decode cX9_init 21 = .ok (.iconst 3, 1) := by decide +kernel
theorem dX9_init_22 : decode cX9_init 22 = .ok (.newarray .int, 2) := by decide +kernel
theorem dX9_init_24 : decode cX9_init 24 = .ok (.putfield 16, 3) := by decide +kernel
theorem dX9_init_27 : decode cX9_init 27 = .ok (.aload_n 0, 1) := by decide +kernel
theorem dX9_init_28 : decode cX9_init 28 = .ok (.iconst 3, 1) := by decide +kernel
theorem dX9_init_29 : decode cX9_init 29 = .ok (.newarray .int, 2) := by decide +kernel
theorem dX9_init_31 : decode cX9_init 31 = .ok (.putfield 19, 3) := by decide +kernel
theorem dX9_init_34 : decode cX9_init 34 = .ok (.aload_n 0, 1) := by decide +kernel
theorem dX9_init_35 : decode cX9_init 35 = .ok (.sipush 240, 3) := by decide +kernel
theorem dX9_init_38 : decode cX9_init 38 = .ok (.newarray .int, 2) := by decide +kernel
theorem dX9_init_40 : decode cX9_init 40 = .ok (.putfield 22, 3) := by decide +kernel
theorem dX9_init_43 : decode cX9_init 43 = .ok (.aload_n 0, 1) := by decide +kernel
theorem dX9_init_44 : decode cX9_init 44 = .ok (.iconst 3, 1) := by decide +kernel
theorem dX9_init_45 : decode cX9_init 45 = .ok (.newarray .int, 2) := by decide +kernel
theorem dX9_init_47 : decode cX9_init 47 = .ok (.putfield 25, 3) := by decide +kernel
theorem dX9_init_50 : decode cX9_init 50 = .ok (.aload_n 0, 1) := by decide +kernel
theorem dX9_init_51 : decode cX9_init 51 = .ok (.iconst 3, 1) := by decide +kernel
theorem dX9_init_52 : decode cX9_init 52 = .ok (.newarray .int, 2) := by decide +kernel
theorem dX9_init_54 : decode cX9_init 54 = .ok (.putfield 28, 3) := by decide +kernel
theorem dX9_init_57 : decode cX9_init 57 = .ok (.aload_n 0, 1) := by decide +kernel
theorem dX9_init_58 : decode cX9_init 58 = .ok (.bipush 8, 2) := by decide +kernel
theorem dX9_init_60 : decode cX9_init 60 = .ok (.newarray .int, 2) := by decide +kernel
theorem dX9_init_62 : decode cX9_init 62 = .ok (.putfield 31, 3) := by decide +kernel
theorem dX9_init_65 : decode cX9_init 65 = .ok (.aload_n 0, 1) := by decide +kernel
theorem dX9_init_66 : decode cX9_init 66 = .ok (.bipush 8, 2) := by decide +kernel
theorem dX9_init_68 : decode cX9_init 68 = .ok (.newarray .int, 2) := by decide +kernel
theorem dX9_init_70 : decode cX9_init 70 = .ok (.putfield 34, 3) := by decide +kernel
theorem dX9_init_73 : decode cX9_init 73 = .ok (.aload_n 0, 1) := by decide +kernel
theorem dX9_init_74 : decode cX9_init 74 = .ok (.bipush 8, 2) := by decide +kernel
theorem dX9_init_76 : decode cX9_init 76 = .ok (.newarray .int, 2) := by decide +kernel
theorem dX9_init_78 : decode cX9_init 78 = .ok (.putfield 37, 3) := by decide +kernel
theorem dX9_init_81 : decode cX9_init 81 = .ok (.aload_n 0, 1) := by decide +kernel
theorem dX9_init_82 : decode cX9_init 82 = .ok (.bipush 8, 2) := by decide +kernel
theorem dX9_init_84 : decode cX9_init 84 = .ok (.newarray .boolean, 2) := by decide +kernel
theorem dX9_init_86 : decode cX9_init 86 = .ok (.putfield 40, 3) := by decide +kernel
theorem dX9_init_89 : decode cX9_init 89 = .ok (.aload_n 0, 1) := by decide +kernel
theorem dX9_init_90 : decode cX9_init 90 = .ok (.bipush 6, 2) := by decide +kernel
theorem dX9_init_92 : decode cX9_init 92 = .ok (.newarray .int, 2) := by decide +kernel
theorem dX9_init_94 : decode cX9_init 94 = .ok (.putfield 44, 3) := by decide +kernel
theorem dX9_init_97 : decode cX9_init 97 = .ok (.aload_n 0, 1) := by decide +kernel
theorem dX9_init_98 : decode cX9_init 98 = .ok (.bipush 6, 2) := by decide +kernel
theorem dX9_init_100 : decode cX9_init 100 = .ok (.newarray .int, 2) := by decide +kernel
theorem dX9_init_102 : decode cX9_init 102 = .ok (.putfield 47, 3) := by decide +kernel
theorem dX9_init_105 : decode cX9_init 105 = .ok (.aload_n 0, 1) := by decide +kernel
theorem dX9_init_106 : decode cX9_init 106 = .ok (.bipush 6, 2) := by decide +kernel
theorem dX9_init_108 : decode cX9_init 108 = .ok (.newarray .int, 2) := by decide +kernel
theorem dX9_init_110 : decode cX9_init 110 = .ok (.putfield 50, 3) := by decide +kernel
theorem dX9_init_113 : decode cX9_init 113 = .ok (.aload_n 0, 1) := by decide +kernel
theorem dX9_init_114 : decode cX9_init 114 = .ok (.bipush 6, 2) := by decide +kernel
theorem dX9_init_116 : decode cX9_init 116 = .ok (.newarray .int, 2) := by decide +kernel
theorem dX9_init_118 : decode cX9_init 118 = .ok (.putfield 53, 3) := by decide +kernel
theorem dX9_init_121 : decode cX9_init 121 = .ok (.aload_n 0, 1) := by decide +kernel
theorem dX9_init_122 : decode cX9_init 122 = .ok (.bipush 6, 2) := by decide +kernel
theorem dX9_init_124 : decode cX9_init 124 = .ok (.newarray .int, 2) := by decide +kernel
theorem dX9_init_126 : decode cX9_init 126 = .ok (.putfield 56, 3) := by decide +kernel
theorem dX9_init_129 : decode cX9_init 129 = .ok (.aload_n 0, 1) := by decide +kernel
theorem dX9_init_130 : decode cX9_init 130 = .ok (.bipush 18, 2) := by decide +kernel
theorem dX9_init_132 : decode cX9_init 132 = .ok (.newarray .int, 2) := by decide +kernel
theorem dX9_init_134 : decode cX9_init 134 = .ok (.putfield 59, 3) := by decide +kernel
theorem dX9_init_137 : decode cX9_init 137 = .ok (.aload_n 0, 1) := by decide +kernel
theorem dX9_init_138 : decode cX9_init 138 = .ok (.bipush 18, 2) := by decide +kernel
theorem dX9_init_140 : decode cX9_init 140 = .ok (.newarray .int, 2) := by decide +kernel
theorem dX9_init_142 : decode cX9_init 142 = .ok (.putfield 62, 3) := by decide +kernel
theorem dX9_init_145 : decode cX9_init 145 = .ok (.aload_n 0, 1) := by decide +kernel
theorem dX9_init_146 : decode cX9_init 146 = .ok (.sipush 576, 3) := by decide +kernel
theorem dX9_init_149 : decode cX9_init 149 = .ok (.newarray .int, 2) := by decide +kernel
theorem dX9_init_151 : decode cX9_init 151 = .ok (.putfield 65, 3) := by decide +kernel
theorem dX9_init_154 : decode cX9_init 154 = .ok (.aload_n 0, 1) := by decide +kernel
theorem dX9_init_155 : decode cX9_init 155 = .ok (.sipush 576, 3) := by decide +kernel
theorem dX9_init_158 : decode cX9_init 158 = .ok (.newarray .int, 2) := by decide +kernel
theorem dX9_init_160 : decode cX9_init 160 = .ok (.putfield 68, 3) := by decide +kernel
theorem dX9_init_163 : decode cX9_init 163 = .ok (.aload_n 0, 1) := by decide +kernel
theorem dX9_init_164 : decode cX9_init 164 = .ok (.iconst (-1), 1) := by decide +kernel
theorem dX9_init_165 : decode cX9_init 165 = .ok (.putfield 71, 3) := by decide +kernel
theorem dX9_init_168 : decode cX9_init 168 = .ok (.aload_n 0, 1) := by decide +kernel
theorem dX9_init_169 : decode cX9_init 169 = .ok (.bipush 32, 2) := by decide +kernel
theorem dX9_init_171 : decode cX9_init 171 = .ok (.newarray .int, 2) := by decide +kernel
theorem dX9_init_173 : decode cX9_init 173 = .ok (.putfield 75, 3) := by decide +kernel
theorem dX9_init_176 : decode cX9_init 176 = .ok (.return_, 1) := by decide +kernel
theorem dX9_thrown_0 : decode cX9_thrown 0 = .ok (.aload_n 0, 1) := by decide +kernel
theorem dX9_thrown_1 : decode cX9_thrown 1 = .ok (.getfield 78, 3) := by decide +kernel
theorem dX9_thrown_4 : decode cX9_thrown 4 = .ok (.ireturn, 1) := by decide +kernel
theorem dX9_in_0 : decode cX9_in 0 = .ok (.lload_n 0, 1) := by decide +kernel
theorem dX9_in_1 : decode cX9_in 1 = .ok (.lload_n 2, 1) := by decide +kernel
theorem dX9_in_2 : decode cX9_in 2 = .ok (.lcmp, 1) := by decide +kernel
theorem dX9_in_3 : decode cX9_in 3 = .ok (.ifCond .lt 14, 3) := by decide +kernel
theorem dX9_in_6 : decode cX9_in 6 = .ok (.lload_n 0, 1) := by decide +kernel
theorem dX9_in_7 : decode cX9_in 7 = .ok (.lload 4, 2) := by decide +kernel
theorem dX9_in_9 : decode cX9_in 9 = .ok (.lcmp, 1) := by decide +kernel
theorem dX9_in_10 : decode cX9_in 10 = .ok (.ifCond .gt 7, 3) := by decide +kernel
theorem dX9_in_13 : decode cX9_in 13 = .ok (.iconst 1, 1) := by decide +kernel
theorem dX9_in_14 : decode cX9_in 14 = .ok (.goto 4, 3) := by decide +kernel
theorem dX9_in_17 : decode cX9_in 17 = .ok (.iconst 0, 1) := by decide +kernel
theorem dX9_in_18 : decode cX9_in 18 = .ok (.ireturn, 1) := by decide +kernel
theorem dX9_isDocument_0 : decode cX9_isDocument 0 = .ok (.iload_n 1, 1) := by decide +kernel
theorem dX9_isDocument_1 : decode cX9_isDocument 1 = .ok (.i2l, 1) := by decide +kernel
theorem dX9_isDocument_2 : decode cX9_isDocument 2 = .ok (.lconst 0, 1) := by decide +kernel
theorem dX9_isDocument_3 : decode cX9_isDocument 3 = .ok (.aload_n 0, 1) := by decide +kernel
theorem dX9_isDocument_4 : decode cX9_isDocument 4 = .ok (.getfield 81, 3) := by decide +kernel
theorem dX9_isDocument_7 : decode cX9_isDocument 7 = .ok (.iconst 1, 1) := by decide +kernel
theorem dX9_isDocument_8 : decode cX9_isDocument 8 = .ok (.isub, 1) := by decide +kernel
theorem dX9_isDocument_9 : decode cX9_isDocument 9 = .ok (.i2l, 1) := by decide +kernel
theorem dX9_isDocument_10 : decode cX9_isDocument 10 = .ok (.invokestatic 84, 3) := by decide +kernel
theorem dX9_isDocument_13 : decode cX9_isDocument 13 = .ok (.ireturn, 1) := by decide +kernel
theorem dX9_addDocument_0 : decode cX9_addDocument 0 = .ok (.aload_n 0, 1) := by decide +kernel
theorem dX9_addDocument_1 : decode cX9_addDocument 1 = .ok (.aload_n 0, 1) := by decide +kernel
theorem dX9_addDocument_2 : decode cX9_addDocument 2 = .ok (.getfield 81, 3) := by decide +kernel
theorem dX9_addDocument_5 : decode cX9_addDocument 5 = .ok (.iconst 3, 1) := by decide +kernel
theorem dX9_addDocument_6 : decode cX9_addDocument 6 = .ok (.if_icmp .ne 7, 3) := by decide +kernel
theorem dX9_addDocument_9 : decode cX9_addDocument 9 = .ok (.iconst 1, 1) := by decide +kernel
theorem dX9_addDocument_10 : decode cX9_addDocument 10 = .ok (.goto 4, 3) := by decide +kernel
theorem dX9_addDocument_13 : decode cX9_addDocument 13 = .ok (.iconst 0, 1) := by decide +kernel
theorem dX9_addDocument_14 : decode cX9_addDocument 14 = .ok (.putfield 78, 3) := by decide +kernel
theorem dX9_addDocument_17 : decode cX9_addDocument 17 = .ok (.aload_n 0, 1) := by decide +kernel
theorem dX9_addDocument_18 : decode cX9_addDocument 18 = .ok (.getfield 78, 3) := by decide +kernel
theorem dX9_addDocument_21 : decode cX9_addDocument 21 = .ok (.ifCond .le 5, 3) := by decide +kernel
theorem dX9_addDocument_24 : decode cX9_addDocument 24 = .ok (.iconst (-1), 1) := by decide +kernel
theorem dX9_addDocument_25 : decode cX9_addDocument 25 = .ok (.ireturn, 1) := by decide +kernel
theorem dX9_addDocument_26 : decode cX9_addDocument 26 = .ok (.aload_n 0, 1) := by decide +kernel
theorem dX9_addDocument_27 : decode cX9_addDocument 27 = .ok (.getfield 19, 3) := by decide +kernel
theorem dX9_addDocument_30 : decode cX9_addDocument 30 = .ok (.aload_n 0, 1) := by decide +kernel
theorem dX9_addDocument_31 : decode cX9_addDocument 31 = .ok (.getfield 81, 3) := by decide +kernel
theorem dX9_addDocument_34 : decode cX9_addDocument 34 = .ok (.sipush 999, 3) := by decide +kernel
theorem dX9_addDocument_37 : decode cX9_addDocument 37 = .ok (.iastore, 1) := by decide +kernel
theorem dX9_addDocument_38 : decode cX9_addDocument 38 = .ok (.aload_n 0, 1) := by decide +kernel
theorem dX9_addDocument_39 : decode cX9_addDocument 39 = .ok (.getfield 28, 3) := by decide +kernel
theorem dX9_addDocument_42 : decode cX9_addDocument 42 = .ok (.aload_n 0, 1) := by decide +kernel
theorem dX9_addDocument_43 : decode cX9_addDocument 43 = .ok (.getfield 81, 3) := by decide +kernel
theorem dX9_addDocument_46 : decode cX9_addDocument 46 = .ok (.iconst (-1), 1) := by decide +kernel
theorem dX9_addDocument_47 : decode cX9_addDocument 47 = .ok (.iastore, 1) := by decide +kernel
theorem dX9_addDocument_48 : decode cX9_addDocument 48 = .ok (.aload_n 0, 1) := by decide +kernel
theorem dX9_addDocument_49 : decode cX9_addDocument 49 = .ok (.dup, 1) := by decide +kernel
theorem dX9_addDocument_50 : decode cX9_addDocument 50 = .ok (.getfield 81, 3) := by decide +kernel
theorem dX9_addDocument_53 : decode cX9_addDocument 53 = .ok (.iconst 1, 1) := by decide +kernel
theorem dX9_addDocument_54 : decode cX9_addDocument 54 = .ok (.iadd, 1) := by decide +kernel
theorem dX9_addDocument_55 : decode cX9_addDocument 55 = .ok (.putfield 81, 3) := by decide +kernel
theorem dX9_addDocument_58 : decode cX9_addDocument 58 = .ok (.aload_n 0, 1) := by decide +kernel
theorem dX9_addDocument_59 : decode cX9_addDocument 59 = .ok (.getfield 81, 3) := by decide +kernel
theorem dX9_addDocument_62 : decode cX9_addDocument 62 = .ok (.iconst 1, 1) := by decide +kernel
theorem dX9_addDocument_63 : decode cX9_addDocument 63 = .ok (.isub, 1) := by decide +kernel
theorem dX9_addDocument_64 : decode cX9_addDocument 64 = .ok (.ireturn, 1) := by decide +kernel
theorem dX9_barOf_0 : decode cX9_barOf 0 = .ok (.aload_n 0, 1) := by decide +kernel
theorem dX9_barOf_1 : decode cX9_barOf 1 = .ok (.getfield 88, 3) := by decide +kernel
theorem dX9_barOf_4 : decode cX9_barOf 4 = .ok (.aload_n 0, 1) := by decide +kernel
theorem dX9_barOf_5 : decode cX9_barOf 5 = .ok (.getfield 19, 3) := by decide +kernel
theorem dX9_barOf_8 : decode cX9_barOf 8 = .ok (.iload_n 1, 1) := by decide +kernel
theorem dX9_barOf_9 : decode cX9_barOf 9 = .ok (.iaload, 1) := by decide +kernel
theorem dX9_barOf_10 : decode cX9_barOf 10 = .ok (.if_icmp .lt 6, 3) := by decide +kernel
theorem dX9_barOf_13 : decode cX9_barOf 13 = .ok (.bipush 99, 2) := by decide +kernel
theorem dX9_barOf_15 : decode cX9_barOf 15 = .ok (.ireturn, 1) := by decide +kernel
theorem dX9_barOf_16 : decode cX9_barOf 16 = .ok (.iconst 0, 1) := by decide +kernel
theorem dX9_barOf_17 : decode cX9_barOf 17 = .ok (.istore 4, 2) := by decide +kernel
theorem dX9_barOf_19 : decode cX9_barOf 19 = .ok (.iload 4, 2) := by decide +kernel
theorem dX9_barOf_21 : decode cX9_barOf 21 = .ok (.aload_n 0, 1) := by decide +kernel
theorem dX9_barOf_22 : decode cX9_barOf 22 = .ok (.getfield 91, 3) := by decide +kernel
theorem dX9_barOf_25 : decode cX9_barOf 25 = .ok (.if_icmp .ge 85, 3) := by decide +kernel
theorem dX9_barOf_28 : decode cX9_barOf 28 = .ok (.aload_n 0, 1) := by decide +kernel
theorem dX9_barOf_29 : decode cX9_barOf 29 = .ok (.getfield 40, 3) := by decide +kernel
theorem dX9_barOf_32 : decode cX9_barOf 32 = .ok (.iload 4, 2) := by decide +kernel
theorem dX9_barOf_34 : decode cX9_barOf 34 = .ok (.baload, 1) := by decide +kernel
theorem dX9_barOf_35 : decode cX9_barOf 35 = .ok (.ifCond .eq 18, 3) := by decide +kernel
theorem dX9_barOf_38 : decode cX9_barOf 38 = .ok (.aload_n 0, 1) := by decide +kernel
theorem dX9_barOf_39 : decode cX9_barOf 39 = .ok (.getfield 31, 3) := by decide +kernel
theorem dX9_barOf_42 : decode cX9_barOf 42 = .ok (.iload 4, 2) := by decide +kernel
theorem dX9_barOf_44 : decode cX9_barOf 44 = .ok (.iaload, 1) := by decide +kernel
theorem dX9_barOf_45 : decode cX9_barOf 45 = .ok (.iload_n 1, 1) := by decide +kernel
theorem dX9_barOf_46 : decode cX9_barOf 46 = .ok (.if_icmp .ne 7, 3) := by decide +kernel
theorem dX9_barOf_49 : decode cX9_barOf 49 = .ok (.iconst 1, 1) := by decide +kernel
theorem dX9_barOf_50 : decode cX9_barOf 50 = .ok (.goto 4, 3) := by decide +kernel
theorem dX9_barOf_53 : decode cX9_barOf 53 = .ok (.iconst 0, 1) := by decide +kernel
theorem dX9_barOf_54 : decode cX9_barOf 54 = .ok (.istore 5, 2) := by decide +kernel
theorem dX9_barOf_56 : decode cX9_barOf 56 = .ok (.aload_n 0, 1) := by decide +kernel
theorem dX9_barOf_57 : decode cX9_barOf 57 = .ok (.getfield 34, 3) := by decide +kernel
theorem dX9_barOf_60 : decode cX9_barOf 60 = .ok (.iload 4, 2) := by decide +kernel
theorem dX9_barOf_62 : decode cX9_barOf 62 = .ok (.iaload, 1) := by decide +kernel
theorem dX9_barOf_63 : decode cX9_barOf 63 = .ok (.iload_n 3, 1) := by decide +kernel
theorem dX9_barOf_64 : decode cX9_barOf 64 = .ok (.ifCond .eq 7, 3) := by decide +kernel
theorem dX9_barOf_67 : decode cX9_barOf 67 = .ok (.iconst 1, 1) := by decide +kernel
theorem dX9_barOf_68 : decode cX9_barOf 68 = .ok (.goto 4, 3) := by decide +kernel
theorem dX9_barOf_71 : decode cX9_barOf 71 = .ok (.iconst 0, 1) := by decide +kernel
theorem dX9_barOf_72 : decode cX9_barOf 72 = .ok (.iadd, 1) := by decide +kernel
theorem dX9_barOf_73 : decode cX9_barOf 73 = .ok (.istore 6, 2) := by decide +kernel
theorem dX9_barOf_75 : decode cX9_barOf 75 = .ok (.iload 5, 2) := by decide +kernel
theorem dX9_barOf_77 : decode cX9_barOf 77 = .ok (.ifCond .eq 27, 3) := by decide +kernel
theorem dX9_barOf_80 : decode cX9_barOf 80 = .ok (.iload_n 2, 1) := by decide +kernel
theorem dX9_barOf_81 : decode cX9_barOf 81 = .ok (.i2l, 1) := by decide +kernel
theorem dX9_barOf_82 : decode cX9_barOf 82 = .ok (.iload 6, 2) := by decide +kernel
theorem dX9_barOf_84 : decode cX9_barOf 84 = .ok (.i2l, 1) := by decide +kernel
theorem dX9_barOf_85 : decode cX9_barOf 85 = .ok (.aload_n 0, 1) := by decide +kernel
theorem dX9_barOf_86 : decode cX9_barOf 86 = .ok (.getfield 37, 3) := by decide +kernel
theorem dX9_barOf_89 : decode cX9_barOf 89 = .ok (.iload 4, 2) := by decide +kernel
theorem dX9_barOf_91 : decode cX9_barOf 91 = .ok (.iaload, 1) := by decide +kernel
theorem dX9_barOf_92 : decode cX9_barOf 92 = .ok (.iconst 1, 1) := by decide +kernel
theorem dX9_barOf_93 : decode cX9_barOf 93 = .ok (.isub, 1) := by decide +kernel
theorem dX9_barOf_94 : decode cX9_barOf 94 = .ok (.i2l, 1) := by decide +kernel
theorem dX9_barOf_95 : decode cX9_barOf 95 = .ok (.invokestatic 84, 3) := by decide +kernel
theorem dX9_barOf_98 : decode cX9_barOf 98 = .ok (.ifCond .eq 6, 3) := by decide +kernel
theorem dX9_barOf_101 : decode cX9_barOf 101 = .ok (.bipush 102, 2) := by decide +kernel
theorem dX9_barOf_103 : decode cX9_barOf 103 = .ok (.ireturn, 1) := by decide +kernel
theorem dX9_barOf_104 : decode cX9_barOf 104 = .ok (.iinc 4 1, 3) := by decide +kernel
theorem dX9_barOf_107 : decode cX9_barOf 107 = .ok (.goto (-88), 3) := by decide +kernel
theorem dX9_barOf_110 : decode cX9_barOf 110 = .ok (.aload_n 0, 1) := by decide +kernel
theorem dX9_barOf_111 : decode cX9_barOf 111 = .ok (.getfield 71, 3) := by decide +kernel
theorem dX9_barOf_114 : decode cX9_barOf 114 = .ok (.iconst (-1), 1) := by decide +kernel
theorem dX9_barOf_115 : decode cX9_barOf 115 = .ok (.if_icmp .eq 31, 3) := by decide +kernel
theorem dX9_barOf_118 : decode cX9_barOf 118 = .ok (.aload_n 0, 1) := by decide +kernel
theorem dX9_barOf_119 : decode cX9_barOf 119 = .ok (.getfield 44, 3) := by decide +kernel
theorem dX9_barOf_122 : decode cX9_barOf 122 = .ok (.aload_n 0, 1) := by decide +kernel
theorem dX9_barOf_123 : decode cX9_barOf 123 = .ok (.getfield 71, 3) := by decide +kernel
theorem dX9_barOf_126 : decode cX9_barOf 126 = .ok (.iaload, 1) := by decide +kernel
theorem dX9_barOf_127 : decode cX9_barOf 127 = .ok (.iload_n 1, 1) := by decide +kernel
theorem dX9_barOf_128 : decode cX9_barOf 128 = .ok (.if_icmp .ne 18, 3) := by decide +kernel
theorem dX9_barOf_131 : decode cX9_barOf 131 = .ok (.aload_n 0, 1) := by decide +kernel
theorem dX9_barOf_132 : decode cX9_barOf 132 = .ok (.getfield 94, 3) := by decide +kernel
theorem dX9_barOf_135 : decode cX9_barOf 135 = .ok (.iload_n 2, 1) := by decide +kernel
theorem dX9_barOf_136 : decode cX9_barOf 136 = .ok (.bipush 8, 2) := by decide +kernel
theorem dX9_barOf_138 : decode cX9_barOf 138 = .ok (.idiv, 1) := by decide +kernel
theorem dX9_barOf_139 : decode cX9_barOf 139 = .ok (.if_icmp .lt 7, 3) := by decide +kernel
theorem dX9_barOf_142 : decode cX9_barOf 142 = .ok (.iconst 1, 1) := by decide +kernel
theorem dX9_barOf_143 : decode cX9_barOf 143 = .ok (.goto 4, 3) := by decide +kernel
theorem dX9_barOf_146 : decode cX9_barOf 146 = .ok (.iconst 0, 1) := by decide +kernel
theorem dX9_barOf_147 : decode cX9_barOf 147 = .ok (.istore 4, 2) := by decide +kernel
theorem dX9_barOf_149 : decode cX9_barOf 149 = .ok (.iload 4, 2) := by decide +kernel
theorem dX9_barOf_151 : decode cX9_barOf 151 = .ok (.ifCond .eq 8, 3) := by decide +kernel
theorem dX9_barOf_154 : decode cX9_barOf 154 = .ok (.bipush 108, 2) := by decide +kernel
theorem dX9_barOf_156 : decode cX9_barOf 156 = .ok (.goto 5, 3) := by decide +kernel
theorem dX9_barOf_159 : decode cX9_barOf 159 = .ok (.bipush 45, 2) := by decide +kernel
theorem dX9_barOf_161 : decode cX9_barOf 161 = .ok (.ireturn, 1) := by decide +kernel
theorem dX9_isCode_0 : decode cX9_isCode 0 = .ok (.iload_n 0, 1) := by decide +kernel
theorem dX9_isCode_1 : decode cX9_isCode 1 = .ok (.i2l, 1) := by decide +kernel
theorem dX9_isCode_2 : decode cX9_isCode 2 = .ok (.ldc2_w 97, 3) := by decide +kernel
theorem dX9_isCode_5 : decode cX9_isCode 5 = .ok (.ldc2_w 99, 3) := by decide +kernel
theorem dX9_isCode_8 : decode cX9_isCode 8 = .ok (.invokestatic 84, 3) := by decide +kernel
theorem dX9_isCode_11 : decode cX9_isCode 11 = .ok (.ifCond .ne 23, 3) := by decide +kernel
theorem dX9_isCode_14 : decode cX9_isCode 14 = .ok (.iload_n 0, 1) := by decide +kernel
theorem dX9_isCode_15 : decode cX9_isCode 15 = .ok (.bipush 32, 2) := by decide +kernel
theorem dX9_isCode_17 : decode cX9_isCode 17 = .ok (.if_icmp .eq 17, 3) := by decide +kernel
theorem dX9_isCode_20 : decode cX9_isCode 20 = .ok (.iload_n 0, 1) := by decide +kernel
theorem dX9_isCode_21 : decode cX9_isCode 21 = .ok (.i2l, 1) := by decide +kernel
theorem dX9_isCode_22 : decode cX9_isCode 22 = .ok (.ldc2_w 101, 3) := by decide +kernel
theorem dX9_isCode_25 : decode cX9_isCode 25 = .ok (.ldc2_w 103, 3) := by decide +kernel
theorem dX9_isCode_28 : decode cX9_isCode 28 = .ok (.invokestatic 84, 3) := by decide +kernel
theorem dX9_isCode_31 : decode cX9_isCode 31 = .ok (.ifCond .eq 7, 3) := by decide +kernel
theorem dX9_isCode_34 : decode cX9_isCode 34 = .ok (.iconst 1, 1) := by decide +kernel
theorem dX9_isCode_35 : decode cX9_isCode 35 = .ok (.goto 4, 3) := by decide +kernel
theorem dX9_isCode_38 : decode cX9_isCode 38 = .ok (.iconst 0, 1) := by decide +kernel
theorem dX9_isCode_39 : decode cX9_isCode 39 = .ok (.ireturn, 1) := by decide +kernel
theorem dX9_moves_0 : decode cX9_moves 0 = .ok (.iconst 0, 1) := by decide +kernel
theorem dX9_moves_1 : decode cX9_moves 1 = .ok (.istore 4, 2) := by decide +kernel
theorem dX9_moves_3 : decode cX9_moves 3 = .ok (.iload 4, 2) := by decide +kernel
theorem dX9_moves_5 : decode cX9_moves 5 = .ok (.aload_n 0, 1) := by decide +kernel
theorem dX9_moves_6 : decode cX9_moves 6 = .ok (.getfield 91, 3) := by decide +kernel
theorem dX9_moves_9 : decode cX9_moves 9 = .ok (.if_icmp .ge 98, 3) := by decide +kernel
theorem dX9_moves_12 : decode cX9_moves 12 = .ok (.iload_n 3, 1) := by decide +kernel
theorem dX9_moves_13 : decode cX9_moves 13 = .ok (.ifCond .le 22, 3) := by decide +kernel
theorem dX9_moves_16 : decode cX9_moves 16 = .ok (.iload_n 2, 1) := by decide +kernel
theorem dX9_moves_17 : decode cX9_moves 17 = .ok (.aload_n 0, 1) := by decide +kernel
theorem dX9_moves_18 : decode cX9_moves 18 = .ok (.getfield 34, 3) := by decide +kernel
theorem dX9_moves_21 : decode cX9_moves 21 = .ok (.iload 4, 2) := by decide +kernel
theorem dX9_moves_23 : decode cX9_moves 23 = .ok (.iaload, 1) := by decide +kernel
theorem dX9_moves_24 : decode cX9_moves 24 = .ok (.if_icmp .gt 7, 3) := by decide +kernel
theorem dX9_moves_27 : decode cX9_moves 27 = .ok (.iconst 1, 1) := by decide +kernel
theorem dX9_moves_28 : decode cX9_moves 28 = .ok (.goto 23, 3) := by decide +kernel
theorem dX9_moves_31 : decode cX9_moves 31 = .ok (.iconst 0, 1) := by decide +kernel
theorem dX9_moves_32 : decode cX9_moves 32 = .ok (.goto 19, 3) := by decide +kernel
theorem dX9_moves_35 : decode cX9_moves 35 = .ok (.iload_n 2, 1) := by decide +kernel
theorem dX9_moves_36 : decode cX9_moves 36 = .ok (.aload_n 0, 1) := by decide +kernel
theorem dX9_moves_37 : decode cX9_moves 37 = .ok (.getfield 34, 3) := by decide +kernel
theorem dX9_moves_40 : decode cX9_moves 40 = .ok (.iload 4, 2) := by decide +kernel
theorem dX9_moves_42 : decode cX9_moves 42 = .ok (.iaload, 1) := by decide +kernel
theorem dX9_moves_43 : decode cX9_moves 43 = .ok (.if_icmp .ge 7, 3) := by decide +kernel
theorem dX9_moves_46 : decode cX9_moves 46 = .ok (.iconst 1, 1) := by decide +kernel
theorem dX9_moves_47 : decode cX9_moves 47 = .ok (.goto 4, 3) := by decide +kernel
theorem dX9_moves_50 : decode cX9_moves 50 = .ok (.iconst 0, 1) := by decide +kernel
theorem dX9_moves_51 : decode cX9_moves 51 = .ok (.istore 5, 2) := by decide +kernel
theorem dX9_moves_53 : decode cX9_moves 53 = .ok (.aload_n 0, 1) := by decide +kernel
theorem dX9_moves_54 : decode cX9_moves 54 = .ok (.getfield 40, 3) := by decide +kernel
theorem dX9_moves_57 : decode cX9_moves 57 = .ok (.iload 4, 2) := by decide +kernel
theorem dX9_moves_59 : decode cX9_moves 59 = .ok (.baload, 1) := by decide +kernel
theorem dX9_moves_60 : decode cX9_moves 60 = .ok (.ifCond .eq 41, 3) := by decide +kernel
theorem dX9_moves_63 : decode cX9_moves 63 = .ok (.aload_n 0, 1) := by decide +kernel
theorem dX9_moves_64 : decode cX9_moves 64 = .ok (.getfield 31, 3) := by decide +kernel
theorem dX9_moves_67 : decode cX9_moves 67 = .ok (.iload 4, 2) := by decide +kernel
theorem dX9_moves_69 : decode cX9_moves 69 = .ok (.iaload, 1) := by decide +kernel
theorem dX9_moves_70 : decode cX9_moves 70 = .ok (.iload_n 1, 1) := by decide +kernel
theorem dX9_moves_71 : decode cX9_moves 71 = .ok (.if_icmp .ne 30, 3) := by decide +kernel
theorem dX9_moves_74 : decode cX9_moves 74 = .ok (.iload 5, 2) := by decide +kernel
theorem dX9_moves_76 : decode cX9_moves 76 = .ok (.ifCond .eq 25, 3) := by decide +kernel
theorem dX9_moves_79 : decode cX9_moves 79 = .ok (.aload_n 0, 1) := by decide +kernel
theorem dX9_moves_80 : decode cX9_moves 80 = .ok (.getfield 34, 3) := by decide +kernel
theorem dX9_moves_83 : decode cX9_moves 83 = .ok (.iload 4, 2) := by decide +kernel
theorem dX9_moves_85 : decode cX9_moves 85 = .ok (.dup2, 1) := by decide +kernel
theorem dX9_moves_86 : decode cX9_moves 86 = .ok (.iaload, 1) := by decide +kernel
theorem dX9_moves_87 : decode cX9_moves 87 = .ok (.iload_n 3, 1) := by decide +kernel
theorem dX9_moves_88 : decode cX9_moves 88 = .ok (.iadd, 1) := by decide +kernel
theorem dX9_moves_89 : decode cX9_moves 89 = .ok (.iastore, 1) := by decide +kernel
theorem dX9_moves_90 : decode cX9_moves 90 = .ok (.aload_n 0, 1) := by decide +kernel
theorem dX9_moves_91 : decode cX9_moves 91 = .ok (.getfield 37, 3) := by decide +kernel
theorem dX9_moves_94 : decode cX9_moves 94 = .ok (.iload 4, 2) := by decide +kernel
theorem dX9_moves_96 : decode cX9_moves 96 = .ok (.dup2, 1) := by decide +kernel
theorem dX9_moves_97 : decode cX9_moves 97 = .ok (.iaload, 1) := by decide +kernel
theorem dX9_moves_98 : decode cX9_moves 98 = .ok (.iload_n 3, 1) := by decide +kernel
theorem dX9_moves_99 : decode cX9_moves 99 = .ok (.iadd, 1) := by decide +kernel
theorem dX9_moves_100 : decode cX9_moves 100 = .ok (.iastore, 1) := by decide +kernel
theorem dX9_moves_101 : decode cX9_moves 101 = .ok (.iinc 4 1, 3) := by decide +kernel
theorem dX9_moves_104 : decode cX9_moves 104 = .ok (.goto (-101), 3) := by decide +kernel
theorem dX9_moves_107 : decode cX9_moves 107 = .ok (.return_, 1) := by decide +kernel
theorem dX9_insert_0 : decode cX9_insert 0 = .ok (.aload_n 0, 1) := by decide +kernel
theorem dX9_insert_1 : decode cX9_insert 1 = .ok (.iload_n 1, 1) := by decide +kernel
theorem dX9_insert_2 : decode cX9_insert 2 = .ok (.invokevirtual 105, 3) := by decide +kernel
theorem dX9_insert_5 : decode cX9_insert 5 = .ok (.ifCond .eq 19, 3) := by decide +kernel
theorem dX9_insert_8 : decode cX9_insert 8 = .ok (.iload_n 2, 1) := by decide +kernel
theorem dX9_insert_9 : decode cX9_insert 9 = .ok (.i2l, 1) := by decide +kernel
theorem dX9_insert_10 : decode cX9_insert 10 = .ok (.lconst 0, 1) := by decide +kernel
theorem dX9_insert_11 : decode cX9_insert 11 = .ok (.aload_n 0, 1) := by decide +kernel
theorem dX9_insert_12 : decode cX9_insert 12 = .ok (.getfield 13, 3) := by decide +kernel
theorem dX9_insert_15 : decode cX9_insert 15 = .ok (.iload_n 1, 1) := by decide +kernel
theorem dX9_insert_16 : decode cX9_insert 16 = .ok (.iaload, 1) := by decide +kernel
theorem dX9_insert_17 : decode cX9_insert 17 = .ok (.i2l, 1) := by decide +kernel
theorem dX9_insert_18 : decode cX9_insert 18 = .ok (.invokestatic 84, 3) := by decide +kernel
theorem dX9_insert_21 : decode cX9_insert 21 = .ok (.ifCond .ne 22, 3) := by decide +kernel
theorem dX9_insert_24 : decode cX9_insert 24 = .ok (.aload_n 0, 1) := by decide +kernel
theorem dX9_insert_25 : decode cX9_insert 25 = .ok (.aload_n 0, 1) := by decide +kernel
theorem dX9_insert_26 : decode cX9_insert 26 = .ok (.iload_n 1, 1) := by decide +kernel
theorem dX9_insert_27 : decode cX9_insert 27 = .ok (.invokevirtual 105, 3) := by decide +kernel
theorem dX9_insert_30 : decode cX9_insert 30 = .ok (.ifCond .ne 7, 3) := by decide +kernel
theorem dX9_insert_33 : decode cX9_insert 33 = .ok (.iconst 1, 1) := by decide +kernel
theorem dX9_insert_34 : decode cX9_insert 34 = .ok (.goto 4, 3) := by decide +kernel
theorem dX9_insert_37 : decode cX9_insert 37 = .ok (.iconst 2, 1) := by decide +kernel
theorem dX9_insert_38 : decode cX9_insert 38 = .ok (.putfield 78, 3) := by decide +kernel
theorem dX9_insert_41 : decode cX9_insert 41 = .ok (.iconst (-1), 1) := by decide +kernel
theorem dX9_insert_42 : decode cX9_insert 42 = .ok (.ireturn, 1) := by decide +kernel
theorem dX9_insert_43 : decode cX9_insert 43 = .ok (.aload_n 0, 1) := by decide +kernel
theorem dX9_insert_44 : decode cX9_insert 44 = .ok (.iload_n 1, 1) := by decide +kernel
theorem dX9_insert_45 : decode cX9_insert 45 = .ok (.iload_n 2, 1) := by decide +kernel
theorem dX9_insert_46 : decode cX9_insert 46 = .ok (.iconst 1, 1) := by decide +kernel
theorem dX9_insert_47 : decode cX9_insert 47 = .ok (.invokevirtual 109, 3) := by decide +kernel
theorem dX9_insert_50 : decode cX9_insert 50 = .ok (.bipush 45, 2) := by decide +kernel
theorem dX9_insert_52 : decode cX9_insert 52 = .ok (.if_icmp .eq 7, 3) := by decide +kernel
theorem dX9_insert_55 : decode cX9_insert 55 = .ok (.iconst 1, 1) := by decide +kernel
theorem dX9_insert_56 : decode cX9_insert 56 = .ok (.goto 4, 3) := by decide +kernel
theorem dX9_insert_59 : decode cX9_insert 59 = .ok (.iconst 0, 1) := by decide +kernel
theorem dX9_insert_60 : decode cX9_insert 60 = .ok (.istore 4, 2) := by decide +kernel
theorem dX9_insert_62 : decode cX9_insert 62 = .ok (.aload_n 0, 1) := by decide +kernel
theorem dX9_insert_63 : decode cX9_insert 63 = .ok (.iload_n 3, 1) := by decide +kernel
theorem dX9_insert_64 : decode cX9_insert 64 = .ok (.invokestatic 113, 3) := by decide +kernel
theorem dX9_insert_67 : decode cX9_insert 67 = .ok (.ifCond .ne 7, 3) := by decide +kernel
theorem dX9_insert_70 : decode cX9_insert 70 = .ok (.iconst 3, 1) := by decide +kernel
theorem dX9_insert_71 : decode cX9_insert 71 = .ok (.goto 28, 3) := by decide +kernel
theorem dX9_insert_74 : decode cX9_insert 74 = .ok (.aload_n 0, 1) := by decide +kernel
theorem dX9_insert_75 : decode cX9_insert 75 = .ok (.getfield 13, 3) := by decide +kernel
theorem dX9_insert_78 : decode cX9_insert 78 = .ok (.iload_n 1, 1) := by decide +kernel
theorem dX9_insert_79 : decode cX9_insert 79 = .ok (.iaload, 1) := by decide +kernel
theorem dX9_insert_80 : decode cX9_insert 80 = .ok (.bipush 80, 2) := by decide +kernel
theorem dX9_insert_82 : decode cX9_insert 82 = .ok (.if_icmp .ne 7, 3) := by decide +kernel
theorem dX9_insert_85 : decode cX9_insert 85 = .ok (.iconst 4, 1) := by decide +kernel
theorem dX9_insert_86 : decode cX9_insert 86 = .ok (.goto 13, 3) := by decide +kernel
theorem dX9_insert_89 : decode cX9_insert 89 = .ok (.iload 4, 2) := by decide +kernel
theorem dX9_insert_91 : decode cX9_insert 91 = .ok (.ifCond .eq 7, 3) := by decide +kernel
theorem dX9_insert_94 : decode cX9_insert 94 = .ok (.iconst 5, 1) := by decide +kernel
theorem dX9_insert_95 : decode cX9_insert 95 = .ok (.goto 4, 3) := by decide +kernel
theorem dX9_insert_98 : decode cX9_insert 98 = .ok (.iconst 0, 1) := by decide +kernel
theorem dX9_insert_99 : decode cX9_insert 99 = .ok (.putfield 78, 3) := by decide +kernel
theorem dX9_insert_102 : decode cX9_insert 102 = .ok (.aload_n 0, 1) := by decide +kernel
theorem dX9_insert_103 : decode cX9_insert 103 = .ok (.getfield 78, 3) := by decide +kernel
theorem dX9_insert_106 : decode cX9_insert 106 = .ok (.ifCond .le 5, 3) := by decide +kernel
theorem dX9_insert_109 : decode cX9_insert 109 = .ok (.iconst (-1), 1) := by decide +kernel
theorem dX9_insert_110 : decode cX9_insert 110 = .ok (.ireturn, 1) := by decide +kernel
theorem dX9_insert_111 : decode cX9_insert 111 = .ok (.aload_n 0, 1) := by decide +kernel
theorem dX9_insert_112 : decode cX9_insert 112 = .ok (.getfield 13, 3) := by decide +kernel
theorem dX9_insert_115 : decode cX9_insert 115 = .ok (.iload_n 1, 1) := by decide +kernel
theorem dX9_insert_116 : decode cX9_insert 116 = .ok (.iaload, 1) := by decide +kernel
theorem dX9_insert_117 : decode cX9_insert 117 = .ok (.istore 5, 2) := by decide +kernel
theorem dX9_insert_119 : decode cX9_insert 119 = .ok (.iload 5, 2) := by decide +kernel
theorem dX9_insert_121 : decode cX9_insert 121 = .ok (.iload_n 2, 1) := by decide +kernel
theorem dX9_insert_122 : decode cX9_insert 122 = .ok (.if_icmp .le 35, 3) := by decide +kernel
theorem dX9_insert_125 : decode cX9_insert 125 = .ok (.aload_n 0, 1) := by decide +kernel
theorem dX9_insert_126 : decode cX9_insert 126 = .ok (.getfield 7, 3) := by decide +kernel
theorem dX9_insert_129 : decode cX9_insert 129 = .ok (.bipush 80, 2) := by decide +kernel
theorem dX9_insert_131 : decode cX9_insert 131 = .ok (.iload_n 1, 1) := by decide +kernel
theorem dX9_insert_132 : decode cX9_insert 132 = .ok (.imul, 1) := by decide +kernel
theorem dX9_insert_133 : decode cX9_insert 133 = .ok (.iload 5, 2) := by decide +kernel
theorem dX9_insert_135 : decode cX9_insert 135 = .ok (.iadd, 1) := by decide +kernel
theorem dX9_insert_136 : decode cX9_insert 136 = .ok (.aload_n 0, 1) := by decide +kernel
theorem dX9_insert_137 : decode cX9_insert 137 = .ok (.getfield 7, 3) := by decide +kernel
theorem dX9_insert_140 : decode cX9_insert 140 = .ok (.bipush 80, 2) := by decide +kernel
theorem dX9_insert_142 : decode cX9_insert 142 = .ok (.iload_n 1, 1) := by decide +kernel
theorem dX9_insert_143 : decode cX9_insert 143 = .ok (.imul, 1) := by decide +kernel
theorem dX9_insert_144 : decode cX9_insert 144 = .ok (.iload 5, 2) := by decide +kernel
theorem dX9_insert_146 : decode cX9_insert 146 = .ok (.iadd, 1) := by decide +kernel
theorem dX9_insert_147 : decode cX9_insert 147 = .ok (.iconst 1, 1) := by decide +kernel
theorem dX9_insert_148 : decode cX9_insert 148 = .ok (.isub, 1) := by decide +kernel
theorem dX9_insert_149 : decode cX9_insert 149 = .ok (.iaload, 1) := by decide +kernel
theorem dX9_insert_150 : decode cX9_insert 150 = .ok (.iastore, 1) := by decide +kernel
theorem dX9_insert_151 : decode cX9_insert 151 = .ok (.iinc 5 (-1), 3) := by decide +kernel
