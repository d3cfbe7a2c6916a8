theorem dX5_context_0 : decode cX5_context 0 = .ok (.iconst 0, 1) := by decide +kernel
theorem dX5_context_1 : decode cX5_context 1 = .ok (.istore_n 2, 1) := by decide +kernel
theorem dX5_context_2 : decode cX5_context 2 = .ok (.iconst 0, 1) := by decide +kernel
theorem dX5_context_3 : decode cX5_context 3 = .ok (.istore_n 3, 1) := by decide +kernel
theorem dX5_context_4 : decode cX5_context 4 = .ok (.iload_n 3, 1) := by decide +kernel
theorem dX5_context_5 : decode cX5_context 5 = .ok (.aload_n 0, 1) := by decide +kernel
theorem dX5_context_6 : decode cX5_context 6 = .ok (.getfield 9, 3) := by decide +kernel
theorem dX5_context_9 : decode cX5_context 9 = .ok (.iload_n 1, 1) := by decide +kernel
theorem dX5_context_10 : decode cX5_context 10 = .ok (.iaload, 1) := by decide +kernel
theorem dX5_context_11 : decode cX5_context 11 = .ok (.if_icmp .ge 24, 3) := by decide +kernel
theorem dX5_context_14 : decode cX5_context 14 = .ok (.sipush 257, 3) := by decide +kernel
theorem dX5_context_17 : decode cX5_context 17 = .ok (.iload_n 2, 1) := by decide +kernel
theorem dX5_context_18 : decode cX5_context 18 = .ok (.imul, 1) := by decide +kernel
theorem dX5_context_19 : decode cX5_context 19 = .ok (.iconst 1, 1) := by decide +kernel
theorem dX5_context_20 : decode cX5_context 20 = .ok (.iadd, 1) := by decide +kernel
theorem dX5_context_21 : decode cX5_context 21 = .ok (.aload_n 0, 1) := by decide +kernel
theorem dX5_context_22 : decode cX5_context 22 = .ok (.getfield 37, 3) := by decide +kernel
theorem dX5_context_25 : decode cX5_context 25 = .ok (.iload_n 3, 1) := by decide +kernel
theorem dX5_context_26 : decode cX5_context 26 = .ok (.iaload, 1) := by decide +kernel
theorem dX5_context_27 : decode cX5_context 27 = .ok (.iadd, 1) := by decide +kernel
theorem dX5_context_28 : decode cX5_context 28 = .ok (.istore_n 2, 1) := by decide +kernel
theorem dX5_context_29 : decode cX5_context 29 = .ok (.iinc 3 1, 3) := by decide +kernel
theorem dX5_context_32 : decode cX5_context 32 = .ok (.goto (-28), 3) := by decide +kernel
theorem dX5_context_35 : decode cX5_context 35 = .ok (.iload_n 2, 1) := by decide +kernel
theorem dX5_context_36 : decode cX5_context 36 = .ok (.ireturn, 1) := by decide +kernel
set_option maxRecDepth 20000 in
theorem ggX5_indexOf_X5_context : GoodIn wsX5_indexOf wsX5_context := goodIn_r _ [7, 8, 9, 10, 11, 12, 13, 14, 15, 16, 17, 18, 19, 20, 21, 22, 23, 24, 25, 26, 27, 28, 29, 30, 31] (by decide +kernel) (by decide +kernel)
set_option maxRecDepth 20000 in
theorem gX5_indexOf_X5_context : GoodIn wsX5_indexOf (wsV RX5 83 RX5 yX5_context wsX5_context) := goodIn_app (goodIn_of _ (by decide +kernel)) ggX5_indexOf_X5_context
theorem dX5_indexOf_0 : decode cX5_indexOf 0 = .ok (.bipush 73, 2) := by decide +kernel
theorem dX5_indexOf_2 : decode cX5_indexOf 2 = .ok (.aload_n 0, 1) := by decide +kernel
theorem dX5_indexOf_3 : decode cX5_indexOf 3 = .ok (.iload_n 1, 1) := by decide +kernel
theorem dX5_indexOf_4 : decode cX5_indexOf 4 = .ok (.invokevirtual 83, 3) := by decide +kernel
theorem dX5_indexOf_7 : decode cX5_indexOf 7 = .ok (.imul, 1) := by decide +kernel
theorem dX5_indexOf_8 : decode cX5_indexOf 8 = .ok (.aload_n 0, 1) := by decide +kernel
theorem dX5_indexOf_9 : decode cX5_indexOf 9 = .ok (.getfield 60, 3) := by decide +kernel
theorem dX5_indexOf_12 : decode cX5_indexOf 12 = .ok (.iadd, 1) := by decide +kernel
theorem dX5_indexOf_13 : decode cX5_indexOf 13 = .ok (.iconst 1, 1) := by decide +kernel
theorem dX5_indexOf_14 : decode cX5_indexOf 14 = .ok (.aload_n 0, 1) := by decide +kernel
theorem dX5_indexOf_15 : decode cX5_indexOf 15 = .ok (.getfield 16, 3) := by decide +kernel
theorem dX5_indexOf_18 : decode cX5_indexOf 18 = .ok (.iload_n 1, 1) := by decide +kernel
theorem dX5_indexOf_19 : decode cX5_indexOf 19 = .ok (.iaload, 1) := by decide +kernel
theorem dX5_indexOf_20 : decode cX5_indexOf 20 = .ok (.ishl, 1) := by decide +kernel
theorem dX5_indexOf_21 : decode cX5_indexOf 21 = .ok (.irem, 1) := by decide +kernel
theorem dX5_indexOf_22 : decode cX5_indexOf 22 = .ok (.ireturn, 1) := by decide +kernel
set_option maxRecDepth 20000 in
theorem ggX5_predictionOf_X5_indexOf : GoodIn wsX5_predictionOf wsX5_indexOf := goodIn_r _ [6, 7, 8, 9, 10, 11, 5, 12, 13, 14, 15, 16, 17, 18, 19, 20, 21, 22, 23, 24, 25, 26, 27, 28, 29, 30, 31, 32, 33, 34, 35, 36] (by decide +kernel) (by decide +kernel)
set_option maxRecDepth 20000 in
theorem gX5_predictionOf_X5_indexOf : GoodIn wsX5_predictionOf (wsV RX5 86 RX5 yX5_indexOf wsX5_indexOf) := goodIn_app (goodIn_of _ (by decide +kernel)) ggX5_predictionOf_X5_indexOf
theorem dX5_predictionOf_0 : decode cX5_predictionOf 0 = .ok (.aload_n 0, 1) := by decide +kernel
theorem dX5_predictionOf_1 : decode cX5_predictionOf 1 = .ok (.getfield 22, 3) := by decide +kernel
theorem dX5_predictionOf_4 : decode cX5_predictionOf 4 = .ok (.sipush 512, 3) := by decide +kernel
theorem dX5_predictionOf_7 : decode cX5_predictionOf 7 = .ok (.iload_n 1, 1) := by decide +kernel
theorem dX5_predictionOf_8 : decode cX5_predictionOf 8 = .ok (.imul, 1) := by decide +kernel
theorem dX5_predictionOf_9 : decode cX5_predictionOf 9 = .ok (.aload_n 0, 1) := by decide +kernel
theorem dX5_predictionOf_10 : decode cX5_predictionOf 10 = .ok (.iload_n 1, 1) := by decide +kernel
theorem dX5_predictionOf_11 : decode cX5_predictionOf 11 = .ok (.invokevirtual 86, 3) := by decide +kernel
theorem dX5_predictionOf_14 : decode cX5_predictionOf 14 = .ok (.iadd, 1) := by decide +kernel
theorem dX5_predictionOf_15 : decode cX5_predictionOf 15 = .ok (.iaload, 1) := by decide +kernel
theorem dX5_predictionOf_16 : decode cX5_predictionOf 16 = .ok (.ireturn, 1) := by decide +kernel
set_option maxRecDepth 20000 in
theorem ggX5_mix_X5_phase : GoodIn wsX5_mix wsX5_phase := goodIn_r _ [15, 16, 33, 34, 35, 36, 37, 38, 39, 40, 41, 42, 43, 44, 45, 46, 47, 48, 49, 50, 51, 52, 53, 54] (by decide +kernel) (by decide +kernel)
set_option maxRecDepth 20000 in
theorem gX5_mix_X5_phase : GoodIn wsX5_mix (wsV RX5 89 RX5 yX5_phase wsX5_phase) := goodIn_app (goodIn_of _ (by decide +kernel)) ggX5_mix_X5_phase
set_option maxRecDepth 20000 in
theorem ggX5_mix_X5_predictionOf : GoodIn wsX5_mix wsX5_predictionOf := goodIn_r _ [20, 21, 22, 23, 24, 14, 25, 16, 26, 27, 28, 29, 30, 31, 32, 33, 34, 35, 36, 37, 38, 39, 40, 41, 42, 43, 44, 45, 46, 47, 48, 49, 50, 51, 52, 53, 54] (by decide +kernel) (by decide +kernel)
set_option maxRecDepth 20000 in
theorem gX5_mix_X5_predictionOf : GoodIn wsX5_mix (wsV RX5 93 RX5 yX5_predictionOf wsX5_predictionOf) := goodIn_app (goodIn_of _ (by decide +kernel)) ggX5_mix_X5_predictionOf
theorem dX5_mix_0 : decode cX5_mix 0 = .ok (.aload_n 0, 1) := by decide +kernel
theorem dX5_mix_1 : decode cX5_mix 1 = .ok (.getfield 53, 3) := by decide +kernel
theorem dX5_mix_4 : decode cX5_mix 4 = .ok (.ifCond .ne 7, 3) := by decide +kernel
theorem dX5_mix_7 : decode cX5_mix 7 = .ok (.sipush 2048, 3) := by decide +kernel
theorem dX5_mix_10 : decode cX5_mix 10 = .ok (.ireturn, 1) := by decide +kernel
theorem dX5_mix_11 : decode cX5_mix 11 = .ok (.lconst 0, 1) := by decide +kernel
theorem dX5_mix_12 : decode cX5_mix 12 = .ok (.lstore_n 1, 1) := by decide +kernel
theorem dX5_mix_13 : decode cX5_mix 13 = .ok (.lconst 0, 1) := by decide +kernel
theorem dX5_mix_14 : decode cX5_mix 14 = .ok (.lstore_n 3, 1) := by decide +kernel
theorem dX5_mix_15 : decode cX5_mix 15 = .ok (.iconst 0, 1) := by decide +kernel
theorem dX5_mix_16 : decode cX5_mix 16 = .ok (.istore 5, 2) := by decide +kernel
theorem dX5_mix_18 : decode cX5_mix 18 = .ok (.iload 5, 2) := by decide +kernel
theorem dX5_mix_20 : decode cX5_mix 20 = .ok (.aload_n 0, 1) := by decide +kernel
theorem dX5_mix_21 : decode cX5_mix 21 = .ok (.getfield 53, 3) := by decide +kernel
theorem dX5_mix_24 : decode cX5_mix 24 = .ok (.if_icmp .ge 46, 3) := by decide +kernel
theorem dX5_mix_27 : decode cX5_mix 27 = .ok (.aload_n 0, 1) := by decide +kernel
theorem dX5_mix_28 : decode cX5_mix 28 = .ok (.getfield 31, 3) := by decide +kernel
theorem dX5_mix_31 : decode cX5_mix 31 = .ok (.bipush 8, 2) := by decide +kernel
theorem dX5_mix_33 : decode cX5_mix 33 = .ok (.iload 5, 2) := by decide +kernel
theorem dX5_mix_35 : decode cX5_mix 35 = .ok (.imul, 1) := by decide +kernel
theorem dX5_mix_36 : decode cX5_mix 36 = .ok (.aload_n 0, 1) := by decide +kernel
theorem dX5_mix_37 : decode cX5_mix 37 = .ok (.invokevirtual 89, 3) := by decide +kernel
theorem dX5_mix_40 : decode cX5_mix 40 = .ok (.iadd, 1) := by decide +kernel
theorem dX5_mix_41 : decode cX5_mix 41 = .ok (.iaload, 1) := by decide +kernel
theorem dX5_mix_42 : decode cX5_mix 42 = .ok (.istore 6, 2) := by decide +kernel
theorem dX5_mix_44 : decode cX5_mix 44 = .ok (.lload_n 1, 1) := by decide +kernel
theorem dX5_mix_45 : decode cX5_mix 45 = .ok (.iload 6, 2) := by decide +kernel
theorem dX5_mix_47 : decode cX5_mix 47 = .ok (.i2l, 1) := by decide +kernel
theorem dX5_mix_48 : decode cX5_mix 48 = .ok (.aload_n 0, 1) := by decide +kernel
theorem dX5_mix_49 : decode cX5_mix 49 = .ok (.iload 5, 2) := by decide +kernel
theorem dX5_mix_51 : decode cX5_mix 51 = .ok (.invokevirtual 93, 3) := by decide +kernel
theorem dX5_mix_54 : decode cX5_mix 54 = .ok (.i2l, 1) := by decide +kernel
theorem dX5_mix_55 : decode cX5_mix 55 = .ok (.lmul, 1) := by decide +kernel
theorem dX5_mix_56 : decode cX5_mix 56 = .ok (.ladd, 1) := by decide +kernel
theorem dX5_mix_57 : decode cX5_mix 57 = .ok (.lstore_n 1, 1) := by decide +kernel
theorem dX5_mix_58 : decode cX5_mix 58 = .ok (.lload_n 3, 1) := by decide +kernel
theorem dX5_mix_59 : decode cX5_mix 59 = .ok (.iload 6, 2) := by decide +kernel
theorem dX5_mix_61 : decode cX5_mix 61 = .ok (.i2l, 1) := by decide +kernel
theorem dX5_mix_62 : decode cX5_mix 62 = .ok (.ladd, 1) := by decide +kernel
theorem dX5_mix_63 : decode cX5_mix 63 = .ok (.lstore_n 3, 1) := by decide +kernel
theorem dX5_mix_64 : decode cX5_mix 64 = .ok (.iinc 5 1, 3) := by decide +kernel
theorem dX5_mix_67 : decode cX5_mix 67 = .ok (.goto (-49), 3) := by decide +kernel
theorem dX5_mix_70 : decode cX5_mix 70 = .ok (.lconst 1, 1) := by decide +kernel
theorem dX5_mix_71 : decode cX5_mix 71 = .ok (.ldc2_w 96, 3) := by decide +kernel
theorem dX5_mix_74 : decode cX5_mix 74 = .ok (.lload_n 1, 1) := by decide +kernel
theorem dX5_mix_75 : decode cX5_mix 75 = .ok (.lload_n 3, 1) := by decide +kernel
theorem dX5_mix_76 : decode cX5_mix 76 = .ok (.ldiv, 1) := by decide +kernel
theorem dX5_mix_77 : decode cX5_mix 77 = .ok (.invokestatic 98, 3) := by decide +kernel
theorem dX5_mix_80 : decode cX5_mix 80 = .ok (.invokestatic 104, 3) := by decide +kernel
theorem dX5_mix_83 : decode cX5_mix 83 = .ok (.l2i, 1) := by decide +kernel
theorem dX5_mix_84 : decode cX5_mix 84 = .ok (.ireturn, 1) := by decide +kernel
theorem dX5_quality_0 : decode cX5_quality 0 = .ok (.iload_n 1, 1) := by decide +kernel
theorem dX5_quality_1 : decode cX5_quality 1 = .ok (.ifCond .eq 7, 3) := by decide +kernel
theorem dX5_quality_4 : decode cX5_quality 4 = .ok (.iload_n 0, 1) := by decide +kernel
theorem dX5_quality_5 : decode cX5_quality 5 = .ok (.goto 8, 3) := by decide +kernel
theorem dX5_quality_8 : decode cX5_quality 8 = .ok (.sipush 4096, 3) := by decide +kernel
theorem dX5_quality_11 : decode cX5_quality 11 = .ok (.iload_n 0, 1) := by decide +kernel
theorem dX5_quality_12 : decode cX5_quality 12 = .ok (.isub, 1) := by decide +kernel
theorem dX5_quality_13 : decode cX5_quality 13 = .ok (.ireturn, 1) := by decide +kernel
set_option maxRecDepth 20000 in
theorem ggX5_learn_X5_mix : GoodIn wsX5_learn wsX5_mix := goodIn_r _ [24, 2, 3, 25, 26, 27, 7, 28, 29, 30, 31, 32, 33, 34, 23, 35, 15, 36, 37, 38, 39, 12, 40, 41, 42, 43, 44, 45, 46, 47, 48, 49, 18, 53, 54, 55, 56, 57, 58, 59, 60, 61, 62, 63, 64, 65, 66, 67, 68, 69, 70, 71, 72, 73, 74] (by decide +kernel) (by decide +kernel)
set_option maxRecDepth 20000 in
theorem gX5_learn_X5_mix : GoodIn wsX5_learn (wsV RX5 107 RX5 yX5_mix wsX5_mix) := goodIn_app (goodIn_of _ (by decide +kernel)) ggX5_learn_X5_mix
set_option maxRecDepth 20000 in
theorem ggX5_learn_X5_quality : GoodIn wsX5_learn wsX5_quality := goodIn_r _ [52] (by decide +kernel) (by decide +kernel)
set_option maxRecDepth 20000 in
theorem gX5_learn_X5_quality : GoodIn wsX5_learn (va_wsS RX5 110 yX5_quality wsX5_quality) := goodIn_app (goodIn_of _ (by decide +kernel)) ggX5_learn_X5_quality
set_option maxRecDepth 20000 in
theorem ggX5_learn_X5_predictionOf : GoodIn wsX5_learn wsX5_predictionOf := goodIn_r _ [39, 12, 40, 41, 42, 23, 43, 15, 44, 45, 46, 47, 48, 49, 18, 53, 54, 55, 56, 57, 58, 59, 60, 61, 62, 63, 64, 65, 66, 67, 68, 69, 70, 71, 72, 73, 74] (by decide +kernel) (by decide +kernel)
set_option maxRecDepth 20000 in
theorem gX5_learn_X5_predictionOf : GoodIn wsX5_learn (wsV RX5 93 RX5 yX5_predictionOf wsX5_predictionOf) := goodIn_app (goodIn_of _ (by decide +kernel)) ggX5_learn_X5_predictionOf
set_option maxRecDepth 20000 in
theorem ggX5_learn_X5_phase : GoodIn wsX5_learn wsX5_phase := goodIn_r _ [35, 15, 53, 54, 55, 56, 57, 58, 59, 60, 61, 62, 63, 64, 65, 66, 67, 68, 69, 70, 71, 72, 73, 74] (by decide +kernel) (by decide +kernel)
set_option maxRecDepth 20000 in
theorem gX5_learn_X5_phase : GoodIn wsX5_learn (wsV RX5 89 RX5 yX5_phase wsX5_phase) := goodIn_app (goodIn_of _ (by decide +kernel)) ggX5_learn_X5_phase
set_option maxRecDepth 20000 in
theorem ggX5_learn_X5_indexOf : GoodIn wsX5_learn wsX5_indexOf := goodIn_r _ [43, 15, 44, 45, 46, 47, 23, 48, 49, 18, 53, 54, 55, 56, 57, 58, 59, 60, 61, 62, 63, 64, 65, 66, 67, 68, 69, 70, 71, 72, 73, 74] (by decide +kernel) (by decide +kernel)
set_option maxRecDepth 20000 in
theorem gX5_learn_X5_indexOf : GoodIn wsX5_learn (wsV RX5 86 RX5 yX5_indexOf wsX5_indexOf) := goodIn_app (goodIn_of _ (by decide +kernel)) ggX5_learn_X5_indexOf
set_option maxRecDepth 20000 in
theorem ggX5_learn_X5_context : GoodIn wsX5_learn wsX5_context := goodIn_r _ [48, 49, 18, 53, 54, 55, 56, 57, 58, 59, 60, 61, 62, 63, 64, 65, 66, 67, 68, 69, 70, 71, 72, 73, 74] (by decide +kernel) (by decide +kernel)
set_option maxRecDepth 20000 in
theorem gX5_learn_X5_context : GoodIn wsX5_learn (wsV RX5 83 RX5 yX5_context wsX5_context) := goodIn_app (goodIn_of _ (by decide +kernel)) ggX5_learn_X5_context
theorem dX5_learn_0 : decode cX5_learn 0 = .ok (.aload_n 0, 1) := by decide +kernel
theorem dX5_learn_1 : decode cX5_learn 1 = .ok (.invokevirtual 107, 3) := by decide +kernel
theorem dX5_learn_4 : decode cX5_learn 4 = .ok (.iload_n 1, 1) := by decide +kernel
theorem dX5_learn_5 : decode cX5_learn 5 = .ok (.invokestatic 110, 3) := by decide +kernel
theorem dX5_learn_8 : decode cX5_learn 8 = .ok (.istore_n 2, 1) := by decide +kernel
theorem dX5_learn_9 : decode cX5_learn 9 = .ok (.aload_n 0, 1) := by decide +kernel
theorem dX5_learn_10 : decode cX5_learn 10 = .ok (.dup, 1) := by decide +kernel
theorem dX5_learn_11 : decode cX5_learn 11 = .ok (.getfield 66, 3) := by decide +kernel
theorem dX5_learn_14 : decode cX5_learn 14 = .ok (.sipush 4096, 3) := by decide +kernel
theorem dX5_learn_17 : decode cX5_learn 17 = .ok (.iload_n 2, 1) := by decide +kernel
theorem dX5_learn_18 : decode cX5_learn 18 = .ok (.isub, 1) := by decide +kernel
theorem dX5_learn_19 : decode cX5_learn 19 = .ok (.i2l, 1) := by decide +kernel
theorem dX5_learn_20 : decode cX5_learn 20 = .ok (.ladd, 1) := by decide +kernel
theorem dX5_learn_21 : decode cX5_learn 21 = .ok (.putfield 66, 3) := by decide +kernel
theorem dX5_learn_24 : decode cX5_learn 24 = .ok (.iconst 0, 1) := by decide +kernel
theorem dX5_learn_25 : decode cX5_learn 25 = .ok (.istore_n 3, 1) := by decide +kernel
theorem dX5_learn_26 : decode cX5_learn 26 = .ok (.iload_n 3, 1) := by decide +kernel
theorem dX5_learn_27 : decode cX5_learn 27 = .ok (.aload_n 0, 1) := by decide +kernel
theorem dX5_learn_28 : decode cX5_learn 28 = .ok (.getfield 53, 3) := by decide +kernel
theorem dX5_learn_31 : decode cX5_learn 31 = .ok (.if_icmp .ge 95, 3) := by decide +kernel
theorem dX5_learn_34 : decode cX5_learn 34 = .ok (.aload_n 0, 1) := by decide +kernel
theorem dX5_learn_35 : decode cX5_learn 35 = .ok (.iload_n 3, 1) := by decide +kernel
theorem dX5_learn_36 : decode cX5_learn 36 = .ok (.invokevirtual 93, 3) := by decide +kernel
theorem dX5_learn_39 : decode cX5_learn 39 = .ok (.iload_n 1, 1) := by decide +kernel
theorem dX5_learn_40 : decode cX5_learn 40 = .ok (.invokestatic 110, 3) := by decide +kernel
theorem dX5_learn_43 : decode cX5_learn 43 = .ok (.istore 4, 2) := by decide +kernel
theorem dX5_learn_45 : decode cX5_learn 45 = .ok (.bipush 8, 2) := by decide +kernel
theorem dX5_learn_47 : decode cX5_learn 47 = .ok (.iload_n 3, 1) := by decide +kernel
theorem dX5_learn_48 : decode cX5_learn 48 = .ok (.imul, 1) := by decide +kernel
theorem dX5_learn_49 : decode cX5_learn 49 = .ok (.aload_n 0, 1) := by decide +kernel
theorem dX5_learn_50 : decode cX5_learn 50 = .ok (.invokevirtual 89, 3) := by decide +kernel
theorem dX5_learn_53 : decode cX5_learn 53 = .ok (.iadd, 1) := by decide +kernel
theorem dX5_learn_54 : decode cX5_learn 54 = .ok (.istore 5, 2) := by decide +kernel
theorem dX5_learn_56 : decode cX5_learn 56 = .ok (.aload_n 0, 1) := by decide +kernel
theorem dX5_learn_57 : decode cX5_learn 57 = .ok (.getfield 31, 3) := by decide +kernel
theorem dX5_learn_60 : decode cX5_learn 60 = .ok (.iload 5, 2) := by decide +kernel
theorem dX5_learn_62 : decode cX5_learn 62 = .ok (.iaload, 1) := by decide +kernel
theorem dX5_learn_63 : decode cX5_learn 63 = .ok (.istore 6, 2) := by decide +kernel
theorem dX5_learn_65 : decode cX5_learn 65 = .ok (.iload 4, 2) := by decide +kernel
theorem dX5_learn_67 : decode cX5_learn 67 = .ok (.iload_n 2, 1) := by decide +kernel
theorem dX5_learn_68 : decode cX5_learn 68 = .ok (.if_icmp .le 25, 3) := by decide +kernel
theorem dX5_learn_71 : decode cX5_learn 71 = .ok (.aload_n 0, 1) := by decide +kernel
theorem dX5_learn_72 : decode cX5_learn 72 = .ok (.getfield 31, 3) := by decide +kernel
theorem dX5_learn_75 : decode cX5_learn 75 = .ok (.iload 5, 2) := by decide +kernel
theorem dX5_learn_77 : decode cX5_learn 77 = .ok (.ldc 114, 2) := by decide +kernel
theorem dX5_learn_79 : decode cX5_learn 79 = .ok (.iload 6, 2) := by decide +kernel
theorem dX5_learn_81 : decode cX5_learn 81 = .ok (.iload 6, 2) := by decide +kernel
theorem dX5_learn_83 : decode cX5_learn 83 = .ok (.bipush 16, 2) := by decide +kernel
theorem dX5_learn_85 : decode cX5_learn 85 = .ok (.idiv, 1) := by decide +kernel
theorem dX5_learn_86 : decode cX5_learn 86 = .ok (.iadd, 1) := by decide +kernel
theorem dX5_learn_87 : decode cX5_learn 87 = .ok (.iconst 1, 1) := by decide +kernel
theorem dX5_learn_88 : decode cX5_learn 88 = .ok (.iadd, 1) := by decide +kernel
theorem dX5_learn_89 : decode cX5_learn 89 = .ok (.invokestatic 115, 3) := by decide +kernel
theorem dX5_learn_92 : decode cX5_learn 92 = .ok (.iastore, 1) := by decide +kernel
theorem dX5_learn_93 : decode cX5_learn 93 = .ok (.iload 4, 2) := by decide +kernel
theorem dX5_learn_95 : decode cX5_learn 95 = .ok (.iload_n 2, 1) := by decide +kernel
theorem dX5_learn_96 : decode cX5_learn 96 = .ok (.if_icmp .ge 24, 3) := by decide +kernel
theorem dX5_learn_99 : decode cX5_learn 99 = .ok (.aload_n 0, 1) := by decide +kernel
theorem dX5_learn_100 : decode cX5_learn 100 = .ok (.getfield 31, 3) := by decide +kernel
theorem dX5_learn_103 : decode cX5_learn 103 = .ok (.iload 5, 2) := by decide +kernel
theorem dX5_learn_105 : decode cX5_learn 105 = .ok (.iconst 1, 1) := by decide +kernel
theorem dX5_learn_106 : decode cX5_learn 106 = .ok (.iload 6, 2) := by decide +kernel
theorem dX5_learn_108 : decode cX5_learn 108 = .ok (.iload 6, 2) := by decide +kernel
theorem dX5_learn_110 : decode cX5_learn 110 = .ok (.bipush 16, 2) := by decide +kernel
theorem dX5_learn_112 : decode cX5_learn 112 = .ok (.idiv, 1) := by decide +kernel
theorem dX5_learn_113 : decode cX5_learn 113 = .ok (.isub, 1) := by decide +kernel
theorem dX5_learn_114 : decode cX5_learn 114 = .ok (.iconst 1, 1) := by decide +kernel
theorem dX5_learn_115 : decode cX5_learn 115 = .ok (.isub, 1) := by decide +kernel
theorem dX5_learn_116 : decode cX5_learn 116 = .ok (.invokestatic 118, 3) := by decide +kernel
theorem dX5_learn_119 : decode cX5_learn 119 = .ok (.iastore, 1) := by decide +kernel
theorem dX5_learn_120 : decode cX5_learn 120 = .ok (.iinc 3 1, 3) := by decide +kernel
theorem dX5_learn_123 : decode cX5_learn 123 = .ok (.goto (-97), 3) := by decide +kernel
theorem dX5_learn_126 : decode cX5_learn 126 = .ok (.iconst 0, 1) := by decide +kernel
theorem dX5_learn_127 : decode cX5_learn 127 = .ok (.istore_n 3, 1) := by decide +kernel
theorem dX5_learn_128 : decode cX5_learn 128 = .ok (.iload_n 3, 1) := by decide +kernel
theorem dX5_learn_129 : decode cX5_learn 129 = .ok (.aload_n 0, 1) := by decide +kernel
theorem dX5_learn_130 : decode cX5_learn 130 = .ok (.getfield 53, 3) := by decide +kernel
theorem dX5_learn_133 : decode cX5_learn 133 = .ok (.if_icmp .ge 145, 3) := by decide +kernel
theorem dX5_learn_136 : decode cX5_learn 136 = .ok (.sipush 512, 3) := by decide +kernel
theorem dX5_learn_139 : decode cX5_learn 139 = .ok (.iload_n 3, 1) := by decide +kernel
theorem dX5_learn_140 : decode cX5_learn 140 = .ok (.imul, 1) := by decide +kernel
theorem dX5_learn_141 : decode cX5_learn 141 = .ok (.aload_n 0, 1) := by decide +kernel
theorem dX5_learn_142 : decode cX5_learn 142 = .ok (.iload_n 3, 1) := by decide +kernel
theorem dX5_learn_143 : decode cX5_learn 143 = .ok (.invokevirtual 86, 3) := by decide +kernel
theorem dX5_learn_146 : decode cX5_learn 146 = .ok (.iadd, 1) := by decide +kernel
theorem dX5_learn_147 : decode cX5_learn 147 = .ok (.istore 4, 2) := by decide +kernel
theorem dX5_learn_149 : decode cX5_learn 149 = .ok (.aload_n 0, 1) := by decide +kernel
theorem dX5_learn_150 : decode cX5_learn 150 = .ok (.getfield 22, 3) := by decide +kernel
theorem dX5_learn_153 : decode cX5_learn 153 = .ok (.iload 4, 2) := by decide +kernel
theorem dX5_learn_155 : decode cX5_learn 155 = .ok (.iaload, 1) := by decide +kernel
theorem dX5_learn_156 : decode cX5_learn 156 = .ok (.istore 5, 2) := by decide +kernel
theorem dX5_learn_158 : decode cX5_learn 158 = .ok (.aload_n 0, 1) := by decide +kernel
theorem dX5_learn_159 : decode cX5_learn 159 = .ok (.getfield 22, 3) := by decide +kernel
theorem dX5_learn_162 : decode cX5_learn 162 = .ok (.iload 4, 2) := by decide +kernel
theorem dX5_learn_164 : decode cX5_learn 164 = .ok (.iload_n 1, 1) := by decide +kernel
theorem dX5_learn_165 : decode cX5_learn 165 = .ok (.ifCond .eq 22, 3) := by decide +kernel
theorem dX5_learn_168 : decode cX5_learn 168 = .ok (.iload 5, 2) := by decide +kernel
theorem dX5_learn_170 : decode cX5_learn 170 = .ok (.sipush 4096, 3) := by decide +kernel
theorem dX5_learn_173 : decode cX5_learn 173 = .ok (.iload 5, 2) := by decide +kernel
theorem dX5_learn_175 : decode cX5_learn 175 = .ok (.isub, 1) := by decide +kernel
theorem dX5_learn_176 : decode cX5_learn 176 = .ok (.aload_n 0, 1) := by decide +kernel
theorem dX5_learn_177 : decode cX5_learn 177 = .ok (.getfield 13, 3) := by decide +kernel
theorem dX5_learn_180 : decode cX5_learn 180 = .ok (.iload_n 3, 1) := by decide +kernel
theorem dX5_learn_181 : decode cX5_learn 181 = .ok (.iaload, 1) := by decide +kernel
theorem dX5_learn_182 : decode cX5_learn 182 = .ok (.ishr, 1) := by decide +kernel
theorem dX5_learn_183 : decode cX5_learn 183 = .ok (.iadd, 1) := by decide +kernel
theorem dX5_learn_184 : decode cX5_learn 184 = .ok (.goto 15, 3) := by decide +kernel
theorem dX5_learn_187 : decode cX5_learn 187 = .ok (.iload 5, 2) := by decide +kernel
theorem dX5_learn_189 : decode cX5_learn 189 = .ok (.iload 5, 2) := by decide +kernel
theorem dX5_learn_191 : decode cX5_learn 191 = .ok (.aload_n 0, 1) := by decide +kernel
theorem dX5_learn_192 : decode cX5_learn 192 = .ok (.getfield 13, 3) := by decide +kernel
theorem dX5_learn_195 : decode cX5_learn 195 = .ok (.iload_n 3, 1) := by decide +kernel
theorem dX5_learn_196 : decode cX5_learn 196 = .ok (.iaload, 1) := by decide +kernel
theorem dX5_learn_197 : decode cX5_learn 197 = .ok (.ishr, 1) := by decide +kernel
theorem dX5_learn_198 : decode cX5_learn 198 = .ok (.isub, 1) := by decide +kernel
theorem dX5_learn_199 : decode cX5_learn 199 = .ok (.iastore, 1) := by decide +kernel
theorem dX5_learn_200 : decode cX5_learn 200 = .ok (.aload_n 0, 1) := by decide +kernel
theorem dX5_learn_201 : decode cX5_learn 201 = .ok (.getfield 28, 3) := by decide +kernel
theorem dX5_learn_204 : decode cX5_learn 204 = .ok (.iload 4, 2) := by decide +kernel
theorem dX5_learn_206 : decode cX5_learn 206 = .ok (.iaload, 1) := by decide +kernel
theorem dX5_learn_207 : decode cX5_learn 207 = .ok (.ifCond .eq 42, 3) := by decide +kernel
theorem dX5_learn_210 : decode cX5_learn 210 = .ok (.aload_n 0, 1) := by decide +kernel
theorem dX5_learn_211 : decode cX5_learn 211 = .ok (.getfield 28, 3) := by decide +kernel
theorem dX5_learn_214 : decode cX5_learn 214 = .ok (.iload 4, 2) := by decide +kernel
theorem dX5_learn_216 : decode cX5_learn 216 = .ok (.iaload, 1) := by decide +kernel
theorem dX5_learn_217 : decode cX5_learn 217 = .ok (.aload_n 0, 1) := by decide +kernel
theorem dX5_learn_218 : decode cX5_learn 218 = .ok (.getfield 60, 3) := by decide +kernel
theorem dX5_learn_221 : decode cX5_learn 221 = .ok (.if_icmp .ne 18, 3) := by decide +kernel
theorem dX5_learn_224 : decode cX5_learn 224 = .ok (.aload_n 0, 1) := by decide +kernel
theorem dX5_learn_225 : decode cX5_learn 225 = .ok (.getfield 25, 3) := by decide +kernel
theorem dX5_learn_228 : decode cX5_learn 228 = .ok (.iload 4, 2) := by decide +kernel
theorem dX5_learn_230 : decode cX5_learn 230 = .ok (.iaload, 1) := by decide +kernel
theorem dX5_learn_231 : decode cX5_learn 231 = .ok (.aload_n 0, 1) := by decide +kernel
theorem dX5_learn_232 : decode cX5_learn 232 = .ok (.iload_n 3, 1) := by decide +kernel
theorem dX5_learn_233 : decode cX5_learn 233 = .ok (.invokevirtual 83, 3) := by decide +kernel
theorem dX5_learn_236 : decode cX5_learn 236 = .ok (.if_icmp .eq 13, 3) := by decide +kernel
theorem dX5_learn_239 : decode cX5_learn 239 = .ok (.aload_n 0, 1) := by decide +kernel
theorem dX5_learn_240 : decode cX5_learn 240 = .ok (.getfield 34, 3) := by decide +kernel
theorem dX5_learn_243 : decode cX5_learn 243 = .ok (.iload_n 3, 1) := by decide +kernel
theorem dX5_learn_244 : decode cX5_learn 244 = .ok (.dup2, 1) := by decide +kernel
theorem dX5_learn_245 : decode cX5_learn 245 = .ok (.iaload, 1) := by decide +kernel
theorem dX5_learn_246 : decode cX5_learn 246 = .ok (.iconst 1, 1) := by decide +kernel
theorem dX5_learn_247 : decode cX5_learn 247 = .ok (.iadd, 1) := by decide +kernel
theorem dX5_learn_248 : decode cX5_learn 248 = .ok (.iastore, 1) := by decide +kernel
theorem dX5_learn_249 : decode cX5_learn 249 = .ok (.aload_n 0, 1) := by decide +kernel
theorem dX5_learn_250 : decode cX5_learn 250 = .ok (.getfield 28, 3) := by decide +kernel
theorem dX5_learn_253 : decode cX5_learn 253 = .ok (.iload 4, 2) := by decide +kernel
theorem dX5_learn_255 : decode cX5_learn 255 = .ok (.aload_n 0, 1) := by decide +kernel
theorem dX5_learn_256 : decode cX5_learn 256 = .ok (.getfield 60, 3) := by decide +kernel
theorem dX5_learn_259 : decode cX5_learn 259 = .ok (.iastore, 1) := by decide +kernel
theorem dX5_learn_260 : decode cX5_learn 260 = .ok (.aload_n 0, 1) := by decide +kernel
theorem dX5_learn_261 : decode cX5_learn 261 = .ok (.getfield 25, 3) := by decide +kernel
theorem dX5_learn_264 : decode cX5_learn 264 = .ok (.iload 4, 2) := by decide +kernel
theorem dX5_learn_266 : decode cX5_learn 266 = .ok (.aload_n 0, 1) := by decide +kernel
theorem dX5_learn_267 : decode cX5_learn 267 = .ok (.iload_n 3, 1) := by decide +kernel
theorem dX5_learn_268 : decode cX5_learn 268 = .ok (.invokevirtual 83, 3) := by decide +kernel
theorem dX5_learn_271 : decode cX5_learn 271 = .ok (.iastore, 1) := by decide +kernel
theorem dX5_learn_272 : decode cX5_learn 272 = .ok (.iinc 3 1, 3) := by decide +kernel
theorem dX5_learn_275 : decode cX5_learn 275 = .ok (.goto (-147), 3) := by decide +kernel
theorem dX5_learn_278 : decode cX5_learn 278 = .ok (.aload_n 0, 1) := by decide +kernel
theorem dX5_learn_279 : decode cX5_learn 279 = .ok (.iconst 2, 1) := by decide +kernel
theorem dX5_learn_280 : decode cX5_learn 280 = .ok (.aload_n 0, 1) := by decide +kernel
theorem dX5_learn_281 : decode cX5_learn 281 = .ok (.getfield 60, 3) := by decide +kernel
theorem dX5_learn_284 : decode cX5_learn 284 = .ok (.imul, 1) := by decide +kernel
theorem dX5_learn_285 : decode cX5_learn 285 = .ok (.iload_n 1, 1) := by decide +kernel
theorem dX5_learn_286 : decode cX5_learn 286 = .ok (.ifCond .eq 7, 3) := by decide +kernel
theorem dX5_learn_289 : decode cX5_learn 289 = .ok (.iconst 1, 1) := by decide +kernel
theorem dX5_learn_290 : decode cX5_learn 290 = .ok (.goto 4, 3) := by decide +kernel
theorem dX5_learn_293 : decode cX5_learn 293 = .ok (.iconst 0, 1) := by decide +kernel
theorem dX5_learn_294 : decode cX5_learn 294 = .ok (.iadd, 1) := by decide +kernel
theorem dX5_learn_295 : decode cX5_learn 295 = .ok (.putfield 60, 3) := by decide +kernel
theorem dX5_learn_298 : decode cX5_learn 298 = .ok (.aload_n 0, 1) := by decide +kernel
theorem dX5_learn_299 : decode cX5_learn 299 = .ok (.getfield 60, 3) := by decide +kernel
theorem dX5_learn_302 : decode cX5_learn 302 = .ok (.sipush 256, 3) := by decide +kernel
theorem dX5_learn_305 : decode cX5_learn 305 = .ok (.if_icmp .lt 48, 3) := by decide +kernel
theorem dX5_learn_308 : decode cX5_learn 308 = .ok (.iconst 2, 1) := by decide +kernel
theorem dX5_learn_309 : decode cX5_learn 309 = .ok (.istore_n 3, 1) := by decide +kernel
theorem dX5_learn_310 : decode cX5_learn 310 = .ok (.iload_n 3, 1) := by decide +kernel
theorem dX5_learn_311 : decode cX5_learn 311 = .ok (.ifCond .le 23, 3) := by decide +kernel
theorem dX5_learn_314 : decode cX5_learn 314 = .ok (.aload_n 0, 1) := by decide +kernel
theorem dX5_learn_315 : decode cX5_learn 315 = .ok (.getfield 37, 3) := by decide +kernel
theorem dX5_learn_318 : decode cX5_learn 318 = .ok (.iload_n 3, 1) := by decide +kernel
theorem dX5_learn_319 : decode cX5_learn 319 = .ok (.aload_n 0, 1) := by decide +kernel
theorem dX5_learn_320 : decode cX5_learn 320 = .ok (.getfield 37, 3) := by decide +kernel
theorem dX5_learn_323 : decode cX5_learn 323 = .ok (.iload_n 3, 1) := by decide +kernel
theorem dX5_learn_324 : decode cX5_learn 324 = .ok (.iconst 1, 1) := by decide +kernel
theorem dX5_learn_325 : decode cX5_learn 325 = .ok (.isub, 1) := by decide +kernel
theorem dX5_learn_326 : decode cX5_learn 326 = .ok (.iaload, 1) := by decide +kernel
theorem dX5_learn_327 : decode cX5_learn 327 = .ok (.iastore, 1) := by decide +kernel
theorem dX5_learn_328 : decode cX5_learn 328 = .ok (.iinc 3 (-1), 3) := by decide +kernel
theorem dX5_learn_331 : decode cX5_learn 331 = .ok (.goto (-21), 3) := by decide +kernel
theorem dX5_learn_334 : decode cX5_learn 334 = .ok (.aload_n 0, 1) := by decide +kernel
theorem dX5_learn_335 : decode cX5_learn 335 = .ok (.getfield 37, 3) := by decide +kernel
theorem dX5_learn_338 : decode cX5_learn 338 = .ok (.iconst 0, 1) := by decide +kernel
theorem dX5_learn_339 : decode cX5_learn 339 = .ok (.aload_n 0, 1) := by decide +kernel
theorem dX5_learn_340 : decode cX5_learn 340 = .ok (.getfield 60, 3) := by decide +kernel
theorem dX5_learn_343 : decode cX5_learn 343 = .ok (.sipush 256, 3) := by decide +kernel
theorem dX5_learn_346 : decode cX5_learn 346 = .ok (.isub, 1) := by decide +kernel
theorem dX5_learn_347 : decode cX5_learn 347 = .ok (.iastore, 1) := by decide +kernel
theorem dX5_learn_348 : decode cX5_learn 348 = .ok (.aload_n 0, 1) := by decide +kernel
theorem dX5_learn_349 : decode cX5_learn 349 = .ok (.iconst 1, 1) := by decide +kernel
theorem dX5_learn_350 : decode cX5_learn 350 = .ok (.putfield 60, 3) := by decide +kernel
theorem dX5_learn_353 : decode cX5_learn 353 = .ok (.aload_n 0, 1) := by decide +kernel
theorem dX5_learn_354 : decode cX5_learn 354 = .ok (.dup, 1) := by decide +kernel
theorem dX5_learn_355 : decode cX5_learn 355 = .ok (.getfield 63, 3) := by decide +kernel
theorem dX5_learn_358 : decode cX5_learn 358 = .ok (.iconst 1, 1) := by decide +kernel
theorem dX5_learn_359 : decode cX5_learn 359 = .ok (.iadd, 1) := by decide +kernel
theorem dX5_learn_360 : decode cX5_learn 360 = .ok (.putfield 63, 3) := by decide +kernel
theorem dX5_learn_363 : decode cX5_learn 363 = .ok (.iload_n 2, 1) := by decide +kernel
theorem dX5_learn_364 : decode cX5_learn 364 = .ok (.ireturn, 1) := by decide +kernel
set_option maxRecDepth 20000 in
theorem ggX5_observe_X5_learn : GoodIn wsX5_observe wsX5_learn := goodIn_r _ [6, 7, 8, 9, 10, 11, 12, 13, 14, 15, 16, 17, 18, 19, 20, 21, 22, 23, 24, 25, 26, 27, 28, 5, 29, 30, 31, 32, 33, 34, 35, 36, 37, 38, 39, 40, 41, 42, 43, 44, 45, 46, 47, 48, 49, 50, 51, 52, 53, 54, 55, 56, 57, 58, 59, 60, 61, 62, 63, 64, 65, 66, 67, 68, 69, 70, 71, 72, 73, 74, 75, 76, 77, 78, 79] (by decide +kernel) (by decide +kernel)
set_option maxRecDepth 20000 in
theorem gX5_observe_X5_learn : GoodIn wsX5_observe (wsV RX5 120 RX5 yX5_learn wsX5_learn) := goodIn_app (goodIn_of _ (by decide +kernel)) ggX5_observe_X5_learn
theorem dX5_observe_0 : decode cX5_observe 0 = .ok (.aload_n 0, 1) := by decide +kernel
theorem dX5_observe_1 : decode cX5_observe 1 = .ok (.iconst 0, 1) := by decide +kernel
theorem dX5_observe_2 : decode cX5_observe 2 = .ok (.putfield 49, 3) := by decide +kernel
theorem dX5_observe_5 : decode cX5_observe 5 = .ok (.aload_n 0, 1) := by decide +kernel
theorem dX5_observe_6 : decode cX5_observe 6 = .ok (.iload_n 1, 1) := by decide +kernel
theorem dX5_observe_7 : decode cX5_observe 7 = .ok (.invokevirtual 120, 3) := by decide +kernel
theorem dX5_observe_10 : decode cX5_observe 10 = .ok (.ireturn, 1) := by decide +kernel
set_option maxRecDepth 20000 in
theorem ggX5_mixed_X5_mix : GoodIn wsX5_mixed wsX5_mix := goodIn_r _ [6, 7, 8, 9, 10, 11, 12, 13, 14, 15, 16, 17, 18, 19, 5, 20, 21, 22, 23, 24, 25, 26, 27, 28, 29, 30, 31, 32, 33, 34, 35, 36, 37, 38, 39, 40, 41, 42, 43, 44, 45, 46, 47, 48, 49, 50, 51, 52, 53, 54, 55, 56, 57, 58, 59] (by decide +kernel) (by decide +kernel)
set_option maxRecDepth 20000 in
theorem gX5_mixed_X5_mix : GoodIn wsX5_mixed (wsV RX5 107 RX5 yX5_mix wsX5_mix) := goodIn_app (goodIn_of _ (by decide +kernel)) ggX5_mixed_X5_mix
theorem dX5_mixed_0 : decode cX5_mixed 0 = .ok (.aload_n 0, 1) := by decide +kernel
theorem dX5_mixed_1 : decode cX5_mixed 1 = .ok (.iconst 0, 1) := by decide +kernel
theorem dX5_mixed_2 : decode cX5_mixed 2 = .ok (.putfield 49, 3) := by decide +kernel
theorem dX5_mixed_5 : decode cX5_mixed 5 = .ok (.aload_n 0, 1) := by decide +kernel
theorem dX5_mixed_6 : decode cX5_mixed 6 = .ok (.invokevirtual 107, 3) := by decide +kernel
theorem dX5_mixed_9 : decode cX5_mixed 9 = .ok (.ireturn, 1) := by decide +kernel
set_option maxRecDepth 20000 in
theorem ggX5_prediction_X5_isModel : GoodIn wsX5_prediction wsX5_isModel := goodIn_r _ [6, 7, 8, 9, 5, 10, 32, 33, 34, 35, 36, 37, 38, 39, 40, 41, 42, 43, 44, 45, 46, 47, 48, 49, 50, 51, 52, 53] (by decide +kernel) (by decide +kernel)
set_option maxRecDepth 20000 in
theorem gX5_prediction_X5_isModel : GoodIn wsX5_prediction (wsV RX5 74 RX5 yX5_isModel wsX5_isModel) := goodIn_app (goodIn_of _ (by decide +kernel)) ggX5_prediction_X5_isModel
set_option maxRecDepth 20000 in
theorem ggX5_prediction_X5_predictionOf : GoodIn wsX5_prediction wsX5_predictionOf := goodIn_r _ [14, 15, 16, 17, 18, 5, 19, 20, 21, 22, 23, 24, 25, 26, 27, 32, 33, 34, 35, 36, 37, 38, 39, 40, 41, 42, 43, 44, 45, 46, 47, 48, 49, 50, 51, 52, 53] (by decide +kernel) (by decide +kernel)
set_option maxRecDepth 20000 in
theorem gX5_prediction_X5_predictionOf : GoodIn wsX5_prediction (wsV RX5 93 RX5 yX5_predictionOf wsX5_predictionOf) := goodIn_app (goodIn_of _ (by decide +kernel)) ggX5_prediction_X5_predictionOf
set_option maxRecDepth 20000 in
theorem ggX5_prediction_X5_no : GoodIn wsX5_prediction wsX5_no := goodIn_r _ [31, 1, 32, 33, 34, 35, 36, 37, 38, 39, 40, 41, 42, 43, 44, 45, 46, 47, 48, 49, 50, 51, 52, 53] (by decide +kernel) (by decide +kernel)
set_option maxRecDepth 20000 in
theorem gX5_prediction_X5_no : GoodIn wsX5_prediction (wsV RX5 70 RX5 yX5_no wsX5_no) := goodIn_app (goodIn_of _ (by decide +kernel)) ggX5_prediction_X5_no
theorem dX5_prediction_0 : decode cX5_prediction 0 = .ok (.aload_n 0, 1) := by decide +kernel
theorem dX5_prediction_1 : decode cX5_prediction 1 = .ok (.iconst 0, 1) := by decide +kernel
theorem dX5_prediction_2 : decode cX5_prediction 2 = .ok (.putfield 49, 3) := by decide +kernel
theorem dX5_prediction_5 : decode cX5_prediction 5 = .ok (.aload_n 0, 1) := by decide +kernel
theorem dX5_prediction_6 : decode cX5_prediction 6 = .ok (.iload_n 1, 1) := by decide +kernel
theorem dX5_prediction_7 : decode cX5_prediction 7 = .ok (.invokevirtual 74, 3) := by decide +kernel
theorem dX5_prediction_10 : decode cX5_prediction 10 = .ok (.ifCond .eq 11, 3) := by decide +kernel
theorem dX5_prediction_13 : decode cX5_prediction 13 = .ok (.aload_n 0, 1) := by decide +kernel
theorem dX5_prediction_14 : decode cX5_prediction 14 = .ok (.iload_n 1, 1) := by decide +kernel
theorem dX5_prediction_15 : decode cX5_prediction 15 = .ok (.invokevirtual 93, 3) := by decide +kernel
theorem dX5_prediction_18 : decode cX5_prediction 18 = .ok (.goto 8, 3) := by decide +kernel
theorem dX5_prediction_21 : decode cX5_prediction 21 = .ok (.aload_n 0, 1) := by decide +kernel
theorem dX5_prediction_22 : decode cX5_prediction 22 = .ok (.iconst 1, 1) := by decide +kernel
theorem dX5_prediction_23 : decode cX5_prediction 23 = .ok (.invokevirtual 70, 3) := by decide +kernel
theorem dX5_prediction_26 : decode cX5_prediction 26 = .ok (.ireturn, 1) := by decide +kernel
set_option maxRecDepth 20000 in
theorem ggX5_index_X5_isModel : GoodIn wsX5_index wsX5_isModel := goodIn_r _ [6, 7, 8, 9, 5, 10, 27, 28, 29, 30, 31, 32, 33, 34, 35, 36, 37, 38, 39, 40, 41, 42, 43, 44, 45, 46, 47, 48] (by decide +kernel) (by decide +kernel)
set_option maxRecDepth 20000 in
theorem gX5_index_X5_isModel : GoodIn wsX5_index (wsV RX5 74 RX5 yX5_isModel wsX5_isModel) := goodIn_app (goodIn_of _ (by decide +kernel)) ggX5_index_X5_isModel
set_option maxRecDepth 20000 in
theorem ggX5_index_X5_indexOf : GoodIn wsX5_index wsX5_indexOf := goodIn_r _ [14, 15, 16, 17, 18, 19, 5, 20, 21, 22, 27, 28, 29, 30, 31, 32, 33, 34, 35, 36, 37, 38, 39, 40, 41, 42, 43, 44, 45, 46, 47, 48] (by decide +kernel) (by decide +kernel)
set_option maxRecDepth 20000 in
theorem gX5_index_X5_indexOf : GoodIn wsX5_index (wsV RX5 86 RX5 yX5_indexOf wsX5_indexOf) := goodIn_app (goodIn_of _ (by decide +kernel)) ggX5_index_X5_indexOf
set_option maxRecDepth 20000 in
theorem ggX5_index_X5_no : GoodIn wsX5_index wsX5_no := goodIn_r _ [26, 1, 27, 28, 29, 30, 31, 32, 33, 34, 35, 36, 37, 38, 39, 40, 41, 42, 43, 44, 45, 46, 47, 48] (by decide +kernel) (by decide +kernel)
set_option maxRecDepth 20000 in
theorem gX5_index_X5_no : GoodIn wsX5_index (wsV RX5 70 RX5 yX5_no wsX5_no) := goodIn_app (goodIn_of _ (by decide +kernel)) ggX5_index_X5_no
theorem dX5_index_0 : decode cX5_index 0 = .ok (.aload_n 0, 1) := by decide +kernel
theorem dX5_index_1 : decode cX5_index 1 = .ok (.iconst 0, 1) := by decide +kernel
theorem dX5_index_2 : decode cX5_index 2 = .ok (.putfield 49, 3) := by decide +kernel
theorem dX5_index_5 : decode cX5_index 5 = .ok (.aload_n 0, 1) := by decide +kernel
theorem dX5_index_6 : decode cX5_index 6 = .ok (.iload_n 1, 1) := by decide +kernel
theorem dX5_index_7 : decode cX5_index 7 = .ok (.invokevirtual 74, 3) := by decide +kernel
theorem dX5_index_10 : decode cX5_index 10 = .ok (.ifCond .eq 11, 3) := by decide +kernel
theorem dX5_index_13 : decode cX5_index 13 = .ok (.aload_n 0, 1) := by decide +kernel
theorem dX5_index_14 : decode cX5_index 14 = .ok (.iload_n 1, 1) := by decide +kernel
theorem dX5_index_15 : decode cX5_index 15 = .ok (.invokevirtual 86, 3) := by decide +kernel
theorem dX5_index_18 : decode cX5_index 18 = .ok (.goto 8, 3) := by decide +kernel
theorem dX5_index_21 : decode cX5_index 21 = .ok (.aload_n 0, 1) := by decide +kernel
theorem dX5_index_22 : decode cX5_index 22 = .ok (.iconst 1, 1) := by decide +kernel
theorem dX5_index_23 : decode cX5_index 23 = .ok (.invokevirtual 70, 3) := by decide +kernel
theorem dX5_index_26 : decode cX5_index 26 = .ok (.ireturn, 1) := by decide +kernel
set_option maxRecDepth 20000 in
theorem ggX5_counter_X5_isModel : GoodIn wsX5_counter wsX5_isModel := goodIn_r _ [8, 9, 10, 11, 7, 12, 17, 18, 19, 20, 21, 22, 23, 24, 25, 26, 27, 28, 29, 30, 31, 32, 33, 34, 35, 36, 37, 38] (by decide +kernel) (by decide +kernel)
set_option maxRecDepth 20000 in
theorem gX5_counter_X5_isModel : GoodIn wsX5_counter (wsV RX5 74 RX5 yX5_isModel wsX5_isModel) := goodIn_app (goodIn_of _ (by decide +kernel)) ggX5_counter_X5_isModel
set_option maxRecDepth 20000 in
theorem ggX5_counter_X5_isIn : GoodIn wsX5_counter wsX5_isIn := goodIn_r _ [12] (by decide +kernel) (by decide +kernel)
set_option maxRecDepth 20000 in
theorem gX5_counter_X5_isIn : GoodIn wsX5_counter (va_wsS RX5 56 yX5_isIn wsX5_isIn) := goodIn_app (goodIn_of _ (by decide +kernel)) ggX5_counter_X5_isIn
set_option maxRecDepth 20000 in
theorem ggX5_counter_X5_no : GoodIn wsX5_counter wsX5_no := goodIn_r _ [16, 1, 17, 18, 19, 20, 21, 22, 23, 24, 25, 26, 27, 28, 29, 30, 31, 32, 33, 34, 35, 36, 37, 38] (by decide +kernel) (by decide +kernel)
set_option maxRecDepth 20000 in
theorem gX5_counter_X5_no : GoodIn wsX5_counter (wsV RX5 70 RX5 yX5_no wsX5_no) := goodIn_app (goodIn_of _ (by decide +kernel)) ggX5_counter_X5_no
theorem dX5_counter_0 : decode cX5_counter 0 = .ok (.aload_n 0, 1) := by decide +kernel
theorem dX5_counter_1 : decode cX5_counter 1 = .ok (.iconst 0, 1) := by decide +kernel
theorem dX5_counter_2 : decode cX5_counter 2 = .ok (.putfield 49, 3) := by decide +kernel
theorem dX5_counter_5 : decode cX5_counter 5 = .ok (.aload_n 0, 1) := by decide +kernel
theorem dX5_counter_6 : decode cX5_counter 6 = .ok (.iload_n 1, 1) := by decide +kernel
theorem dX5_counter_7 : decode cX5_counter 7 = .ok (.invokevirtual 74, 3) := by decide +kernel
theorem dX5_counter_10 : decode cX5_counter 10 = .ok (.ifCond .eq 36, 3) := by decide +kernel
theorem dX5_counter_13 : decode cX5_counter 13 = .ok (.iload_n 2, 1) := by decide +kernel
theorem dX5_counter_14 : decode cX5_counter 14 = .ok (.iconst 0, 1) := by decide +kernel
theorem dX5_counter_15 : decode cX5_counter 15 = .ok (.iconst 1, 1) := by decide +kernel
theorem dX5_counter_16 : decode cX5_counter 16 = .ok (.aload_n 0, 1) := by decide +kernel
theorem dX5_counter_17 : decode cX5_counter 17 = .ok (.getfield 16, 3) := by decide +kernel
theorem dX5_counter_20 : decode cX5_counter 20 = .ok (.iload_n 1, 1) := by decide +kernel
theorem dX5_counter_21 : decode cX5_counter 21 = .ok (.iaload, 1) := by decide +kernel
theorem dX5_counter_22 : decode cX5_counter 22 = .ok (.ishl, 1) := by decide +kernel
theorem dX5_counter_23 : decode cX5_counter 23 = .ok (.iconst 1, 1) := by decide +kernel
theorem dX5_counter_24 : decode cX5_counter 24 = .ok (.isub, 1) := by decide +kernel
theorem dX5_counter_25 : decode cX5_counter 25 = .ok (.invokestatic 56, 3) := by decide +kernel
theorem dX5_counter_28 : decode cX5_counter 28 = .ok (.ifCond .eq 18, 3) := by decide +kernel
theorem dX5_counter_31 : decode cX5_counter 31 = .ok (.aload_n 0, 1) := by decide +kernel
theorem dX5_counter_32 : decode cX5_counter 32 = .ok (.getfield 22, 3) := by decide +kernel
theorem dX5_counter_35 : decode cX5_counter 35 = .ok (.sipush 512, 3) := by decide +kernel
theorem dX5_counter_38 : decode cX5_counter 38 = .ok (.iload_n 1, 1) := by decide +kernel
theorem dX5_counter_39 : decode cX5_counter 39 = .ok (.imul, 1) := by decide +kernel
theorem dX5_counter_40 : decode cX5_counter 40 = .ok (.iload_n 2, 1) := by decide +kernel
theorem dX5_counter_41 : decode cX5_counter 41 = .ok (.iadd, 1) := by decide +kernel
theorem dX5_counter_42 : decode cX5_counter 42 = .ok (.iaload, 1) := by decide +kernel
theorem dX5_counter_43 : decode cX5_counter 43 = .ok (.goto 8, 3) := by decide +kernel
theorem dX5_counter_46 : decode cX5_counter 46 = .ok (.aload_n 0, 1) := by decide +kernel
theorem dX5_counter_47 : decode cX5_counter 47 = .ok (.iconst 1, 1) := by decide +kernel
theorem dX5_counter_48 : decode cX5_counter 48 = .ok (.invokevirtual 70, 3) := by decide +kernel
theorem dX5_counter_51 : decode cX5_counter 51 = .ok (.ireturn, 1) := by decide +kernel
set_option maxRecDepth 20000 in
theorem ggX5_weight_X5_isModel : GoodIn wsX5_weight wsX5_isModel := goodIn_r _ [7, 8, 9, 10, 6, 11, 16, 17, 18, 19, 20, 21, 22, 23, 24, 25, 26, 27, 28, 29, 30, 31, 32, 33, 34, 35, 36, 37] (by decide +kernel) (by decide +kernel)
set_option maxRecDepth 20000 in
theorem gX5_weight_X5_isModel : GoodIn wsX5_weight (wsV RX5 74 RX5 yX5_isModel wsX5_isModel) := goodIn_app (goodIn_of _ (by decide +kernel)) ggX5_weight_X5_isModel
set_option maxRecDepth 20000 in
theorem ggX5_weight_X5_isIn : GoodIn wsX5_weight wsX5_isIn := goodIn_r _ [11] (by decide +kernel) (by decide +kernel)
set_option maxRecDepth 20000 in
theorem gX5_weight_X5_isIn : GoodIn wsX5_weight (va_wsS RX5 56 yX5_isIn wsX5_isIn) := goodIn_app (goodIn_of _ (by decide +kernel)) ggX5_weight_X5_isIn
set_option maxRecDepth 20000 in
theorem ggX5_weight_X5_no : GoodIn wsX5_weight wsX5_no := goodIn_r _ [15, 1, 16, 17, 18, 19, 20, 21, 22, 23, 24, 25, 26, 27, 28, 29, 30, 31, 32, 33, 34, 35, 36, 37] (by decide +kernel) (by decide +kernel)
set_option maxRecDepth 20000 in
theorem gX5_weight_X5_no : GoodIn wsX5_weight (wsV RX5 70 RX5 yX5_no wsX5_no) := goodIn_app (goodIn_of _ (by decide +kernel)) ggX5_weight_X5_no
theorem dX5_weight_0 : decode cX5_weight 0 = .ok (.aload_n 0, 1) := by decide +kernel
theorem dX5_weight_1 : decode cX5_weight 1 = .ok (.iconst 0, 1) := by decide +kernel
theorem dX5_weight_2 : decode cX5_weight 2 = .ok (.putfield 49, 3) := by decide +kernel
theorem dX5_weight_5 : decode cX5_weight 5 = .ok (.aload_n 0, 1) := by decide +kernel
theorem dX5_weight_6 : decode cX5_weight 6 = .ok (.iload_n 1, 1) := by decide +kernel
theorem dX5_weight_7 : decode cX5_weight 7 = .ok (.invokevirtual 74, 3) := by decide +kernel
theorem dX5_weight_10 : decode cX5_weight 10 = .ok (.ifCond .eq 27, 3) := by decide +kernel
theorem dX5_weight_13 : decode cX5_weight 13 = .ok (.iload_n 2, 1) := by decide +kernel
theorem dX5_weight_14 : decode cX5_weight 14 = .ok (.iconst 0, 1) := by decide +kernel
theorem dX5_weight_15 : decode cX5_weight 15 = .ok (.bipush 7, 2) := by decide +kernel
theorem dX5_weight_17 : decode cX5_weight 17 = .ok (.invokestatic 56, 3) := by decide +kernel
theorem dX5_weight_20 : decode cX5_weight 20 = .ok (.ifCond .eq 17, 3) := by decide +kernel
theorem dX5_weight_23 : decode cX5_weight 23 = .ok (.aload_n 0, 1) := by decide +kernel
theorem dX5_weight_24 : decode cX5_weight 24 = .ok (.getfield 31, 3) := by decide +kernel
theorem dX5_weight_27 : decode cX5_weight 27 = .ok (.bipush 8, 2) := by decide +kernel
theorem dX5_weight_29 : decode cX5_weight 29 = .ok (.iload_n 1, 1) := by decide +kernel
theorem dX5_weight_30 : decode cX5_weight 30 = .ok (.imul, 1) := by decide +kernel
theorem dX5_weight_31 : decode cX5_weight 31 = .ok (.iload_n 2, 1) := by decide +kernel
theorem dX5_weight_32 : decode cX5_weight 32 = .ok (.iadd, 1) := by decide +kernel
theorem dX5_weight_33 : decode cX5_weight 33 = .ok (.iaload, 1) := by decide +kernel
theorem dX5_weight_34 : decode cX5_weight 34 = .ok (.goto 8, 3) := by decide +kernel
theorem dX5_weight_37 : decode cX5_weight 37 = .ok (.aload_n 0, 1) := by decide +kernel
theorem dX5_weight_38 : decode cX5_weight 38 = .ok (.iconst 1, 1) := by decide +kernel
theorem dX5_weight_39 : decode cX5_weight 39 = .ok (.invokevirtual 70, 3) := by decide +kernel
theorem dX5_weight_42 : decode cX5_weight 42 = .ok (.ireturn, 1) := by decide +kernel
set_option maxRecDepth 20000 in
theorem ggX5_leader_X5_phase : GoodIn wsX5_leader wsX5_phase := goodIn_r _ [8, 9, 10, 11, 12, 13, 14, 15, 16, 17, 18, 19, 20, 21, 22, 23, 24, 25, 26, 27, 28, 29, 30, 31] (by decide +kernel) (by decide +kernel)
set_option maxRecDepth 20000 in
theorem gX5_leader_X5_phase : GoodIn wsX5_leader (wsV RX5 89 RX5 yX5_phase wsX5_phase) := goodIn_app (goodIn_of _ (by decide +kernel)) ggX5_leader_X5_phase
theorem dX5_leader_0 : decode cX5_leader 0 = .ok (.aload_n 0, 1) := by decide +kernel
theorem dX5_leader_1 : decode cX5_leader 1 = .ok (.iconst 0, 1) := by decide +kernel
theorem dX5_leader_2 : decode cX5_leader 2 = .ok (.putfield 49, 3) := by decide +kernel
theorem dX5_leader_5 : decode cX5_leader 5 = .ok (.iconst (-1), 1) := by decide +kernel
theorem dX5_leader_6 : decode cX5_leader 6 = .ok (.istore_n 1, 1) := by decide +kernel
theorem dX5_leader_7 : decode cX5_leader 7 = .ok (.aload_n 0, 1) := by decide +kernel
theorem dX5_leader_8 : decode cX5_leader 8 = .ok (.getfield 53, 3) := by decide +kernel
theorem dX5_leader_11 : decode cX5_leader 11 = .ok (.iconst 1, 1) := by decide +kernel
theorem dX5_leader_12 : decode cX5_leader 12 = .ok (.isub, 1) := by decide +kernel
theorem dX5_leader_13 : decode cX5_leader 13 = .ok (.istore_n 2, 1) := by decide +kernel
theorem dX5_leader_14 : decode cX5_leader 14 = .ok (.iload_n 2, 1) := by decide +kernel
theorem dX5_leader_15 : decode cX5_leader 15 = .ok (.ifCond .lt 46, 3) := by decide +kernel
theorem dX5_leader_18 : decode cX5_leader 18 = .ok (.iload_n 1, 1) := by decide +kernel
theorem dX5_leader_19 : decode cX5_leader 19 = .ok (.ifCond .lt 34, 3) := by decide +kernel
theorem dX5_leader_22 : decode cX5_leader 22 = .ok (.aload_n 0, 1) := by decide +kernel
theorem dX5_leader_23 : decode cX5_leader 23 = .ok (.getfield 31, 3) := by decide +kernel
theorem dX5_leader_26 : decode cX5_leader 26 = .ok (.bipush 8, 2) := by decide +kernel
theorem dX5_leader_28 : decode cX5_leader 28 = .ok (.iload_n 2, 1) := by decide +kernel
theorem dX5_leader_29 : decode cX5_leader 29 = .ok (.imul, 1) := by decide +kernel
theorem dX5_leader_30 : decode cX5_leader 30 = .ok (.aload_n 0, 1) := by decide +kernel
theorem dX5_leader_31 : decode cX5_leader 31 = .ok (.invokevirtual 89, 3) := by decide +kernel
theorem dX5_leader_34 : decode cX5_leader 34 = .ok (.iadd, 1) := by decide +kernel
theorem dX5_leader_35 : decode cX5_leader 35 = .ok (.iaload, 1) := by decide +kernel
theorem dX5_leader_36 : decode cX5_leader 36 = .ok (.aload_n 0, 1) := by decide +kernel
theorem dX5_leader_37 : decode cX5_leader 37 = .ok (.getfield 31, 3) := by decide +kernel
theorem dX5_leader_40 : decode cX5_leader 40 = .ok (.bipush 8, 2) := by decide +kernel
theorem dX5_leader_42 : decode cX5_leader 42 = .ok (.iload_n 1, 1) := by decide +kernel
theorem dX5_leader_43 : decode cX5_leader 43 = .ok (.imul, 1) := by decide +kernel
theorem dX5_leader_44 : decode cX5_leader 44 = .ok (.aload_n 0, 1) := by decide +kernel
theorem dX5_leader_45 : decode cX5_leader 45 = .ok (.invokevirtual 89, 3) := by decide +kernel
theorem dX5_leader_48 : decode cX5_leader 48 = .ok (.iadd, 1) := by decide +kernel
theorem dX5_leader_49 : decode cX5_leader 49 = .ok (.iaload, 1) := by decide +kernel
theorem dX5_leader_50 : decode cX5_leader 50 = .ok (.if_icmp .lt 5, 3) := by decide +kernel
theorem dX5_leader_53 : decode cX5_leader 53 = .ok (.iload_n 2, 1) := by decide +kernel
theorem dX5_leader_54 : decode cX5_leader 54 = .ok (.istore_n 1, 1) := by decide +kernel
theorem dX5_leader_55 : decode cX5_leader 55 = .ok (.iinc 2 (-1), 3) := by decide +kernel
theorem dX5_leader_58 : decode cX5_leader 58 = .ok (.goto (-44), 3) := by decide +kernel
theorem dX5_leader_61 : decode cX5_leader 61 = .ok (.iload_n 1, 1) := by decide +kernel
theorem dX5_leader_62 : decode cX5_leader 62 = .ok (.ireturn, 1) := by decide +kernel
set_option maxRecDepth 20000 in
theorem ggX5_collisions_X5_isModel : GoodIn wsX5_collisions wsX5_isModel := goodIn_r _ [7, 8, 9, 10, 6, 11, 16, 17, 18, 19, 20, 21, 22, 23, 24, 25, 26, 27, 28, 29, 30, 31, 32, 33, 34, 35, 36, 37] (by decide +kernel) (by decide +kernel)
set_option maxRecDepth 20000 in
theorem gX5_collisions_X5_isModel : GoodIn wsX5_collisions (wsV RX5 74 RX5 yX5_isModel wsX5_isModel) := goodIn_app (goodIn_of _ (by decide +kernel)) ggX5_collisions_X5_isModel
set_option maxRecDepth 20000 in
theorem ggX5_collisions_X5_no : GoodIn wsX5_collisions wsX5_no := goodIn_r _ [15, 1, 16, 17, 18, 19, 20, 21, 22, 23, 24, 25, 26, 27, 28, 29, 30, 31, 32, 33, 34, 35, 36, 37] (by decide +kernel) (by decide +kernel)
set_option maxRecDepth 20000 in
theorem gX5_collisions_X5_no : GoodIn wsX5_collisions (wsV RX5 70 RX5 yX5_no wsX5_no) := goodIn_app (goodIn_of _ (by decide +kernel)) ggX5_collisions_X5_no
theorem dX5_collisions_0 : decode cX5_collisions 0 = .ok (.aload_n 0, 1) := by decide +kernel
theorem dX5_collisions_1 : decode cX5_collisions 1 = .ok (.iconst 0, 1) := by decide +kernel
theorem dX5_collisions_2 : decode cX5_collisions 2 = .ok (.putfield 49, 3) := by decide +kernel
theorem dX5_collisions_5 : decode cX5_collisions 5 = .ok (.aload_n 0, 1) := by decide +kernel
theorem dX5_collisions_6 : decode cX5_collisions 6 = .ok (.iload_n 1, 1) := by decide +kernel
theorem dX5_collisions_7 : decode cX5_collisions 7 = .ok (.invokevirtual 74, 3) := by decide +kernel
theorem dX5_collisions_10 : decode cX5_collisions 10 = .ok (.ifCond .eq 12, 3) := by decide +kernel
theorem dX5_collisions_13 : decode cX5_collisions 13 = .ok (.aload_n 0, 1) := by decide +kernel
theorem dX5_collisions_14 : decode cX5_collisions 14 = .ok (.getfield 34, 3) := by decide +kernel
theorem dX5_collisions_17 : decode cX5_collisions 17 = .ok (.iload_n 1, 1) := by decide +kernel
theorem dX5_collisions_18 : decode cX5_collisions 18 = .ok (.iaload, 1) := by decide +kernel
theorem dX5_collisions_19 : decode cX5_collisions 19 = .ok (.goto 8, 3) := by decide +kernel
theorem dX5_collisions_22 : decode cX5_collisions 22 = .ok (.aload_n 0, 1) := by decide +kernel
theorem dX5_collisions_23 : decode cX5_collisions 23 = .ok (.iconst 1, 1) := by decide +kernel
theorem dX5_collisions_24 : decode cX5_collisions 24 = .ok (.invokevirtual 70, 3) := by decide +kernel
theorem dX5_collisions_27 : decode cX5_collisions 27 = .ok (.ireturn, 1) := by decide +kernel
set_option maxRecDepth 20000 in
theorem ggX5_history_X5_isIn : GoodIn wsX5_history wsX5_isIn := goodIn_r _ [6] (by decide +kernel) (by decide +kernel)
set_option maxRecDepth 20000 in
theorem gX5_history_X5_isIn : GoodIn wsX5_history (va_wsS RX5 56 yX5_isIn wsX5_isIn) := goodIn_app (goodIn_of _ (by decide +kernel)) ggX5_history_X5_isIn
set_option maxRecDepth 20000 in
theorem ggX5_history_X5_no : GoodIn wsX5_history wsX5_no := goodIn_r _ [10, 1, 11, 12, 13, 14, 15, 16, 17, 18, 19, 20, 21, 22, 23, 24, 25, 26, 27, 28, 29, 30, 31, 32] (by decide +kernel) (by decide +kernel)
set_option maxRecDepth 20000 in
theorem gX5_history_X5_no : GoodIn wsX5_history (wsV RX5 70 RX5 yX5_no wsX5_no) := goodIn_app (goodIn_of _ (by decide +kernel)) ggX5_history_X5_no
theorem dX5_history_0 : decode cX5_history 0 = .ok (.aload_n 0, 1) := by decide +kernel
theorem dX5_history_1 : decode cX5_history 1 = .ok (.iconst 0, 1) := by decide +kernel
theorem dX5_history_2 : decode cX5_history 2 = .ok (.putfield 49, 3) := by decide +kernel
theorem dX5_history_5 : decode cX5_history 5 = .ok (.iload_n 1, 1) := by decide +kernel
theorem dX5_history_6 : decode cX5_history 6 = .ok (.iconst 0, 1) := by decide +kernel
theorem dX5_history_7 : decode cX5_history 7 = .ok (.iconst 2, 1) := by decide +kernel
theorem dX5_history_8 : decode cX5_history 8 = .ok (.invokestatic 56, 3) := by decide +kernel
theorem dX5_history_11 : decode cX5_history 11 = .ok (.ifCond .eq 12, 3) := by decide +kernel
theorem dX5_history_14 : decode cX5_history 14 = .ok (.aload_n 0, 1) := by decide +kernel
theorem dX5_history_15 : decode cX5_history 15 = .ok (.getfield 37, 3) := by decide +kernel
theorem dX5_history_18 : decode cX5_history 18 = .ok (.iload_n 1, 1) := by decide +kernel
theorem dX5_history_19 : decode cX5_history 19 = .ok (.iaload, 1) := by decide +kernel
theorem dX5_history_20 : decode cX5_history 20 = .ok (.goto 8, 3) := by decide +kernel
theorem dX5_history_23 : decode cX5_history 23 = .ok (.aload_n 0, 1) := by decide +kernel
theorem dX5_history_24 : decode cX5_history 24 = .ok (.iconst 1, 1) := by decide +kernel
theorem dX5_history_25 : decode cX5_history 25 = .ok (.invokevirtual 70, 3) := by decide +kernel
theorem dX5_history_28 : decode cX5_history 28 = .ok (.ireturn, 1) := by decide +kernel
theorem dX5_node_0 : decode cX5_node 0 = .ok (.aload_n 0, 1) := by decide +kernel
theorem dX5_node_1 : decode cX5_node 1 = .ok (.iconst 0, 1) := by decide +kernel
theorem dX5_node_2 : decode cX5_node 2 = .ok (.putfield 49, 3) := by decide +kernel
theorem dX5_node_5 : decode cX5_node 5 = .ok (.aload_n 0, 1) := by decide +kernel
theorem dX5_node_6 : decode cX5_node 6 = .ok (.getfield 60, 3) := by decide +kernel
theorem dX5_node_9 : decode cX5_node 9 = .ok (.ireturn, 1) := by decide +kernel
theorem dX5_observed_0 : decode cX5_observed 0 = .ok (.aload_n 0, 1) := by decide +kernel
theorem dX5_observed_1 : decode cX5_observed 1 = .ok (.iconst 0, 1) := by decide +kernel
theorem dX5_observed_2 : decode cX5_observed 2 = .ok (.putfield 49, 3) := by decide +kernel
theorem dX5_observed_5 : decode cX5_observed 5 = .ok (.aload_n 0, 1) := by decide +kernel
theorem dX5_observed_6 : decode cX5_observed 6 = .ok (.getfield 63, 3) := by decide +kernel
theorem dX5_observed_9 : decode cX5_observed 9 = .ok (.ireturn, 1) := by decide +kernel
theorem dX5_error_0 : decode cX5_error 0 = .ok (.aload_n 0, 1) := by decide +kernel
theorem dX5_error_1 : decode cX5_error 1 = .ok (.iconst 0, 1) := by decide +kernel
theorem dX5_error_2 : decode cX5_error 2 = .ok (.putfield 49, 3) := by decide +kernel
theorem dX5_error_5 : decode cX5_error 5 = .ok (.aload_n 0, 1) := by decide +kernel
theorem dX5_error_6 : decode cX5_error 6 = .ok (.getfield 66, 3) := by decide +kernel
theorem dX5_error_9 : decode cX5_error 9 = .ok (.lreturn, 1) := by decide +kernel
theorem dX5_meanError_0 : decode cX5_meanError 0 = .ok (.aload_n 0, 1) := by decide +kernel
theorem dX5_meanError_1 : decode cX5_meanError 1 = .ok (.iconst 0, 1) := by decide +kernel
theorem dX5_meanError_2 : decode cX5_meanError 2 = .ok (.putfield 49, 3) := by decide +kernel
theorem dX5_meanError_5 : decode cX5_meanError 5 = .ok (.aload_n 0, 1) := by decide +kernel
theorem dX5_meanError_6 : decode cX5_meanError 6 = .ok (.getfield 63, 3) := by decide +kernel
theorem dX5_meanError_9 : decode cX5_meanError 9 = .ok (.ifCond .ne 7, 3) := by decide +kernel
theorem dX5_meanError_12 : decode cX5_meanError 12 = .ok (.dconst 0, 1) := by decide +kernel
theorem dX5_meanError_13 : decode cX5_meanError 13 = .ok (.goto 18, 3) := by decide +kernel
theorem dX5_meanError_16 : decode cX5_meanError 16 = .ok (.aload_n 0, 1) := by decide +kernel
theorem dX5_meanError_17 : decode cX5_meanError 17 = .ok (.getfield 66, 3) := by decide +kernel
theorem dX5_meanError_20 : decode cX5_meanError 20 = .ok (.l2d, 1) := by decide +kernel
theorem dX5_meanError_21 : decode cX5_meanError 21 = .ok (.ldc2_w 124, 3) := by decide +kernel
theorem dX5_meanError_24 : decode cX5_meanError 24 = .ok (.aload_n 0, 1) := by decide +kernel
theorem dX5_meanError_25 : decode cX5_meanError 25 = .ok (.getfield 63, 3) := by decide +kernel
theorem dX5_meanError_28 : decode cX5_meanError 28 = .ok (.i2d, 1) := by decide +kernel
theorem dX5_meanError_29 : decode cX5_meanError 29 = .ok (.dmul, 1) := by decide +kernel
theorem dX5_meanError_30 : decode cX5_meanError 30 = .ok (.ddiv, 1) := by decide +kernel
theorem dX5_meanError_31 : decode cX5_meanError 31 = .ok (.dreturn, 1) := by decide +kernel
theorem dX5_put_0 : decode cX5_put 0 = .ok (.aload_n 0, 1) := by decide +kernel
theorem dX5_put_1 : decode cX5_put 1 = .ok (.getfield 40, 3) := by decide +kernel
theorem dX5_put_4 : decode cX5_put 4 = .ok (.aload_n 0, 1) := by decide +kernel
theorem dX5_put_5 : decode cX5_put 5 = .ok (.getfield 126, 3) := by decide +kernel
theorem dX5_put_8 : decode cX5_put 8 = .ok (.iload_n 1, 1) := by decide +kernel
theorem dX5_put_9 : decode cX5_put 9 = .ok (.iastore, 1) := by decide +kernel
theorem dX5_put_10 : decode cX5_put 10 = .ok (.aload_n 0, 1) := by decide +kernel
theorem dX5_put_11 : decode cX5_put 11 = .ok (.dup, 1) := by decide +kernel
theorem dX5_put_12 : decode cX5_put 12 = .ok (.getfield 126, 3) := by decide +kernel
theorem dX5_put_15 : decode cX5_put 15 = .ok (.iconst 1, 1) := by decide +kernel
theorem dX5_put_16 : decode cX5_put 16 = .ok (.iadd, 1) := by decide +kernel
theorem dX5_put_17 : decode cX5_put 17 = .ok (.putfield 126, 3) := by decide +kernel
theorem dX5_put_20 : decode cX5_put 20 = .ok (.return_, 1) := by decide +kernel
set_option maxRecDepth 20000 in
theorem ggX5_middle_X5_mix : GoodIn wsX5_middle wsX5_mix := goodIn_r _ [8, 9, 10, 11, 12, 13, 14, 15, 16, 17, 18, 19, 20, 21, 7, 22, 23, 24, 25, 26, 27, 28, 29, 30, 31, 32, 33, 34, 35, 36, 37, 38, 39, 40, 41, 42, 43, 44, 45, 46, 47, 48, 49, 50, 51, 52, 53, 54, 55, 56, 57, 58, 59, 60, 61] (by decide +kernel) (by decide +kernel)
set_option maxRecDepth 20000 in
theorem gX5_middle_X5_mix : GoodIn wsX5_middle (wsV RX5 107 RX5 yX5_mix wsX5_mix) := goodIn_app (goodIn_of _ (by decide +kernel)) ggX5_middle_X5_mix
theorem dX5_middle_0 : decode cX5_middle 0 = .ok (.aload_n 0, 1) := by decide +kernel
theorem dX5_middle_1 : decode cX5_middle 1 = .ok (.getfield 129, 3) := by decide +kernel
theorem dX5_middle_4 : decode cX5_middle 4 = .ok (.aload_n 0, 1) := by decide +kernel
theorem dX5_middle_5 : decode cX5_middle 5 = .ok (.getfield 132, 3) := by decide +kernel
theorem dX5_middle_8 : decode cX5_middle 8 = .ok (.aload_n 0, 1) := by decide +kernel
theorem dX5_middle_9 : decode cX5_middle 9 = .ok (.getfield 129, 3) := by decide +kernel
theorem dX5_middle_12 : decode cX5_middle 12 = .ok (.lsub, 1) := by decide +kernel
theorem dX5_middle_13 : decode cX5_middle 13 = .ok (.ldc2_w 135, 3) := by decide +kernel
theorem dX5_middle_16 : decode cX5_middle 16 = .ok (.ldiv, 1) := by decide +kernel
theorem dX5_middle_17 : decode cX5_middle 17 = .ok (.aload_n 0, 1) := by decide +kernel
theorem dX5_middle_18 : decode cX5_middle 18 = .ok (.invokevirtual 107, 3) := by decide +kernel
theorem dX5_middle_21 : decode cX5_middle 21 = .ok (.i2l, 1) := by decide +kernel
theorem dX5_middle_22 : decode cX5_middle 22 = .ok (.lmul, 1) := by decide +kernel
theorem dX5_middle_23 : decode cX5_middle 23 = .ok (.ladd, 1) := by decide +kernel
theorem dX5_middle_24 : decode cX5_middle 24 = .ok (.lreturn, 1) := by decide +kernel
set_option maxRecDepth 20000 in
theorem ggX5_part_X5_middle : GoodIn wsX5_part wsX5_middle := goodIn_r _ [7, 2, 1, 8, 9, 10, 11, 6, 12, 13, 14, 15, 16, 17, 18, 19, 20, 21, 22, 23, 24, 25, 26, 27, 28, 29, 30, 31, 32, 33, 34, 35, 36, 37, 38, 39, 40, 41, 42, 43, 44, 45, 46, 47, 48, 49, 50, 51, 52, 53, 54, 55, 56, 57, 58, 59, 60, 61, 62, 63, 64, 65] (by decide +kernel) (by decide +kernel)
set_option maxRecDepth 20000 in
theorem gX5_part_X5_middle : GoodIn wsX5_part (wsV RX5 137 RX5 yX5_middle wsX5_middle) := goodIn_app (goodIn_of _ (by decide +kernel)) ggX5_part_X5_middle
theorem dX5_part_0 : decode cX5_part 0 = .ok (.aload_n 0, 1) := by decide +kernel
theorem dX5_part_1 : decode cX5_part 1 = .ok (.invokevirtual 137, 3) := by decide +kernel
theorem dX5_part_4 : decode cX5_part 4 = .ok (.lstore_n 2, 1) := by decide +kernel
theorem dX5_part_5 : decode cX5_part 5 = .ok (.iload_n 1, 1) := by decide +kernel
theorem dX5_part_6 : decode cX5_part 6 = .ok (.ifCond .eq 11, 3) := by decide +kernel
theorem dX5_part_9 : decode cX5_part 9 = .ok (.aload_n 0, 1) := by decide +kernel
theorem dX5_part_10 : decode cX5_part 10 = .ok (.lload_n 2, 1) := by decide +kernel
theorem dX5_part_11 : decode cX5_part 11 = .ok (.putfield 132, 3) := by decide +kernel
theorem dX5_part_14 : decode cX5_part 14 = .ok (.goto 10, 3) := by decide +kernel
theorem dX5_part_17 : decode cX5_part 17 = .ok (.aload_n 0, 1) := by decide +kernel
theorem dX5_part_18 : decode cX5_part 18 = .ok (.lload_n 2, 1) := by decide +kernel
theorem dX5_part_19 : decode cX5_part 19 = .ok (.lconst 1, 1) := by decide +kernel
theorem dX5_part_20 : decode cX5_part 20 = .ok (.ladd, 1) := by decide +kernel
theorem dX5_part_21 : decode cX5_part 21 = .ok (.putfield 129, 3) := by decide +kernel
theorem dX5_part_24 : decode cX5_part 24 = .ok (.return_, 1) := by decide +kernel
theorem dX5_areSame_0 : decode cX5_areSame 0 = .ok (.aload_n 0, 1) := by decide +kernel
theorem dX5_areSame_1 : decode cX5_areSame 1 = .ok (.getfield 129, 3) := by decide +kernel
theorem dX5_areSame_4 : decode cX5_areSame 4 = .ok (.bipush 24, 2) := by decide +kernel
theorem dX5_areSame_6 : decode cX5_areSame 6 = .ok (.lshr, 1) := by decide +kernel
theorem dX5_areSame_7 : decode cX5_areSame 7 = .ok (.aload_n 0, 1) := by decide +kernel
theorem dX5_areSame_8 : decode cX5_areSame 8 = .ok (.getfield 132, 3) := by decide +kernel
theorem dX5_areSame_11 : decode cX5_areSame 11 = .ok (.bipush 24, 2) := by decide +kernel
theorem dX5_areSame_13 : decode cX5_areSame 13 = .ok (.lshr, 1) := by decide +kernel
theorem dX5_areSame_14 : decode cX5_areSame 14 = .ok (.lcmp, 1) := by decide +kernel
theorem dX5_areSame_15 : decode cX5_areSame 15 = .ok (.ifCond .ne 7, 3) := by decide +kernel
theorem dX5_areSame_18 : decode cX5_areSame 18 = .ok (.iconst 1, 1) := by decide +kernel
theorem dX5_areSame_19 : decode cX5_areSame 19 = .ok (.goto 4, 3) := by decide +kernel
theorem dX5_areSame_22 : decode cX5_areSame 22 = .ok (.iconst 0, 1) := by decide +kernel
theorem dX5_areSame_23 : decode cX5_areSame 23 = .ok (.ireturn, 1) := by decide +kernel
theorem dX5_shift_0 : decode cX5_shift 0 = .ok (.aload_n 0, 1) := by decide +kernel
theorem dX5_shift_1 : decode cX5_shift 1 = .ok (.aload_n 0, 1) := by decide +kernel
theorem dX5_shift_2 : decode cX5_shift 2 = .ok (.getfield 129, 3) := by decide +kernel
theorem dX5_shift_5 : decode cX5_shift 5 = .ok (.bipush 8, 2) := by decide +kernel
theorem dX5_shift_7 : decode cX5_shift 7 = .ok (.lshl, 1) := by decide +kernel
theorem dX5_shift_8 : decode cX5_shift 8 = .ok (.ldc2_w 141, 3) := by decide +kernel
theorem dX5_shift_11 : decode cX5_shift 11 = .ok (.land, 1) := by decide +kernel
theorem dX5_shift_12 : decode cX5_shift 12 = .ok (.putfield 129, 3) := by decide +kernel
theorem dX5_shift_15 : decode cX5_shift 15 = .ok (.aload_n 0, 1) := by decide +kernel
theorem dX5_shift_16 : decode cX5_shift 16 = .ok (.aload_n 0, 1) := by decide +kernel
theorem dX5_shift_17 : decode cX5_shift 17 = .ok (.getfield 132, 3) := by decide +kernel
theorem dX5_shift_20 : decode cX5_shift 20 = .ok (.bipush 8, 2) := by decide +kernel
theorem dX5_shift_22 : decode cX5_shift 22 = .ok (.lshl, 1) := by decide +kernel
theorem dX5_shift_23 : decode cX5_shift 23 = .ok (.ldc2_w 141, 3) := by decide +kernel
theorem dX5_shift_26 : decode cX5_shift 26 = .ok (.land, 1) := by decide +kernel
theorem dX5_shift_27 : decode cX5_shift 27 = .ok (.ldc2_w 81, 3) := by decide +kernel
theorem dX5_shift_30 : decode cX5_shift 30 = .ok (.lor, 1) := by decide +kernel
theorem dX5_shift_31 : decode cX5_shift 31 = .ok (.putfield 132, 3) := by decide +kernel
theorem dX5_shift_34 : decode cX5_shift 34 = .ok (.return_, 1) := by decide +kernel
set_option maxRecDepth 20000 in
theorem ggX5_encode_X5_clear : GoodIn wsX5_encode wsX5_clear := goodIn_r _ [13, 14, 15, 16, 17, 18, 19, 20, 21, 91, 92, 93, 94, 95, 96, 97, 98, 99, 100, 101, 102, 103, 104, 105, 106, 107, 108, 109, 110, 111, 112] (by decide +kernel) (by decide +kernel)
set_option maxRecDepth 20000 in
theorem gX5_encode_X5_clear : GoodIn wsX5_encode (wsV RX5 46 RX5 yX5_clear wsX5_clear) := goodIn_app (goodIn_of _ (by decide +kernel)) ggX5_encode_X5_clear
set_option maxRecDepth 20000 in
theorem ggX5_encode_X5_part : GoodIn wsX5_encode wsX5_part := goodIn_r _ [25, 5, 3, 26, 27, 28, 12, 29, 30, 31, 32, 33, 34, 35, 16, 36, 37, 38, 39, 40, 41, 42, 43, 44, 45, 46, 47, 19, 48, 49, 50, 51, 14, 52, 53, 54, 55, 56, 57, 58, 59, 60, 61, 18, 91, 92, 93, 94, 95, 96, 97, 98, 99, 100, 101, 102, 103, 104, 105, 106, 107, 108, 109, 110, 111, 112] (by decide +kernel) (by decide +kernel)
set_option maxRecDepth 20000 in
theorem gX5_encode_X5_part : GoodIn wsX5_encode (wsV RX5 143 RX5 yX5_part wsX5_part) := goodIn_app (goodIn_of _ (by decide +kernel)) ggX5_encode_X5_part
set_option maxRecDepth 20000 in
theorem ggX5_encode_X5_areSame : GoodIn wsX5_encode wsX5_areSame := goodIn_r _ [65, 3, 5, 91, 92, 93, 94, 95, 96, 97, 98, 99, 100, 101, 102, 103, 104, 105, 106, 107, 108, 109, 110, 111, 112] (by decide +kernel) (by decide +kernel)
set_option maxRecDepth 20000 in
theorem gX5_encode_X5_areSame : GoodIn wsX5_encode (wsV RX5 147 RX5 yX5_areSame wsX5_areSame) := goodIn_app (goodIn_of _ (by decide +kernel)) ggX5_encode_X5_areSame
set_option maxRecDepth 20000 in
theorem ggX5_encode_X5_put : GoodIn wsX5_encode wsX5_put := goodIn_r _ [69, 70, 2, 91, 92, 93, 94, 95, 96, 97, 98, 99, 100, 101, 102, 103, 104, 105, 106, 107, 108, 109, 110, 111, 112] (by decide +kernel) (by decide +kernel)
set_option maxRecDepth 20000 in
theorem gX5_encode_X5_put : GoodIn wsX5_encode (wsV RX5 151 RX5 yX5_put wsX5_put) := goodIn_app (goodIn_of _ (by decide +kernel)) ggX5_encode_X5_put
set_option maxRecDepth 20000 in
theorem ggX5_encode_X5_shift : GoodIn wsX5_encode wsX5_shift := goodIn_r _ [74, 3, 4, 5, 8, 91, 92, 93, 94, 95, 96, 97, 98, 99, 100, 101, 102, 103, 104, 105, 106, 107, 108, 109, 110, 111, 112] (by decide +kernel) (by decide +kernel)
set_option maxRecDepth 20000 in
theorem gX5_encode_X5_shift : GoodIn wsX5_encode (wsV RX5 155 RX5 yX5_shift wsX5_shift) := goodIn_app (goodIn_of _ (by decide +kernel)) ggX5_encode_X5_shift
set_option maxRecDepth 20000 in
theorem ggX5_encode_X5_learn : GoodIn wsX5_encode wsX5_learn := goodIn_r _ [78, 21, 35, 16, 79, 80, 81, 39, 82, 83, 84, 85, 14, 86, 15, 19, 87, 17, 18, 20, 31, 32, 33, 12, 34, 36, 37, 38, 40, 41, 42, 43, 44, 45, 46, 47, 48, 49, 50, 51, 52, 53, 54, 55, 56, 57, 58, 59, 60, 61, 88, 89, 90, 91, 92, 93, 94, 95, 96, 97, 98, 99, 100, 101, 102, 103, 104, 105, 106, 107, 108, 109, 110, 111, 112] (by decide +kernel) (by decide +kernel)
set_option maxRecDepth 20000 in
theorem gX5_encode_X5_learn : GoodIn wsX5_encode (wsV RX5 120 RX5 yX5_learn wsX5_learn) := goodIn_app (goodIn_of _ (by decide +kernel)) ggX5_encode_X5_learn
theorem dX5_encode_0 : decode cX5_encode 0 = .ok (.aload_n 0, 1) := by decide +kernel
theorem dX5_encode_1 : decode cX5_encode 1 = .ok (.iconst 0, 1) := by decide +kernel
theorem dX5_encode_2 : decode cX5_encode 2 = .ok (.putfield 49, 3) := by decide +kernel
theorem dX5_encode_5 : decode cX5_encode 5 = .ok (.aload_n 0, 1) := by decide +kernel
theorem dX5_encode_6 : decode cX5_encode 6 = .ok (.invokevirtual 46, 3) := by decide +kernel
theorem dX5_encode_9 : decode cX5_encode 9 = .ok (.aload_n 0, 1) := by decide +kernel
theorem dX5_encode_10 : decode cX5_encode 10 = .ok (.iconst 0, 1) := by decide +kernel
theorem dX5_encode_11 : decode cX5_encode 11 = .ok (.putfield 126, 3) := by decide +kernel
theorem dX5_encode_14 : decode cX5_encode 14 = .ok (.aload_n 0, 1) := by decide +kernel
theorem dX5_encode_15 : decode cX5_encode 15 = .ok (.lconst 0, 1) := by decide +kernel
theorem dX5_encode_16 : decode cX5_encode 16 = .ok (.putfield 129, 3) := by decide +kernel
theorem dX5_encode_19 : decode cX5_encode 19 = .ok (.aload_n 0, 1) := by decide +kernel
theorem dX5_encode_20 : decode cX5_encode 20 = .ok (.ldc2_w 141, 3) := by decide +kernel
theorem dX5_encode_23 : decode cX5_encode 23 = .ok (.putfield 132, 3) := by decide +kernel
theorem dX5_encode_26 : decode cX5_encode 26 = .ok (.iconst 0, 1) := by decide +kernel
theorem dX5_encode_27 : decode cX5_encode 27 = .ok (.istore_n 1, 1) := by decide +kernel
theorem dX5_encode_28 : decode cX5_encode 28 = .ok (.iload_n 1, 1) := by decide +kernel
theorem dX5_encode_29 : decode cX5_encode 29 = .ok (.aload_n 0, 1) := by decide +kernel
theorem dX5_encode_30 : decode cX5_encode 30 = .ok (.getfield 78, 3) := by decide +kernel
theorem dX5_encode_33 : decode cX5_encode 33 = .ok (.if_icmp .ge 79, 3) := by decide +kernel
theorem dX5_encode_36 : decode cX5_encode 36 = .ok (.bipush 7, 2) := by decide +kernel
theorem dX5_encode_38 : decode cX5_encode 38 = .ok (.istore_n 2, 1) := by decide +kernel
theorem dX5_encode_39 : decode cX5_encode 39 = .ok (.iload_n 2, 1) := by decide +kernel
theorem dX5_encode_40 : decode cX5_encode 40 = .ok (.ifCond .lt 66, 3) := by decide +kernel
theorem dX5_encode_43 : decode cX5_encode 43 = .ok (.aload_n 0, 1) := by decide +kernel
theorem dX5_encode_44 : decode cX5_encode 44 = .ok (.getfield 19, 3) := by decide +kernel
theorem dX5_encode_47 : decode cX5_encode 47 = .ok (.iload_n 1, 1) := by decide +kernel
theorem dX5_encode_48 : decode cX5_encode 48 = .ok (.iaload, 1) := by decide +kernel
theorem dX5_encode_49 : decode cX5_encode 49 = .ok (.iload_n 2, 1) := by decide +kernel
theorem dX5_encode_50 : decode cX5_encode 50 = .ok (.ishr, 1) := by decide +kernel
theorem dX5_encode_51 : decode cX5_encode 51 = .ok (.iconst 1, 1) := by decide +kernel
theorem dX5_encode_52 : decode cX5_encode 52 = .ok (.iand, 1) := by decide +kernel
theorem dX5_encode_53 : decode cX5_encode 53 = .ok (.iconst 1, 1) := by decide +kernel
theorem dX5_encode_54 : decode cX5_encode 54 = .ok (.if_icmp .ne 7, 3) := by decide +kernel
theorem dX5_encode_57 : decode cX5_encode 57 = .ok (.iconst 1, 1) := by decide +kernel
theorem dX5_encode_58 : decode cX5_encode 58 = .ok (.goto 4, 3) := by decide +kernel
theorem dX5_encode_61 : decode cX5_encode 61 = .ok (.iconst 0, 1) := by decide +kernel
theorem dX5_encode_62 : decode cX5_encode 62 = .ok (.istore_n 3, 1) := by decide +kernel
theorem dX5_encode_63 : decode cX5_encode 63 = .ok (.aload_n 0, 1) := by decide +kernel
theorem dX5_encode_64 : decode cX5_encode 64 = .ok (.iload_n 3, 1) := by decide +kernel
theorem dX5_encode_65 : decode cX5_encode 65 = .ok (.invokevirtual 143, 3) := by decide +kernel
theorem dX5_encode_68 : decode cX5_encode 68 = .ok (.aload_n 0, 1) := by decide +kernel
theorem dX5_encode_69 : decode cX5_encode 69 = .ok (.invokevirtual 147, 3) := by decide +kernel
theorem dX5_encode_72 : decode cX5_encode 72 = .ok (.ifCond .eq 22, 3) := by decide +kernel
theorem dX5_encode_75 : decode cX5_encode 75 = .ok (.aload_n 0, 1) := by decide +kernel
theorem dX5_encode_76 : decode cX5_encode 76 = .ok (.aload_n 0, 1) := by decide +kernel
theorem dX5_encode_77 : decode cX5_encode 77 = .ok (.getfield 129, 3) := by decide +kernel
theorem dX5_encode_80 : decode cX5_encode 80 = .ok (.bipush 24, 2) := by decide +kernel
theorem dX5_encode_82 : decode cX5_encode 82 = .ok (.lshr, 1) := by decide +kernel
theorem dX5_encode_83 : decode cX5_encode 83 = .ok (.l2i, 1) := by decide +kernel
theorem dX5_encode_84 : decode cX5_encode 84 = .ok (.invokevirtual 151, 3) := by decide +kernel
theorem dX5_encode_87 : decode cX5_encode 87 = .ok (.aload_n 0, 1) := by decide +kernel
theorem dX5_encode_88 : decode cX5_encode 88 = .ok (.invokevirtual 155, 3) := by decide +kernel
theorem dX5_encode_91 : decode cX5_encode 91 = .ok (.goto (-23), 3) := by decide +kernel
theorem dX5_encode_94 : decode cX5_encode 94 = .ok (.aload_n 0, 1) := by decide +kernel
theorem dX5_encode_95 : decode cX5_encode 95 = .ok (.iload_n 3, 1) := by decide +kernel
theorem dX5_encode_96 : decode cX5_encode 96 = .ok (.invokevirtual 120, 3) := by decide +kernel
theorem dX5_encode_99 : decode cX5_encode 99 = .ok (.pop, 1) := by decide +kernel
theorem dX5_encode_100 : decode cX5_encode 100 = .ok (.iinc 2 (-1), 3) := by decide +kernel
theorem dX5_encode_103 : decode cX5_encode 103 = .ok (.goto (-64), 3) := by decide +kernel
theorem dX5_encode_106 : decode cX5_encode 106 = .ok (.iinc 1 1, 3) := by decide +kernel
theorem dX5_encode_109 : decode cX5_encode 109 = .ok (.goto (-81), 3) := by decide +kernel
theorem dX5_encode_112 : decode cX5_encode 112 = .ok (.bipush 24, 2) := by decide +kernel
theorem dX5_encode_114 : decode cX5_encode 114 = .ok (.istore_n 1, 1) := by decide +kernel
theorem dX5_encode_115 : decode cX5_encode 115 = .ok (.iload_n 1, 1) := by decide +kernel
theorem dX5_encode_116 : decode cX5_encode 116 = .ok (.ifCond .lt 24, 3) := by decide +kernel
theorem dX5_encode_119 : decode cX5_encode 119 = .ok (.aload_n 0, 1) := by decide +kernel
theorem dX5_encode_120 : decode cX5_encode 120 = .ok (.aload_n 0, 1) := by decide +kernel
theorem dX5_encode_121 : decode cX5_encode 121 = .ok (.getfield 129, 3) := by decide +kernel
theorem dX5_encode_124 : decode cX5_encode 124 = .ok (.iload_n 1, 1) := by decide +kernel
theorem dX5_encode_125 : decode cX5_encode 125 = .ok (.lshr, 1) := by decide +kernel
theorem dX5_encode_126 : decode cX5_encode 126 = .ok (.ldc2_w 81, 3) := by decide +kernel
theorem dX5_encode_129 : decode cX5_encode 129 = .ok (.land, 1) := by decide +kernel
theorem dX5_encode_130 : decode cX5_encode 130 = .ok (.l2i, 1) := by decide +kernel
theorem dX5_encode_131 : decode cX5_encode 131 = .ok (.invokevirtual 151, 3) := by decide +kernel
theorem dX5_encode_134 : decode cX5_encode 134 = .ok (.iinc 1 (-8), 3) := by decide +kernel
theorem dX5_encode_137 : decode cX5_encode 137 = .ok (.goto (-22), 3) := by decide +kernel
theorem dX5_encode_140 : decode cX5_encode 140 = .ok (.aload_n 0, 1) := by decide +kernel
theorem dX5_encode_141 : decode cX5_encode 141 = .ok (.getfield 126, 3) := by decide +kernel
theorem dX5_encode_144 : decode cX5_encode 144 = .ok (.ireturn, 1) := by decide +kernel
theorem dX5_codeSize_0 : decode cX5_codeSize 0 = .ok (.aload_n 0, 1) := by decide +kernel
theorem dX5_codeSize_1 : decode cX5_codeSize 1 = .ok (.iconst 0, 1) := by decide +kernel
theorem dX5_codeSize_2 : decode cX5_codeSize 2 = .ok (.putfield 49, 3) := by decide +kernel
theorem dX5_codeSize_5 : decode cX5_codeSize 5 = .ok (.aload_n 0, 1) := by decide +kernel
theorem dX5_codeSize_6 : decode cX5_codeSize 6 = .ok (.getfield 126, 3) := by decide +kernel
theorem dX5_codeSize_9 : decode cX5_codeSize 9 = .ok (.ireturn, 1) := by decide +kernel
set_option maxRecDepth 20000 in
theorem ggX5_code_X5_isIn : GoodIn wsX5_code wsX5_isIn := goodIn_r _ [7] (by decide +kernel) (by decide +kernel)
set_option maxRecDepth 20000 in
theorem gX5_code_X5_isIn : GoodIn wsX5_code (va_wsS RX5 56 yX5_isIn wsX5_isIn) := goodIn_app (goodIn_of _ (by decide +kernel)) ggX5_code_X5_isIn
set_option maxRecDepth 20000 in
theorem ggX5_code_X5_no : GoodIn wsX5_code wsX5_no := goodIn_r _ [11, 1, 12, 13, 14, 15, 16, 17, 18, 19, 20, 21, 22, 23, 24, 25, 26, 27, 28, 29, 30, 31, 32, 33] (by decide +kernel) (by decide +kernel)
set_option maxRecDepth 20000 in
theorem gX5_code_X5_no : GoodIn wsX5_code (wsV RX5 70 RX5 yX5_no wsX5_no) := goodIn_app (goodIn_of _ (by decide +kernel)) ggX5_code_X5_no
theorem dX5_code_0 : decode cX5_code 0 = .ok (.aload_n 0, 1) := by decide +kernel
theorem dX5_code_1 : decode cX5_code 1 = .ok (.iconst 0, 1) := by decide +kernel
theorem dX5_code_2 : decode cX5_code 2 = .ok (.putfield 49, 3) := by decide +kernel
theorem dX5_code_5 : decode cX5_code 5 = .ok (.iload_n 1, 1) := by decide +kernel
theorem dX5_code_6 : decode cX5_code 6 = .ok (.iconst 0, 1) := by decide +kernel
theorem dX5_code_7 : decode cX5_code 7 = .ok (.aload_n 0, 1) := by decide +kernel
theorem dX5_code_8 : decode cX5_code 8 = .ok (.getfield 126, 3) := by decide +kernel
theorem dX5_code_11 : decode cX5_code 11 = .ok (.iconst 1, 1) := by decide +kernel
theorem dX5_code_12 : decode cX5_code 12 = .ok (.isub, 1) := by decide +kernel
theorem dX5_code_13 : decode cX5_code 13 = .ok (.invokestatic 56, 3) := by decide +kernel
theorem dX5_code_16 : decode cX5_code 16 = .ok (.ifCond .eq 12, 3) := by decide +kernel
theorem dX5_code_19 : decode cX5_code 19 = .ok (.aload_n 0, 1) := by decide +kernel
theorem dX5_code_20 : decode cX5_code 20 = .ok (.getfield 40, 3) := by decide +kernel
theorem dX5_code_23 : decode cX5_code 23 = .ok (.iload_n 1, 1) := by decide +kernel
theorem dX5_code_24 : decode cX5_code 24 = .ok (.iaload, 1) := by decide +kernel
theorem dX5_code_25 : decode cX5_code 25 = .ok (.goto 8, 3) := by decide +kernel
theorem dX5_code_28 : decode cX5_code 28 = .ok (.aload_n 0, 1) := by decide +kernel
theorem dX5_code_29 : decode cX5_code 29 = .ok (.iconst 1, 1) := by decide +kernel
theorem dX5_code_30 : decode cX5_code 30 = .ok (.invokevirtual 70, 3) := by decide +kernel
theorem dX5_code_33 : decode cX5_code 33 = .ok (.ireturn, 1) := by decide +kernel
set_option maxRecDepth 20000 in
theorem ggX5_setCode_X5_isIn : GoodIn wsX5_setCode wsX5_isIn := goodIn_r _ [7] (by decide +kernel) (by decide +kernel)
set_option maxRecDepth 20000 in
theorem gX5_setCode_X5_isIn : GoodIn wsX5_setCode (va_wsS RX5 56 yX5_isIn wsX5_isIn) := goodIn_app (goodIn_of _ (by decide +kernel)) ggX5_setCode_X5_isIn
set_option maxRecDepth 20000 in
theorem ggX5_setCode_X5_no : GoodIn wsX5_setCode wsX5_no := goodIn_r _ [11, 1, 12, 13, 14, 15, 16, 17, 18, 19, 20, 21, 22, 23, 24, 25, 26, 27, 28, 29, 30, 31, 32, 33] (by decide +kernel) (by decide +kernel)
set_option maxRecDepth 20000 in
theorem gX5_setCode_X5_no : GoodIn wsX5_setCode (wsV RX5 70 RX5 yX5_no wsX5_no) := goodIn_app (goodIn_of _ (by decide +kernel)) ggX5_setCode_X5_no
theorem dX5_setCode_0 : decode cX5_setCode 0 = .ok (.aload_n 0, 1) := by decide +kernel
theorem dX5_setCode_1 : decode cX5_setCode 1 = .ok (.iconst 0, 1) := by decide +kernel
theorem dX5_setCode_2 : decode cX5_setCode 2 = .ok (.putfield 49, 3) := by decide +kernel
theorem dX5_setCode_5 : decode cX5_setCode 5 = .ok (.iload_n 1, 1) := by decide +kernel
theorem dX5_setCode_6 : decode cX5_setCode 6 = .ok (.iconst 0, 1) := by decide +kernel
theorem dX5_setCode_7 : decode cX5_setCode 7 = .ok (.aload_n 0, 1) := by decide +kernel
theorem dX5_setCode_8 : decode cX5_setCode 8 = .ok (.getfield 126, 3) := by decide +kernel
theorem dX5_setCode_11 : decode cX5_setCode 11 = .ok (.iconst 1, 1) := by decide +kernel
theorem dX5_setCode_12 : decode cX5_setCode 12 = .ok (.isub, 1) := by decide +kernel
theorem dX5_setCode_13 : decode cX5_setCode 13 = .ok (.invokestatic 56, 3) := by decide +kernel
theorem dX5_setCode_16 : decode cX5_setCode 16 = .ok (.ifCond .ne 9, 3) := by decide +kernel
theorem dX5_setCode_19 : decode cX5_setCode 19 = .ok (.aload_n 0, 1) := by decide +kernel
theorem dX5_setCode_20 : decode cX5_setCode 20 = .ok (.iconst 1, 1) := by decide +kernel
theorem dX5_setCode_21 : decode cX5_setCode 21 = .ok (.invokevirtual 70, 3) := by decide +kernel
theorem dX5_setCode_24 : decode cX5_setCode 24 = .ok (.ireturn, 1) := by decide +kernel
theorem dX5_setCode_25 : decode cX5_setCode 25 = .ok (.iload_n 2, 1) := by decide +kernel
theorem dX5_setCode_26 : decode cX5_setCode 26 = .ok (.iconst 0, 1) := by decide +kernel
theorem dX5_setCode_27 : decode cX5_setCode 27 = .ok (.sipush 255, 3) := by decide +kernel
theorem dX5_setCode_30 : decode cX5_setCode 30 = .ok (.invokestatic 56, 3) := by decide +kernel
theorem dX5_setCode_33 : decode cX5_setCode 33 = .ok (.ifCond .ne 9, 3) := by decide +kernel
theorem dX5_setCode_36 : decode cX5_setCode 36 = .ok (.aload_n 0, 1) := by decide +kernel
theorem dX5_setCode_37 : decode cX5_setCode 37 = .ok (.iconst 2, 1) := by decide +kernel
theorem dX5_setCode_38 : decode cX5_setCode 38 = .ok (.invokevirtual 70, 3) := by decide +kernel
theorem dX5_setCode_41 : decode cX5_setCode 41 = .ok (.ireturn, 1) := by decide +kernel
theorem dX5_setCode_42 : decode cX5_setCode 42 = .ok (.aload_n 0, 1) := by decide +kernel
theorem dX5_setCode_43 : decode cX5_setCode 43 = .ok (.getfield 40, 3) := by decide +kernel
theorem dX5_setCode_46 : decode cX5_setCode 46 = .ok (.iload_n 1, 1) := by decide +kernel
theorem dX5_setCode_47 : decode cX5_setCode 47 = .ok (.iaload, 1) := by decide +kernel
theorem dX5_setCode_48 : decode cX5_setCode 48 = .ok (.istore_n 3, 1) := by decide +kernel
theorem dX5_setCode_49 : decode cX5_setCode 49 = .ok (.aload_n 0, 1) := by decide +kernel
theorem dX5_setCode_50 : decode cX5_setCode 50 = .ok (.getfield 40, 3) := by decide +kernel
theorem dX5_setCode_53 : decode cX5_setCode 53 = .ok (.iload_n 1, 1) := by decide +kernel
theorem dX5_setCode_54 : decode cX5_setCode 54 = .ok (.iload_n 2, 1) := by decide +kernel
theorem dX5_setCode_55 : decode cX5_setCode 55 = .ok (.iastore, 1) := by decide +kernel
theorem dX5_setCode_56 : decode cX5_setCode 56 = .ok (.iload_n 3, 1) := by decide +kernel
theorem dX5_setCode_57 : decode cX5_setCode 57 = .ok (.ireturn, 1) := by decide +kernel
set_option maxRecDepth 20000 in
theorem ggX5_cutCode_X5_isIn : GoodIn wsX5_cutCode wsX5_isIn := goodIn_r _ [6] (by decide +kernel) (by decide +kernel)
set_option maxRecDepth 20000 in
theorem gX5_cutCode_X5_isIn : GoodIn wsX5_cutCode (va_wsS RX5 56 yX5_isIn wsX5_isIn) := goodIn_app (goodIn_of _ (by decide +kernel)) ggX5_cutCode_X5_isIn
set_option maxRecDepth 20000 in
theorem ggX5_cutCode_X5_no : GoodIn wsX5_cutCode wsX5_no := goodIn_r _ [10, 1, 11, 12, 13, 14, 15, 16, 17, 18, 19, 20, 21, 22, 23, 24, 25, 26, 27, 28, 29, 30, 31, 32] (by decide +kernel) (by decide +kernel)
set_option maxRecDepth 20000 in
theorem gX5_cutCode_X5_no : GoodIn wsX5_cutCode (wsV RX5 70 RX5 yX5_no wsX5_no) := goodIn_app (goodIn_of _ (by decide +kernel)) ggX5_cutCode_X5_no
theorem dX5_cutCode_0 : decode cX5_cutCode 0 = .ok (.aload_n 0, 1) := by decide +kernel
theorem dX5_cutCode_1 : decode cX5_cutCode 1 = .ok (.iconst 0, 1) := by decide +kernel
theorem dX5_cutCode_2 : decode cX5_cutCode 2 = .ok (.putfield 49, 3) := by decide +kernel
theorem dX5_cutCode_5 : decode cX5_cutCode 5 = .ok (.iload_n 1, 1) := by decide +kernel
theorem dX5_cutCode_6 : decode cX5_cutCode 6 = .ok (.iconst 0, 1) := by decide +kernel
theorem dX5_cutCode_7 : decode cX5_cutCode 7 = .ok (.aload_n 0, 1) := by decide +kernel
theorem dX5_cutCode_8 : decode cX5_cutCode 8 = .ok (.getfield 126, 3) := by decide +kernel
theorem dX5_cutCode_11 : decode cX5_cutCode 11 = .ok (.invokestatic 56, 3) := by decide +kernel
theorem dX5_cutCode_14 : decode cX5_cutCode 14 = .ok (.ifCond .ne 9, 3) := by decide +kernel
theorem dX5_cutCode_17 : decode cX5_cutCode 17 = .ok (.aload_n 0, 1) := by decide +kernel
theorem dX5_cutCode_18 : decode cX5_cutCode 18 = .ok (.iconst 1, 1) := by decide +kernel
theorem dX5_cutCode_19 : decode cX5_cutCode 19 = .ok (.invokevirtual 70, 3) := by decide +kernel
theorem dX5_cutCode_22 : decode cX5_cutCode 22 = .ok (.ireturn, 1) := by decide +kernel
theorem dX5_cutCode_23 : decode cX5_cutCode 23 = .ok (.aload_n 0, 1) := by decide +kernel
theorem dX5_cutCode_24 : decode cX5_cutCode 24 = .ok (.dup, 1) := by decide +kernel
theorem dX5_cutCode_25 : decode cX5_cutCode 25 = .ok (.getfield 126, 3) := by decide +kernel
theorem dX5_cutCode_28 : decode cX5_cutCode 28 = .ok (.iload_n 1, 1) := by decide +kernel
theorem dX5_cutCode_29 : decode cX5_cutCode 29 = .ok (.isub, 1) := by decide +kernel
theorem dX5_cutCode_30 : decode cX5_cutCode 30 = .ok (.putfield 126, 3) := by decide +kernel
theorem dX5_cutCode_33 : decode cX5_cutCode 33 = .ok (.aload_n 0, 1) := by decide +kernel
theorem dX5_cutCode_34 : decode cX5_cutCode 34 = .ok (.getfield 126, 3) := by decide +kernel
theorem dX5_cutCode_37 : decode cX5_cutCode 37 = .ok (.ireturn, 1) := by decide +kernel
theorem dX5_byteOfCode_0 : decode cX5_byteOfCode 0 = .ok (.iload_n 1, 1) := by decide +kernel
theorem dX5_byteOfCode_1 : decode cX5_byteOfCode 1 = .ok (.aload_n 0, 1) := by decide +kernel
theorem dX5_byteOfCode_2 : decode cX5_byteOfCode 2 = .ok (.getfield 126, 3) := by decide +kernel
theorem dX5_byteOfCode_5 : decode cX5_byteOfCode 5 = .ok (.if_icmp .ge 12, 3) := by decide +kernel
theorem dX5_byteOfCode_8 : decode cX5_byteOfCode 8 = .ok (.aload_n 0, 1) := by decide +kernel
theorem dX5_byteOfCode_9 : decode cX5_byteOfCode 9 = .ok (.getfield 40, 3) := by decide +kernel
theorem dX5_byteOfCode_12 : decode cX5_byteOfCode 12 = .ok (.iload_n 1, 1) := by decide +kernel
theorem dX5_byteOfCode_13 : decode cX5_byteOfCode 13 = .ok (.iaload, 1) := by decide +kernel
theorem dX5_byteOfCode_14 : decode cX5_byteOfCode 14 = .ok (.goto 4, 3) := by decide +kernel
theorem dX5_byteOfCode_17 : decode cX5_byteOfCode 17 = .ok (.iconst 0, 1) := by decide +kernel
theorem dX5_byteOfCode_18 : decode cX5_byteOfCode 18 = .ok (.ireturn, 1) := by decide +kernel
set_option maxRecDepth 20000 in
theorem ggX5_decode_X5_isIn : GoodIn wsX5_decode wsX5_isIn := goodIn_r _ [11] (by decide +kernel) (by decide +kernel)
set_option maxRecDepth 20000 in
theorem gX5_decode_X5_isIn : GoodIn wsX5_decode (va_wsS RX5 56 yX5_isIn wsX5_isIn) := goodIn_app (goodIn_of _ (by decide +kernel)) ggX5_decode_X5_isIn
set_option maxRecDepth 20000 in
theorem ggX5_decode_X5_no : GoodIn wsX5_decode wsX5_no := goodIn_r _ [15, 1, 108, 109, 110, 111, 112, 113, 114, 115, 116, 117, 118, 119, 120, 121, 122, 123, 124, 125, 126, 127, 128, 129] (by decide +kernel) (by decide +kernel)
set_option maxRecDepth 20000 in
theorem gX5_decode_X5_no : GoodIn wsX5_decode (wsV RX5 70 RX5 yX5_no wsX5_no) := goodIn_app (goodIn_of _ (by decide +kernel)) ggX5_decode_X5_no
set_option maxRecDepth 20000 in
theorem ggX5_decode_X5_clear : GoodIn wsX5_decode wsX5_clear := goodIn_r _ [19, 20, 21, 22, 23, 24, 25, 26, 27, 108, 109, 110, 111, 112, 113, 114, 115, 116, 117, 118, 119, 120, 121, 122, 123, 124, 125, 126, 127, 128, 129] (by decide +kernel) (by decide +kernel)
set_option maxRecDepth 20000 in
theorem gX5_decode_X5_clear : GoodIn wsX5_decode (wsV RX5 46 RX5 yX5_clear wsX5_clear) := goodIn_app (goodIn_of _ (by decide +kernel)) ggX5_decode_X5_clear
set_option maxRecDepth 20000 in
theorem ggX5_decode_X5_byteOfCode : GoodIn wsX5_decode wsX5_byteOfCode := goodIn_r _ [31, 32, 33, 108, 109, 110, 111, 112, 113, 114, 115, 116, 117, 118, 119, 120, 121, 122, 123, 124, 125, 126, 127, 128, 129] (by decide +kernel) (by decide +kernel)
set_option maxRecDepth 20000 in
theorem gX5_decode_X5_byteOfCode : GoodIn wsX5_decode (wsV RX5 160 RX5 yX5_byteOfCode wsX5_byteOfCode) := goodIn_app (goodIn_of _ (by decide +kernel)) ggX5_decode_X5_byteOfCode
set_option maxRecDepth 20000 in
theorem ggX5_decode_X5_middle : GoodIn wsX5_decode wsX5_middle := goodIn_r _ [37, 2, 4, 38, 39, 40, 41, 10, 42, 43, 22, 44, 45, 46, 47, 48, 49, 50, 51, 52, 53, 54, 55, 25, 56, 57, 58, 59, 20, 60, 61, 62, 63, 64, 65, 66, 67, 68, 69, 24, 108, 109, 110, 111, 112, 113, 114, 115, 116, 117, 118, 119, 120, 121, 122, 123, 124, 125, 126, 127, 128, 129] (by decide +kernel) (by decide +kernel)
set_option maxRecDepth 20000 in
theorem gX5_decode_X5_middle : GoodIn wsX5_decode (wsV RX5 137 RX5 yX5_middle wsX5_middle) := goodIn_app (goodIn_of _ (by decide +kernel)) ggX5_decode_X5_middle
set_option maxRecDepth 20000 in
theorem ggX5_decode_X5_part : GoodIn wsX5_decode wsX5_part := goodIn_r _ [73, 4, 2, 34, 35, 36, 10, 37, 38, 39, 40, 41, 42, 43, 22, 44, 45, 46, 47, 48, 49, 50, 51, 52, 53, 54, 55, 25, 56, 57, 58, 59, 20, 60, 61, 62, 63, 64, 65, 66, 67, 68, 69, 24, 108, 109, 110, 111, 112, 113, 114, 115, 116, 117, 118, 119, 120, 121, 122, 123, 124, 125, 126, 127, 128, 129] (by decide +kernel) (by decide +kernel)
set_option maxRecDepth 20000 in
theorem gX5_decode_X5_part : GoodIn wsX5_decode (wsV RX5 143 RX5 yX5_part wsX5_part) := goodIn_app (goodIn_of _ (by decide +kernel)) ggX5_decode_X5_part
set_option maxRecDepth 20000 in
theorem ggX5_decode_X5_areSame : GoodIn wsX5_decode wsX5_areSame := goodIn_r _ [77, 2, 4, 108, 109, 110, 111, 112, 113, 114, 115, 116, 117, 118, 119, 120, 121, 122, 123, 124, 125, 126, 127, 128, 129] (by decide +kernel) (by decide +kernel)
set_option maxRecDepth 20000 in
theorem gX5_decode_X5_areSame : GoodIn wsX5_decode (wsV RX5 147 RX5 yX5_areSame wsX5_areSame) := goodIn_app (goodIn_of _ (by decide +kernel)) ggX5_decode_X5_areSame
set_option maxRecDepth 20000 in
theorem ggX5_decode_X5_shift : GoodIn wsX5_decode wsX5_shift := goodIn_r _ [81, 2, 3, 4, 82, 108, 109, 110, 111, 112, 113, 114, 115, 116, 117, 118, 119, 120, 121, 122, 123, 124, 125, 126, 127, 128, 129] (by decide +kernel) (by decide +kernel)
set_option maxRecDepth 20000 in
theorem gX5_decode_X5_shift : GoodIn wsX5_decode (wsV RX5 155 RX5 yX5_shift wsX5_shift) := goodIn_app (goodIn_of _ (by decide +kernel)) ggX5_decode_X5_shift
set_option maxRecDepth 20000 in
theorem ggX5_decode_X5_learn : GoodIn wsX5_decode wsX5_learn := goodIn_r _ [86, 27, 43, 22, 87, 88, 89, 47, 90, 91, 92, 93, 20, 94, 21, 25, 95, 23, 24, 26, 39, 40, 41, 10, 42, 44, 45, 46, 48, 49, 50, 51, 52, 53, 54, 55, 56, 57, 58, 59, 60, 61, 62, 63, 64, 65, 66, 67, 68, 69, 96, 97, 98, 108, 109, 110, 111, 112, 113, 114, 115, 116, 117, 118, 119, 120, 121, 122, 123, 124, 125, 126, 127, 128, 129] (by decide +kernel) (by decide +kernel)
set_option maxRecDepth 20000 in
theorem gX5_decode_X5_learn : GoodIn wsX5_decode (wsV RX5 120 RX5 yX5_learn wsX5_learn) := goodIn_app (goodIn_of _ (by decide +kernel)) ggX5_decode_X5_learn
set_option maxRecDepth 20000 in
theorem ggX5_decode_X5_differences : GoodIn wsX5_decode wsX5_differences := goodIn_r _ [102, 103, 6, 104, 105, 47, 106, 107, 7, 108, 109, 110, 111, 112, 113, 114, 115, 116, 117, 118, 119, 120, 121, 122, 123, 124, 125, 126, 127, 128, 129] (by decide +kernel) (by decide +kernel)
set_option maxRecDepth 20000 in
theorem gX5_decode_X5_differences : GoodIn wsX5_decode (wsV RX5 166 RX5 yX5_differences wsX5_differences) := goodIn_app (goodIn_of _ (by decide +kernel)) ggX5_decode_X5_differences
theorem dX5_decode_0 : decode cX5_decode 0 = .ok (.aload_n 0, 1) := by decide +kernel
theorem dX5_decode_1 : decode cX5_decode 1 = .ok (.iconst 0, 1) := by decide +kernel
theorem dX5_decode_2 : decode cX5_decode 2 = .ok (.putfield 49, 3) := by decide +kernel
theorem dX5_decode_5 : decode cX5_decode 5 = .ok (.iload_n 1, 1) := by decide +kernel
theorem dX5_decode_6 : decode cX5_decode 6 = .ok (.iconst 0, 1) := by decide +kernel
theorem dX5_decode_7 : decode cX5_decode 7 = .ok (.bipush 80, 2) := by decide +kernel
theorem dX5_decode_9 : decode cX5_decode 9 = .ok (.invokestatic 56, 3) := by decide +kernel
theorem dX5_decode_12 : decode cX5_decode 12 = .ok (.ifCond .ne 9, 3) := by decide +kernel
theorem dX5_decode_15 : decode cX5_decode 15 = .ok (.aload_n 0, 1) := by decide +kernel
theorem dX5_decode_16 : decode cX5_decode 16 = .ok (.iconst 1, 1) := by decide +kernel
theorem dX5_decode_17 : decode cX5_decode 17 = .ok (.invokevirtual 70, 3) := by decide +kernel
theorem dX5_decode_20 : decode cX5_decode 20 = .ok (.ireturn, 1) := by decide +kernel
theorem dX5_decode_21 : decode cX5_decode 21 = .ok (.aload_n 0, 1) := by decide +kernel
theorem dX5_decode_22 : decode cX5_decode 22 = .ok (.invokevirtual 46, 3) := by decide +kernel
theorem dX5_decode_25 : decode cX5_decode 25 = .ok (.aload_n 0, 1) := by decide +kernel
theorem dX5_decode_26 : decode cX5_decode 26 = .ok (.lconst 0, 1) := by decide +kernel
theorem dX5_decode_27 : decode cX5_decode 27 = .ok (.putfield 129, 3) := by decide +kernel
theorem dX5_decode_30 : decode cX5_decode 30 = .ok (.aload_n 0, 1) := by decide +kernel
theorem dX5_decode_31 : decode cX5_decode 31 = .ok (.ldc2_w 141, 3) := by decide +kernel
theorem dX5_decode_34 : decode cX5_decode 34 = .ok (.putfield 132, 3) := by decide +kernel
theorem dX5_decode_37 : decode cX5_decode 37 = .ok (.lconst 0, 1) := by decide +kernel
theorem dX5_decode_38 : decode cX5_decode 38 = .ok (.lstore_n 2, 1) := by decide +kernel
theorem dX5_decode_39 : decode cX5_decode 39 = .ok (.iconst 0, 1) := by decide +kernel
theorem dX5_decode_40 : decode cX5_decode 40 = .ok (.istore 4, 2) := by decide +kernel
theorem dX5_decode_42 : decode cX5_decode 42 = .ok (.iload 4, 2) := by decide +kernel
theorem dX5_decode_44 : decode cX5_decode 44 = .ok (.iconst 4, 1) := by decide +kernel
theorem dX5_decode_45 : decode cX5_decode 45 = .ok (.if_icmp .ge 23, 3) := by decide +kernel
theorem dX5_decode_48 : decode cX5_decode 48 = .ok (.ldc2_w 158, 3) := by decide +kernel
theorem dX5_decode_51 : decode cX5_decode 51 = .ok (.lload_n 2, 1) := by decide +kernel
theorem dX5_decode_52 : decode cX5_decode 52 = .ok (.lmul, 1) := by decide +kernel
theorem dX5_decode_53 : decode cX5_decode 53 = .ok (.aload_n 0, 1) := by decide +kernel
theorem dX5_decode_54 : decode cX5_decode 54 = .ok (.iload 4, 2) := by decide +kernel
theorem dX5_decode_56 : decode cX5_decode 56 = .ok (.invokevirtual 160, 3) := by decide +kernel
theorem dX5_decode_59 : decode cX5_decode 59 = .ok (.i2l, 1) := by decide +kernel
theorem dX5_decode_60 : decode cX5_decode 60 = .ok (.ladd, 1) := by decide +kernel
theorem dX5_decode_61 : decode cX5_decode 61 = .ok (.lstore_n 2, 1) := by decide +kernel
theorem dX5_decode_62 : decode cX5_decode 62 = .ok (.iinc 4 1, 3) := by decide +kernel
theorem dX5_decode_65 : decode cX5_decode 65 = .ok (.goto (-23), 3) := by decide +kernel
theorem dX5_decode_68 : decode cX5_decode 68 = .ok (.aload_n 0, 1) := by decide +kernel
theorem dX5_decode_69 : decode cX5_decode 69 = .ok (.iload_n 1, 1) := by decide +kernel
theorem dX5_decode_70 : decode cX5_decode 70 = .ok (.putfield 163, 3) := by decide +kernel
theorem dX5_decode_73 : decode cX5_decode 73 = .ok (.iconst 0, 1) := by decide +kernel
theorem dX5_decode_74 : decode cX5_decode 74 = .ok (.istore 5, 2) := by decide +kernel
theorem dX5_decode_76 : decode cX5_decode 76 = .ok (.iload 5, 2) := by decide +kernel
theorem dX5_decode_78 : decode cX5_decode 78 = .ok (.iload_n 1, 1) := by decide +kernel
theorem dX5_decode_79 : decode cX5_decode 79 = .ok (.if_icmp .ge 117, 3) := by decide +kernel
theorem dX5_decode_82 : decode cX5_decode 82 = .ok (.iconst 0, 1) := by decide +kernel
theorem dX5_decode_83 : decode cX5_decode 83 = .ok (.istore 6, 2) := by decide +kernel
theorem dX5_decode_85 : decode cX5_decode 85 = .ok (.iconst 0, 1) := by decide +kernel
theorem dX5_decode_86 : decode cX5_decode 86 = .ok (.istore 7, 2) := by decide +kernel
theorem dX5_decode_88 : decode cX5_decode 88 = .ok (.iload 7, 2) := by decide +kernel
theorem dX5_decode_90 : decode cX5_decode 90 = .ok (.bipush 8, 2) := by decide +kernel
theorem dX5_decode_92 : decode cX5_decode 92 = .ok (.if_icmp .ge 89, 3) := by decide +kernel
theorem dX5_decode_95 : decode cX5_decode 95 = .ok (.lload_n 2, 1) := by decide +kernel
theorem dX5_decode_96 : decode cX5_decode 96 = .ok (.aload_n 0, 1) := by decide +kernel
theorem dX5_decode_97 : decode cX5_decode 97 = .ok (.invokevirtual 137, 3) := by decide +kernel
theorem dX5_decode_100 : decode cX5_decode 100 = .ok (.lcmp, 1) := by decide +kernel
theorem dX5_decode_101 : decode cX5_decode 101 = .ok (.ifCond .gt 7, 3) := by decide +kernel
theorem dX5_decode_104 : decode cX5_decode 104 = .ok (.iconst 1, 1) := by decide +kernel
theorem dX5_decode_105 : decode cX5_decode 105 = .ok (.goto 4, 3) := by decide +kernel
theorem dX5_decode_108 : decode cX5_decode 108 = .ok (.iconst 0, 1) := by decide +kernel
theorem dX5_decode_109 : decode cX5_decode 109 = .ok (.istore 8, 2) := by decide +kernel
theorem dX5_decode_111 : decode cX5_decode 111 = .ok (.aload_n 0, 1) := by decide +kernel
theorem dX5_decode_112 : decode cX5_decode 112 = .ok (.iload 8, 2) := by decide +kernel
theorem dX5_decode_114 : decode cX5_decode 114 = .ok (.invokevirtual 143, 3) := by decide +kernel
theorem dX5_decode_117 : decode cX5_decode 117 = .ok (.aload_n 0, 1) := by decide +kernel
theorem dX5_decode_118 : decode cX5_decode 118 = .ok (.invokevirtual 147, 3) := by decide +kernel
theorem dX5_decode_121 : decode cX5_decode 121 = .ok (.ifCond .eq 30, 3) := by decide +kernel
theorem dX5_decode_124 : decode cX5_decode 124 = .ok (.aload_n 0, 1) := by decide +kernel
theorem dX5_decode_125 : decode cX5_decode 125 = .ok (.invokevirtual 155, 3) := by decide +kernel
theorem dX5_decode_128 : decode cX5_decode 128 = .ok (.lload_n 2, 1) := by decide +kernel
theorem dX5_decode_129 : decode cX5_decode 129 = .ok (.bipush 8, 2) := by decide +kernel
theorem dX5_decode_131 : decode cX5_decode 131 = .ok (.lshl, 1) := by decide +kernel
theorem dX5_decode_132 : decode cX5_decode 132 = .ok (.ldc2_w 141, 3) := by decide +kernel
theorem dX5_decode_135 : decode cX5_decode 135 = .ok (.land, 1) := by decide +kernel
theorem dX5_decode_136 : decode cX5_decode 136 = .ok (.aload_n 0, 1) := by decide +kernel
theorem dX5_decode_137 : decode cX5_decode 137 = .ok (.iload 4, 2) := by decide +kernel
theorem dX5_decode_139 : decode cX5_decode 139 = .ok (.invokevirtual 160, 3) := by decide +kernel
theorem dX5_decode_142 : decode cX5_decode 142 = .ok (.i2l, 1) := by decide +kernel
theorem dX5_decode_143 : decode cX5_decode 143 = .ok (.ladd, 1) := by decide +kernel
theorem dX5_decode_144 : decode cX5_decode 144 = .ok (.lstore_n 2, 1) := by decide +kernel
theorem dX5_decode_145 : decode cX5_decode 145 = .ok (.iinc 4 1, 3) := by decide +kernel
theorem dX5_decode_148 : decode cX5_decode 148 = .ok (.goto (-31), 3) := by decide +kernel
theorem dX5_decode_151 : decode cX5_decode 151 = .ok (.aload_n 0, 1) := by decide +kernel
theorem dX5_decode_152 : decode cX5_decode 152 = .ok (.iload 8, 2) := by decide +kernel
theorem dX5_decode_154 : decode cX5_decode 154 = .ok (.invokevirtual 120, 3) := by decide +kernel
theorem dX5_decode_157 : decode cX5_decode 157 = .ok (.pop, 1) := by decide +kernel
theorem dX5_decode_158 : decode cX5_decode 158 = .ok (.iconst 2, 1) := by decide +kernel
theorem dX5_decode_159 : decode cX5_decode 159 = .ok (.iload 6, 2) := by decide +kernel
theorem dX5_decode_161 : decode cX5_decode 161 = .ok (.imul, 1) := by decide +kernel
theorem dX5_decode_162 : decode cX5_decode 162 = .ok (.iload 8, 2) := by decide +kernel
theorem dX5_decode_164 : decode cX5_decode 164 = .ok (.ifCond .eq 7, 3) := by decide +kernel
theorem dX5_decode_167 : decode cX5_decode 167 = .ok (.iconst 1, 1) := by decide +kernel
theorem dX5_decode_168 : decode cX5_decode 168 = .ok (.goto 4, 3) := by decide +kernel
theorem dX5_decode_171 : decode cX5_decode 171 = .ok (.iconst 0, 1) := by decide +kernel
theorem dX5_decode_172 : decode cX5_decode 172 = .ok (.iadd, 1) := by decide +kernel
theorem dX5_decode_173 : decode cX5_decode 173 = .ok (.istore 6, 2) := by decide +kernel
theorem dX5_decode_175 : decode cX5_decode 175 = .ok (.iinc 7 1, 3) := by decide +kernel
theorem dX5_decode_178 : decode cX5_decode 178 = .ok (.goto (-90), 3) := by decide +kernel
theorem dX5_decode_181 : decode cX5_decode 181 = .ok (.aload_n 0, 1) := by decide +kernel
theorem dX5_decode_182 : decode cX5_decode 182 = .ok (.getfield 43, 3) := by decide +kernel
theorem dX5_decode_185 : decode cX5_decode 185 = .ok (.iload 5, 2) := by decide +kernel
theorem dX5_decode_187 : decode cX5_decode 187 = .ok (.iload 6, 2) := by decide +kernel
theorem dX5_decode_189 : decode cX5_decode 189 = .ok (.iastore, 1) := by decide +kernel
theorem dX5_decode_190 : decode cX5_decode 190 = .ok (.iinc 5 1, 3) := by decide +kernel
theorem dX5_decode_193 : decode cX5_decode 193 = .ok (.goto (-117), 3) := by decide +kernel
theorem dX5_decode_196 : decode cX5_decode 196 = .ok (.aload_n 0, 1) := by decide +kernel
theorem dX5_decode_197 : decode cX5_decode 197 = .ok (.invokevirtual 166, 3) := by decide +kernel
theorem dX5_decode_200 : decode cX5_decode 200 = .ok (.ireturn, 1) := by decide +kernel
theorem dX5_differences_0 : decode cX5_differences 0 = .ok (.aload_n 0, 1) := by decide +kernel
theorem dX5_differences_1 : decode cX5_differences 1 = .ok (.getfield 78, 3) := by decide +kernel
theorem dX5_differences_4 : decode cX5_differences 4 = .ok (.aload_n 0, 1) := by decide +kernel
theorem dX5_differences_5 : decode cX5_differences 5 = .ok (.getfield 163, 3) := by decide +kernel
theorem dX5_differences_8 : decode cX5_differences 8 = .ok (.isub, 1) := by decide +kernel
theorem dX5_differences_9 : decode cX5_differences 9 = .ok (.invokestatic 169, 3) := by decide +kernel
theorem dX5_differences_12 : decode cX5_differences 12 = .ok (.istore_n 1, 1) := by decide +kernel
theorem dX5_differences_13 : decode cX5_differences 13 = .ok (.iconst 0, 1) := by decide +kernel
theorem dX5_differences_14 : decode cX5_differences 14 = .ok (.istore_n 2, 1) := by decide +kernel
theorem dX5_differences_15 : decode cX5_differences 15 = .ok (.iload_n 2, 1) := by decide +kernel
theorem dX5_differences_16 : decode cX5_differences 16 = .ok (.aload_n 0, 1) := by decide +kernel
theorem dX5_differences_17 : decode cX5_differences 17 = .ok (.getfield 78, 3) := by decide +kernel
theorem dX5_differences_20 : decode cX5_differences 20 = .ok (.if_icmp .ge 40, 3) := by decide +kernel
theorem dX5_differences_23 : decode cX5_differences 23 = .ok (.iload_n 2, 1) := by decide +kernel
theorem dX5_differences_24 : decode cX5_differences 24 = .ok (.aload_n 0, 1) := by decide +kernel
theorem dX5_differences_25 : decode cX5_differences 25 = .ok (.getfield 163, 3) := by decide +kernel
theorem dX5_differences_28 : decode cX5_differences 28 = .ok (.if_icmp .ge 32, 3) := by decide +kernel
theorem dX5_differences_31 : decode cX5_differences 31 = .ok (.iload_n 1, 1) := by decide +kernel
theorem dX5_differences_32 : decode cX5_differences 32 = .ok (.aload_n 0, 1) := by decide +kernel
theorem dX5_differences_33 : decode cX5_differences 33 = .ok (.getfield 19, 3) := by decide +kernel
theorem dX5_differences_36 : decode cX5_differences 36 = .ok (.iload_n 2, 1) := by decide +kernel
theorem dX5_differences_37 : decode cX5_differences 37 = .ok (.iaload, 1) := by decide +kernel
theorem dX5_differences_38 : decode cX5_differences 38 = .ok (.aload_n 0, 1) := by decide +kernel
theorem dX5_differences_39 : decode cX5_differences 39 = .ok (.getfield 43, 3) := by decide +kernel
theorem dX5_differences_42 : decode cX5_differences 42 = .ok (.iload_n 2, 1) := by decide +kernel
theorem dX5_differences_43 : decode cX5_differences 43 = .ok (.iaload, 1) := by decide +kernel
theorem dX5_differences_44 : decode cX5_differences 44 = .ok (.if_icmp .ne 7, 3) := by decide +kernel
theorem dX5_differences_47 : decode cX5_differences 47 = .ok (.iconst 0, 1) := by decide +kernel
theorem dX5_differences_48 : decode cX5_differences 48 = .ok (.goto 4, 3) := by decide +kernel
theorem dX5_differences_51 : decode cX5_differences 51 = .ok (.iconst 1, 1) := by decide +kernel
theorem dX5_differences_52 : decode cX5_differences 52 = .ok (.iadd, 1) := by decide +kernel
theorem dX5_differences_53 : decode cX5_differences 53 = .ok (.istore_n 1, 1) := by decide +kernel
theorem dX5_differences_54 : decode cX5_differences 54 = .ok (.iinc 2 1, 3) := by decide +kernel
theorem dX5_differences_57 : decode cX5_differences 57 = .ok (.goto (-42), 3) := by decide +kernel
theorem dX5_differences_60 : decode cX5_differences 60 = .ok (.iload_n 1, 1) := by decide +kernel
theorem dX5_differences_61 : decode cX5_differences 61 = .ok (.ireturn, 1) := by decide +kernel
theorem dX5_outputSize_0 : decode cX5_outputSize 0 = .ok (.aload_n 0, 1) := by decide +kernel
theorem dX5_outputSize_1 : decode cX5_outputSize 1 = .ok (.iconst 0, 1) := by decide +kernel
theorem dX5_outputSize_2 : decode cX5_outputSize 2 = .ok (.putfield 49, 3) := by decide +kernel
theorem dX5_outputSize_5 : decode cX5_outputSize 5 = .ok (.aload_n 0, 1) := by decide +kernel
theorem dX5_outputSize_6 : decode cX5_outputSize 6 = .ok (.getfield 163, 3) := by decide +kernel
theorem dX5_outputSize_9 : decode cX5_outputSize 9 = .ok (.ireturn, 1) := by decide +kernel
set_option maxRecDepth 20000 in
theorem ggX5_output_X5_isIn : GoodIn wsX5_output wsX5_isIn := goodIn_r _ [7] (by decide +kernel) (by decide +kernel)
set_option maxRecDepth 20000 in
theorem gX5_output_X5_isIn : GoodIn wsX5_output (va_wsS RX5 56 yX5_isIn wsX5_isIn) := goodIn_app (goodIn_of _ (by decide +kernel)) ggX5_output_X5_isIn
set_option maxRecDepth 20000 in
theorem ggX5_output_X5_no : GoodIn wsX5_output wsX5_no := goodIn_r _ [11, 1, 12, 13, 14, 15, 16, 17, 18, 19, 20, 21, 22, 23, 24, 25, 26, 27, 28, 29, 30, 31, 32, 33] (by decide +kernel) (by decide +kernel)
set_option maxRecDepth 20000 in
theorem gX5_output_X5_no : GoodIn wsX5_output (wsV RX5 70 RX5 yX5_no wsX5_no) := goodIn_app (goodIn_of _ (by decide +kernel)) ggX5_output_X5_no
theorem dX5_output_0 : decode cX5_output 0 = .ok (.aload_n 0, 1) := by decide +kernel
theorem dX5_output_1 : decode cX5_output 1 = .ok (.iconst 0, 1) := by decide +kernel
theorem dX5_output_2 : decode cX5_output 2 = .ok (.putfield 49, 3) := by decide +kernel
theorem dX5_output_5 : decode cX5_output 5 = .ok (.iload_n 1, 1) := by decide +kernel
theorem dX5_output_6 : decode cX5_output 6 = .ok (.iconst 0, 1) := by decide +kernel
theorem dX5_output_7 : decode cX5_output 7 = .ok (.aload_n 0, 1) := by decide +kernel
theorem dX5_output_8 : decode cX5_output 8 = .ok (.getfield 163, 3) := by decide +kernel
theorem dX5_output_11 : decode cX5_output 11 = .ok (.iconst 1, 1) := by decide +kernel
theorem dX5_output_12 : decode cX5_output 12 = .ok (.isub, 1) := by decide +kernel
theorem dX5_output_13 : decode cX5_output 13 = .ok (.invokestatic 56, 3) := by decide +kernel
theorem dX5_output_16 : decode cX5_output 16 = .ok (.ifCond .eq 12, 3) := by decide +kernel
theorem dX5_output_19 : decode cX5_output 19 = .ok (.aload_n 0, 1) := by decide +kernel
theorem dX5_output_20 : decode cX5_output 20 = .ok (.getfield 43, 3) := by decide +kernel
theorem dX5_output_23 : decode cX5_output 23 = .ok (.iload_n 1, 1) := by decide +kernel
theorem dX5_output_24 : decode cX5_output 24 = .ok (.iaload, 1) := by decide +kernel
theorem dX5_output_25 : decode cX5_output 25 = .ok (.goto 8, 3) := by decide +kernel
theorem dX5_output_28 : decode cX5_output 28 = .ok (.aload_n 0, 1) := by decide +kernel
theorem dX5_output_29 : decode cX5_output 29 = .ok (.iconst 1, 1) := by decide +kernel
theorem dX5_output_30 : decode cX5_output 30 = .ok (.invokevirtual 70, 3) := by decide +kernel
theorem dX5_output_33 : decode cX5_output 33 = .ok (.ireturn, 1) := by decide +kernel
theorem dX5_ratio_0 : decode cX5_ratio 0 = .ok (.aload_n 0, 1) := by decide +kernel
theorem dX5_ratio_1 : decode cX5_ratio 1 = .ok (.iconst 0, 1) := by decide +kernel
theorem dX5_ratio_2 : decode cX5_ratio 2 = .ok (.putfield 49, 3) := by decide +kernel
theorem dX5_ratio_5 : decode cX5_ratio 5 = .ok (.aload_n 0, 1) := by decide +kernel
theorem dX5_ratio_6 : decode cX5_ratio 6 = .ok (.getfield 78, 3) := by decide +kernel
theorem dX5_ratio_9 : decode cX5_ratio 9 = .ok (.ifCond .ne 7, 3) := by decide +kernel
theorem dX5_ratio_12 : decode cX5_ratio 12 = .ok (.dconst 0, 1) := by decide +kernel
theorem dX5_ratio_13 : decode cX5_ratio 13 = .ok (.goto 14, 3) := by decide +kernel
theorem dX5_ratio_16 : decode cX5_ratio 16 = .ok (.aload_n 0, 1) := by decide +kernel
theorem dX5_ratio_17 : decode cX5_ratio 17 = .ok (.getfield 126, 3) := by decide +kernel
theorem dX5_ratio_20 : decode cX5_ratio 20 = .ok (.i2d, 1) := by decide +kernel
theorem dX5_ratio_21 : decode cX5_ratio 21 = .ok (.aload_n 0, 1) := by decide +kernel
theorem dX5_ratio_22 : decode cX5_ratio 22 = .ok (.getfield 78, 3) := by decide +kernel
theorem dX5_ratio_25 : decode cX5_ratio 25 = .ok (.i2d, 1) := by decide +kernel
theorem dX5_ratio_26 : decode cX5_ratio 26 = .ok (.ddiv, 1) := by decide +kernel
theorem dX5_ratio_27 : decode cX5_ratio 27 = .ok (.dreturn, 1) := by decide +kernel
theorem dX5_digest_0 : decode cX5_digest 0 = .ok (.aload_n 0, 1) := by decide +kernel
theorem dX5_digest_1 : decode cX5_digest 1 = .ok (.iconst 0, 1) := by decide +kernel
theorem dX5_digest_2 : decode cX5_digest 2 = .ok (.putfield 49, 3) := by decide +kernel
theorem dX5_digest_5 : decode cX5_digest 5 = .ok (.ldc2_w 172, 3) := by decide +kernel
theorem dX5_digest_8 : decode cX5_digest 8 = .ok (.aload_n 0, 1) := by decide +kernel
theorem dX5_digest_9 : decode cX5_digest 9 = .ok (.getfield 53, 3) := by decide +kernel
theorem dX5_digest_12 : decode cX5_digest 12 = .ok (.i2l, 1) := by decide +kernel
theorem dX5_digest_13 : decode cX5_digest 13 = .ok (.ladd, 1) := by decide +kernel
theorem dX5_digest_14 : decode cX5_digest 14 = .ok (.lstore_n 1, 1) := by decide +kernel
theorem dX5_digest_15 : decode cX5_digest 15 = .ok (.iconst 0, 1) := by decide +kernel
theorem dX5_digest_16 : decode cX5_digest 16 = .ok (.istore_n 3, 1) := by decide +kernel
theorem dX5_digest_17 : decode cX5_digest 17 = .ok (.iload_n 3, 1) := by decide +kernel
theorem dX5_digest_18 : decode cX5_digest 18 = .ok (.aload_n 0, 1) := by decide +kernel
theorem dX5_digest_19 : decode cX5_digest 19 = .ok (.getfield 53, 3) := by decide +kernel
theorem dX5_digest_22 : decode cX5_digest 22 = .ok (.if_icmp .ge 97, 3) := by decide +kernel
theorem dX5_digest_25 : decode cX5_digest 25 = .ok (.lload_n 1, 1) := by decide +kernel
theorem dX5_digest_26 : decode cX5_digest 26 = .ok (.ldc2_w 174, 3) := by decide +kernel
theorem dX5_digest_29 : decode cX5_digest 29 = .ok (.lmul, 1) := by decide +kernel
theorem dX5_digest_30 : decode cX5_digest 30 = .ok (.aload_n 0, 1) := by decide +kernel
theorem dX5_digest_31 : decode cX5_digest 31 = .ok (.getfield 9, 3) := by decide +kernel
theorem dX5_digest_34 : decode cX5_digest 34 = .ok (.iload_n 3, 1) := by decide +kernel
theorem dX5_digest_35 : decode cX5_digest 35 = .ok (.iaload, 1) := by decide +kernel
theorem dX5_digest_36 : decode cX5_digest 36 = .ok (.i2l, 1) := by decide +kernel
theorem dX5_digest_37 : decode cX5_digest 37 = .ok (.ladd, 1) := by decide +kernel
theorem dX5_digest_38 : decode cX5_digest 38 = .ok (.ldc2_w 174, 3) := by decide +kernel
theorem dX5_digest_41 : decode cX5_digest 41 = .ok (.lmul, 1) := by decide +kernel
theorem dX5_digest_42 : decode cX5_digest 42 = .ok (.aload_n 0, 1) := by decide +kernel
theorem dX5_digest_43 : decode cX5_digest 43 = .ok (.getfield 13, 3) := by decide +kernel
theorem dX5_digest_46 : decode cX5_digest 46 = .ok (.iload_n 3, 1) := by decide +kernel
theorem dX5_digest_47 : decode cX5_digest 47 = .ok (.iaload, 1) := by decide +kernel
theorem dX5_digest_48 : decode cX5_digest 48 = .ok (.i2l, 1) := by decide +kernel
theorem dX5_digest_49 : decode cX5_digest 49 = .ok (.ladd, 1) := by decide +kernel
theorem dX5_digest_50 : decode cX5_digest 50 = .ok (.ldc2_w 174, 3) := by decide +kernel
theorem dX5_digest_53 : decode cX5_digest 53 = .ok (.lmul, 1) := by decide +kernel
theorem dX5_digest_54 : decode cX5_digest 54 = .ok (.aload_n 0, 1) := by decide +kernel
theorem dX5_digest_55 : decode cX5_digest 55 = .ok (.getfield 16, 3) := by decide +kernel
theorem dX5_digest_58 : decode cX5_digest 58 = .ok (.iload_n 3, 1) := by decide +kernel
theorem dX5_digest_59 : decode cX5_digest 59 = .ok (.iaload, 1) := by decide +kernel
theorem dX5_digest_60 : decode cX5_digest 60 = .ok (.i2l, 1) := by decide +kernel
theorem dX5_digest_61 : decode cX5_digest 61 = .ok (.ladd, 1) := by decide +kernel
theorem dX5_digest_62 : decode cX5_digest 62 = .ok (.lstore_n 1, 1) := by decide +kernel
theorem dX5_digest_63 : decode cX5_digest 63 = .ok (.iconst 0, 1) := by decide +kernel
theorem dX5_digest_64 : decode cX5_digest 64 = .ok (.istore 4, 2) := by decide +kernel
theorem dX5_digest_66 : decode cX5_digest 66 = .ok (.iload 4, 2) := by decide +kernel
theorem dX5_digest_68 : decode cX5_digest 68 = .ok (.bipush 8, 2) := by decide +kernel
theorem dX5_digest_70 : decode cX5_digest 70 = .ok (.if_icmp .ge 29, 3) := by decide +kernel
theorem dX5_digest_73 : decode cX5_digest 73 = .ok (.lload_n 1, 1) := by decide +kernel
theorem dX5_digest_74 : decode cX5_digest 74 = .ok (.ldc2_w 174, 3) := by decide +kernel
theorem dX5_digest_77 : decode cX5_digest 77 = .ok (.lmul, 1) := by decide +kernel
theorem dX5_digest_78 : decode cX5_digest 78 = .ok (.aload_n 0, 1) := by decide +kernel
theorem dX5_digest_79 : decode cX5_digest 79 = .ok (.getfield 31, 3) := by decide +kernel
theorem dX5_digest_82 : decode cX5_digest 82 = .ok (.bipush 8, 2) := by decide +kernel
theorem dX5_digest_84 : decode cX5_digest 84 = .ok (.iload_n 3, 1) := by decide +kernel
theorem dX5_digest_85 : decode cX5_digest 85 = .ok (.imul, 1) := by decide +kernel
theorem dX5_digest_86 : decode cX5_digest 86 = .ok (.iload 4, 2) := by decide +kernel
theorem dX5_digest_88 : decode cX5_digest 88 = .ok (.iadd, 1) := by decide +kernel
theorem dX5_digest_89 : decode cX5_digest 89 = .ok (.iaload, 1) := by decide +kernel
theorem dX5_digest_90 : decode cX5_digest 90 = .ok (.i2l, 1) := by decide +kernel
theorem dX5_digest_91 : decode cX5_digest 91 = .ok (.ladd, 1) := by decide +kernel
theorem dX5_digest_92 : decode cX5_digest 92 = .ok (.lstore_n 1, 1) := by decide +kernel
theorem dX5_digest_93 : decode cX5_digest 93 = .ok (.iinc 4 1, 3) := by decide +kernel
theorem dX5_digest_96 : decode cX5_digest 96 = .ok (.goto (-30), 3) := by decide +kernel
theorem dX5_digest_99 : decode cX5_digest 99 = .ok (.lload_n 1, 1) := by decide +kernel
