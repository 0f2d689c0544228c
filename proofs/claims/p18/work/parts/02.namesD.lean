theorem dX1_digest_3 : decode cX1_digest 3 = .ok (.lstore_n 1, 1) := by decide +kernel
theorem dX1_digest_4 : decode cX1_digest 4 = .ok (.iconst 0, 1) := by decide +kernel
theorem dX1_digest_5 : decode cX1_digest 5 = .ok (.istore_n 3, 1) := by decide +kernel
theorem dX1_digest_6 : decode cX1_digest 6 = .ok (.iload_n 3, 1) := by decide +kernel
theorem dX1_digest_7 : decode cX1_digest 7 = .ok (.bipush 9, 2) := by decide +kernel
theorem dX1_digest_9 : decode cX1_digest 9 = .ok (.if_icmp .ge 22, 3) := by decide +kernel
theorem dX1_digest_12 : decode cX1_digest 12 = .ok (.lload_n 1, 1) := by decide +kernel
theorem dX1_digest_13 : decode cX1_digest 13 = .ok (.ldc2_w 176, 3) := by decide +kernel
theorem dX1_digest_16 : decode cX1_digest 16 = .ok (.lmul, 1) := by decide +kernel
theorem dX1_digest_17 : decode cX1_digest 17 = .ok (.aload_n 0, 1) := by decide +kernel
theorem dX1_digest_18 : decode cX1_digest 18 = .ok (.iload_n 3, 1) := by decide +kernel
theorem dX1_digest_19 : decode cX1_digest 19 = .ok (.invokevirtual 178, 3) := by decide +kernel
theorem dX1_digest_22 : decode cX1_digest 22 = .ok (.i2l, 1) := by decide +kernel
theorem dX1_digest_23 : decode cX1_digest 23 = .ok (.ladd, 1) := by decide +kernel
theorem dX1_digest_24 : decode cX1_digest 24 = .ok (.lstore_n 1, 1) := by decide +kernel
theorem dX1_digest_25 : decode cX1_digest 25 = .ok (.iinc 3 1, 3) := by decide +kernel
theorem dX1_digest_28 : decode cX1_digest 28 = .ok (.goto (-22), 3) := by decide +kernel
theorem dX1_digest_31 : decode cX1_digest 31 = .ok (.iconst 0, 1) := by decide +kernel
theorem dX1_digest_32 : decode cX1_digest 32 = .ok (.istore_n 3, 1) := by decide +kernel
theorem dX1_digest_33 : decode cX1_digest 33 = .ok (.iload_n 3, 1) := by decide +kernel
theorem dX1_digest_34 : decode cX1_digest 34 = .ok (.aload_n 0, 1) := by decide +kernel
theorem dX1_digest_35 : decode cX1_digest 35 = .ok (.getfield 10, 3) := by decide +kernel
theorem dX1_digest_38 : decode cX1_digest 38 = .ok (.invokevirtual 131, 3) := by decide +kernel
theorem dX1_digest_41 : decode cX1_digest 41 = .ok (.if_icmp .ge 40, 3) := by decide +kernel
theorem dX1_digest_44 : decode cX1_digest 44 = .ok (.iconst 0, 1) := by decide +kernel
theorem dX1_digest_45 : decode cX1_digest 45 = .ok (.istore 4, 2) := by decide +kernel
theorem dX1_digest_47 : decode cX1_digest 47 = .ok (.iload 4, 2) := by decide +kernel
theorem dX1_digest_49 : decode cX1_digest 49 = .ok (.bipush 9, 2) := by decide +kernel
theorem dX1_digest_51 : decode cX1_digest 51 = .ok (.if_icmp .ge 24, 3) := by decide +kernel
theorem dX1_digest_54 : decode cX1_digest 54 = .ok (.lload_n 1, 1) := by decide +kernel
theorem dX1_digest_55 : decode cX1_digest 55 = .ok (.ldc2_w 176, 3) := by decide +kernel
theorem dX1_digest_58 : decode cX1_digest 58 = .ok (.lmul, 1) := by decide +kernel
theorem dX1_digest_59 : decode cX1_digest 59 = .ok (.aload_n 0, 1) := by decide +kernel
theorem dX1_digest_60 : decode cX1_digest 60 = .ok (.iload_n 3, 1) := by decide +kernel
theorem dX1_digest_61 : decode cX1_digest 61 = .ok (.iload 4, 2) := by decide +kernel
theorem dX1_digest_63 : decode cX1_digest 63 = .ok (.invokevirtual 181, 3) := by decide +kernel
theorem dX1_digest_66 : decode cX1_digest 66 = .ok (.i2l, 1) := by decide +kernel
theorem dX1_digest_67 : decode cX1_digest 67 = .ok (.ladd, 1) := by decide +kernel
theorem dX1_digest_68 : decode cX1_digest 68 = .ok (.lstore_n 1, 1) := by decide +kernel
theorem dX1_digest_69 : decode cX1_digest 69 = .ok (.iinc 4 1, 3) := by decide +kernel
theorem dX1_digest_72 : decode cX1_digest 72 = .ok (.goto (-25), 3) := by decide +kernel
theorem dX1_digest_75 : decode cX1_digest 75 = .ok (.iinc 3 1, 3) := by decide +kernel
theorem dX1_digest_78 : decode cX1_digest 78 = .ok (.goto (-45), 3) := by decide +kernel
theorem dX1_digest_81 : decode cX1_digest 81 = .ok (.lload_n 1, 1) := by decide +kernel
theorem dX1_digest_82 : decode cX1_digest 82 = .ok (.ldc2_w 176, 3) := by decide +kernel
theorem dX1_digest_85 : decode cX1_digest 85 = .ok (.lmul, 1) := by decide +kernel
theorem dX1_digest_86 : decode cX1_digest 86 = .ok (.aload_n 0, 1) := by decide +kernel
theorem dX1_digest_87 : decode cX1_digest 87 = .ok (.invokevirtual 184, 3) := by decide +kernel
theorem dX1_digest_90 : decode cX1_digest 90 = .ok (.i2l, 1) := by decide +kernel
theorem dX1_digest_91 : decode cX1_digest 91 = .ok (.ladd, 1) := by decide +kernel
theorem dX1_digest_92 : decode cX1_digest 92 = .ok (.lreturn, 1) := by decide +kernel
set_option maxRecDepth 20000 in
theorem ggX1_checkWrestler_X0_has : GoodIn wsX1_checkWrestler wsX0_has := goodIn_r _ [8, 9, 16, 17, 18, 19, 20, 21, 22, 23] (by decide +kernel) (by decide +kernel)
set_option maxRecDepth 20000 in
theorem gX1_checkWrestler_X0_has : GoodIn wsX1_checkWrestler (wsV RX1 187 RX0 yX0_has wsX0_has) := goodIn_app (goodIn_of _ (by decide +kernel)) ggX1_checkWrestler_X0_has
theorem dX1_checkWrestler_0 : decode cX1_checkWrestler 0 = .ok (.aload_n 0, 1) := by decide +kernel
theorem dX1_checkWrestler_1 : decode cX1_checkWrestler 1 = .ok (.getfield 10, 3) := by decide +kernel
theorem dX1_checkWrestler_4 : decode cX1_checkWrestler 4 = .ok (.iload_n 1, 1) := by decide +kernel
theorem dX1_checkWrestler_5 : decode cX1_checkWrestler 5 = .ok (.invokevirtual 187, 3) := by decide +kernel
theorem dX1_checkWrestler_8 : decode cX1_checkWrestler 8 = .ok (.ifCond .ne 13, 3) := by decide +kernel
theorem dX1_checkWrestler_11 : decode cX1_checkWrestler 11 = .ok (.new 121, 3) := by decide +kernel
theorem dX1_checkWrestler_14 : decode cX1_checkWrestler 14 = .ok (.dup, 1) := by decide +kernel
theorem dX1_checkWrestler_15 : decode cX1_checkWrestler 15 = .ok (.ldc 190, 2) := by decide +kernel
theorem dX1_checkWrestler_17 : decode cX1_checkWrestler 17 = .ok (.invokespecial 125, 3) := by decide +kernel
theorem dX1_checkWrestler_20 : decode cX1_checkWrestler 20 = .ok (.athrow, 1) := by decide +kernel
theorem dX1_checkWrestler_21 : decode cX1_checkWrestler 21 = .ok (.return_, 1) := by decide +kernel
theorem dX1_checkDifferent_0 : decode cX1_checkDifferent 0 = .ok (.iload_n 0, 1) := by decide +kernel
theorem dX1_checkDifferent_1 : decode cX1_checkDifferent 1 = .ok (.iload_n 1, 1) := by decide +kernel
theorem dX1_checkDifferent_2 : decode cX1_checkDifferent 2 = .ok (.if_icmp .ne 13, 3) := by decide +kernel
theorem dX1_checkDifferent_5 : decode cX1_checkDifferent 5 = .ok (.new 27, 3) := by decide +kernel
theorem dX1_checkDifferent_8 : decode cX1_checkDifferent 8 = .ok (.dup, 1) := by decide +kernel
theorem dX1_checkDifferent_9 : decode cX1_checkDifferent 9 = .ok (.ldc 192, 2) := by decide +kernel
theorem dX1_checkDifferent_11 : decode cX1_checkDifferent 11 = .ok (.invokespecial 31, 3) := by decide +kernel
theorem dX1_checkDifferent_14 : decode cX1_checkDifferent 14 = .ok (.athrow, 1) := by decide +kernel
theorem dX1_checkDifferent_15 : decode cX1_checkDifferent 15 = .ok (.return_, 1) := by decide +kernel
theorem dX1_checkResult_0 : decode cX1_checkResult 0 = .ok (.iload_n 0, 1) := by decide +kernel
theorem dX1_checkResult_1 : decode cX1_checkResult 1 = .ok (.ifCond .lt 8, 3) := by decide +kernel
theorem dX1_checkResult_4 : decode cX1_checkResult 4 = .ok (.iload_n 0, 1) := by decide +kernel
theorem dX1_checkResult_5 : decode cX1_checkResult 5 = .ok (.iconst 2, 1) := by decide +kernel
theorem dX1_checkResult_6 : decode cX1_checkResult 6 = .ok (.if_icmp .le 13, 3) := by decide +kernel
theorem dX1_checkResult_9 : decode cX1_checkResult 9 = .ok (.new 27, 3) := by decide +kernel
theorem dX1_checkResult_12 : decode cX1_checkResult 12 = .ok (.dup, 1) := by decide +kernel
theorem dX1_checkResult_13 : decode cX1_checkResult 13 = .ok (.ldc 194, 2) := by decide +kernel
theorem dX1_checkResult_15 : decode cX1_checkResult 15 = .ok (.invokespecial 31, 3) := by decide +kernel
theorem dX1_checkResult_18 : decode cX1_checkResult 18 = .ok (.athrow, 1) := by decide +kernel
theorem dX1_checkResult_19 : decode cX1_checkResult 19 = .ok (.return_, 1) := by decide +kernel
theorem dX1_isLeague_0 : decode cX1_isLeague 0 = .ok (.iload_n 0, 1) := by decide +kernel
theorem dX1_isLeague_1 : decode cX1_isLeague 1 = .ok (.ifCond .lt 12, 3) := by decide +kernel
theorem dX1_isLeague_4 : decode cX1_isLeague 4 = .ok (.iload_n 0, 1) := by decide +kernel
theorem dX1_isLeague_5 : decode cX1_isLeague 5 = .ok (.iconst 3, 1) := by decide +kernel
theorem dX1_isLeague_6 : decode cX1_isLeague 6 = .ok (.if_icmp .ge 7, 3) := by decide +kernel
theorem dX1_isLeague_9 : decode cX1_isLeague 9 = .ok (.iconst 1, 1) := by decide +kernel
theorem dX1_isLeague_10 : decode cX1_isLeague 10 = .ok (.goto 4, 3) := by decide +kernel
theorem dX1_isLeague_13 : decode cX1_isLeague 13 = .ok (.iconst 0, 1) := by decide +kernel
theorem dX1_isLeague_14 : decode cX1_isLeague 14 = .ok (.ireturn, 1) := by decide +kernel
theorem dX2_init_0 : decode cX2_init 0 = .ok (.aload_n 0, 1) := by decide +kernel
theorem dX2_init_1 : decode cX2_init 1 = .ok (.invokespecial 1, 3) := by decide +kernel
theorem dX2_init_4 : decode cX2_init 4 = .ok (.aload_n 0, 1) := by decide +kernel
theorem dX2_init_5 : decode cX2_init 5 = .ok (.iconst 0, 1) := by decide +kernel
theorem dX2_init_6 : decode cX2_init 6 = .ok (.anewarray 7, 3) := by decide +kernel
theorem dX2_init_9 : decode cX2_init 9 = .ok (.putfield 9, 3) := by decide +kernel
theorem dX2_init_12 : decode cX2_init 12 = .ok (.return_, 1) := by decide +kernel
set_option maxRecDepth 20000 in
theorem ggX2_expected_X2_expected : GoodIn wsX2_expected wsX2_expected := goodIn_r _ [0, 1, 2, 3, 4, 5, 6, 7, 8, 9, 10] (by decide +kernel) (by decide +kernel)
set_option maxRecDepth 20000 in
theorem gX2_expected_X2_expected : GoodIn wsX2_expected (wsV RX2 15 RX2 yX2_expected wsX2_expected) := goodIn_app (goodIn_of _ (by decide +kernel)) ggX2_expected_X2_expected
theorem dX2_expected_0 : decode cX2_expected 0 = .ok (.aload_n 0, 1) := by decide +kernel
theorem dX2_expected_1 : decode cX2_expected 1 = .ok (.getfield 9, 3) := by decide +kernel
theorem dX2_expected_4 : decode cX2_expected 4 = .ok (.iload_n 1, 1) := by decide +kernel
theorem dX2_expected_5 : decode cX2_expected 5 = .ok (.aaload, 1) := by decide +kernel
theorem dX2_expected_6 : decode cX2_expected 6 = .ok (.iconst 0, 1) := by decide +kernel
theorem dX2_expected_7 : decode cX2_expected 7 = .ok (.iaload, 1) := by decide +kernel
theorem dX2_expected_8 : decode cX2_expected 8 = .ok (.aload_n 0, 1) := by decide +kernel
theorem dX2_expected_9 : decode cX2_expected 9 = .ok (.getfield 9, 3) := by decide +kernel
theorem dX2_expected_12 : decode cX2_expected 12 = .ok (.iload_n 2, 1) := by decide +kernel
theorem dX2_expected_13 : decode cX2_expected 13 = .ok (.aaload, 1) := by decide +kernel
theorem dX2_expected_14 : decode cX2_expected 14 = .ok (.iconst 0, 1) := by decide +kernel
theorem dX2_expected_15 : decode cX2_expected 15 = .ok (.iaload, 1) := by decide +kernel
theorem dX2_expected_16 : decode cX2_expected 16 = .ok (.isub, 1) := by decide +kernel
theorem dX2_expected_17 : decode cX2_expected 17 = .ok (.istore_n 3, 1) := by decide +kernel
theorem dX2_expected_18 : decode cX2_expected 18 = .ok (.iload_n 3, 1) := by decide +kernel
theorem dX2_expected_19 : decode cX2_expected 19 = .ok (.ifCond .ge 14, 3) := by decide +kernel
theorem dX2_expected_22 : decode cX2_expected 22 = .ok (.sipush 1000, 3) := by decide +kernel
theorem dX2_expected_25 : decode cX2_expected 25 = .ok (.aload_n 0, 1) := by decide +kernel
theorem dX2_expected_26 : decode cX2_expected 26 = .ok (.iload_n 2, 1) := by decide +kernel
theorem dX2_expected_27 : decode cX2_expected 27 = .ok (.iload_n 1, 1) := by decide +kernel
theorem dX2_expected_28 : decode cX2_expected 28 = .ok (.invokevirtual 15, 3) := by decide +kernel
theorem dX2_expected_31 : decode cX2_expected 31 = .ok (.isub, 1) := by decide +kernel
theorem dX2_expected_32 : decode cX2_expected 32 = .ok (.ireturn, 1) := by decide +kernel
theorem dX2_expected_33 : decode cX2_expected 33 = .ok (.bipush 9, 2) := by decide +kernel
theorem dX2_expected_35 : decode cX2_expected 35 = .ok (.newarray .int, 2) := by decide +kernel
theorem dX2_expected_37 : decode cX2_expected 37 = .ok (.dup, 1) := by decide +kernel
theorem dX2_expected_38 : decode cX2_expected 38 = .ok (.iconst 0, 1) := by decide +kernel
theorem dX2_expected_39 : decode cX2_expected 39 = .ok (.sipush 500, 3) := by decide +kernel
theorem dX2_expected_42 : decode cX2_expected 42 = .ok (.iastore, 1) := by decide +kernel
theorem dX2_expected_43 : decode cX2_expected 43 = .ok (.dup, 1) := by decide +kernel
theorem dX2_expected_44 : decode cX2_expected 44 = .ok (.iconst 1, 1) := by decide +kernel
theorem dX2_expected_45 : decode cX2_expected 45 = .ok (.sipush 640, 3) := by decide +kernel
theorem dX2_expected_48 : decode cX2_expected 48 = .ok (.iastore, 1) := by decide +kernel
theorem dX2_expected_49 : decode cX2_expected 49 = .ok (.dup, 1) := by decide +kernel
theorem dX2_expected_50 : decode cX2_expected 50 = .ok (.iconst 2, 1) := by decide +kernel
theorem dX2_expected_51 : decode cX2_expected 51 = .ok (.sipush 760, 3) := by decide +kernel
theorem dX2_expected_54 : decode cX2_expected 54 = .ok (.iastore, 1) := by decide +kernel
theorem dX2_expected_55 : decode cX2_expected 55 = .ok (.dup, 1) := by decide +kernel
theorem dX2_expected_56 : decode cX2_expected 56 = .ok (.iconst 3, 1) := by decide +kernel
theorem dX2_expected_57 : decode cX2_expected 57 = .ok (.sipush 849, 3) := by decide +kernel
theorem dX2_expected_60 : decode cX2_expected 60 = .ok (.iastore, 1) := by decide +kernel
theorem dX2_expected_61 : decode cX2_expected 61 = .ok (.dup, 1) := by decide +kernel
theorem dX2_expected_62 : decode cX2_expected 62 = .ok (.iconst 4, 1) := by decide +kernel
theorem dX2_expected_63 : decode cX2_expected 63 = .ok (.sipush 909, 3) := by decide +kernel
theorem dX2_expected_66 : decode cX2_expected 66 = .ok (.iastore, 1) := by decide +kernel
theorem dX2_expected_67 : decode cX2_expected 67 = .ok (.dup, 1) := by decide +kernel
theorem dX2_expected_68 : decode cX2_expected 68 = .ok (.iconst 5, 1) := by decide +kernel
theorem dX2_expected_69 : decode cX2_expected 69 = .ok (.sipush 947, 3) := by decide +kernel
theorem dX2_expected_72 : decode cX2_expected 72 = .ok (.iastore, 1) := by decide +kernel
theorem dX2_expected_73 : decode cX2_expected 73 = .ok (.dup, 1) := by decide +kernel
theorem dX2_expected_74 : decode cX2_expected 74 = .ok (.bipush 6, 2) := by decide +kernel
theorem dX2_expected_76 : decode cX2_expected 76 = .ok (.sipush 969, 3) := by decide +kernel
theorem dX2_expected_79 : decode cX2_expected 79 = .ok (.iastore, 1) := by decide +kernel
theorem dX2_expected_80 : decode cX2_expected 80 = .ok (.dup, 1) := by decide +kernel
theorem dX2_expected_81 : decode cX2_expected 81 = .ok (.bipush 7, 2) := by decide +kernel
theorem dX2_expected_83 : decode cX2_expected 83 = .ok (.sipush 983, 3) := by decide +kernel
theorem dX2_expected_86 : decode cX2_expected 86 = .ok (.iastore, 1) := by decide +kernel
theorem dX2_expected_87 : decode cX2_expected 87 = .ok (.dup, 1) := by decide +kernel
theorem dX2_expected_88 : decode cX2_expected 88 = .ok (.bipush 8, 2) := by decide +kernel
theorem dX2_expected_90 : decode cX2_expected 90 = .ok (.sipush 990, 3) := by decide +kernel
theorem dX2_expected_93 : decode cX2_expected 93 = .ok (.iastore, 1) := by decide +kernel
theorem dX2_expected_94 : decode cX2_expected 94 = .ok (.astore 4, 2) := by decide +kernel
theorem dX2_expected_96 : decode cX2_expected 96 = .ok (.iload_n 3, 1) := by decide +kernel
theorem dX2_expected_97 : decode cX2_expected 97 = .ok (.sipush 800, 3) := by decide +kernel
theorem dX2_expected_100 : decode cX2_expected 100 = .ok (.if_icmp .lt 7, 3) := by decide +kernel
theorem dX2_expected_103 : decode cX2_expected 103 = .ok (.sipush 990, 3) := by decide +kernel
theorem dX2_expected_106 : decode cX2_expected 106 = .ok (.ireturn, 1) := by decide +kernel
theorem dX2_expected_107 : decode cX2_expected 107 = .ok (.aload 4, 2) := by decide +kernel
theorem dX2_expected_109 : decode cX2_expected 109 = .ok (.iload_n 3, 1) := by decide +kernel
theorem dX2_expected_110 : decode cX2_expected 110 = .ok (.bipush 100, 2) := by decide +kernel
theorem dX2_expected_112 : decode cX2_expected 112 = .ok (.idiv, 1) := by decide +kernel
theorem dX2_expected_113 : decode cX2_expected 113 = .ok (.iaload, 1) := by decide +kernel
theorem dX2_expected_114 : decode cX2_expected 114 = .ok (.istore 5, 2) := by decide +kernel
theorem dX2_expected_116 : decode cX2_expected 116 = .ok (.aload 4, 2) := by decide +kernel
theorem dX2_expected_118 : decode cX2_expected 118 = .ok (.iload_n 3, 1) := by decide +kernel
theorem dX2_expected_119 : decode cX2_expected 119 = .ok (.bipush 100, 2) := by decide +kernel
theorem dX2_expected_121 : decode cX2_expected 121 = .ok (.idiv, 1) := by decide +kernel
theorem dX2_expected_122 : decode cX2_expected 122 = .ok (.iconst 1, 1) := by decide +kernel
theorem dX2_expected_123 : decode cX2_expected 123 = .ok (.iadd, 1) := by decide +kernel
theorem dX2_expected_124 : decode cX2_expected 124 = .ok (.iaload, 1) := by decide +kernel
theorem dX2_expected_125 : decode cX2_expected 125 = .ok (.iload 5, 2) := by decide +kernel
theorem dX2_expected_127 : decode cX2_expected 127 = .ok (.isub, 1) := by decide +kernel
theorem dX2_expected_128 : decode cX2_expected 128 = .ok (.istore 6, 2) := by decide +kernel
theorem dX2_expected_130 : decode cX2_expected 130 = .ok (.iload 5, 2) := by decide +kernel
theorem dX2_expected_132 : decode cX2_expected 132 = .ok (.iload 6, 2) := by decide +kernel
theorem dX2_expected_134 : decode cX2_expected 134 = .ok (.iload_n 3, 1) := by decide +kernel
theorem dX2_expected_135 : decode cX2_expected 135 = .ok (.iload_n 3, 1) := by decide +kernel
theorem dX2_expected_136 : decode cX2_expected 136 = .ok (.bipush 100, 2) := by decide +kernel
theorem dX2_expected_138 : decode cX2_expected 138 = .ok (.idiv, 1) := by decide +kernel
theorem dX2_expected_139 : decode cX2_expected 139 = .ok (.bipush 100, 2) := by decide +kernel
theorem dX2_expected_141 : decode cX2_expected 141 = .ok (.imul, 1) := by decide +kernel
theorem dX2_expected_142 : decode cX2_expected 142 = .ok (.isub, 1) := by decide +kernel
theorem dX2_expected_143 : decode cX2_expected 143 = .ok (.imul, 1) := by decide +kernel
theorem dX2_expected_144 : decode cX2_expected 144 = .ok (.bipush 100, 2) := by decide +kernel
theorem dX2_expected_146 : decode cX2_expected 146 = .ok (.idiv, 1) := by decide +kernel
theorem dX2_expected_147 : decode cX2_expected 147 = .ok (.iadd, 1) := by decide +kernel
theorem dX2_expected_148 : decode cX2_expected 148 = .ok (.ireturn, 1) := by decide +kernel
theorem dX2_weight_0 : decode cX2_weight 0 = .ok (.aload_n 0, 1) := by decide +kernel
theorem dX2_weight_1 : decode cX2_weight 1 = .ok (.getfield 9, 3) := by decide +kernel
theorem dX2_weight_4 : decode cX2_weight 4 = .ok (.iload_n 1, 1) := by decide +kernel
theorem dX2_weight_5 : decode cX2_weight 5 = .ok (.aaload, 1) := by decide +kernel
theorem dX2_weight_6 : decode cX2_weight 6 = .ok (.iconst 3, 1) := by decide +kernel
theorem dX2_weight_7 : decode cX2_weight 7 = .ok (.iaload, 1) := by decide +kernel
theorem dX2_weight_8 : decode cX2_weight 8 = .ok (.bipush 10, 2) := by decide +kernel
theorem dX2_weight_10 : decode cX2_weight 10 = .ok (.if_icmp .ge 6, 3) := by decide +kernel
theorem dX2_weight_13 : decode cX2_weight 13 = .ok (.bipush 40, 2) := by decide +kernel
theorem dX2_weight_15 : decode cX2_weight 15 = .ok (.ireturn, 1) := by decide +kernel
theorem dX2_weight_16 : decode cX2_weight 16 = .ok (.aload_n 0, 1) := by decide +kernel
theorem dX2_weight_17 : decode cX2_weight 17 = .ok (.getfield 9, 3) := by decide +kernel
theorem dX2_weight_20 : decode cX2_weight 20 = .ok (.iload_n 1, 1) := by decide +kernel
theorem dX2_weight_21 : decode cX2_weight 21 = .ok (.aaload, 1) := by decide +kernel
theorem dX2_weight_22 : decode cX2_weight 22 = .ok (.iconst 0, 1) := by decide +kernel
theorem dX2_weight_23 : decode cX2_weight 23 = .ok (.iaload, 1) := by decide +kernel
theorem dX2_weight_24 : decode cX2_weight 24 = .ok (.sipush 2000, 3) := by decide +kernel
theorem dX2_weight_27 : decode cX2_weight 27 = .ok (.if_icmp .ge 8, 3) := by decide +kernel
theorem dX2_weight_30 : decode cX2_weight 30 = .ok (.bipush 20, 2) := by decide +kernel
theorem dX2_weight_32 : decode cX2_weight 32 = .ok (.goto 5, 3) := by decide +kernel
theorem dX2_weight_35 : decode cX2_weight 35 = .ok (.bipush 10, 2) := by decide +kernel
theorem dX2_weight_37 : decode cX2_weight 37 = .ok (.ireturn, 1) := by decide +kernel
set_option maxRecDepth 20000 in
theorem ggX2_change_X2_weight : GoodIn wsX2_change wsX2_weight := goodIn_r _ [6, 1, 12, 13, 14, 15] (by decide +kernel) (by decide +kernel)
set_option maxRecDepth 20000 in
theorem gX2_change_X2_weight : GoodIn wsX2_change (wsV RX2 19 RX2 yX2_weight wsX2_weight) := goodIn_app (goodIn_of _ (by decide +kernel)) ggX2_change_X2_weight
set_option maxRecDepth 20000 in
theorem ggX2_change_X2_expected : GoodIn wsX2_change wsX2_expected := goodIn_r _ [10, 1, 11, 7, 8, 9, 5, 12, 13, 14, 15] (by decide +kernel) (by decide +kernel)
set_option maxRecDepth 20000 in
theorem gX2_change_X2_expected : GoodIn wsX2_change (wsV RX2 15 RX2 yX2_expected wsX2_expected) := goodIn_app (goodIn_of _ (by decide +kernel)) ggX2_change_X2_expected
theorem dX2_change_0 : decode cX2_change 0 = .ok (.aload_n 0, 1) := by decide +kernel
theorem dX2_change_1 : decode cX2_change 1 = .ok (.iload_n 1, 1) := by decide +kernel
theorem dX2_change_2 : decode cX2_change 2 = .ok (.invokevirtual 19, 3) := by decide +kernel
theorem dX2_change_5 : decode cX2_change 5 = .ok (.iload_n 3, 1) := by decide +kernel
theorem dX2_change_6 : decode cX2_change 6 = .ok (.sipush 500, 3) := by decide +kernel
theorem dX2_change_9 : decode cX2_change 9 = .ok (.imul, 1) := by decide +kernel
theorem dX2_change_10 : decode cX2_change 10 = .ok (.aload_n 0, 1) := by decide +kernel
theorem dX2_change_11 : decode cX2_change 11 = .ok (.iload_n 1, 1) := by decide +kernel
theorem dX2_change_12 : decode cX2_change 12 = .ok (.iload_n 2, 1) := by decide +kernel
theorem dX2_change_13 : decode cX2_change 13 = .ok (.invokevirtual 15, 3) := by decide +kernel
theorem dX2_change_16 : decode cX2_change 16 = .ok (.isub, 1) := by decide +kernel
theorem dX2_change_17 : decode cX2_change 17 = .ok (.imul, 1) := by decide +kernel
theorem dX2_change_18 : decode cX2_change 18 = .ok (.sipush 1000, 3) := by decide +kernel
theorem dX2_change_21 : decode cX2_change 21 = .ok (.idiv, 1) := by decide +kernel
theorem dX2_change_22 : decode cX2_change 22 = .ok (.istore 4, 2) := by decide +kernel
theorem dX2_change_24 : decode cX2_change 24 = .ok (.aload_n 0, 1) := by decide +kernel
theorem dX2_change_25 : decode cX2_change 25 = .ok (.getfield 9, 3) := by decide +kernel
theorem dX2_change_28 : decode cX2_change 28 = .ok (.iload_n 1, 1) := by decide +kernel
theorem dX2_change_29 : decode cX2_change 29 = .ok (.aaload, 1) := by decide +kernel
theorem dX2_change_30 : decode cX2_change 30 = .ok (.iconst 0, 1) := by decide +kernel
theorem dX2_change_31 : decode cX2_change 31 = .ok (.iaload, 1) := by decide +kernel
theorem dX2_change_32 : decode cX2_change 32 = .ok (.iload 4, 2) := by decide +kernel
theorem dX2_change_34 : decode cX2_change 34 = .ok (.iadd, 1) := by decide +kernel
theorem dX2_change_35 : decode cX2_change 35 = .ok (.istore 5, 2) := by decide +kernel
theorem dX2_change_37 : decode cX2_change 37 = .ok (.iload 5, 2) := by decide +kernel
theorem dX2_change_39 : decode cX2_change 39 = .ok (.bipush 100, 2) := by decide +kernel
theorem dX2_change_41 : decode cX2_change 41 = .ok (.if_icmp .ge 7, 3) := by decide +kernel
theorem dX2_change_44 : decode cX2_change 44 = .ok (.bipush 100, 2) := by decide +kernel
theorem dX2_change_46 : decode cX2_change 46 = .ok (.istore 5, 2) := by decide +kernel
theorem dX2_change_48 : decode cX2_change 48 = .ok (.iload 5, 2) := by decide +kernel
theorem dX2_change_50 : decode cX2_change 50 = .ok (.sipush 3000, 3) := by decide +kernel
theorem dX2_change_53 : decode cX2_change 53 = .ok (.if_icmp .le 8, 3) := by decide +kernel
theorem dX2_change_56 : decode cX2_change 56 = .ok (.sipush 3000, 3) := by decide +kernel
theorem dX2_change_59 : decode cX2_change 59 = .ok (.istore 5, 2) := by decide +kernel
theorem dX2_change_61 : decode cX2_change 61 = .ok (.iload 5, 2) := by decide +kernel
theorem dX2_change_63 : decode cX2_change 63 = .ok (.aload_n 0, 1) := by decide +kernel
theorem dX2_change_64 : decode cX2_change 64 = .ok (.getfield 9, 3) := by decide +kernel
theorem dX2_change_67 : decode cX2_change 67 = .ok (.iload_n 1, 1) := by decide +kernel
theorem dX2_change_68 : decode cX2_change 68 = .ok (.aaload, 1) := by decide +kernel
theorem dX2_change_69 : decode cX2_change 69 = .ok (.iconst 0, 1) := by decide +kernel
theorem dX2_change_70 : decode cX2_change 70 = .ok (.iaload, 1) := by decide +kernel
theorem dX2_change_71 : decode cX2_change 71 = .ok (.isub, 1) := by decide +kernel
theorem dX2_change_72 : decode cX2_change 72 = .ok (.ireturn, 1) := by decide +kernel
theorem dX2_raise_0 : decode cX2_raise 0 = .ok (.aload_n 0, 1) := by decide +kernel
theorem dX2_raise_1 : decode cX2_raise 1 = .ok (.getfield 9, 3) := by decide +kernel
theorem dX2_raise_4 : decode cX2_raise 4 = .ok (.iload_n 1, 1) := by decide +kernel
theorem dX2_raise_5 : decode cX2_raise 5 = .ok (.aaload, 1) := by decide +kernel
theorem dX2_raise_6 : decode cX2_raise 6 = .ok (.iconst 0, 1) := by decide +kernel
theorem dX2_raise_7 : decode cX2_raise 7 = .ok (.dup2, 1) := by decide +kernel
theorem dX2_raise_8 : decode cX2_raise 8 = .ok (.iaload, 1) := by decide +kernel
theorem dX2_raise_9 : decode cX2_raise 9 = .ok (.iload_n 2, 1) := by decide +kernel
theorem dX2_raise_10 : decode cX2_raise 10 = .ok (.iadd, 1) := by decide +kernel
theorem dX2_raise_11 : decode cX2_raise 11 = .ok (.iastore, 1) := by decide +kernel
theorem dX2_raise_12 : decode cX2_raise 12 = .ok (.aload_n 0, 1) := by decide +kernel
theorem dX2_raise_13 : decode cX2_raise 13 = .ok (.getfield 9, 3) := by decide +kernel
theorem dX2_raise_16 : decode cX2_raise 16 = .ok (.iload_n 1, 1) := by decide +kernel
theorem dX2_raise_17 : decode cX2_raise 17 = .ok (.aaload, 1) := by decide +kernel
theorem dX2_raise_18 : decode cX2_raise 18 = .ok (.iconst 0, 1) := by decide +kernel
theorem dX2_raise_19 : decode cX2_raise 19 = .ok (.iaload, 1) := by decide +kernel
theorem dX2_raise_20 : decode cX2_raise 20 = .ok (.aload_n 0, 1) := by decide +kernel
theorem dX2_raise_21 : decode cX2_raise 21 = .ok (.getfield 9, 3) := by decide +kernel
theorem dX2_raise_24 : decode cX2_raise 24 = .ok (.iload_n 1, 1) := by decide +kernel
theorem dX2_raise_25 : decode cX2_raise 25 = .ok (.aaload, 1) := by decide +kernel
theorem dX2_raise_26 : decode cX2_raise 26 = .ok (.bipush 6, 2) := by decide +kernel
theorem dX2_raise_28 : decode cX2_raise 28 = .ok (.iaload, 1) := by decide +kernel
theorem dX2_raise_29 : decode cX2_raise 29 = .ok (.if_icmp .le 20, 3) := by decide +kernel
theorem dX2_raise_32 : decode cX2_raise 32 = .ok (.aload_n 0, 1) := by decide +kernel
theorem dX2_raise_33 : decode cX2_raise 33 = .ok (.getfield 9, 3) := by decide +kernel
theorem dX2_raise_36 : decode cX2_raise 36 = .ok (.iload_n 1, 1) := by decide +kernel
theorem dX2_raise_37 : decode cX2_raise 37 = .ok (.aaload, 1) := by decide +kernel
theorem dX2_raise_38 : decode cX2_raise 38 = .ok (.bipush 6, 2) := by decide +kernel
theorem dX2_raise_40 : decode cX2_raise 40 = .ok (.aload_n 0, 1) := by decide +kernel
theorem dX2_raise_41 : decode cX2_raise 41 = .ok (.getfield 9, 3) := by decide +kernel
theorem dX2_raise_44 : decode cX2_raise 44 = .ok (.iload_n 1, 1) := by decide +kernel
theorem dX2_raise_45 : decode cX2_raise 45 = .ok (.aaload, 1) := by decide +kernel
theorem dX2_raise_46 : decode cX2_raise 46 = .ok (.iconst 0, 1) := by decide +kernel
theorem dX2_raise_47 : decode cX2_raise 47 = .ok (.iaload, 1) := by decide +kernel
theorem dX2_raise_48 : decode cX2_raise 48 = .ok (.iastore, 1) := by decide +kernel
theorem dX2_raise_49 : decode cX2_raise 49 = .ok (.return_, 1) := by decide +kernel
theorem dX2_note_0 : decode cX2_note 0 = .ok (.aload_n 0, 1) := by decide +kernel
theorem dX2_note_1 : decode cX2_note 1 = .ok (.getfield 9, 3) := by decide +kernel
theorem dX2_note_4 : decode cX2_note 4 = .ok (.iload_n 1, 1) := by decide +kernel
theorem dX2_note_5 : decode cX2_note 5 = .ok (.aaload, 1) := by decide +kernel
theorem dX2_note_6 : decode cX2_note 6 = .ok (.iconst 2, 1) := by decide +kernel
theorem dX2_note_7 : decode cX2_note 7 = .ok (.dup2, 1) := by decide +kernel
theorem dX2_note_8 : decode cX2_note 8 = .ok (.iaload, 1) := by decide +kernel
theorem dX2_note_9 : decode cX2_note 9 = .ok (.iload_n 2, 1) := by decide +kernel
theorem dX2_note_10 : decode cX2_note 10 = .ok (.iadd, 1) := by decide +kernel
theorem dX2_note_11 : decode cX2_note 11 = .ok (.iastore, 1) := by decide +kernel
theorem dX2_note_12 : decode cX2_note 12 = .ok (.aload_n 0, 1) := by decide +kernel
theorem dX2_note_13 : decode cX2_note 13 = .ok (.getfield 9, 3) := by decide +kernel
theorem dX2_note_16 : decode cX2_note 16 = .ok (.iload_n 1, 1) := by decide +kernel
theorem dX2_note_17 : decode cX2_note 17 = .ok (.aaload, 1) := by decide +kernel
theorem dX2_note_18 : decode cX2_note 18 = .ok (.iconst 3, 1) := by decide +kernel
theorem dX2_note_19 : decode cX2_note 19 = .ok (.dup2, 1) := by decide +kernel
theorem dX2_note_20 : decode cX2_note 20 = .ok (.iaload, 1) := by decide +kernel
theorem dX2_note_21 : decode cX2_note 21 = .ok (.iconst 1, 1) := by decide +kernel
theorem dX2_note_22 : decode cX2_note 22 = .ok (.iadd, 1) := by decide +kernel
theorem dX2_note_23 : decode cX2_note 23 = .ok (.iastore, 1) := by decide +kernel
theorem dX2_note_24 : decode cX2_note 24 = .ok (.aload_n 0, 1) := by decide +kernel
theorem dX2_note_25 : decode cX2_note 25 = .ok (.getfield 9, 3) := by decide +kernel
theorem dX2_note_28 : decode cX2_note 28 = .ok (.iload_n 1, 1) := by decide +kernel
theorem dX2_note_29 : decode cX2_note 29 = .ok (.aaload, 1) := by decide +kernel
theorem dX2_note_30 : decode cX2_note 30 = .ok (.iconst 4, 1) := by decide +kernel
theorem dX2_note_31 : decode cX2_note 31 = .ok (.dup2, 1) := by decide +kernel
theorem dX2_note_32 : decode cX2_note 32 = .ok (.iaload, 1) := by decide +kernel
theorem dX2_note_33 : decode cX2_note 33 = .ok (.iconst 1, 1) := by decide +kernel
theorem dX2_note_34 : decode cX2_note 34 = .ok (.iadd, 1) := by decide +kernel
theorem dX2_note_35 : decode cX2_note 35 = .ok (.iastore, 1) := by decide +kernel
theorem dX2_note_36 : decode cX2_note 36 = .ok (.aload_n 0, 1) := by decide +kernel
theorem dX2_note_37 : decode cX2_note 37 = .ok (.getfield 9, 3) := by decide +kernel
theorem dX2_note_40 : decode cX2_note 40 = .ok (.iload_n 1, 1) := by decide +kernel
theorem dX2_note_41 : decode cX2_note 41 = .ok (.aaload, 1) := by decide +kernel
theorem dX2_note_42 : decode cX2_note 42 = .ok (.iconst 5, 1) := by decide +kernel
theorem dX2_note_43 : decode cX2_note 43 = .ok (.iload_n 2, 1) := by decide +kernel
theorem dX2_note_44 : decode cX2_note 44 = .ok (.iconst 2, 1) := by decide +kernel
theorem dX2_note_45 : decode cX2_note 45 = .ok (.if_icmp .ge 7, 3) := by decide +kernel
theorem dX2_note_48 : decode cX2_note 48 = .ok (.iconst 0, 1) := by decide +kernel
theorem dX2_note_49 : decode cX2_note 49 = .ok (.goto 13, 3) := by decide +kernel
theorem dX2_note_52 : decode cX2_note 52 = .ok (.aload_n 0, 1) := by decide +kernel
theorem dX2_note_53 : decode cX2_note 53 = .ok (.getfield 9, 3) := by decide +kernel
theorem dX2_note_56 : decode cX2_note 56 = .ok (.iload_n 1, 1) := by decide +kernel
theorem dX2_note_57 : decode cX2_note 57 = .ok (.aaload, 1) := by decide +kernel
theorem dX2_note_58 : decode cX2_note 58 = .ok (.iconst 5, 1) := by decide +kernel
theorem dX2_note_59 : decode cX2_note 59 = .ok (.iaload, 1) := by decide +kernel
theorem dX2_note_60 : decode cX2_note 60 = .ok (.iconst 1, 1) := by decide +kernel
theorem dX2_note_61 : decode cX2_note 61 = .ok (.iadd, 1) := by decide +kernel
theorem dX2_note_62 : decode cX2_note 62 = .ok (.iastore, 1) := by decide +kernel
theorem dX2_note_63 : decode cX2_note 63 = .ok (.return_, 1) := by decide +kernel
set_option maxRecDepth 20000 in
theorem ggX2_bout_X2_change : GoodIn wsX2_bout wsX2_change := goodIn_r _ [7, 8, 9, 10, 11, 6, 12, 13, 14, 15, 16, 17, 26, 27, 28, 29] (by decide +kernel) (by decide +kernel)
set_option maxRecDepth 20000 in
theorem gX2_bout_X2_change : GoodIn wsX2_bout (wsV RX2 23 RX2 yX2_change wsX2_change) := goodIn_app (goodIn_of _ (by decide +kernel)) ggX2_bout_X2_change
set_option maxRecDepth 20000 in
theorem ggX2_bout_X2_expected : GoodIn wsX2_bout wsX2_expected := goodIn_r _ [16, 8, 17, 13, 14, 15, 6, 26, 27, 28, 29] (by decide +kernel) (by decide +kernel)
set_option maxRecDepth 20000 in
theorem gX2_bout_X2_expected : GoodIn wsX2_bout (wsV RX2 15 RX2 yX2_expected wsX2_expected) := goodIn_app (goodIn_of _ (by decide +kernel)) ggX2_bout_X2_expected
set_option maxRecDepth 20000 in
theorem ggX2_bout_X2_raise : GoodIn wsX2_bout wsX2_raise := goodIn_r _ [21, 8, 26, 27, 28, 29] (by decide +kernel) (by decide +kernel)
set_option maxRecDepth 20000 in
theorem gX2_bout_X2_raise : GoodIn wsX2_bout (wsV RX2 31 RX2 yX2_raise wsX2_raise) := goodIn_app (goodIn_of _ (by decide +kernel)) ggX2_bout_X2_raise
set_option maxRecDepth 20000 in
theorem ggX2_bout_X2_note : GoodIn wsX2_bout wsX2_note := goodIn_r _ [25, 8, 26, 27, 28, 29] (by decide +kernel) (by decide +kernel)
set_option maxRecDepth 20000 in
theorem gX2_bout_X2_note : GoodIn wsX2_bout (wsV RX2 35 RX2 yX2_note wsX2_note) := goodIn_app (goodIn_of _ (by decide +kernel)) ggX2_bout_X2_note
theorem dX2_bout_0 : decode cX2_bout 0 = .ok (.aload_n 0, 1) := by decide +kernel
theorem dX2_bout_1 : decode cX2_bout 1 = .ok (.iload_n 1, 1) := by decide +kernel
theorem dX2_bout_2 : decode cX2_bout 2 = .ok (.iload_n 2, 1) := by decide +kernel
theorem dX2_bout_3 : decode cX2_bout 3 = .ok (.iload_n 3, 1) := by decide +kernel
theorem dX2_bout_4 : decode cX2_bout 4 = .ok (.invokevirtual 23, 3) := by decide +kernel
theorem dX2_bout_7 : decode cX2_bout 7 = .ok (.istore 4, 2) := by decide +kernel
theorem dX2_bout_9 : decode cX2_bout 9 = .ok (.aload_n 0, 1) := by decide +kernel
theorem dX2_bout_10 : decode cX2_bout 10 = .ok (.iload_n 2, 1) := by decide +kernel
theorem dX2_bout_11 : decode cX2_bout 11 = .ok (.iload_n 1, 1) := by decide +kernel
theorem dX2_bout_12 : decode cX2_bout 12 = .ok (.iconst 2, 1) := by decide +kernel
theorem dX2_bout_13 : decode cX2_bout 13 = .ok (.iload_n 3, 1) := by decide +kernel
theorem dX2_bout_14 : decode cX2_bout 14 = .ok (.isub, 1) := by decide +kernel
theorem dX2_bout_15 : decode cX2_bout 15 = .ok (.invokevirtual 23, 3) := by decide +kernel
theorem dX2_bout_18 : decode cX2_bout 18 = .ok (.istore 5, 2) := by decide +kernel
theorem dX2_bout_20 : decode cX2_bout 20 = .ok (.iload_n 3, 1) := by decide +kernel
theorem dX2_bout_21 : decode cX2_bout 21 = .ok (.iconst 2, 1) := by decide +kernel
theorem dX2_bout_22 : decode cX2_bout 22 = .ok (.if_icmp .ne 15, 3) := by decide +kernel
theorem dX2_bout_25 : decode cX2_bout 25 = .ok (.aload_n 0, 1) := by decide +kernel
theorem dX2_bout_26 : decode cX2_bout 26 = .ok (.iload_n 1, 1) := by decide +kernel
theorem dX2_bout_27 : decode cX2_bout 27 = .ok (.iload_n 2, 1) := by decide +kernel
theorem dX2_bout_28 : decode cX2_bout 28 = .ok (.invokevirtual 15, 3) := by decide +kernel
theorem dX2_bout_31 : decode cX2_bout 31 = .ok (.sipush 400, 3) := by decide +kernel
theorem dX2_bout_34 : decode cX2_bout 34 = .ok (.if_icmp .lt 19, 3) := by decide +kernel
theorem dX2_bout_37 : decode cX2_bout 37 = .ok (.iload_n 3, 1) := by decide +kernel
theorem dX2_bout_38 : decode cX2_bout 38 = .ok (.ifCond .ne 25, 3) := by decide +kernel
theorem dX2_bout_41 : decode cX2_bout 41 = .ok (.aload_n 0, 1) := by decide +kernel
theorem dX2_bout_42 : decode cX2_bout 42 = .ok (.iload_n 2, 1) := by decide +kernel
theorem dX2_bout_43 : decode cX2_bout 43 = .ok (.iload_n 1, 1) := by decide +kernel
theorem dX2_bout_44 : decode cX2_bout 44 = .ok (.invokevirtual 15, 3) := by decide +kernel
theorem dX2_bout_47 : decode cX2_bout 47 = .ok (.sipush 400, 3) := by decide +kernel
theorem dX2_bout_50 : decode cX2_bout 50 = .ok (.if_icmp .ge 13, 3) := by decide +kernel
theorem dX2_bout_53 : decode cX2_bout 53 = .ok (.aload_n 0, 1) := by decide +kernel
theorem dX2_bout_54 : decode cX2_bout 54 = .ok (.dup, 1) := by decide +kernel
theorem dX2_bout_55 : decode cX2_bout 55 = .ok (.getfield 27, 3) := by decide +kernel
theorem dX2_bout_58 : decode cX2_bout 58 = .ok (.iconst 1, 1) := by decide +kernel
theorem dX2_bout_59 : decode cX2_bout 59 = .ok (.iadd, 1) := by decide +kernel
theorem dX2_bout_60 : decode cX2_bout 60 = .ok (.putfield 27, 3) := by decide +kernel
theorem dX2_bout_63 : decode cX2_bout 63 = .ok (.aload_n 0, 1) := by decide +kernel
theorem dX2_bout_64 : decode cX2_bout 64 = .ok (.iload_n 1, 1) := by decide +kernel
theorem dX2_bout_65 : decode cX2_bout 65 = .ok (.iload 4, 2) := by decide +kernel
theorem dX2_bout_67 : decode cX2_bout 67 = .ok (.invokevirtual 31, 3) := by decide +kernel
theorem dX2_bout_70 : decode cX2_bout 70 = .ok (.aload_n 0, 1) := by decide +kernel
theorem dX2_bout_71 : decode cX2_bout 71 = .ok (.iload_n 2, 1) := by decide +kernel
theorem dX2_bout_72 : decode cX2_bout 72 = .ok (.iload 5, 2) := by decide +kernel
theorem dX2_bout_74 : decode cX2_bout 74 = .ok (.invokevirtual 31, 3) := by decide +kernel
theorem dX2_bout_77 : decode cX2_bout 77 = .ok (.aload_n 0, 1) := by decide +kernel
theorem dX2_bout_78 : decode cX2_bout 78 = .ok (.iload_n 1, 1) := by decide +kernel
theorem dX2_bout_79 : decode cX2_bout 79 = .ok (.iload_n 3, 1) := by decide +kernel
theorem dX2_bout_80 : decode cX2_bout 80 = .ok (.invokevirtual 35, 3) := by decide +kernel
theorem dX2_bout_83 : decode cX2_bout 83 = .ok (.aload_n 0, 1) := by decide +kernel
theorem dX2_bout_84 : decode cX2_bout 84 = .ok (.iload_n 2, 1) := by decide +kernel
theorem dX2_bout_85 : decode cX2_bout 85 = .ok (.iconst 2, 1) := by decide +kernel
theorem dX2_bout_86 : decode cX2_bout 86 = .ok (.iload_n 3, 1) := by decide +kernel
theorem dX2_bout_87 : decode cX2_bout 87 = .ok (.isub, 1) := by decide +kernel
theorem dX2_bout_88 : decode cX2_bout 88 = .ok (.invokevirtual 35, 3) := by decide +kernel
theorem dX2_bout_91 : decode cX2_bout 91 = .ok (.aload_n 0, 1) := by decide +kernel
theorem dX2_bout_92 : decode cX2_bout 92 = .ok (.dup, 1) := by decide +kernel
theorem dX2_bout_93 : decode cX2_bout 93 = .ok (.getfield 38, 3) := by decide +kernel
theorem dX2_bout_96 : decode cX2_bout 96 = .ok (.iconst 1, 1) := by decide +kernel
theorem dX2_bout_97 : decode cX2_bout 97 = .ok (.iadd, 1) := by decide +kernel
theorem dX2_bout_98 : decode cX2_bout 98 = .ok (.putfield 38, 3) := by decide +kernel
theorem dX2_bout_101 : decode cX2_bout 101 = .ok (.iload 4, 2) := by decide +kernel
theorem dX2_bout_103 : decode cX2_bout 103 = .ok (.ireturn, 1) := by decide +kernel
theorem dX2_order_0 : decode cX2_order 0 = .ok (.iconst 0, 1) := by decide +kernel
theorem dX2_order_1 : decode cX2_order 1 = .ok (.istore_n 2, 1) := by decide +kernel
theorem dX2_order_2 : decode cX2_order 2 = .ok (.aload_n 0, 1) := by decide +kernel
theorem dX2_order_3 : decode cX2_order 3 = .ok (.getfield 9, 3) := by decide +kernel
theorem dX2_order_6 : decode cX2_order 6 = .ok (.astore_n 3, 1) := by decide +kernel
theorem dX2_order_7 : decode cX2_order 7 = .ok (.aload_n 3, 1) := by decide +kernel
theorem dX2_order_8 : decode cX2_order 8 = .ok (.arraylength, 1) := by decide +kernel
theorem dX2_order_9 : decode cX2_order 9 = .ok (.istore 4, 2) := by decide +kernel
theorem dX2_order_11 : decode cX2_order 11 = .ok (.iconst 0, 1) := by decide +kernel
theorem dX2_order_12 : decode cX2_order 12 = .ok (.istore 5, 2) := by decide +kernel
theorem dX2_order_14 : decode cX2_order 14 = .ok (.iload 5, 2) := by decide +kernel
theorem dX2_order_16 : decode cX2_order 16 = .ok (.iload 4, 2) := by decide +kernel
theorem dX2_order_18 : decode cX2_order 18 = .ok (.if_icmp .ge 31, 3) := by decide +kernel
theorem dX2_order_21 : decode cX2_order 21 = .ok (.aload_n 3, 1) := by decide +kernel
theorem dX2_order_22 : decode cX2_order 22 = .ok (.iload 5, 2) := by decide +kernel
theorem dX2_order_24 : decode cX2_order 24 = .ok (.aaload, 1) := by decide +kernel
theorem dX2_order_25 : decode cX2_order 25 = .ok (.astore 6, 2) := by decide +kernel
theorem dX2_order_27 : decode cX2_order 27 = .ok (.iload_n 2, 1) := by decide +kernel
theorem dX2_order_28 : decode cX2_order 28 = .ok (.aload 6, 2) := by decide +kernel
theorem dX2_order_30 : decode cX2_order 30 = .ok (.iconst 1, 1) := by decide +kernel
theorem dX2_order_31 : decode cX2_order 31 = .ok (.iaload, 1) := by decide +kernel
theorem dX2_order_32 : decode cX2_order 32 = .ok (.iload_n 1, 1) := by decide +kernel
theorem dX2_order_33 : decode cX2_order 33 = .ok (.if_icmp .ne 7, 3) := by decide +kernel
theorem dX2_order_36 : decode cX2_order 36 = .ok (.iconst 1, 1) := by decide +kernel
theorem dX2_order_37 : decode cX2_order 37 = .ok (.goto 4, 3) := by decide +kernel
theorem dX2_order_40 : decode cX2_order 40 = .ok (.iconst 0, 1) := by decide +kernel
theorem dX2_order_41 : decode cX2_order 41 = .ok (.iadd, 1) := by decide +kernel
theorem dX2_order_42 : decode cX2_order 42 = .ok (.istore_n 2, 1) := by decide +kernel
theorem dX2_order_43 : decode cX2_order 43 = .ok (.iinc 5 1, 3) := by decide +kernel
theorem dX2_order_46 : decode cX2_order 46 = .ok (.goto (-32), 3) := by decide +kernel
theorem dX2_order_49 : decode cX2_order 49 = .ok (.iload_n 2, 1) := by decide +kernel
theorem dX2_order_50 : decode cX2_order 50 = .ok (.newarray .int, 2) := by decide +kernel
theorem dX2_order_52 : decode cX2_order 52 = .ok (.astore_n 3, 1) := by decide +kernel
theorem dX2_order_53 : decode cX2_order 53 = .ok (.iconst 0, 1) := by decide +kernel
theorem dX2_order_54 : decode cX2_order 54 = .ok (.istore 4, 2) := by decide +kernel
theorem dX2_order_56 : decode cX2_order 56 = .ok (.iconst 0, 1) := by decide +kernel
theorem dX2_order_57 : decode cX2_order 57 = .ok (.istore 5, 2) := by decide +kernel
theorem dX2_order_59 : decode cX2_order 59 = .ok (.iload 5, 2) := by decide +kernel
theorem dX2_order_61 : decode cX2_order 61 = .ok (.aload_n 0, 1) := by decide +kernel
theorem dX2_order_62 : decode cX2_order 62 = .ok (.getfield 9, 3) := by decide +kernel
theorem dX2_order_65 : decode cX2_order 65 = .ok (.arraylength, 1) := by decide +kernel
theorem dX2_order_66 : decode cX2_order 66 = .ok (.if_icmp .ge 134, 3) := by decide +kernel
theorem dX2_order_69 : decode cX2_order 69 = .ok (.aload_n 0, 1) := by decide +kernel
theorem dX2_order_70 : decode cX2_order 70 = .ok (.getfield 9, 3) := by decide +kernel
theorem dX2_order_73 : decode cX2_order 73 = .ok (.iload 5, 2) := by decide +kernel
theorem dX2_order_75 : decode cX2_order 75 = .ok (.aaload, 1) := by decide +kernel
theorem dX2_order_76 : decode cX2_order 76 = .ok (.iconst 1, 1) := by decide +kernel
theorem dX2_order_77 : decode cX2_order 77 = .ok (.iaload, 1) := by decide +kernel
theorem dX2_order_78 : decode cX2_order 78 = .ok (.iload_n 1, 1) := by decide +kernel
theorem dX2_order_79 : decode cX2_order 79 = .ok (.if_icmp .eq 6, 3) := by decide +kernel
theorem dX2_order_82 : decode cX2_order 82 = .ok (.goto 112, 3) := by decide +kernel
theorem dX2_order_85 : decode cX2_order 85 = .ok (.iload 4, 2) := by decide +kernel
theorem dX2_order_87 : decode cX2_order 87 = .ok (.istore 6, 2) := by decide +kernel
theorem dX2_order_89 : decode cX2_order 89 = .ok (.iload 6, 2) := by decide +kernel
theorem dX2_order_91 : decode cX2_order 91 = .ok (.ifCond .le 94, 3) := by decide +kernel
theorem dX2_order_94 : decode cX2_order 94 = .ok (.aload_n 0, 1) := by decide +kernel
theorem dX2_order_95 : decode cX2_order 95 = .ok (.getfield 9, 3) := by decide +kernel
theorem dX2_order_98 : decode cX2_order 98 = .ok (.aload_n 3, 1) := by decide +kernel
theorem dX2_order_99 : decode cX2_order 99 = .ok (.iload 6, 2) := by decide +kernel
theorem dX2_order_101 : decode cX2_order 101 = .ok (.iconst 1, 1) := by decide +kernel
theorem dX2_order_102 : decode cX2_order 102 = .ok (.isub, 1) := by decide +kernel
theorem dX2_order_103 : decode cX2_order 103 = .ok (.iaload, 1) := by decide +kernel
theorem dX2_order_104 : decode cX2_order 104 = .ok (.aaload, 1) := by decide +kernel
theorem dX2_order_105 : decode cX2_order 105 = .ok (.iconst 2, 1) := by decide +kernel
theorem dX2_order_106 : decode cX2_order 106 = .ok (.iaload, 1) := by decide +kernel
theorem dX2_order_107 : decode cX2_order 107 = .ok (.aload_n 0, 1) := by decide +kernel
theorem dX2_order_108 : decode cX2_order 108 = .ok (.getfield 9, 3) := by decide +kernel
theorem dX2_order_111 : decode cX2_order 111 = .ok (.iload 5, 2) := by decide +kernel
theorem dX2_order_113 : decode cX2_order 113 = .ok (.aaload, 1) := by decide +kernel
theorem dX2_order_114 : decode cX2_order 114 = .ok (.iconst 2, 1) := by decide +kernel
theorem dX2_order_115 : decode cX2_order 115 = .ok (.iaload, 1) := by decide +kernel
theorem dX2_order_116 : decode cX2_order 116 = .ok (.if_icmp .lt 53, 3) := by decide +kernel
theorem dX2_order_119 : decode cX2_order 119 = .ok (.aload_n 0, 1) := by decide +kernel
theorem dX2_order_120 : decode cX2_order 120 = .ok (.getfield 9, 3) := by decide +kernel
theorem dX2_order_123 : decode cX2_order 123 = .ok (.aload_n 3, 1) := by decide +kernel
theorem dX2_order_124 : decode cX2_order 124 = .ok (.iload 6, 2) := by decide +kernel
theorem dX2_order_126 : decode cX2_order 126 = .ok (.iconst 1, 1) := by decide +kernel
theorem dX2_order_127 : decode cX2_order 127 = .ok (.isub, 1) := by decide +kernel
theorem dX2_order_128 : decode cX2_order 128 = .ok (.iaload, 1) := by decide +kernel
theorem dX2_order_129 : decode cX2_order 129 = .ok (.aaload, 1) := by decide +kernel
theorem dX2_order_130 : decode cX2_order 130 = .ok (.iconst 2, 1) := by decide +kernel
theorem dX2_order_131 : decode cX2_order 131 = .ok (.iaload, 1) := by decide +kernel
theorem dX2_order_132 : decode cX2_order 132 = .ok (.aload_n 0, 1) := by decide +kernel
theorem dX2_order_133 : decode cX2_order 133 = .ok (.getfield 9, 3) := by decide +kernel
theorem dX2_order_136 : decode cX2_order 136 = .ok (.iload 5, 2) := by decide +kernel
theorem dX2_order_138 : decode cX2_order 138 = .ok (.aaload, 1) := by decide +kernel
theorem dX2_order_139 : decode cX2_order 139 = .ok (.iconst 2, 1) := by decide +kernel
theorem dX2_order_140 : decode cX2_order 140 = .ok (.iaload, 1) := by decide +kernel
theorem dX2_order_141 : decode cX2_order 141 = .ok (.if_icmp .ne 44, 3) := by decide +kernel
theorem dX2_order_144 : decode cX2_order 144 = .ok (.aload_n 0, 1) := by decide +kernel
theorem dX2_order_145 : decode cX2_order 145 = .ok (.getfield 9, 3) := by decide +kernel
theorem dX2_order_148 : decode cX2_order 148 = .ok (.aload_n 3, 1) := by decide +kernel
theorem dX2_order_149 : decode cX2_order 149 = .ok (.iload 6, 2) := by decide +kernel
theorem dX2_order_151 : decode cX2_order 151 = .ok (.iconst 1, 1) := by decide +kernel
theorem dX2_order_152 : decode cX2_order 152 = .ok (.isub, 1) := by decide +kernel
theorem dX2_order_153 : decode cX2_order 153 = .ok (.iaload, 1) := by decide +kernel
theorem dX2_order_154 : decode cX2_order 154 = .ok (.aaload, 1) := by decide +kernel
theorem dX2_order_155 : decode cX2_order 155 = .ok (.iconst 0, 1) := by decide +kernel
theorem dX2_order_156 : decode cX2_order 156 = .ok (.iaload, 1) := by decide +kernel
theorem dX2_order_157 : decode cX2_order 157 = .ok (.aload_n 0, 1) := by decide +kernel
theorem dX2_order_158 : decode cX2_order 158 = .ok (.getfield 9, 3) := by decide +kernel
theorem dX2_order_161 : decode cX2_order 161 = .ok (.iload 5, 2) := by decide +kernel
theorem dX2_order_163 : decode cX2_order 163 = .ok (.aaload, 1) := by decide +kernel
theorem dX2_order_164 : decode cX2_order 164 = .ok (.iconst 0, 1) := by decide +kernel
theorem dX2_order_165 : decode cX2_order 165 = .ok (.iaload, 1) := by decide +kernel
theorem dX2_order_166 : decode cX2_order 166 = .ok (.if_icmp .ge 19, 3) := by decide +kernel
theorem dX2_order_169 : decode cX2_order 169 = .ok (.aload_n 3, 1) := by decide +kernel
theorem dX2_order_170 : decode cX2_order 170 = .ok (.iload 6, 2) := by decide +kernel
theorem dX2_order_172 : decode cX2_order 172 = .ok (.aload_n 3, 1) := by decide +kernel
theorem dX2_order_173 : decode cX2_order 173 = .ok (.iload 6, 2) := by decide +kernel
theorem dX2_order_175 : decode cX2_order 175 = .ok (.iconst 1, 1) := by decide +kernel
theorem dX2_order_176 : decode cX2_order 176 = .ok (.isub, 1) := by decide +kernel
theorem dX2_order_177 : decode cX2_order 177 = .ok (.iaload, 1) := by decide +kernel
theorem dX2_order_178 : decode cX2_order 178 = .ok (.iastore, 1) := by decide +kernel
theorem dX2_order_179 : decode cX2_order 179 = .ok (.iinc 6 (-1), 3) := by decide +kernel
theorem dX2_order_182 : decode cX2_order 182 = .ok (.goto (-93), 3) := by decide +kernel
theorem dX2_order_185 : decode cX2_order 185 = .ok (.aload_n 3, 1) := by decide +kernel
theorem dX2_order_186 : decode cX2_order 186 = .ok (.iload 6, 2) := by decide +kernel
theorem dX2_order_188 : decode cX2_order 188 = .ok (.iload 5, 2) := by decide +kernel
theorem dX2_order_190 : decode cX2_order 190 = .ok (.iastore, 1) := by decide +kernel
theorem dX2_order_191 : decode cX2_order 191 = .ok (.iinc 4 1, 3) := by decide +kernel
theorem dX2_order_194 : decode cX2_order 194 = .ok (.iinc 5 1, 3) := by decide +kernel
theorem dX2_order_197 : decode cX2_order 197 = .ok (.goto (-138), 3) := by decide +kernel
theorem dX2_order_200 : decode cX2_order 200 = .ok (.aload_n 3, 1) := by decide +kernel
theorem dX2_order_201 : decode cX2_order 201 = .ok (.areturn, 1) := by decide +kernel
set_option maxRecDepth 20000 in
theorem ggX2_end_X2_raise : GoodIn wsX2_end wsX2_raise := goodIn_r _ [7, 1, 13, 14, 15, 16] (by decide +kernel) (by decide +kernel)
set_option maxRecDepth 20000 in
theorem gX2_end_X2_raise : GoodIn wsX2_end (wsV RX2 31 RX2 yX2_raise wsX2_raise) := goodIn_app (goodIn_of _ (by decide +kernel)) ggX2_end_X2_raise
set_option maxRecDepth 20000 in
theorem ggX2_end_X2_order : GoodIn wsX2_end wsX2_order := goodIn_r _ [11, 1, 12, 13, 14, 15, 16] (by decide +kernel) (by decide +kernel)
set_option maxRecDepth 20000 in
theorem gX2_end_X2_order : GoodIn wsX2_end (wsV RX2 41 RX2 yX2_order wsX2_order) := goodIn_app (goodIn_of _ (by decide +kernel)) ggX2_end_X2_order
theorem dX2_end_0 : decode cX2_end 0 = .ok (.iconst 0, 1) := by decide +kernel
theorem dX2_end_1 : decode cX2_end 1 = .ok (.istore_n 1, 1) := by decide +kernel
theorem dX2_end_2 : decode cX2_end 2 = .ok (.iload_n 1, 1) := by decide +kernel
theorem dX2_end_3 : decode cX2_end 3 = .ok (.aload_n 0, 1) := by decide +kernel
theorem dX2_end_4 : decode cX2_end 4 = .ok (.getfield 9, 3) := by decide +kernel
theorem dX2_end_7 : decode cX2_end 7 = .ok (.arraylength, 1) := by decide +kernel
theorem dX2_end_8 : decode cX2_end 8 = .ok (.if_icmp .ge 56, 3) := by decide +kernel
theorem dX2_end_11 : decode cX2_end 11 = .ok (.aload_n 0, 1) := by decide +kernel
theorem dX2_end_12 : decode cX2_end 12 = .ok (.getfield 9, 3) := by decide +kernel
theorem dX2_end_15 : decode cX2_end 15 = .ok (.iload_n 1, 1) := by decide +kernel
theorem dX2_end_16 : decode cX2_end 16 = .ok (.aaload, 1) := by decide +kernel
theorem dX2_end_17 : decode cX2_end 17 = .ok (.iconst 0, 1) := by decide +kernel
theorem dX2_end_18 : decode cX2_end 18 = .ok (.iaload, 1) := by decide +kernel
theorem dX2_end_19 : decode cX2_end 19 = .ok (.sipush 1000, 3) := by decide +kernel
theorem dX2_end_22 : decode cX2_end 22 = .ok (.isub, 1) := by decide +kernel
theorem dX2_end_23 : decode cX2_end 23 = .ok (.istore_n 2, 1) := by decide +kernel
theorem dX2_end_24 : decode cX2_end 24 = .ok (.aload_n 0, 1) := by decide +kernel
theorem dX2_end_25 : decode cX2_end 25 = .ok (.getfield 9, 3) := by decide +kernel
theorem dX2_end_28 : decode cX2_end 28 = .ok (.iload_n 1, 1) := by decide +kernel
theorem dX2_end_29 : decode cX2_end 29 = .ok (.aaload, 1) := by decide +kernel
theorem dX2_end_30 : decode cX2_end 30 = .ok (.iconst 4, 1) := by decide +kernel
theorem dX2_end_31 : decode cX2_end 31 = .ok (.iaload, 1) := by decide +kernel
theorem dX2_end_32 : decode cX2_end 32 = .ok (.iconst 3, 1) := by decide +kernel
theorem dX2_end_33 : decode cX2_end 33 = .ok (.if_icmp .ge 25, 3) := by decide +kernel
theorem dX2_end_36 : decode cX2_end 36 = .ok (.aload_n 0, 1) := by decide +kernel
theorem dX2_end_37 : decode cX2_end 37 = .ok (.iload_n 1, 1) := by decide +kernel
theorem dX2_end_38 : decode cX2_end 38 = .ok (.iload_n 2, 1) := by decide +kernel
theorem dX2_end_39 : decode cX2_end 39 = .ok (.ifCond .ge 11, 3) := by decide +kernel
theorem dX2_end_42 : decode cX2_end 42 = .ok (.iload_n 2, 1) := by decide +kernel
theorem dX2_end_43 : decode cX2_end 43 = .ok (.ineg, 1) := by decide +kernel
theorem dX2_end_44 : decode cX2_end 44 = .ok (.bipush 8, 2) := by decide +kernel
theorem dX2_end_46 : decode cX2_end 46 = .ok (.idiv, 1) := by decide +kernel
theorem dX2_end_47 : decode cX2_end 47 = .ok (.goto 8, 3) := by decide +kernel
theorem dX2_end_50 : decode cX2_end 50 = .ok (.iload_n 2, 1) := by decide +kernel
theorem dX2_end_51 : decode cX2_end 51 = .ok (.bipush 8, 2) := by decide +kernel
theorem dX2_end_53 : decode cX2_end 53 = .ok (.idiv, 1) := by decide +kernel
theorem dX2_end_54 : decode cX2_end 54 = .ok (.ineg, 1) := by decide +kernel
theorem dX2_end_55 : decode cX2_end 55 = .ok (.invokevirtual 31, 3) := by decide +kernel
theorem dX2_end_58 : decode cX2_end 58 = .ok (.iinc 1 1, 3) := by decide +kernel
theorem dX2_end_61 : decode cX2_end 61 = .ok (.goto (-59), 3) := by decide +kernel
theorem dX2_end_64 : decode cX2_end 64 = .ok (.iconst 0, 1) := by decide +kernel
theorem dX2_end_65 : decode cX2_end 65 = .ok (.istore_n 1, 1) := by decide +kernel
theorem dX2_end_66 : decode cX2_end 66 = .ok (.iconst 0, 1) := by decide +kernel
theorem dX2_end_67 : decode cX2_end 67 = .ok (.istore_n 2, 1) := by decide +kernel
theorem dX2_end_68 : decode cX2_end 68 = .ok (.iload_n 2, 1) := by decide +kernel
theorem dX2_end_69 : decode cX2_end 69 = .ok (.iconst 2, 1) := by decide +kernel
theorem dX2_end_70 : decode cX2_end 70 = .ok (.if_icmp .ge 99, 3) := by decide +kernel
theorem dX2_end_73 : decode cX2_end 73 = .ok (.aload_n 0, 1) := by decide +kernel
theorem dX2_end_74 : decode cX2_end 74 = .ok (.iload_n 2, 1) := by decide +kernel
theorem dX2_end_75 : decode cX2_end 75 = .ok (.invokevirtual 41, 3) := by decide +kernel
theorem dX2_end_78 : decode cX2_end 78 = .ok (.astore_n 3, 1) := by decide +kernel
theorem dX2_end_79 : decode cX2_end 79 = .ok (.aload_n 0, 1) := by decide +kernel
theorem dX2_end_80 : decode cX2_end 80 = .ok (.iload_n 2, 1) := by decide +kernel
theorem dX2_end_81 : decode cX2_end 81 = .ok (.iconst 1, 1) := by decide +kernel
theorem dX2_end_82 : decode cX2_end 82 = .ok (.iadd, 1) := by decide +kernel
theorem dX2_end_83 : decode cX2_end 83 = .ok (.invokevirtual 41, 3) := by decide +kernel
theorem dX2_end_86 : decode cX2_end 86 = .ok (.astore 4, 2) := by decide +kernel
theorem dX2_end_88 : decode cX2_end 88 = .ok (.aload_n 3, 1) := by decide +kernel
theorem dX2_end_89 : decode cX2_end 89 = .ok (.arraylength, 1) := by decide +kernel
theorem dX2_end_90 : decode cX2_end 90 = .ok (.ifCond .eq 73, 3) := by decide +kernel
theorem dX2_end_93 : decode cX2_end 93 = .ok (.aload 4, 2) := by decide +kernel
theorem dX2_end_95 : decode cX2_end 95 = .ok (.arraylength, 1) := by decide +kernel
theorem dX2_end_96 : decode cX2_end 96 = .ok (.ifCond .ne 6, 3) := by decide +kernel
theorem dX2_end_99 : decode cX2_end 99 = .ok (.goto 64, 3) := by decide +kernel
theorem dX2_end_102 : decode cX2_end 102 = .ok (.aload_n 3, 1) := by decide +kernel
theorem dX2_end_103 : decode cX2_end 103 = .ok (.aload_n 3, 1) := by decide +kernel
theorem dX2_end_104 : decode cX2_end 104 = .ok (.arraylength, 1) := by decide +kernel
theorem dX2_end_105 : decode cX2_end 105 = .ok (.iconst 1, 1) := by decide +kernel
theorem dX2_end_106 : decode cX2_end 106 = .ok (.isub, 1) := by decide +kernel
theorem dX2_end_107 : decode cX2_end 107 = .ok (.iaload, 1) := by decide +kernel
theorem dX2_end_108 : decode cX2_end 108 = .ok (.istore 5, 2) := by decide +kernel
theorem dX2_end_110 : decode cX2_end 110 = .ok (.aload_n 0, 1) := by decide +kernel
theorem dX2_end_111 : decode cX2_end 111 = .ok (.getfield 9, 3) := by decide +kernel
theorem dX2_end_114 : decode cX2_end 114 = .ok (.aload 4, 2) := by decide +kernel
theorem dX2_end_116 : decode cX2_end 116 = .ok (.iconst 0, 1) := by decide +kernel
theorem dX2_end_117 : decode cX2_end 117 = .ok (.iaload, 1) := by decide +kernel
theorem dX2_end_118 : decode cX2_end 118 = .ok (.aaload, 1) := by decide +kernel
theorem dX2_end_119 : decode cX2_end 119 = .ok (.iconst 2, 1) := by decide +kernel
theorem dX2_end_120 : decode cX2_end 120 = .ok (.iaload, 1) := by decide +kernel
theorem dX2_end_121 : decode cX2_end 121 = .ok (.aload_n 0, 1) := by decide +kernel
theorem dX2_end_122 : decode cX2_end 122 = .ok (.getfield 9, 3) := by decide +kernel
theorem dX2_end_125 : decode cX2_end 125 = .ok (.iload 5, 2) := by decide +kernel
theorem dX2_end_127 : decode cX2_end 127 = .ok (.aaload, 1) := by decide +kernel
theorem dX2_end_128 : decode cX2_end 128 = .ok (.iconst 2, 1) := by decide +kernel
theorem dX2_end_129 : decode cX2_end 129 = .ok (.iaload, 1) := by decide +kernel
theorem dX2_end_130 : decode cX2_end 130 = .ok (.if_icmp .gt 6, 3) := by decide +kernel
theorem dX2_end_133 : decode cX2_end 133 = .ok (.goto 30, 3) := by decide +kernel
theorem dX2_end_136 : decode cX2_end 136 = .ok (.aload_n 0, 1) := by decide +kernel
theorem dX2_end_137 : decode cX2_end 137 = .ok (.getfield 9, 3) := by decide +kernel
theorem dX2_end_140 : decode cX2_end 140 = .ok (.aload 4, 2) := by decide +kernel
theorem dX2_end_142 : decode cX2_end 142 = .ok (.iconst 0, 1) := by decide +kernel
theorem dX2_end_143 : decode cX2_end 143 = .ok (.iaload, 1) := by decide +kernel
theorem dX2_end_144 : decode cX2_end 144 = .ok (.aaload, 1) := by decide +kernel
theorem dX2_end_145 : decode cX2_end 145 = .ok (.iconst 1, 1) := by decide +kernel
theorem dX2_end_146 : decode cX2_end 146 = .ok (.iload_n 2, 1) := by decide +kernel
theorem dX2_end_147 : decode cX2_end 147 = .ok (.iastore, 1) := by decide +kernel
theorem dX2_end_148 : decode cX2_end 148 = .ok (.aload_n 0, 1) := by decide +kernel
theorem dX2_end_149 : decode cX2_end 149 = .ok (.getfield 9, 3) := by decide +kernel
theorem dX2_end_152 : decode cX2_end 152 = .ok (.iload 5, 2) := by decide +kernel
theorem dX2_end_154 : decode cX2_end 154 = .ok (.aaload, 1) := by decide +kernel
theorem dX2_end_155 : decode cX2_end 155 = .ok (.iconst 1, 1) := by decide +kernel
theorem dX2_end_156 : decode cX2_end 156 = .ok (.iload_n 2, 1) := by decide +kernel
theorem dX2_end_157 : decode cX2_end 157 = .ok (.iconst 1, 1) := by decide +kernel
theorem dX2_end_158 : decode cX2_end 158 = .ok (.iadd, 1) := by decide +kernel
theorem dX2_end_159 : decode cX2_end 159 = .ok (.iastore, 1) := by decide +kernel
theorem dX2_end_160 : decode cX2_end 160 = .ok (.iinc 1 1, 3) := by decide +kernel
theorem dX2_end_163 : decode cX2_end 163 = .ok (.iinc 2 1, 3) := by decide +kernel
theorem dX2_end_166 : decode cX2_end 166 = .ok (.goto (-98), 3) := by decide +kernel
theorem dX2_end_169 : decode cX2_end 169 = .ok (.aload_n 0, 1) := by decide +kernel
theorem dX2_end_170 : decode cX2_end 170 = .ok (.getfield 9, 3) := by decide +kernel
theorem dX2_end_173 : decode cX2_end 173 = .ok (.astore_n 2, 1) := by decide +kernel
theorem dX2_end_174 : decode cX2_end 174 = .ok (.aload_n 2, 1) := by decide +kernel
theorem dX2_end_175 : decode cX2_end 175 = .ok (.arraylength, 1) := by decide +kernel
theorem dX2_end_176 : decode cX2_end 176 = .ok (.istore_n 3, 1) := by decide +kernel
theorem dX2_end_177 : decode cX2_end 177 = .ok (.iconst 0, 1) := by decide +kernel
theorem dX2_end_178 : decode cX2_end 178 = .ok (.istore 4, 2) := by decide +kernel
theorem dX2_end_180 : decode cX2_end 180 = .ok (.iload 4, 2) := by decide +kernel
theorem dX2_end_182 : decode cX2_end 182 = .ok (.iload_n 3, 1) := by decide +kernel
theorem dX2_end_183 : decode cX2_end 183 = .ok (.if_icmp .ge 25, 3) := by decide +kernel
theorem dX2_end_186 : decode cX2_end 186 = .ok (.aload_n 2, 1) := by decide +kernel
theorem dX2_end_187 : decode cX2_end 187 = .ok (.iload 4, 2) := by decide +kernel
theorem dX2_end_189 : decode cX2_end 189 = .ok (.aaload, 1) := by decide +kernel
theorem dX2_end_190 : decode cX2_end 190 = .ok (.astore 5, 2) := by decide +kernel
theorem dX2_end_192 : decode cX2_end 192 = .ok (.aload 5, 2) := by decide +kernel
theorem dX2_end_194 : decode cX2_end 194 = .ok (.iconst 2, 1) := by decide +kernel
theorem dX2_end_195 : decode cX2_end 195 = .ok (.iconst 0, 1) := by decide +kernel
theorem dX2_end_196 : decode cX2_end 196 = .ok (.iastore, 1) := by decide +kernel
theorem dX2_end_197 : decode cX2_end 197 = .ok (.aload 5, 2) := by decide +kernel
theorem dX2_end_199 : decode cX2_end 199 = .ok (.iconst 4, 1) := by decide +kernel
theorem dX2_end_200 : decode cX2_end 200 = .ok (.iconst 0, 1) := by decide +kernel
theorem dX2_end_201 : decode cX2_end 201 = .ok (.iastore, 1) := by decide +kernel
theorem dX2_end_202 : decode cX2_end 202 = .ok (.iinc 4 1, 3) := by decide +kernel
theorem dX2_end_205 : decode cX2_end 205 = .ok (.goto (-25), 3) := by decide +kernel
theorem dX2_end_208 : decode cX2_end 208 = .ok (.aload_n 0, 1) := by decide +kernel
theorem dX2_end_209 : decode cX2_end 209 = .ok (.dup, 1) := by decide +kernel
theorem dX2_end_210 : decode cX2_end 210 = .ok (.getfield 45, 3) := by decide +kernel
theorem dX2_end_213 : decode cX2_end 213 = .ok (.iconst 1, 1) := by decide +kernel
theorem dX2_end_214 : decode cX2_end 214 = .ok (.iadd, 1) := by decide +kernel
theorem dX2_end_215 : decode cX2_end 215 = .ok (.putfield 45, 3) := by decide +kernel
theorem dX2_end_218 : decode cX2_end 218 = .ok (.iload_n 1, 1) := by decide +kernel
theorem dX2_end_219 : decode cX2_end 219 = .ok (.ireturn, 1) := by decide +kernel
set_option maxRecDepth 20000 in
theorem ggX2_off_X2_expected : GoodIn wsX2_off wsX2_expected := goodIn_r _ [5, 6, 7, 1, 2, 3, 4, 8, 9, 10, 11] (by decide +kernel) (by decide +kernel)
set_option maxRecDepth 20000 in
theorem gX2_off_X2_expected : GoodIn wsX2_off (wsV RX2 15 RX2 yX2_expected wsX2_expected) := goodIn_app (goodIn_of _ (by decide +kernel)) ggX2_off_X2_expected
theorem dX2_off_0 : decode cX2_off 0 = .ok (.aload_n 0, 1) := by decide +kernel
theorem dX2_off_1 : decode cX2_off 1 = .ok (.iload_n 1, 1) := by decide +kernel
theorem dX2_off_2 : decode cX2_off 2 = .ok (.iload_n 2, 1) := by decide +kernel
theorem dX2_off_3 : decode cX2_off 3 = .ok (.invokevirtual 15, 3) := by decide +kernel
theorem dX2_off_6 : decode cX2_off 6 = .ok (.istore_n 3, 1) := by decide +kernel
theorem dX2_off_7 : decode cX2_off 7 = .ok (.iload_n 3, 1) := by decide +kernel
theorem dX2_off_8 : decode cX2_off 8 = .ok (.sipush 500, 3) := by decide +kernel
theorem dX2_off_11 : decode cX2_off 11 = .ok (.if_icmp .le 11, 3) := by decide +kernel
theorem dX2_off_14 : decode cX2_off 14 = .ok (.iload_n 3, 1) := by decide +kernel
theorem dX2_off_15 : decode cX2_off 15 = .ok (.sipush 500, 3) := by decide +kernel
theorem dX2_off_18 : decode cX2_off 18 = .ok (.isub, 1) := by decide +kernel
theorem dX2_off_19 : decode cX2_off 19 = .ok (.goto 8, 3) := by decide +kernel
theorem dX2_off_22 : decode cX2_off 22 = .ok (.sipush 500, 3) := by decide +kernel
theorem dX2_off_25 : decode cX2_off 25 = .ok (.iload_n 3, 1) := by decide +kernel
theorem dX2_off_26 : decode cX2_off 26 = .ok (.isub, 1) := by decide +kernel
theorem dX2_off_27 : decode cX2_off 27 = .ok (.ireturn, 1) := by decide +kernel
set_option maxRecDepth 20000 in
theorem ggX2_match_X2_off : GoodIn wsX2_match wsX2_off := goodIn_r _ [6, 7, 8, 9, 5, 10, 1, 11, 12, 13, 14, 15] (by decide +kernel) (by decide +kernel)
set_option maxRecDepth 20000 in
theorem gX2_match_X2_off : GoodIn wsX2_match (wsV RX2 48 RX2 yX2_off wsX2_off) := goodIn_app (goodIn_of _ (by decide +kernel)) ggX2_match_X2_off
theorem dX2_match_0 : decode cX2_match 0 = .ok (.iconst (-1), 1) := by decide +kernel
theorem dX2_match_1 : decode cX2_match 1 = .ok (.istore_n 2, 1) := by decide +kernel
theorem dX2_match_2 : decode cX2_match 2 = .ok (.aload_n 0, 1) := by decide +kernel
theorem dX2_match_3 : decode cX2_match 3 = .ok (.getfield 9, 3) := by decide +kernel
theorem dX2_match_6 : decode cX2_match 6 = .ok (.arraylength, 1) := by decide +kernel
theorem dX2_match_7 : decode cX2_match 7 = .ok (.iconst 1, 1) := by decide +kernel
theorem dX2_match_8 : decode cX2_match 8 = .ok (.isub, 1) := by decide +kernel
theorem dX2_match_9 : decode cX2_match 9 = .ok (.istore_n 3, 1) := by decide +kernel
theorem dX2_match_10 : decode cX2_match 10 = .ok (.iload_n 3, 1) := by decide +kernel
theorem dX2_match_11 : decode cX2_match 11 = .ok (.ifCond .lt 54, 3) := by decide +kernel
theorem dX2_match_14 : decode cX2_match 14 = .ok (.iload_n 3, 1) := by decide +kernel
theorem dX2_match_15 : decode cX2_match 15 = .ok (.iload_n 1, 1) := by decide +kernel
theorem dX2_match_16 : decode cX2_match 16 = .ok (.if_icmp .eq 43, 3) := by decide +kernel
theorem dX2_match_19 : decode cX2_match 19 = .ok (.aload_n 0, 1) := by decide +kernel
theorem dX2_match_20 : decode cX2_match 20 = .ok (.getfield 9, 3) := by decide +kernel
theorem dX2_match_23 : decode cX2_match 23 = .ok (.iload_n 3, 1) := by decide +kernel
theorem dX2_match_24 : decode cX2_match 24 = .ok (.aaload, 1) := by decide +kernel
theorem dX2_match_25 : decode cX2_match 25 = .ok (.iconst 1, 1) := by decide +kernel
theorem dX2_match_26 : decode cX2_match 26 = .ok (.iaload, 1) := by decide +kernel
theorem dX2_match_27 : decode cX2_match 27 = .ok (.aload_n 0, 1) := by decide +kernel
theorem dX2_match_28 : decode cX2_match 28 = .ok (.getfield 9, 3) := by decide +kernel
theorem dX2_match_31 : decode cX2_match 31 = .ok (.iload_n 1, 1) := by decide +kernel
