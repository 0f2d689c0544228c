theorem dX1_digest_3 : decode cX1_digest 3 = .ok (.lstore_n 1, 1) := by decide +kernel
theorem dX1_digest_4 : decode cX1_digest 4 = .ok (.iconst 0, 1) := by decide +kernel
theorem dX1_digest_5 : decode cX1_digest 5 = .ok (.istore_n 3, 1) := by decide +kernel
theorem dX1_digest_6 : decode cX1_digest 6 = .ok (.iload_n 3, 1) := by decide +kernel
theorem dX1_digest_7 : decode cX1_digest 7 = .ok (.bipush 9, 2) := by decide +kernel
theorem dX1_digest_9 : decode cX1_digest 9 = .ok (.if_icmp .ge 22, 3) := by decide +kernel
theorem dX1_digest_12 : decode cX1_digest 12 = .ok (.lload_n 1, 1) := by decide +kernel
theorem dX1_digest_13 : decode cX1_digest 13 = .ok (.ldc2_w 176, 3) := by decide +kernel
theorem dX1_digest_16 : decode cX1_digest 16 = .ok (.lmul, 1) := by decide +kernel
theorem dX1_digest_17 : decode cX1_digest 17 = .ok (.aload_n 0, 1) := by decide +kernel
theorem dX1_digest_18 : decode cX1_digest 18 = .ok (.iload_n 3, 1) := by decide +kernel
theorem dX1_digest_19 : decode cX1_digest 19 = .ok (.invokevirtual 178, 3) := by decide +kernel
theorem dX1_digest_22 : decode cX1_digest 22 = .ok (.i2l, 1) := by decide +kernel
theorem dX1_digest_23 : decode cX1_digest 23 = .ok (.ladd, 1) := by decide +kernel
theorem dX1_digest_24 : decode cX1_digest 24 = .ok (.lstore_n 1, 1) := by decide +kernel
theorem dX1_digest_25 : decode cX1_digest 25 = .ok (.iinc 3 1, 3) := by decide +kernel
theorem dX1_digest_28 : decode cX1_digest 28 = .ok (.goto (-22), 3) := by decide +kernel
theorem dX1_digest_31 : decode cX1_digest 31 = .ok (.iconst 0, 1) := by decide +kernel
theorem dX1_digest_32 : decode cX1_digest 32 = .ok (.istore_n 3, 1) := by decide +kernel
theorem dX1_digest_33 : decode cX1_digest 33 = .ok (.iload_n 3, 1) := by decide +kernel
theorem dX1_digest_34 : decode cX1_digest 34 = .ok (.aload_n 0, 1) := by decide +kernel
theorem dX1_digest_35 : decode cX1_digest 35 = .ok (.getfield 10, 3) := by decide +kernel
theorem dX1_digest_38 : decode cX1_digest 38 = .ok (.invokevirtual 131, 3) := by decide +kernel
theorem dX1_digest_41 : decode cX1_digest 41 = .ok (.if_icmp .ge 40, 3) := by decide +kernel
theorem dX1_digest_44 : decode cX1_digest 44 = .ok (.iconst 0, 1) := by decide +kernel
theorem dX1_digest_45 : decode cX1_digest 45 = .ok (.istore 4, 2) := by decide +kernel
theorem dX1_digest_47 : decode cX1_digest 47 = .ok (.iload 4, 2) := by decide +kernel
theorem dX1_digest_49 : decode cX1_digest 49 = .ok (.bipush 9, 2) := by decide +kernel
theorem dX1_digest_51 : decode cX1_digest 51 = .ok (.if_icmp .ge 24, 3) := by decide +kernel
theorem dX1_digest_54 : decode cX1_digest 54 = .ok (.lload_n 1, 1) := by decide +kernel
theorem dX1_digest_55 : decode cX1_digest 55 = .ok (.ldc2_w 176, 3) := by decide +kernel
theorem dX1_digest_58 : decode cX1_digest 58 = .ok (.lmul, 1) := by decide +kernel
theorem dX1_digest_59 : decode cX1_digest 59 = .ok (.aload_n 0, 1) := by decide +kernel
theorem dX1_digest_60 : decode cX1_digest 60 = .ok (.iload_n 3, 1) := by decide +kernel
theorem dX1_digest_61 : decode cX1_digest 61 = .ok (.iload 4, 2) := by decide +kernel
theorem dX1_digest_63 : decode cX1_digest 63 = .ok (.invokevirtual 181, 3) := by decide +kernel
theorem dX1_digest_66 : decode cX1_digest 66 = .ok (.i2l, 1) := by decide +kernel
theorem dX1_digest_67 : decode cX1_digest 67 = .ok (.ladd, 1) := by decide +kernel
theorem dX1_digest_68 : decode cX1_digest 68 = .ok (.lstore_n 1, 1) := by decide +kernel
theorem dX1_digest_69 : decode cX1_digest 69 = .ok (.iinc 4 1, 3) := by decide +kernel
theorem dX1_digest_72 : decode cX1_digest 72 = .ok (.goto (-25), 3) := by decide +kernel
theorem dX1_digest_75 : decode cX1_digest 75 = .ok (.iinc 3 1, 3) := by decide +kernel
theorem dX1_digest_78 : decode cX1_digest 78 = .ok (.goto (-45), 3) := by decide +kernel
theorem dX1_digest_81 : decode cX1_digest 81 = .ok (.lload_n 1, 1) := by decide +kernel
theorem dX1_digest_82 : decode cX1_digest 82 = .ok (.ldc2_w 176, 3) := by decide +kernel
theorem dX1_digest_85 : decode cX1_digest 85 = .ok (.lmul, 1) := by decide +kernel
theorem dX1_digest_86 : decode cX1_digest 86 = .ok (.aload_n 0, 1) := by decide +kernel
theorem dX1_digest_87 : decode cX1_digest 87 = .ok (.invokevirtual 184, 3) := by decide +kernel
theorem dX1_digest_90 : decode cX1_digest 90 = .ok (.i2l, 1) := by decide +kernel
theorem dX1_digest_91 : decode cX1_digest 91 = .ok (.ladd, 1) := by decide +kernel
theorem dX1_digest_92 : decode cX1_digest 92 = .ok (.lreturn, 1) := by decide +kernel
set_option maxRecDepth 20000 in
theorem ggX1_checkWrestler_X0_has : GoodIn wsX1_checkWrestler wsX0_has := goodIn_r _ [8, 9, 16, 17, 18, 19, 20, 21, 22, 23] (by decide +kernel) (by decide +kernel)
set_option maxRecDepth 20000 in
theorem gX1_checkWrestler_X0_has : GoodIn wsX1_checkWrestler (wsV RX1 187 RX0 yX0_has wsX0_has) := goodIn_app (goodIn_of _ (by decide +kernel)) ggX1_checkWrestler_X0_has
theorem dX1_checkWrestler_0 : decode cX1_checkWrestler 0 = .ok (.aload_n 0, 1) := by decide +kernel
theorem dX1_checkWrestler_1 : decode cX1_checkWrestler 1 = .ok (.getfield 10, 3) := by decide +kernel
theorem dX1_checkWrestler_4 : decode cX1_checkWrestler 4 = .ok (.iload_n 1, 1) := by decide +kernel
theorem dX1_checkWrestler_5 : decode cX1_checkWrestler 5 = .ok (.invokevirtual 187, 3) := by decide +kernel
theorem dX1_checkWrestler_8 : decode cX1_checkWrestler 8 = .ok (.ifCond .ne 13, 3) := by decide +kernel
theorem dX1_checkWrestler_11 : decode cX1_checkWrestler 11 = .ok (.new 121, 3) := by decide +kernel
theorem dX1_checkWrestler_14 : decode cX1_checkWrestler 14 = .ok (.dup, 1) := by decide +kernel
theorem dX1_checkWrestler_15 : decode cX1_checkWrestler 15 = .ok (.ldc 190, 2) := by decide +kernel
theorem dX1_checkWrestler_17 : decode cX1_checkWrestler 17 = .ok (.invokespecial 125, 3) := by decide +kernel
theorem dX1_checkWrestler_20 : decode cX1_checkWrestler 20 = .ok (.athrow, 1) := by decide +kernel
theorem dX1_checkWrestler_21 : decode cX1_checkWrestler 21 = .ok (.return_, 1) := by decide +kernel
theorem dX1_checkDifferent_0 : decode cX1_checkDifferent 0 = .ok (.iload_n 0, 1) := by decide +kernel
theorem dX1_checkDifferent_1 : decode cX1_checkDifferent 1 = .ok (.iload_n 1, 1) := by decide +kernel
theorem dX1_checkDifferent_2 : decode cX1_checkDifferent 2 = .ok (.if_icmp .ne 13, 3) := by decide +kernel
theorem dX1_checkDifferent_5 : decode cX1_checkDifferent 5 = .ok (.new 27, 3) := by decide +kernel
theorem dX1_checkDifferent_8 : decode cX1_checkDifferent 8 = .ok (.dup, 1) := by decide +kernel
theorem dX1_checkDifferent_9 : decode cX1_checkDifferent 9 = .ok (.ldc 192, 2) := by decide +kernel
theorem dX1_checkDifferent_11 : decode cX1_checkDifferent 11 = .ok (.invokespecial 31, 3) := by decide +kernel
theorem dX1_checkDifferent_14 : decode cX1_checkDifferent 14 = .ok (.athrow, 1) := by decide +kernel
theorem dX1_checkDifferent_15 : decode cX1_checkDifferent 15 = .ok (.return_, 1) := by decide +kernel
theorem dX1_checkResult_0 : decode cX1_checkResult 0 = .ok (.iload_n 0, 1) := by decide +kernel
theorem dX1_checkResult_1 : decode cX1_checkResult 1 = .ok (.ifCond .lt 8, 3) := by decide +kernel
theorem dX1_checkResult_4 : decode cX1_checkResult 4 = .ok (.iload_n 0, 1) := by decide +kernel
theorem dX1_checkResult_5 : decode cX1_checkResult 5 = .ok (.iconst 2, 1) := by decide +kernel
theorem dX1_checkResult_6 : decode cX1_checkResult 6 = .ok (.if_icmp .le 13, 3) := by decide +kernel
theorem dX1_checkResult_9 : decode cX1_checkResult 9 = .ok (.new 27, 3) := by decide +kernel
theorem dX1_checkResult_12 : decode cX1_checkResult 12 = .ok (.dup, 1) := by decide +kernel
theorem dX1_checkResult_13 : decode cX1_checkResult 13 = .ok (.ldc 194, 2) := by decide +kernel
theorem dX1_checkResult_15 : decode cX1_checkResult 15 = .ok (.invokespecial 31, 3) := by decide +kernel
theorem dX1_checkResult_18 : decode cX1_checkResult 18 = .ok (.athrow, 1) := by decide +kernel
theorem dX1_checkResult_19 : decode cX1_checkResult 19 = .ok (.return_, 1) := by decide +kernel
theorem dX1_isLeague_0 : decode cX1_isLeague 0 = .ok (.iload_n 0, 1) := by decide +kernel
theorem dX1_isLeague_1 : decode cX1_isLeague 1 = .ok (.ifCond .lt 12, 3) := by decide +kernel
theorem dX1_isLeague_4 : decode cX1_isLeague 4 = .ok (.iload_n 0, 1) := by decide +kernel
theorem dX1_isLeague_5 : decode cX1_isLeague 5 = .ok (.iconst 3, 1) := by decide +kernel
theorem dX1_isLeague_6 : decode cX1_isLeague 6 = .ok (.if_icmp .ge 7, 3) := by decide +kernel
theorem dX1_isLeague_9 : decode cX1_isLeague 9 = .ok (.iconst 1, 1) := by decide +kernel
theorem dX1_isLeague_10 : decode cX1_isLeague 10 = .ok (.goto 4, 3) := by decide +kernel
theorem dX1_isLeague_13 : decode cX1_isLeague 13 = .ok (.iconst 0, 1) := by decide +kernel
theorem dX1_isLeague_14 : decode cX1_isLeague 14 = .ok (.ireturn, 1) := by decide +kernel
theorem dX2_init_0 : decode cX2_init 0 = .ok (.aload_n 0, 1) := by decide +kernel
theorem dX2_init_1 : decode cX2_init 1 = .ok (.invokespecial 1, 3) := by decide +kernel
theorem dX2_init_4 : decode cX2_init 4 = .ok (.aload_n 0, 1) := by decide +kernel
theorem dX2_init_5 : decode cX2_init 5 = .ok (.iconst 0, 1) := by decide +kernel
theorem dX2_init_6 : decode cX2_init 6 = .ok (.anewarray 7, 3) := by decide +kernel
theorem dX2_init_9 : decode cX2_init 9 = .ok (.putfield 9, 3) := by decide +kernel
theorem dX2_init_12 : decode cX2_init 12 = .ok (.return_, 1) := by decide +kernel
set_option maxRecDepth 20000 in
theorem ggX2_expected_X2_expected : GoodIn wsX2_expected wsX2_expected := goodIn_r _ [0, 1, 2, 3, 4, 5, 6, 7, 8, 9, 10] (by decide +kernel) (by decide +kernel)
set_option maxRecDepth 20000 in
theorem gX2_expected_X2_expected : GoodIn wsX2_expected (wsV RX2 15 RX2 yX2_expected wsX2_expected) := goodIn_app (goodIn_of _ (by decide +kernel)) ggX2_expected_X2_expected
theorem dX2_expected_0 : decode cX2_expected 0 = .ok (.aload_n 0, 1) := by decide +kernel
theorem dX2_expected_1 : decode cX2_expected 1 = .ok (.getfield 9, 3) := by decide +kernel
theorem dX2_expected_4 : decode cX2_expected 4 = .ok (.iload_n 1, 1) := by decide +kernel
theorem dX2_expected_5 : decode cX2_expected 5 = .ok (.aaload, 1) := by decide +kernel
theorem dX2_expected_6 : decode cX2_expected 6 = .ok (.iconst 0, 1) := by decide +kernel
theorem dX2_expected_7 : decode cX2_expected 7 = .ok (.iaload, 1) := by decide +kernel
theorem dX2_expected_8 : decode cX2_expected 8 = .ok (.aload_n 0, 1) := by decide +kernel
theorem dX2_expected_9 : decode cX2_expected 9 = .ok (.getfield 9, 3) := by decide +kernel
theorem dX2_expected_12 : decode cX2_expected 12 = .ok (.iload_n 2, 1) := by decide +kernel
theorem dX2_expected_13 : decode cX2_expected 13 = .ok (.aaload, 1) := by decide +kernel
theorem dX2_expected_14 : decode cX2_expected 14 = .ok (.iconst 0, 1) := by decide +kernel
theorem dX2_expected_15 : decode cX2_expected 15 = .ok (.iaload, 1) := by decide +kernel
theorem dX2_expected_16 : decode cX2_expected 16 = .ok (.isub, 1) := by decide +kernel
theorem dX2_expected_17 : decode cX2_expected 17 = .ok (.istore_n 3, 1) := by decide +kernel
theorem dX2_expected_18 : decode cX2_expected 18 = .ok (.iload_n 3, 1) := by decide +kernel
theorem dX2_expected_19 : decode cX2_expected 19 = .ok (.ifCond .ge 14, 3) := by decide +kernel
theorem dX2_expected_22 : decode cX2_expected 22 = .ok (.sipush 1000, 3) := by decide +kernel
theorem dX2_expected_25 : decode cX2_expected 25 = .ok (.aload_n 0, 1) := by decide +kernel
theorem dX2_expected_26 : decode cX2_expected 26 = .ok (.iload_n 2, 1) := by decide +kernel
theorem dX2_expected_27 : decode cX2_expected 27 = .ok (.iload_n 1, 1) := by decide +kernel
theorem dX2_expected_28 : decode cX2_expected 28 = .ok (.invokevirtual 15, 3) := by decide +kernel
theorem dX2_expected_31 : decode cX2_expected 31 = .ok (.isub, 1) := by decide +kernel
theorem dX2_expected_32 : decode cX2_expected 32 = .ok (.ireturn, 1) := by decide +kernel
theorem dX2_expected_33 : decode cX2_expected 33 = .ok (.bipush 9, 2) := by decide +kernel
theorem dX2_expected_35 : decode cX2_expected 35 = .ok (.newarray .int, 2) := by decide +kernel
theorem dX2_expected_37 : decode cX2_expected 37 = .ok (.dup, 1) := by decide +kernel
theorem dX2_expected_38 : decode cX2_expected 38 = .ok (.iconst 0, 1) := by decide +kernel
theorem dX2_expected_39 : decode cX2_expected 39 = .ok (.sipush 500, 3) := by decide +kernel
theorem dX2_expected_42 : decode cX2_expected 42 = .ok (.iastore, 1) := by decide +kernel
theorem dX2_expected_43 : decode cX2_expected 43 = .ok (.dup, 1) := by decide +kernel
theorem dX2_expected_44 : decode cX2_expected 44 = .ok (.iconst 1, 1) := by decide +kernel
theorem dX2_expected_45 : decode cX2_expected 45 = .ok (.sipush 640, 3) := by decide +kernel
theorem dX2_expected_48 : decode cX2_expected 48 = .ok (.iastore, 1) := by decide +kernel
theorem dX2_expected_49 : decode cX2_expected 49 = .ok (.dup, 1) := by decide +kernel
theorem dX2_expected_50 : decode cX2_expected 50 = .ok (.iconst 2, 1) := by decide +kernel
theorem dX2_expected_51 : decode cX2_expected 51 = .ok (.sipush 760, 3) := by decide +kernel
theorem dX2_expected_54 : decode cX2_expected 54 = .ok (.iastore, 1) := by decide +kernel
theorem dX2_expected_55 : decode cX2_expected 55 = .ok (.dup, 1) := by decide +kernel
theorem dX2_expected_56 : decode cX2_expected 56 = .ok (.iconst 3, 1) := by decide +kernel
theorem dX2_expected_57 : decode cX2_expected 57 = .ok (.sipush 849, 3) := by decide +kernel
theorem dX2_expected_60 : decode cX2_expected 60 = .ok (.iastore, 1) := by decide +kernel
theorem dX2_expected_61 : decode cX2_expected 61 = .ok (.dup, 1) := by decide +kernel
theorem dX2_expected_62 : decode cX2_expected 62 = .ok (.iconst 4, 1) := by decide +kernel
theorem dX2_expected_63 : decode cX2_expected 63 = .ok (.sipush 909, 3) := by decide +kernel
theorem dX2_expected_66 : decode cX2_expected 66 = .ok (.iastore, 1) := by decide +kernel
theorem dX2_expected_67 : decode cX2_expected 67 = .ok (.dup, 1) := by decide +kernel
theorem dX2_expected_68 : decode cX2_expected 68 = .ok (.iconst 5, 1) := by decide +kernel
theorem dX2_expected_69 : decode cX2_expected 69 = .ok (.sipush 947, 3) := by decide +kernel
theorem dX2_expected_72 : decode cX2_expected 72 = .ok (.iastore, 1) := by decide +kernel
theorem dX2_expected_73 : decode cX2_expected 73 = .ok (.dup, 1) := by decide +kernel
theorem dX2_expected_74 : decode cX2_expected 74 = .ok (.bipush 6, 2) := by decide +kernel
theorem dX2_expected_76 : decode cX2_expected 76 = .ok (.sipush 969, 3) := by decide +kernel
theorem dX2_expected_79 : decode cX2_expected 79 = .ok (.iastore, 1) := by decide +kernel
theorem dX2_expected_80 : decode cX2_expected 80 = .ok (.dup, 1) := by decide +kernel
theorem dX2_expected_81 : decode cX2_expected 81 = .ok (.bipush 7, 2) := by decide +kernel
theorem dX2_expected_83 : decode cX2_expected 83 = .ok (.sipush 983, 3) := by decide +kernel
theorem dX2_expected_86 : decode cX2_expected 86 = .ok (.iastore, 1) := by decide +kernel
theorem dX2_expected_87 : decode cX2_expected 87 = .ok (.dup, 1) := by decide +kernel
theorem dX2_expected_88 : decode cX2_expected 88 = .ok (.bipush 8, 2) := by decide +kernel
theorem dX2_expected_90 : decode cX2_expected 90 = .ok (.sipush 990, 3) := by decide +kernel
theorem dX2_expected_93 : decode cX2_expected 93 = .ok (.iastore, 1) := by decide +kernel
theorem dX2_expected_94 : decode cX2_expected 94 = .ok (.astore 4, 2) := by decide +kernel
theorem dX2_expected_96 : decode cX2_expected 96 = .ok (.iload_n 3, 1) := by decide +kernel
theorem dX2_expected_97 : decode cX2_expected 97 = .ok (.sipush 800, 3) := by decide +kernel
theorem dX2_expected_100 : decode cX2_expected 100 = .ok (.if_icmp .lt 7, 3) := by decide +kernel
theorem dX2_expected_103 : decode cX2_expected 103 = .ok (.sipush 990, 3) := by decide +kernel
theorem dX2_expected_106 : decode cX2_expected 106 = .ok (.ireturn, 1) := by decide +kernel
theorem dX2_expected_107 : decode cX2_expected 107 = .ok (.aload 4, 2) := by decide +kernel
theorem dX2_expected_109 : decode cX2_expected 109 = .ok (.iload_n 3, 1) := by decide +kernel
theorem dX2_expected_110 : decode cX2_expected 110 = .ok (.bipush 100, 2) := by decide +kernel
theorem dX2_expected_112 : decode cX2_expected 112 = .ok (.idiv, 1) := by decide +kernel
theorem dX2_expected_113 : decode cX2_expected 113 = .ok (.iaload, 1) := by decide +kernel
theorem dX2_expected_114 : decode cX2_expected 114 = .ok (.istore 5, 2) := by decide +kernel
theorem dX2_expected_116 : decode cX2_expected 116 = .ok (.aload 4, 2) := by decide +kernel
theorem dX2_expected_118 : decode cX2_expected 118 = .ok (.iload_n 3, 1) := by decide +kernel
theorem dX2_expected_119 : decode cX2_expected 119 = .ok (.bipush 100, 2) := by decide +kernel
theorem dX2_expected_121 : decode cX2_expected 121 = .ok (.idiv, 1) := by decide +kernel
theorem dX2_expected_122 : decode cX2_expected 122 = .ok (.iconst 1, 1) := by decide +kernel
theorem dX2_expected_123 : decode cX2_expected 123 = .ok (.iadd, 1) := by decide +kernel
theorem dX2_expected_124 : decode cX2_expected 124 = .ok (.iaload, 1) := by decide +kernel
theorem dX2_expected_125 : decode cX2_expected 125 = .ok (.iload 5, 2) := by decide +kernel
theorem dX2_expected_127 : decode cX2_expected 127 = .ok (.isub, 1) := by decide +kernel
theorem dX2_expected_128 : decode cX2_expected 128 = .ok (.istore 6, 2) := by decide +kernel
theorem dX2_expected_130 : decode cX2_expected 130 = .ok (.iload 5, 2) := by decide +kernel
theorem dX2_expected_132 : decode cX2_expected 132 = .ok (.iload 6, 2) := by decide +kernel
theorem dX2_expected_134 : decode cX2_expected 134 = .ok (.iload_n 3, 1) := by decide +kernel
theorem dX2_expected_135 : decode cX2_expected 135 = .ok (.iload_n 3, 1) := by decide +kernel
theorem dX2_expected_136 : decode cX2_expected 136 = .ok (.bipush 100, 2) := by decide +kernel
theorem dX2_expected_138 : decode cX2_expected 138 = .ok (.idiv, 1) := by decide +kernel
theorem dX2_expected_139 : decode cX2_expected 139 = .ok (.bipush 100, 2) := by decide +kernel
theorem dX2_expected_141 : decode cX2_expected 141 = .ok (.imul, 1) := by decide +kernel
theorem dX2_expected_142 : decode cX2_expected 142 = .ok (.isub, 1) := by decide +kernel
theorem dX2_expected_143 : decode cX2_expected 143 = .ok (.imul, 1) := by decide +kernel
theorem dX2_expected_144 : decode cX2_expected 144 = .ok (.bipush 100, 2) := by decide +kernel
theorem dX2_expected_146 : decode cX2_expected 146 = .ok (.idiv, 1) := by decide +kernel
theorem dX2_expected_147 : decode cX2_expected 147 = .ok (.iadd, 1) := by decide +kernel
theorem dX2_expected_148 : decode cX2_expected 148 = .ok (.ireturn, 1) := by decide +kernel
theorem dX2_weight_0 : decode cX2_weight 0 = .ok (.aload_n 0, 1) := by decide +kernel
theorem dX2_weight_1 : decode cX2_weight 1 = .ok (.getfield 9, 3) := by decide +kernel
theorem dX2_weight_4 : decode cX2_weight 4 = .ok (.iload_n 1, 1) := by decide +kernel
theorem dX2_weight_5 : decode cX2_weight 5 = .ok (.aaload, 1) := by decide +kernel
theorem dX2_weight_6 : decode cX2_weight 6 = .ok (.iconst 3, 1) := by decide +kernel
theorem dX2_weight_7 : decode cX2_weight 7 = .ok (.iaload, 1) := by decide +kernel
theorem dX2_weight_8 : decode cX2_weight 8 = .ok (.bipush 10, 2) := by decide +kernel
theorem dX2_weight_10 : decode cX2_weight 10 = .ok (.if_icmp .ge 6, 3) := by decide +kernel
theorem dX2_weight_13 : decode cX2_weight 13 = .ok (.bipush 40, 2) := by decide +kernel
theorem dX2_weight_15 : decode cX2_weight 15 = .ok (.ireturn, 1) := by decide +kernel
theorem dX2_weight_16 : decode cX2_weight 16 = .ok (.aload_n 0, 1) := by decide +kernel
theorem dX2_weight_17 : decode cX2_weight 17 = .ok (.getfield 9, 3) := by decide +kernel
theorem dX2_weight_20 : decode cX2_weight 20 = .ok (.iload_n 1, 1) := by decide +kernel
theorem dX2_weight_21 : decode cX2_weight 21 = .ok (.aaload, 1) := by decide +kernel
theorem dX2_weight_22 : decode cX2_weight 22 = .ok (.iconst 0, 1) := by decide +kernel
theorem dX2_weight_23 : decode cX2_weight 23 = .ok (.iaload, 1) := by decide +kernel
theorem dX2_weight_24 : decode cX2_weight 24 = .ok (.sipush 2000, 3) := by decide +kernel
theorem dX2_weight_27 : decode cX2_weight 27 = .ok (.if_icmp .ge 8, 3) := by decide +kernel
theorem dX2_weight_30 : decode cX2_weight 30 = .ok (.bipush 20, 2) := by decide +kernel
theorem dX2_weight_32 : decode cX2_weight 32 = .ok (.goto 5, 3) := by decide +kernel
theorem dX2_weight_35 : decode cX2_weight 35 = .ok (.bipush 10, 2) := by decide +kernel
theorem dX2_weight_37 : decode cX2_weight 37 = .ok (.ireturn, 1) := by decide +kernel
set_option maxRecDepth 20000 in
theorem ggX2_change_X2_weight : GoodIn wsX2_change wsX2_weight := goodIn_r _ [6, 1, 12, 13, 14, 15] (by decide +kernel) (by decide +kernel)
set_option maxRecDepth 20000 in
theorem gX2_change_X2_weight : GoodIn wsX2_change (wsV RX2 19 RX2 yX2_weight wsX2_weight) := goodIn_app (goodIn_of _ (by decide +kernel)) ggX2_change_X2_weight
set_option maxRecDepth 20000 in
theorem ggX2_change_X2_expected : GoodIn wsX2_change wsX2_expected := goodIn_r _ [10, 1, 11, 7, 8, 9, 5, 12, 13, 14, 15] (by decide +kernel) (by decide +kernel)
set_option maxRecDepth 20000 in
theorem gX2_change_X2_expected : GoodIn wsX2_change (wsV RX2 15 RX2 yX2_expected wsX2_expected) := goodIn_app (goodIn_of _ (by decide +kernel)) ggX2_change_X2_expected
theorem dX2_change_0 : decode cX2_change 0 = .ok (.aload_n 0, 1) := by decide +kernel
theorem dX2_change_1 : decode cX2_change 1 = .ok (.iload_n 1, 1) := by decide +kernel
theorem dX2_change_2 : decode cX2_change 2 = .ok (.invokevirtual 19, 3) := by decide +kernel
theorem dX2_change_5 : decode cX2_change 5 = .ok (.iload_n 3, 1) := by decide +kernel
theorem dX2_change_6 : decode cX2_change 6 = .ok (.sipush 500, 3) := by decide +kernel
theorem dX2_change_9 : decode cX2_change 9 = .ok (.imul, 1) := by decide +kernel
theorem dX2_change_10 : decode cX2_change 10 = .ok (.aload_n 0, 1) := by decide +kernel
theorem dX2_change_11 : decode cX2_change 11 = .ok (.iload_n 1, 1) := by decide +kernel
theorem dX2_change_12 : decode cX2_change 12 = .ok (.iload_n 2, 1) := by decide +kernel
theorem dX2_change_13 : decode cX2_change 13 = .ok (.invokevirtual 15, 3) := by decide +kernel
theorem dX2_change_16 : decode cX2_change 16 = .ok (.isub, 1) := by decide +kernel
theorem dX2_change_17 : decode cX2_change 17 = .ok (.imul, 1) := by decide +kernel
theorem dX2_change_18 : decode cX2_change 18 = .ok (.sipush 1000, 3) := by decide +kernel
theorem dX2_change_21 : decode cX2_change 21 = .ok (.idiv, 1) := by decide +kernel
theorem dX2_change_22 : decode cX2_change 22 = .ok (.istore 4, 2) := by decide +kernel
theorem dX2_change_24 : decode cX2_change 24 = .ok (.aload_n 0, 1) := by decide +kernel
theorem dX2_change_25 : decode cX2_change 25 = .ok (.getfield 9, 3) := by decide +kernel
theorem dX2_change_28 : decode cX2_change 28 = .ok (.iload_n 1, 1) := by decide +kernel
theorem dX2_change_29 : decode cX2_change 29 = .ok (.aaload, 1) := by decide +kernel
theorem dX2_change_30 : decode cX2_change 30 = .ok (.iconst 0, 1) := by decide +kernel
theorem dX2_change_31 : decode cX2_change 31 = .ok (.iaload, 1) := by decide +kernel
theorem dX2_change_32 : decode cX2_change 32 = .ok (.iload 4, 2) := by decide +kernel
theorem dX2_change_34 : decode cX2_change 34 = .ok (.iadd, 1) := by decide +kernel
theorem dX2_change_35 : decode cX2_change 35 = .ok (.istore 5, 2) := by decide +kernel
theorem dX2_change_37 : decode cX2_change 37 = .ok (.iload 5, 2) := by decide +kernel
theorem dX2_change_39 : decode cX2_change 39 = .ok (.bipush 100, 2) := by decide +kernel
theorem dX2_change_41 : decode cX2_change 41 = .ok (.if_icmp .ge 7, 3) := by decide +kernel
theorem dX2_change_44 : decode cX2_change 44 = .ok (.bipush 100, 2) := by decide +kernel
theorem dX2_change_46 : decode cX2_change 46 = .ok (.istore 5, 2) := by decide +kernel
theorem dX2_change_48 : decode cX2_change 48 = .ok (.iload 5, 2) := by decide +kernel
theorem dX2_change_50 : decode cX2_change 50 = .ok (.sipush 3000, 3) := by decide +kernel
theorem dX2_change_53 : decode cX2_change 53 = .ok (.if_icmp .le 8, 3) := by decide +kernel
theorem dX2_change_56 : decode cX2_change 56 = .ok (.sipush 3000, 3) := by decide +kernel
theorem dX2_change_59 : decode cX2_change 59 = .ok (.istore 5, 2) := by decide +kernel
theorem dX2_change_61 : decode cX2_change 61 = .ok (.iload 5, 2) := by decide +kernel
theorem dX2_change_63 : decode cX2_change 63 = .ok (.aload_n 0, 1) := by decide +kernel
theorem dX2_change_64 : decode cX2_change 64 = .ok (.getfield 9, 3) := by decide +kernel
theorem dX2_change_67 : decode cX2_change 67 = .ok (.iload_n 1, 1) := by decide +kernel
theorem dX2_change_68 : decode cX2_change 68 = .ok (.aaload, 1) := by decide +kernel
theorem dX2_change_69 : decode cX2_change 69 = .ok (.iconst 0, 1) := by decide +kernel
theorem dX2_change_70 : decode cX2_change 70 = .ok (.iaload, 1) := by decide +kernel
theorem dX2_change_71 : decode cX2_change 71 = .ok (.isub, 1) := by decide +kernel
theorem dX2_change_72 : decode cX2_change 72 = .ok (.ireturn, 1) := by decide +kernel
theorem dX2_raise_0 : decode cX2_raise 0 = .ok (.aload_n 0, 1) := by decide +kernel
theorem dX2_raise_1 : decode cX2_raise 1 = .ok (.getfield 9, 3) := by decide +kernel
theorem dX2_raise_4 : decode cX2_raise 4 = .ok (.iload_n 1, 1) := by decide +kernel
theorem dX2_raise_5 : decode cX2_raise 5 = .ok (.aaload, 1) := by decide +kernel
theorem dX2_raise_6 : decode cX2_raise 6 = .ok (.iconst 0, 1) := by decide +kernel
theorem dX2_raise_7 : decode cX2_raise 7 = .ok (.dup2, 1) := by decide +kernel
theorem dX2_raise_8 : decode cX2_raise 8 = .ok (.iaload, 1) := by decide +kernel
theorem dX2_raise_9 : decode cX2_raise 9 = .ok (.iload_n 2, 1) := by decide +kernel
theorem dX2_raise_10 : decode cX2_raise 10 = .ok (.iadd, 1) := by decide +kernel
theorem dX2_raise_11 : decode cX2_raise 11 = .ok (.iastore, 1) := by decide +kernel
theorem dX2_raise_12 : decode cX2_raise 12 = .ok (.aload_n 0, 1) := by decide +kernel
theorem dX2_raise_13 : decode cX2_raise 13 = .ok (.getfield 9, 3) := by decide +kernel
theorem dX2_raise_16 : decode cX2_raise 16 = .ok (.iload_n 1, 1) := by decide +kernel
theorem dX2_raise_17 : decode cX2_raise 17 = .ok (.aaload, 1) := by decide +kernel
theorem dX2_raise_18 : decode cX2_raise 18 = .ok (.iconst 0, 1) := by decide +kernel
theorem dX2_raise_19 : decode cX2_raise 19 = .ok (.iaload, 1) := by decide +kernel
theorem dX2_raise_20 : decode cX2_raise 20 = .ok (.aload_n 0, 1) := by decide +kernel
theorem dX2_raise_21 : decode cX2_raise 21 = .ok (.getfield 9, 3) := by decide +kernel
theorem dX2_raise_24 : decode cX2_raise 24 = .ok (.iload_n 1, 1) := by decide +kernel
theorem dX2_raise_25 : decode cX2_raise 25 = .ok (.aaload, 1) := by decide +kernel
theorem dX2_raise_26 : decode cX2_raise 26 = .ok (.bipush 6, 2) := by decide +kernel
theorem dX2_raise_28 : decode cX2_raise 28 = .ok (.iaload, 1) := by decide +kernel
theorem dX2_raise_29 : decode cX2_raise 29 = .ok (.if_icmp .le 20, 3) := by decide +kernel
theorem dX2_raise_32 : decode cX2_raise 32 = .ok (.aload_n 0, 1) := by decide +kernel
theorem dX2_raise_33 : decode cX2_raise 33 = .ok (.getfield 9, 3) := by decide +kernel
theorem dX2_raise_36 : decode cX2_raise 36 = .ok (.iload_n 1, 1) := by decide +kernel
theorem dX2_raise_37 : decode cX2_raise 37 = .ok (.aaload, 1) := by decide +kernel
theorem dX2_raise_38 : decode cX2_raise 38 = .ok (.bipush 6, 2) := by decide +kernel
theorem dX2_raise_40 : decode cX2_raise 40 = .ok (.aload_n 0, 1) := by decide +kernel
theorem dX2_raise_41 : decode cX2_raise 41 = .ok (.getfield 9, 3) := by decide +kernel
theorem dX2_raise_44 : decode cX2_raise 44 = .ok (.iload_n 1, 1) := by decide +kernel
theorem dX2_raise_45 : decode cX2_raise 45 = .ok (.aaload, 1) := by decide +kernel
theorem dX2_raise_46 : decode cX2_raise 46 = .ok (.iconst 0, 1) := by decide +kernel
theorem dX2_raise_47 : decode cX2_raise 47 = .ok (.iaload, 1) := by decide +kernel
theorem dX2_raise_48 : decode cX2_raise 48 = .ok (.iastore, 1) := by decide +kernel
theorem dX2_raise_49 : decode cX2_raise 49 = .ok (.return_, 1) := by decide +kernel
theorem dX2_note_0 : decode cX2_note 0 = .ok (.aload_n 0, 1) := by decide +kernel
theorem dX2_note_1 : decode cX2_note 1 = .ok (.getfield 9, 3) := by decide +kernel
theorem dX2_note_4 : decode cX2_note 4 = .ok (.iload_n 1, 1) := by decide +kernel
theorem dX2_note_5 : decode cX2_note 5 = .ok (.aaload, 1) := by decide +kernel
theorem dX2_note_6 : decode cX2_note 6 = .ok (.iconst 2, 1) := by decide +kernel
theorem dX2_note_7 : decode cX2_note 7 = .ok (.dup2, 1) := by decide +kernel
theorem dX2_note_8 : decode cX2_note 8 = .ok (.iaload, 1) := by decide +kernel
theorem dX2_note_9 : decode cX2_note 9 = .ok (.iload_n 2, 1) := by decide +kernel
theorem dX2_note_10 : decode cX2_note 10 = .ok (.iadd, 1) := by decide +kernel
theorem dX2_note_11 : decode cX2_note 11 = .ok (.iastore, 1) := by decide +kernel
theorem dX2_note_12 : decode cX2_note 12 = .ok (.aload_n 0, 1) := by decide +kernel
theorem dX2_note_13 : decode cX2_note 13 = .ok (.getfield 9, 3) := by decide +kernel
theorem dX2_note_16 : decode cX2_note 16 = .ok (.iload_n 1, 1) := by decide +kernel
theorem dX2_note_17 : decode cX2_note 17 = .ok (.aaload, 1) := by decide +kernel
theorem dX2_note_18 : decode cX2_note 18 = .ok (.iconst 3, 1) := by decide +kernel
theorem dX2_note_19 : decode cX2_note 19 = .ok (.dup2, 1) := by decide +kernel
theorem dX2_note_20 : decode cX2_note 20 = .ok (.iaload, 1) := by decide +kernel
theorem dX2_note_21 : decode cX2_note 21 = .ok (.iconst 1, 1) := by decide +kernel
theorem dX2_note_22 : decode cX2_note 22 = .ok (.iadd, 1) := by decide +kernel
theorem dX2_note_23 : decode cX2_note 23 = .ok (.iastore, 1) := by decide +kernel
theorem dX2_note_24 : decode cX2_note 24 = .ok (.aload_n 0, 1) := by decide +kernel
theorem dX2_note_25 : decode cX2_note 25 = .ok (.getfield 9, 3) := by decide +kernel
theorem dX2_note_28 : decode cX2_note 28 = .ok (.iload_n 1, 1) := by decide +kernel
theorem dX2_note_29 : decode cX2_note 29 = .ok (.aaload, 1) := by decide +kernel
theorem dX2_note_30 : decode cX2_note 30 = .ok (.iconst 4, 1) := by decide +kernel
theorem dX2_note_31 : decode cX2_note 31 = .ok (.dup2, 1) := by decide +kernel
theorem dX2_note_32 : decode cX2_note 32 = .ok (.iaload, 1) := by decide +kernel
theorem dX2_note_33 : decode cX2_note 33 = .ok (.iconst 1, 1) := by decide +kernel
theorem dX2_note_34 : decode cX2_note 34 = .ok (.iadd, 1) := by decide +kernel
theorem dX2_note_35 : decode cX2_note 35 = .ok (.iastore, 1) := by decide +kernel
theorem dX2_note_36 : decode cX2_note 36 = .ok (.aload_n 0, 1) := by decide +kernel
theorem dX2_note_37 : decode cX2_note 37 = .ok (.getfield 9, 3) := by decide +kernel
theorem dX2_note_40 : decode cX2_note 40 = .ok (.iload_n 1, 1) := by decide +kernel
theorem dX2_note_41 : decode cX2_note 41 = .ok (.aaload, 1) := by decide +kernel
theorem dX2_note_42 : decode cX2_note 42 = .ok (.iconst 5, 1) := by decide +kernel
theorem dX2_note_43 : decode cX2_note 43 = .ok (.iload_n 2, 1) := by decide +kernel
theorem dX2_note_44 : decode cX2_note 44 = .ok (.iconst 2, 1) := by decide +kernel
theorem dX2_note_45 : decode cX2_note 45 = .ok (.if_icmp .ge 7, 3) := by decide +kernel
theorem dX2_note_48 : decode cX2_note 48 = .ok (.iconst 0, 1) := by decide +kernel
theorem dX2_note_49 : decode cX2_note 49 = .ok (.goto 13, 3) := by decide +kernel
theorem dX2_note_52 : decode cX2_note 52 = .ok (.aload_n 0, 1) := by decide +kernel
theorem dX2_note_53 : decode cX2_note 53 = .ok (.getfield 9, 3) := by decide +kernel
theorem dX2_note_56 : decode cX2_note 56 = .ok (.iload_n 1, 1) := by decide +kernel
theorem dX2_note_57 : decode cX2_note 57 = .ok (.aaload, 1) := by decide +kernel
theorem dX2_note_58 : decode cX2_note 58 = .ok (.iconst 5, 1) := by decide +kernel
theorem dX2_note_59 : decode cX2_note 59 = .ok (.iaload, 1) := by decide +kernel
theorem dX2_note_60 : decode cX2_note 60 = .ok (.iconst 1, 1) := by decide +kernel
theorem dX2_note_61 : decode cX2_note 61 = .ok (.iadd, 1) := by decide +kernel
theorem dX2_note_62 : decode cX2_note 62 = .ok (.iastore, 1) := by decide +kernel
theorem dX2_note_63 : decode cX2_note 63 = .ok (.return_, 1) := by decide +kernel
set_option maxRecDepth 20000 in
theorem ggX2_bout_X2_change : GoodIn wsX2_bout wsX2_change := goodIn_r _ [7, 8, 9, 10, 11, 6, 12, 13, 14, 15, 16, 17, 26, 27, 28, 29] (by decide +kernel) (by decide +kernel)
set_option maxRecDepth 20000 in
theorem gX2_bout_X2_change : GoodIn wsX2_bout (wsV RX2 23 RX2 yX2_change wsX2_change) := goodIn_app (goodIn_of _ (by decide +kernel)) ggX2_bout_X2_change
set_option maxRecDepth 20000 in
theorem ggX2_bout_X2_expected : GoodIn wsX2_bout wsX2_expected := goodIn_r _ [16, 8, 17, 13, 14, 15, 6, 26, 27, 28, 29] (by decide +kernel) (by decide +kernel)
set_option maxRecDepth 20000 in
theorem gX2_bout_X2_expected : GoodIn wsX2_bout (wsV RX2 15 RX2 yX2_expected wsX2_expected) := goodIn_app (goodIn_of _ (by decide +kernel)) ggX2_bout_X2_expected
set_option maxRecDepth 20000 in
theorem ggX2_bout_X2_raise : GoodIn wsX2_bout wsX2_raise := goodIn_r _ [21, 8, 26, 27, 28, 29] (by decide +kernel) (by decide +kernel)
set_option maxRecDepth 20000 in
theorem gX2_bout_X2_raise : GoodIn wsX2_bout (wsV RX2 31 RX2 yX2_raise wsX2_raise) := goodIn_app (goodIn_of _ (by decide +kernel)) ggX2_bout_X2_raise
set_option maxRecDepth 20000 in
theorem ggX2_bout_X2_note : GoodIn wsX2_bout wsX2_note := goodIn_r _ [25, 8, 26, 27, 28, 29] (by decide +kernel) (by decide +kernel)
set_option maxRecDepth 20000 in
theorem gX2_bout_X2_note : GoodIn wsX2_bout (wsV RX2 35 RX2 yX2_note wsX2_note) := goodIn_app (goodIn_of _ (by decide +kernel)) ggX2_bout_X2_note
theorem dX2_bout_0 : decode cX2_bout 0 = .ok (.aload_n 0, 1) := by decide +kernel
theorem dX2_bout_1 : decode cX2_bout 1 = .ok (.iload_n 1, 1) := by decide +kernel
theorem dX2_bout_2 : decode cX2_bout 2 = .ok (.iload_n 2, 1) := by decide +kernel
