theorem dX2_expected_39 : decode cX2_expected 39 = .ok (.sipush 500, 3) := by decide +kernel
theorem dX2_expected_42 : decode cX2_expected 42 = .ok (.iastore, 1) := by decide +kernel
theorem dX2_expected_43 : decode cX2_expected 43 = .ok (.dup, 1) := by decide +kernel
theorem dX2_expected_44 : decode cX2_expected 44 = .ok (.iconst 1, 1) := by decide +kernel
theorem dX2_expected_45 : decode cX2_expected 45 = .ok (.sipush 640, 3) := by decide +kernel
theorem dX2_expected_48 : decode cX2_expected 48 = .ok (.iastore, 1) := by decide +kernel
theorem dX2_expected_49 : decode cX2_expected 49 = .ok (.dup, 1) := by decide +kernel
theorem dX2_expected_50 : decode cX2_expected 50 = .ok (.iconst 2, 1) := by decide +kernel
theorem dX2_expected_51 : decode cX2_expected 51 = .ok (.sipush 760, 3) := by decide +kernel
theorem dX2_expected_54 : decode cX2_expected 54 = .ok (.iastore, 1) := by decide +kernel
theorem dX2_expected_55 : decode cX2_expected 55 = .ok (.dup, 1) := by decide +kernel
theorem dX2_expected_56 : decode cX2_expected 56 = .ok (.iconst 3, 1) := by decide +kernel
theorem dX2_expected_57 : decode cX2_expected 57 = .ok (.sipush 849, 3) := by decide +kernel
theorem dX2_expected_60 : decode cX2_expected 60 = .ok (.iastore, 1) := by decide +kernel
theorem dX2_expected_61 : decode cX2_expected 61 = .ok (.dup, 1) := by decide +kernel
theorem dX2_expected_62 : decode cX2_expected 62 = .ok (.iconst 4, 1) := by decide +kernel
theorem dX2_expected_63 : decode cX2_expected 63 = .ok (.sipush 909, 3) := by decide +kernel
theorem dX2_expected_66 : decode cX2_expected 66 = .ok (.iastore, 1) := by decide +kernel
theorem dX2_expected_67 : decode cX2_expected 67 = .ok (.dup, 1) := by decide +kernel
theorem dX2_expected_68 : decode cX2_expected 68 = .ok (.iconst 5, 1) := by decide +kernel
theorem dX2_expected_69 : decode cX2_expected 69 = .ok (.sipush 947, 3) := by decide +kernel
theorem dX2_expected_72 : decode cX2_expected 72 = .ok (.iastore, 1) := by decide +kernel
theorem dX2_expected_73 : decode cX2_expected 73 = .ok (.dup, 1) := by decide +kernel
theorem dX2_expected_74 : decode cX2_expected 74 = .ok (.bipush 6, 2) := by decide +kernel
theorem dX2_expected_76 : decode cX2_expected 76 = .ok (.sipush 969, 3) := by decide +kernel
theorem dX2_expected_79 : decode cX2_expected 79 = .ok (.iastore, 1) := by decide +kernel
theorem dX2_expected_80 : decode cX2_expected 80 = .ok (.dup, 1) := by decide +kernel
theorem dX2_expected_81 : decode cX2_expected 81 = .ok (.bipush 7, 2) := by decide +kernel
theorem dX2_expected_83 : decode cX2_expected 83 = .ok (.sipush 983, 3) := by decide +kernel
theorem dX2_expected_86 : decode cX2_expected 86 = .ok (.iastore, 1) := by decide +kernel
theorem dX2_expected_87 : decode cX2_expected 87 = .ok (.dup, 1) := by decide +kernel
theorem dX2_expected_88 : decode cX2_expected 88 = .ok (.bipush 8, 2) := by decide +kernel
theorem dX2_expected_90 : decode cX2_expected 90 = .ok (.sipush 990, 3) := by decide +kernel
theorem dX2_expected_93 : decode cX2_expected 93 = .ok (.iastore, 1) := by decide +kernel
theorem dX2_expected_94 : decode cX2_expected 94 = .ok (.astore 4, 2) := by decide +kernel
theorem dX2_expected_96 : decode cX2_expected 96 = .ok (.iload_n 3, 1) := by decide +kernel
theorem dX2_expected_97 : decode cX2_expected 97 = .ok (.sipush 800, 3) := by decide +kernel
theorem dX2_expected_100 : decode cX2_expected 100 = .ok (.if_icmp .lt 7, 3) := by decide +kernel
theorem dX2_expected_103 : decode cX2_expected 103 = .ok (.sipush 990, 3) := by decide +kernel
theorem dX2_expected_106 : decode cX2_expected 106 = .ok (.ireturn, 1) := by decide +kernel
theorem dX2_expected_107 : decode cX2_expected 107 = .ok (.aload 4, 2) := by decide +kernel
theorem dX2_expected_109 : decode cX2_expected 109 = .ok (.iload_n 3, 1) := by decide +kernel
theorem dX2_expected_110 : decode cX2_expected 110 = .ok (.bipush 100, 2) := by decide +kernel
theorem dX2_expected_112 : decode cX2_expected 112 = .ok (.idiv, 1) := by decide +kernel
theorem dX2_expected_113 : decode cX2_expected 113 = .ok (.iaload, 1) := by decide +kernel
theorem dX2_expected_114 : decode cX2_expected 114 = .ok (.istore 5, 2) := by decide +kernel
theorem dX2_expected_116 : decode cX2_expected 116 = .ok (.aload 4, 2) := by decide +kernel
theorem dX2_expected_118 : decode cX2_expected 118 = .ok (.iload_n 3, 1) := by decide +kernel
theorem dX2_expected_119 : decode cX2_expected 119 = .ok (.bipush 100, 2) := by decide +kernel
theorem dX2_expected_121 : decode cX2_expected 121 = .ok (.idiv, 1) := by decide +kernel
theorem dX2_expected_122 : decode cX2_expected 122 = .ok (.iconst 1, 1) := by decide +kernel
theorem dX2_expected_123 : decode cX2_expected 123 = .ok (.iadd, 1) := by decide +kernel
theorem dX2_expected_124 : decode cX2_expected 124 = .ok (.iaload, 1) := by decide +kernel
theorem dX2_expected_125 : decode cX2_expected 125 = .ok (.iload 5, 2) := by decide +kernel
theorem dX2_expected_127 : decode cX2_expected 127 = .ok (.isub, 1) := by decide +kernel
theorem dX2_expected_128 : decode cX2_expected 128 = .ok (.istore 6, 2) := by decide +kernel
theorem dX2_expected_130 : decode cX2_expected 130 = .ok (.iload 5, 2) := by decide +kernel
theorem dX2_expected_132 : decode cX2_expected 132 = .ok (.iload 6, 2) := by decide +kernel
theorem dX2_expected_134 : decode cX2_expected 134 = .ok (.iload_n 3, 1) := by decide +kernel
theorem dX2_expected_135 : decode cX2_expected 135 = .ok (.iload_n 3, 1) := by decide +kernel
theorem dX2_expected_136 : decode cX2_expected 136 = .ok (.bipush 100, 2) := by decide +kernel
theorem dX2_expected_138 : decode cX2_expected 138 = .ok (.idiv, 1) := by decide +kernel
theorem dX2_expected_139 : decode cX2_expected 139 = .ok (.bipush 100, 2) := by decide +kernel
theorem dX2_expected_141 : decode cX2_expected 141 = .ok (.imul, 1) := by decide +kernel
theorem dX2_expected_142 : decode cX2_expected 142 = .ok (.isub, 1) := by decide +kernel
theorem dX2_expected_143 : decode cX2_expected 143 = .ok (.imul, 1) := by decide +kernel
theorem dX2_expected_144 : decode cX2_expected 144 = .ok (.bipush 100, 2) := by decide +kernel
theorem dX2_expected_146 : decode cX2_expected 146 = .ok (.idiv, 1) := by decide +kernel
theorem dX2_expected_147 : decode cX2_expected 147 = .ok (.iadd, 1) := by decide +kernel
theorem dX2_expected_148 : decode cX2_expected 148 = .ok (.ireturn, 1) := by decide +kernel
theorem dX2_weight_0 : decode cX2_weight 0 = .ok (.aload_n 0, 1) := by decide +kernel
theorem dX2_weight_1 : decode cX2_weight 1 = .ok (.getfield 9, 3) := by decide +kernel
theorem dX2_weight_4 : decode cX2_weight 4 = .ok (.iload_n 1, 1) := by decide +kernel
theorem dX2_weight_5 : decode cX2_weight 5 = .ok (.aaload, 1) := by decide +kernel
theorem dX2_weight_6 : decode cX2_weight 6 = .ok (.iconst 3, 1) := by decide +kernel
theorem dX2_weight_7 : decode cX2_weight 7 = .ok (.iaload, 1) := by decide +kernel
theorem dX2_weight_8 : decode cX2_weight 8 = .ok (.bipush 10, 2) := by decide +kernel
theorem dX2_weight_10 : decode cX2_weight 10 = .ok (.if_icmp .ge 6, 3) := by decide +kernel
theorem dX2_weight_13 : decode cX2_weight 13 = .ok (.bipush 40, 2) := by decide +kernel
theorem dX2_weight_15 : decode cX2_weight 15 = .ok (.ireturn, 1) := by decide +kernel
theorem dX2_weight_16 : decode cX2_weight 16 = .ok (.aload_n 0, 1) := by decide +kernel
theorem dX2_weight_17 : decode cX2_weight 17 = .ok (.getfield 9, 3) := by decide +kernel
theorem dX2_weight_20 : decode cX2_weight 20 = .ok (.iload_n 1, 1) := by decide +kernel
theorem dX2_weight_21 : decode cX2_weight 21 = .ok (.aaload, 1) := by decide +kernel
theorem dX2_weight_22 : decode cX2_weight 22 = .ok (.iconst 0, 1) := by decide +kernel
theorem dX2_weight_23 : decode cX2_weight 23 = .ok (.iaload, 1) := by decide +kernel
theorem dX2_weight_24 : decode cX2_weight 24 = .ok (.sipush 2000, 3) := by decide +kernel
theorem dX2_weight_27 : decode cX2_weight 27 = .ok (.if_icmp .ge 8, 3) := by decide +kernel
theorem dX2_weight_30 : decode cX2_weight 30 = .ok (.bipush 20, 2) := by decide +kernel
theorem dX2_weight_32 : decode cX2_weight 32 = .ok (.goto 5, 3) := by decide +kernel
theorem dX2_weight_35 : decode cX2_weight 35 = .ok (.bipush 10, 2) := by decide +kernel
theorem dX2_weight_37 : decode cX2_weight 37 = .ok (.ireturn, 1) := by decide +kernel
set_option maxRecDepth 20000 in
theorem ggX2_change_X2_weight : GoodIn wsX2_change wsX2_weight := goodIn_r _ [6, 1, 12, 13, 14, 15] (by decide +kernel) (by decide +kernel)
set_option maxRecDepth 20000 in
theorem gX2_change_X2_weight : GoodIn wsX2_change (wsV RX2 19 RX2 yX2_weight wsX2_weight) := goodIn_app (goodIn_of _ (by decide +kernel)) ggX2_change_X2_weight
set_option maxRecDepth 20000 in
theorem ggX2_change_X2_expected : GoodIn wsX2_change wsX2_expected := goodIn_r _ [10, 1, 11, 7, 8, 9, 5, 12, 13, 14, 15] (by decide +kernel) (by decide +kernel)
set_option maxRecDepth 20000 in
theorem gX2_change_X2_expected : GoodIn wsX2_change (wsV RX2 15 RX2 yX2_expected wsX2_expected) := goodIn_app (goodIn_of _ (by decide +kernel)) ggX2_change_X2_expected
theorem dX2_change_0 : decode cX2_change 0 = .ok (.aload_n 0, 1) := by decide +kernel
theorem dX2_change_1 : decode cX2_change 1 = .ok (.iload_n 1, 1) := by decide +kernel
theorem dX2_change_2 : decode cX2_change 2 = .ok (.invokevirtual 19, 3) := by decide +kernel
theorem dX2_change_5 : decode cX2_change 5 = .ok (.iload_n 3, 1) := by decide +kernel
theorem dX2_change_6 : decode cX2_change 6 = .ok (.sipush 500, 3) := by decide +kernel
theorem dX2_change_9 : decode cX2_change 9 = .ok (.imul, 1) := by decide +kernel
theorem dX2_change_10 : decode cX2_change 10 = .ok (.aload_n 0, 1) := by decide +kernel
theorem dX2_change_11 : decode cX2_change 11 = .ok (.iload_n 1, 1) := by decide +kernel
theorem dX2_change_12 : decode cX2_change 12 = .ok (.iload_n 2, 1) := by decide +kernel
theorem dX2_change_13 : decode cX2_change 13 = .ok (.invokevirtual 15, 3) := by decide +kernel
theorem dX2_change_16 : decode cX2_change 16 = .ok (.isub, 1) := by decide +kernel
theorem dX2_change_17 : decode cX2_change 17 = .ok (.imul, 1) := by decide +kernel
theorem dX2_change_18 : decode cX2_change 18 = .ok (.sipush 1000, 3) := by decide +kernel
theorem dX2_change_21 : decode cX2_change 21 = .ok (.idiv, 1) := by decide +kernel
theorem dX2_change_22 : decode cX2_change 22 = .ok (.istore 4, 2) := by decide +kernel
theorem dX2_change_24 : decode cX2_change 24 = .ok (.aload_n 0, 1) := by decide +kernel
theorem dX2_change_25 : decode cX2_change 25 = .ok (.getfield 9, 3) := by decide +kernel
theorem dX2_change_28 : decode cX2_change 28 = .ok (.iload_n 1, 1) := by decide +kernel
theorem dX2_change_29 : decode cX2_change 29 = .ok (.aaload, 1) := by decide +kernel
theorem dX2_change_30 : decode cX2_change 30 = .ok (.iconst 0, 1) := by decide +kernel
theorem dX2_change_31 : decode cX2_change 31 = .ok (.iaload, 1) := by decide +kernel
theorem dX2_change_32 : decode cX2_change 32 = .ok (.iload 4, 2) := by decide +kernel
theorem dX2_change_34 : decode cX2_change 34 = .ok (.iadd, 1) := by decide +kernel
theorem dX2_change_35 : decode cX2_change 35 = .ok (.istore 5, 2) := by decide +kernel
theorem dX2_change_37 : decode cX2_change 37 = .ok (.iload 5, 2) := by decide +kernel
theorem dX2_change_39 : decode cX2_change 39 = .ok (.bipush 100, 2) := by decide +kernel
theorem dX2_change_41 : decode cX2_change 41 = .ok (.if_icmp .ge 7, 3) := by decide +kernel
theorem dX2_change_44 : decode cX2_change 44 = .ok (.bipush 100, 2) := by decide +kernel
theorem dX2_change_46 : decode cX2_change 46 = .ok (.istore 5, 2) := by decide +kernel
theorem dX2_change_48 : decode cX2_change 48 = .ok (.iload 5, 2) := by decide +kernel
theorem dX2_change_50 : decode cX2_change 50 = .ok (.sipush 3000, 3) := by decide +kernel
theorem dX2_change_53 : decode cX2_change 53 = .ok (.if_icmp .le 8, 3) := by decide +kernel
theorem dX2_change_56 : decode cX2_change 56 = .ok (.sipush 3000, 3) := by decide +kernel
theorem dX2_change_59 : decode cX2_change 59 = .ok (.istore 5, 2) := by decide +kernel
theorem dX2_change_61 : decode cX2_change 61 = .ok (.iload 5, 2) := by decide +kernel
theorem dX2_change_63 : decode cX2_change 63 = .ok (.aload_n 0, 1) := by decide +kernel
theorem dX2_change_64 : decode cX2_change 64 = .ok (.getfield 9, 3) := by decide +kernel
theorem dX2_change_67 : decode cX2_change 67 = .ok (.iload_n 1, 1) := by decide +kernel
theorem dX2_change_68 : decode cX2_change 68 = .ok (.aaload, 1) := by decide +kernel
theorem dX2_change_69 : decode cX2_change 69 = .ok (.iconst 0, 1) := by decide +kernel
theorem dX2_change_70 : decode cX2_change 70 = .ok (.iaload, 1) := by decide +kernel
theorem dX2_change_71 : decode cX2_change 71 = .ok (.isub, 1) := by decide +kernel
theorem dX2_change_72 : decode cX2_change 72 = .ok (.ireturn, 1) := by decide +kernel
theorem dX2_raise_0 : decode cX2_raise 0 = .ok (.aload_n 0, 1) := by decide +kernel
theorem dX2_raise_1 : decode cX2_raise 1 = .ok (.getfield 9, 3) := by decide +kernel
theorem dX2_raise_4 : decode cX2_raise 4 = .ok (.iload_n 1, 1) := by decide +kernel
theorem dX2_raise_5 : decode cX2_raise 5 = .ok (.aaload, 1) := by decide +kernel
theorem dX2_raise_6 : decode cX2_raise 6 = .ok (.iconst 0, 1) := by decide +kernel
theorem dX2_raise_7 : decode cX2_raise 7 = .ok (.dup2, 1) := by decide +kernel
theorem dX2_raise_8 : decode cX2_raise 8 = .ok (.iaload, 1) := by decide +kernel
theorem dX2_raise_9 : decode cX2_raise 9 = .ok (.iload_n 2, 1) := by decide +kernel
theorem dX2_raise_10 : decode cX2_raise 10 = .ok (.iadd, 1) := by decide +kernel
theorem dX2_raise_11 : decode cX2_raise 11 = .ok (.iastore, 1) := by decide +kernel
theorem dX2_raise_12 : decode cX2_raise 12 = .ok (.aload_n 0, 1) := by decide +kernel
theorem dX2_raise_13 : decode cX2_raise 13 = .ok (.getfield 9, 3) := by decide +kernel
theorem dX2_raise_16 : decode cX2_raise 16 = .ok (.iload_n 1, 1) := by decide +kernel
theorem dX2_raise_17 : decode cX2_raise 17 = .ok (.aaload, 1) := by decide +kernel
theorem dX2_raise_18 : decode cX2_raise 18 = .ok (.iconst 0, 1) := by decide +kernel
theorem dX2_raise_19 : decode cX2_raise 19 = .ok (.iaload, 1) := by decide +kernel
theorem dX2_raise_20 : decode cX2_raise 20 = .ok (.aload_n 0, 1) := by decide +kernel
theorem dX2_raise_21 : decode cX2_raise 21 = .ok (.getfield 9, 3) := by decide +kernel
theorem dX2_raise_24 : decode cX2_raise 24 = .ok (.iload_n 1, 1) := by decide +kernel
theorem dX2_raise_25 : decode cX2_raise 25 = .ok (.aaload, 1) := by decide +kernel
theorem dX2_raise_26 : decode cX2_raise 26 = .ok (.bipush 6, 2) := by decide +kernel
theorem dX2_raise_28 : decode cX2_raise 28 = .ok (.iaload, 1) := by decide +kernel
theorem dX2_raise_29 : decode cX2_raise 29 = .ok (.if_icmp .le 20, 3) := by decide +kernel
theorem dX2_raise_32 : decode cX2_raise 32 = .ok (.aload_n 0, 1) := by decide +kernel
theorem dX2_raise_33 : decode cX2_raise 33 = .ok (.getfield 9, 3) := by decide +kernel
theorem dX2_raise_36 : decode cX2_raise 36 = .ok (.iload_n 1, 1) := by decide +kernel
theorem dX2_raise_37 : decode cX2_raise 37 = .ok (.aaload, 1) := by decide +kernel
theorem dX2_raise_38 : decode cX2_raise 38 = .ok (.bipush 6, 2) := by decide +kernel
theorem dX2_raise_40 : decode cX2_raise 40 = .ok (.aload_n 0, 1) := by decide +kernel
theorem dX2_raise_41 : decode cX2_raise 41 = .ok (.getfield 9, 3) := by decide +kernel
theorem dX2_raise_44 : decode cX2_raise 44 = .ok (.iload_n 1, 1) := by decide +kernel
theorem dX2_raise_45 : decode cX2_raise 45 = .ok (.aaload, 1) := by decide +kernel
theorem dX2_raise_46 : decode cX2_raise 46 = .ok (.iconst 0, 1) := by decide +kernel
theorem dX2_raise_47 : decode cX2_raise 47 = .ok (.iaload, 1) := by decide +kernel
theorem dX2_raise_48 : decode cX2_raise 48 = .ok (.iastore, 1) := by decide +kernel
theorem dX2_raise_49 : decode cX2_raise 49 = .ok (.return_, 1) := by decide +kernel
theorem dX2_note_0 : decode cX2_note 0 = .ok (.aload_n 0, 1) := by decide +kernel
theorem dX2_note_1 : decode cX2_note 1 = .ok (.getfield 9, 3) := by decide +kernel
theorem dX2_note_4 : decode cX2_note 4 = .ok (.iload_n 1, 1) := by decide +kernel
theorem dX2_note_5 : decode cX2_note 5 = .ok (.aaload, 1) := by decide +kernel
theorem dX2_note_6 : decode cX2_note 6 = .ok (.iconst 2, 1) := by decide +kernel
theorem dX2_note_7 : decode cX2_note 7 = .ok (.dup2, 1) := by decide +kernel
theorem dX2_note_8 : decode cX2_note 8 = .ok (.iaload, 1) := by decide +kernel
theorem dX2_note_9 : decode cX2_note 9 = .ok (.iload_n 2, 1) := by decide +kernel
theorem dX2_note_10 : decode cX2_note 10 = .ok (.iadd, 1) := by decide +kernel
theorem dX2_note_11 : decode cX2_note 11 = .ok (.iastore, 1) := by decide +kernel
theorem dX2_note_12 : decode cX2_note 12 = .ok (.aload_n 0, 1) := by decide +kernel
theorem dX2_note_13 : decode cX2_note 13 = .ok (.getfield 9, 3) := by decide +kernel
theorem dX2_note_16 : decode cX2_note 16 = .ok (.iload_n 1, 1) := by decide +kernel
theorem dX2_note_17 : decode cX2_note 17 = .ok (.aaload, 1) := by decide +kernel
theorem dX2_note_18 : decode cX2_note 18 = .ok (.iconst 3, 1) := by decide +kernel
theorem dX2_note_19 : decode cX2_note 19 = .ok (.dup2, 1) := by decide +kernel
theorem dX2_note_20 : decode cX2_note 20 = .ok (.iaload, 1) := by decide +kernel
theorem dX2_note_21 : decode cX2_note 21 = .ok (.iconst 1, 1) := by decide +kernel
theorem dX2_note_22 : decode cX2_note 22 = .ok (.iadd, 1) := by decide +kernel
theorem dX2_note_23 : decode cX2_note 23 = .ok (.iastore, 1) := by decide +kernel
theorem dX2_note_24 : decode cX2_note 24 = .ok (.aload_n 0, 1) := by decide +kernel
theorem dX2_note_25 : decode cX2_note 25 = .ok (.getfield 9, 3) := by decide +kernel
theorem dX2_note_28 : decode cX2_note 28 = .ok (.iload_n 1, 1) := by decide +kernel
theorem dX2_note_29 : decode cX2_note 29 = .ok (.aaload, 1) := by decide +kernel
theorem dX2_note_30 : decode cX2_note 30 = .ok (.iconst 4, 1) := by decide +kernel
theorem dX2_note_31 : decode cX2_note 31 = .ok (.dup2, 1) := by decide +kernel
theorem dX2_note_32 : decode cX2_note 32 = .ok (.iaload, 1) := by decide +kernel
theorem dX2_note_33 : decode cX2_note 33 = .ok (.iconst 1, 1) := by decide +kernel
theorem dX2_note_34 : decode cX2_note 34 = .ok (.iadd, 1) := by decide +kernel
theorem dX2_note_35 : decode cX2_note 35 = .ok (.iastore, 1) := by decide +kernel
theorem dX2_note_36 : decode cX2_note 36 = .ok (.aload_n 0, 1) := by decide +kernel
theorem dX2_note_37 : decode cX2_note 37 = .ok (.getfield 9, 3) := by decide +kernel
theorem dX2_note_40 : decode cX2_note 40 = .ok (.iload_n 1, 1) := by decide +kernel
theorem dX2_note_41 : decode cX2_note 41 = .ok (.aaload, 1) := by decide +kernel
theorem dX2_note_42 : decode cX2_note 42 = .ok (.iconst 5, 1) := by decide +kernel
theorem dX2_note_43 : decode cX2_note 43 = .ok (.iload_n 2, 1) := by decide +kernel
theorem dX2_note_44 : decode cX2_note 44 = .ok (.iconst 2, 1) := by decide +kernel
theorem dX2_note_45 : decode cX2_note 45 = .ok (.if_icmp .ge 7, 3) := by decide +kernel
theorem dX2_note_48 : decode cX2_note 48 = .ok (.iconst 0, 1) := by decide +kernel
theorem dX2_note_49 : decode cX2_note 49 = .ok (.goto 13, 3) := by decide +kernel
theorem dX2_note_52 : decode cX2_note 52 = .ok (.aload_n 0, 1) := by decide +kernel
theorem dX2_note_53 : decode cX2_note 53 = .ok (.getfield 9, 3) := by decide +kernel
theorem dX2_note_56 : decode cX2_note 56 = .ok (.iload_n 1, 1) := by decide +kernel
theorem dX2_note_57 : decode cX2_note 57 = .ok (.aaload, 1) := by decide +kernel
theorem dX2_note_58 : decode cX2_note 58 = .ok (.iconst 5, 1) := by decide +kernel
theorem dX2_note_59 : decode cX2_note 59 = .ok (.iaload, 1) := by decide +kernel
theorem dX2_note_60 : decode cX2_note 60 = .ok (.iconst 1, 1) := by decide +kernel
theorem dX2_note_61 : decode cX2_note 61 = .ok (.iadd, 1) := by decide +kernel
theorem dX2_note_62 : decode cX2_note 62 = .ok (.iastore, 1) := by decide +kernel
theorem dX2_note_63 : decode cX2_note 63 = .ok (.return_, 1) := by decide +kernel
set_option maxRecDepth 20000 in
theorem ggX2_bout_X2_change : GoodIn wsX2_bout wsX2_change := goodIn_r _ [7, 8, 9, 10, 11, 6, 12, 13, 14, 15, 16, 17, 26, 27, 28, 29] (by decide +kernel) (by decide +kernel)
set_option maxRecDepth 20000 in
theorem gX2_bout_X2_change : GoodIn wsX2_bout (wsV RX2 23 RX2 yX2_change wsX2_change) := goodIn_app (goodIn_of _ (by decide +kernel)) ggX2_bout_X2_change
set_option maxRecDepth 20000 in
theorem ggX2_bout_X2_expected : GoodIn wsX2_bout wsX2_expected := goodIn_r _ [16, 8, 17, 13, 14, 15, 6, 26, 27, 28, 29] (by decide +kernel) (by decide +kernel)
set_option maxRecDepth 20000 in
theorem gX2_bout_X2_expected : GoodIn wsX2_bout (wsV RX2 15 RX2 yX2_expected wsX2_expected) := goodIn_app (goodIn_of _ (by decide +kernel)) ggX2_bout_X2_expected
set_option maxRecDepth 20000 in
theorem ggX2_bout_X2_raise : GoodIn wsX2_bout wsX2_raise := goodIn_r _ [21, 8, 26, 27, 28, 29] (by decide +kernel) (by decide +kernel)
set_option maxRecDepth 20000 in
theorem gX2_bout_X2_raise : GoodIn wsX2_bout (wsV RX2 31 RX2 yX2_raise wsX2_raise) := goodIn_app (goodIn_of _ (by decide +kernel)) ggX2_bout_X2_raise
set_option maxRecDepth 20000 in
theorem ggX2_bout_X2_note : GoodIn wsX2_bout wsX2_note := goodIn_r _ [25, 8, 26, 27, 28, 29] (by decide +kernel) (by decide +kernel)
set_option maxRecDepth 20000 in
theorem gX2_bout_X2_note : GoodIn wsX2_bout (wsV RX2 35 RX2 yX2_note wsX2_note) := goodIn_app (goodIn_of _ (by decide +kernel)) ggX2_bout_X2_note
theorem dX2_bout_0 : decode cX2_bout 0 = .ok (.aload_n 0, 1) := by decide +kernel
theorem dX2_bout_1 : decode cX2_bout 1 = .ok (.iload_n 1, 1) := by decide +kernel
theorem dX2_bout_2 : decode cX2_bout 2 = .ok (.iload_n 2, 1) := by decide +kernel
theorem dX2_bout_3 : decode cX2_bout 3 = .ok (.iload_n 3, 1) := by decide +kernel
theorem dX2_bout_4 : decode cX2_bout 4 = .ok (.invokevirtual 23, 3) := by decide +kernel
theorem dX2_bout_7 : decode cX2_bout 7 = .ok (.istore 4, 2) := by decide +kernel
theorem dX2_bout_9 : decode cX2_bout 9 = .ok (.aload_n 0, 1) := by decide +kernel
theorem dX2_bout_10 : decode cX2_bout 10 = .ok (.iload_n 2, 1) := by decide +kernel
theorem dX2_bout_11 : decode cX2_bout 11 = .ok (.iload_n 1, 1) := by decide +kernel
theorem dX2_bout_12 : decode cX2_bout 12 = .ok (.iconst 2, 1) := by decide +kernel
theorem dX2_bout_13 : decode cX2_bout 13 = .ok (.iload_n 3, 1) := by decide +kernel
theorem dX2_bout_14 : decode cX2_bout 14 = .ok (.isub, 1) := by decide +kernel
theorem dX2_bout_15 : decode cX2_bout 15 = .ok (.invokevirtual 23, 3) := by decide +kernel
theorem dX2_bout_18 : decode cX2_bout 18 = .ok (.istore 5, 2) := by decide +kernel
theorem dX2_bout_20 : decode cX2_bout 20 = .ok (.iload_n 3, 1) := by decide +kernel
theorem dX2_bout_21 : decode cX2_bout 21 = .ok (.iconst 2, 1) := by decide +kernel
theorem dX2_bout_22 : decode cX2_bout 22 = .ok (.if_icmp .ne 15, 3) := by decide +kernel
theorem dX2_bout_25 : decode cX2_bout 25 = .ok (.aload_n 0, 1) := by decide +kernel
theorem dX2_bout_26 : decode cX2_bout 26 = .ok (.iload_n 1, 1) := by decide +kernel
theorem dX2_bout_27 : decode cX2_bout 27 = .ok (.iload_n 2, 1) := by decide +kernel
theorem dX2_bout_28 : decode cX2_bout 28 = .ok (.invokevirtual 15, 3) := by decide +kernel
theorem dX2_bout_31 : decode cX2_bout 31 = .ok (.sipush 400, 3) := by decide +kernel
theorem dX2_bout_34 : decode cX2_bout 34 = .ok (.if_icmp .lt 19, 3) := by decide +kernel
theorem dX2_bout_37 : decode cX2_bout 37 = .ok (.iload_n 3, 1) := by decide +kernel
theorem dX2_bout_38 : decode cX2_bout 38 = .ok (.ifCond .ne 25, 3) := by decide +kernel
theorem dX2_bout_41 : decode cX2_bout 41 = .ok (.aload_n 0, 1) := by decide +kernel
theorem dX2_bout_42 : decode cX2_bout 42 = .ok (.iload_n 2, 1) := by decide +kernel
theorem dX2_bout_43 : decode cX2_bout 43 = .ok (.iload_n 1, 1) := by decide +kernel
theorem dX2_bout_44 : decode cX2_bout 44 = .ok (.invokevirtual 15, 3) := by decide +kernel
theorem dX2_bout_47 : decode cX2_bout 47 = .ok (.sipush 400, 3) := by decide +kernel
theorem dX2_bout_50 : decode cX2_bout 50 = .ok (.if_icmp .ge 13, 3) := by decide +kernel
theorem dX2_bout_53 : decode cX2_bout 53 = .ok (.aload_n 0, 1) := by decide +kernel
theorem dX2_bout_54 : decode cX2_bout 54 = .ok (.dup, 1) := by decide +kernel
theorem dX2_bout_55 : decode cX2_bout 55 = .ok (.getfield 27, 3) := by decide +kernel
theorem dX2_bout_58 : decode cX2_bout 58 = .ok (.iconst 1, 1) := by decide +kernel
theorem dX2_bout_59 : decode cX2_bout 59 = .ok (.iadd, 1) := by decide +kernel
theorem dX2_bout_60 : decode cX2_bout 60 = .ok (.putfield 27, 3) := by decide +kernel
theorem dX2_bout_63 : decode cX2_bout 63 = .ok (.aload_n 0, 1) := by decide +kernel
theorem dX2_bout_64 : decode cX2_bout 64 = .ok (.iload_n 1, 1) := by decide +kernel
theorem dX2_bout_65 : decode cX2_bout 65 = .ok (.iload 4, 2) := by decide +kernel
theorem dX2_bout_67 : decode cX2_bout 67 = .ok (.invokevirtual 31, 3) := by decide +kernel
theorem dX2_bout_70 : decode cX2_bout 70 = .ok (.aload_n 0, 1) := by decide +kernel
theorem dX2_bout_71 : decode cX2_bout 71 = .ok (.iload_n 2, 1) := by decide +kernel
theorem dX2_bout_72 : decode cX2_bout 72 = .ok (.iload 5, 2) := by decide +kernel
theorem dX2_bout_74 : decode cX2_bout 74 = .ok (.invokevirtual 31, 3) := by decide +kernel
theorem dX2_bout_77 : decode cX2_bout 77 = .ok (.aload_n 0, 1) := by decide +kernel
theorem dX2_bout_78 : decode cX2_bout 78 = .ok (.iload_n 1, 1) := by decide +kernel
theorem dX2_bout_79 : decode cX2_bout 79 = .ok (.iload_n 3, 1) := by decide +kernel
theorem dX2_bout_80 : decode cX2_bout 80 = .ok (.invokevirtual 35, 3) := by decide +kernel
theorem dX2_bout_83 : decode cX2_bout 83 = .ok (.aload_n 0, 1) := by decide +kernel
theorem dX2_bout_84 : decode cX2_bout 84 = .ok (.iload_n 2, 1) := by decide +kernel
theorem dX2_bout_85 : decode cX2_bout 85 = .ok (.iconst 2, 1) := by decide +kernel
theorem dX2_bout_86 : decode cX2_bout 86 = .ok (.iload_n 3, 1) := by decide +kernel
theorem dX2_bout_87 : decode cX2_bout 87 = .ok (.isub, 1) := by decide +kernel
theorem dX2_bout_88 : decode cX2_bout 88 = .ok (.invokevirtual 35, 3) := by decide +kernel
theorem dX2_bout_91 : decode cX2_bout 91 = .ok (.aload_n 0, 1) := by decide +kernel
theorem dX2_bout_92 : decode cX2_bout 92 = .ok (.dup, 1) := by decide +kernel
theorem dX2_bout_93 : decode cX2_bout 93 = .ok (.getfield 38, 3) := by decide +kernel
theorem dX2_bout_96 : decode cX2_bout 96 = .ok (.iconst 1, 1) := by decide +kernel
theorem dX2_bout_97 : decode cX2_bout 97 = .ok (.iadd, 1) := by decide +kernel
theorem dX2_bout_98 : decode cX2_bout 98 = .ok (.putfield 38, 3) := by decide +kernel
theorem dX2_bout_101 : decode cX2_bout 101 = .ok (.iload 4, 2) := by decide +kernel
theorem dX2_bout_103 : decode cX2_bout 103 = .ok (.ireturn, 1) := by decide +kernel
theorem dX2_order_0 : decode cX2_order 0 = .ok (.iconst 0, 1) := by decide +kernel
theorem dX2_order_1 : decode cX2_order 1 = .ok (.istore_n 2, 1) := by decide +kernel
theorem dX2_order_2 : decode cX2_order 2 = .ok (.aload_n 0, 1) := by decide +kernel
theorem dX2_order_3 : decode cX2_order 3 = .ok (.getfield 9, 3) := by decide +kernel
theorem dX2_order_6 : decode cX2_order 6 = .ok (.astore_n 3, 1) := by decide +kernel
theorem dX2_order_7 : decode cX2_order 7 = .ok (.aload_n 3, 1) := by decide +kernel
theorem dX2_order_8 : decode cX2_order 8 = .ok (.arraylength, 1) := by decide +kernel
theorem dX2_order_9 : decode cX2_order 9 = .ok (.istore 4, 2) := by decide +kernel
theorem dX2_order_11 : decode cX2_order 11 = .ok (.iconst 0, 1) := by decide +kernel
theorem dX2_order_12 : decode cX2_order 12 = .ok (.istore 5, 2) := by decide +kernel
theorem dX2_order_14 : decode cX2_order 14 = .ok (.iload 5, 2) := by decide +kernel
theorem dX2_order_16 : decode cX2_order 16 = .ok (.iload 4, 2) := by decide +kernel
theorem dX2_order_18 : decode cX2_order 18 = .ok (.if_icmp .ge 31, 3) := by decide +kernel
theorem dX2_order_21 : decode cX2_order 21 = .ok (.aload_n 3, 1) := by decide +kernel
theorem dX2_order_22 : decode cX2_order 22 = .ok (.iload 5, 2) := by decide +kernel
theorem dX2_order_24 : decode cX2_order 24 = .ok (.aaload, 1) := by decide +kernel
theorem dX2_order_25 : decode cX2_order 25 = .ok (.astore 6, 2) := by decide +kernel
theorem dX2_order_27 : decode cX2_order 27 = .ok (.iload_n 2, 1) := by decide +kernel
theorem dX2_order_28 : decode cX2_order 28 = .ok (.aload 6, 2) := by decide +kernel
theorem dX2_order_30 : decode cX2_order 30 = .ok (.iconst 1, 1) := by decide +kernel
theorem dX2_order_31 : decode cX2_order 31 = .ok (.iaload, 1) := by decide +kernel
theorem dX2_order_32 : decode cX2_order 32 = .ok (.iload_n 1, 1) := by decide +kernel
theorem dX2_order_33 : decode cX2_order 33 = .ok (.if_icmp .ne 7, 3) := by decide +kernel
