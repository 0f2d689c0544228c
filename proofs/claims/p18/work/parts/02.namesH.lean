theorem dX2_order_36 : decode cX2_order 36 = .ok (.iconst 1, 1) := by decide +kernel
theorem dX2_order_37 : decode cX2_order 37 = .ok (.goto 4, 3) := by decide +kernel
theorem dX2_order_40 : decode cX2_order 40 = .ok (.iconst 0, 1) := by decide +kernel
theorem dX2_order_41 : decode cX2_order 41 = .ok (.iadd, 1) := by decide +kernel
theorem dX2_order_42 : decode cX2_order 42 = .ok (.istore_n 2, 1) := by decide +kernel
theorem dX2_order_43 : decode cX2_order 43 = .ok (.iinc 5 1, 3) := by decide +kernel
theorem dX2_order_46 : decode cX2_order 46 = .ok (.goto (-32), 3) := by decide +kernel
theorem dX2_order_49 : decode cX2_order 49 = .ok (.iload_n 2, 1) := by decide +kernel
theorem dX2_order_50 : decode cX2_order 50 = .ok (.newarray .int, 2) := by decide +kernel
theorem dX2_order_52 : decode cX2_order 52 = .ok (.astore_n 3, 1) := by decide +kernel
theorem dX2_order_53 : decode cX2_order 53 = .ok (.iconst 0, 1) := by decide +kernel
theorem dX2_order_54 : decode cX2_order 54 = .ok (.istore 4, 2) := by decide +kernel
theorem dX2_order_56 : decode cX2_order 56 = .ok (.iconst 0, 1) := by decide +kernel
theorem dX2_order_57 : decode cX2_order 57 = .ok (.istore 5, 2) := by decide +kernel
theorem dX2_order_59 : decode cX2_order 59 = .ok (.iload 5, 2) := by decide +kernel
theorem dX2_order_61 : decode cX2_order 61 = .ok (.aload_n 0, 1) := by decide +kernel
theorem dX2_order_62 : decode cX2_order 62 = .ok (.getfield 9, 3) := by decide +kernel
theorem dX2_order_65 : decode cX2_order 65 = .ok (.arraylength, 1) := by decide +kernel
theorem dX2_order_66 : decode cX2_order 66 = .ok (.if_icmp .ge 134, 3) := by decide +kernel
theorem dX2_order_69 : decode cX2_order 69 = .ok (.aload_n 0, 1) := by decide +kernel
theorem dX2_order_70 : decode cX2_order 70 = .ok (.getfield 9, 3) := by decide +kernel
theorem dX2_order_73 : decode cX2_order 73 = .ok (.iload 5, 2) := by decide +kernel
theorem dX2_order_75 : decode cX2_order 75 = .ok (.aaload, 1) := by decide +kernel
theorem dX2_order_76 : decode cX2_order 76 = .ok (.iconst 1, 1) := by decide +kernel
theorem dX2_order_77 : decode cX2_order 77 = .ok (.iaload, 1) := by decide +kernel
theorem dX2_order_78 : decode cX2_order 78 = .ok (.iload_n 1, 1) := by decide +kernel
theorem dX2_order_79 : decode cX2_order 79 = .ok (.if_icmp .eq 6, 3) := by decide +kernel
theorem dX2_order_82 : decode cX2_order 82 = .ok (.goto 112, 3) := by decide +kernel
theorem dX2_order_85 : decode cX2_order 85 = .ok (.iload 4, 2) := by decide +kernel
theorem dX2_order_87 : decode cX2_order 87 = .ok (.istore 6, 2) := by decide +kernel
theorem dX2_order_89 : decode cX2_order 89 = .ok (.iload 6, 2) := by decide +kernel
theorem dX2_order_91 : decode cX2_order 91 = .ok (.ifCond .le 94, 3) := by decide +kernel
theorem dX2_order_94 : decode cX2_order 94 = .ok (.aload_n 0, 1) := by decide +kernel
theorem dX2_order_95 : decode cX2_order 95 = .ok (.getfield 9, 3) := by decide +kernel
theorem dX2_order_98 : decode cX2_order 98 = .ok (.aload_n 3, 1) := by decide +kernel
theorem dX2_order_99 : decode cX2_order 99 = .ok (.iload 6, 2) := by decide +kernel
theorem dX2_order_101 : decode cX2_order 101 = .ok (.iconst 1, 1) := by decide +kernel
theorem dX2_order_102 : decode cX2_order 102 = .ok (.isub, 1) := by decide +kernel
theorem dX2_order_103 : decode cX2_order 103 = .ok (.iaload, 1) := by decide +kernel
theorem dX2_order_104 : decode cX2_order 104 = .ok (.aaload, 1) := by decide +kernel
theorem dX2_order_105 : decode cX2_order 105 = .ok (.iconst 2, 1) := by decide +kernel
theorem dX2_order_106 : decode cX2_order 106 = .ok (.iaload, 1) := by decide +kernel
theorem dX2_order_107 : decode cX2_order 107 = .ok (.aload_n 0, 1) := by decide +kernel
theorem dX2_order_108 : decode cX2_order 108 = .ok (.getfield 9, 3) := by decide +kernel
theorem dX2_order_111 : decode cX2_order 111 = .ok (.iload 5, 2) := by decide +kernel
theorem dX2_order_113 : decode cX2_order 113 = .ok (.aaload, 1) := by decide +kernel
theorem dX2_order_114 : decode cX2_order 114 = .ok (.iconst 2, 1) := by decide +kernel
theorem dX2_order_115 : decode cX2_order 115 = .ok (.iaload, 1) := by decide +kernel
theorem dX2_order_116 : decode cX2_order 116 = .ok (.if_icmp .lt 53, 3) := by decide +kernel
theorem dX2_order_119 : decode cX2_order 119 = .ok (.aload_n 0, 1) := by decide +kernel
theorem dX2_order_120 : decode cX2_order 120 = .ok (.getfield 9, 3) := by decide +kernel
theorem dX2_order_123 : decode cX2_order 123 = .ok (.aload_n 3, 1) := by decide +kernel
theorem dX2_order_124 : decode cX2_order 124 = .ok (.iload 6, 2) := by decide +kernel
theorem dX2_order_126 : decode cX2_order 126 = .ok (.iconst 1, 1) := by decide +kernel
theorem dX2_order_127 : decode cX2_order 127 = .ok (.isub, 1) := by decide +kernel
theorem dX2_order_128 : decode cX2_order 128 = .ok (.iaload, 1) := by decide +kernel
theorem dX2_order_129 : decode cX2_order 129 = .ok (.aaload, 1) := by decide +kernel
theorem dX2_order_130 : decode cX2_order 130 = .ok (.iconst 2, 1) := by decide +kernel
theorem dX2_order_131 : decode cX2_order 131 = .ok (.iaload, 1) := by decide +kernel
theorem dX2_order_132 : decode cX2_order 132 = .ok (.aload_n 0, 1) := by decide +kernel
theorem dX2_order_133 : decode cX2_order 133 = .ok (.getfield 9, 3) := by decide +kernel
theorem dX2_order_136 : decode cX2_order 136 = .ok (.iload 5, 2) := by decide +kernel
theorem dX2_order_138 : decode cX2_order 138 = .ok (.aaload, 1) := by decide +kernel
theorem dX2_order_139 : decode cX2_order 139 = .ok (.iconst 2, 1) := by decide +kernel
theorem dX2_order_140 : decode cX2_order 140 = .ok (.iaload, 1) := by decide +kernel
theorem dX2_order_141 : decode cX2_order 141 = .ok (.if_icmp .ne 44, 3) := by decide +kernel
theorem dX2_order_144 : decode cX2_order 144 = .ok (.aload_n 0, 1) := by decide +kernel
theorem dX2_order_145 : decode cX2_order 145 = .ok (.getfield 9, 3) := by decide +kernel
theorem dX2_order_148 : decode cX2_order 148 = .ok (.aload_n 3, 1) := by decide +kernel
theorem dX2_order_149 : decode cX2_order 149 = .ok (.iload 6, 2) := by decide +kernel
theorem dX2_order_151 : decode cX2_order 151 = .ok (.iconst 1, 1) := by decide +kernel
theorem dX2_order_152 : decode cX2_order 152 = .ok (.isub, 1) := by decide +kernel
theorem dX2_order_153 : decode cX2_order 153 = .ok (.iaload, 1) := by decide +kernel
theorem dX2_order_154 : decode cX2_order 154 = .ok (.aaload, 1) := by decide +kernel
theorem dX2_order_155 : decode cX2_order 155 = .ok (.iconst 0, 1) := by decide +kernel
theorem dX2_order_156 : decode cX2_order 156 = .ok (.iaload, 1) := by decide +kernel
theorem dX2_order_157 : decode cX2_order 157 = .ok (.aload_n 0, 1) := by decide +kernel
theorem dX2_order_158 : decode cX2_order 158 = .ok (.getfield 9, 3) := by decide +kernel
theorem dX2_order_161 : decode cX2_order 161 = .ok (.iload 5, 2) := by decide +kernel
theorem dX2_order_163 : decode cX2_order 163 = .ok (.aaload, 1) := by decide +kernel
theorem dX2_order_164 : decode cX2_order 164 = .ok (.iconst 0, 1) := by decide +kernel
theorem dX2_order_165 : decode cX2_order 165 = .ok (.iaload, 1) := by decide +kernel
theorem dX2_order_166 : decode cX2_order 166 = .ok (.if_icmp .ge 19, 3) := by decide +kernel
theorem dX2_order_169 : decode cX2_order 169 = .ok (.aload_n 3, 1) := by decide +kernel
theorem dX2_order_170 : decode cX2_order 170 = .ok (.iload 6, 2) := by decide +kernel
theorem dX2_order_172 : decode cX2_order 172 = .ok (.aload_n 3, 1) := by decide +kernel
theorem dX2_order_173 : decode cX2_order 173 = .ok (.iload 6, 2) := by decide +kernel
theorem dX2_order_175 : decode cX2_order 175 = .ok (.iconst 1, 1) := by decide +kernel
theorem dX2_order_176 : decode cX2_order 176 = .ok (.isub, 1) := by decide +kernel
theorem dX2_order_177 : decode cX2_order 177 = .ok (.iaload, 1) := by decide +kernel
theorem dX2_order_178 : decode cX2_order 178 = .ok (.iastore, 1) := by decide +kernel
theorem dX2_order_179 : decode cX2_order 179 = .ok (.iinc 6 (-1), 3) := by decide +kernel
theorem dX2_order_182 : decode cX2_order 182 = .ok (.goto (-93), 3) := by decide +kernel
theorem dX2_order_185 : decode cX2_order 185 = .ok (.aload_n 3, 1) := by decide +kernel
theorem dX2_order_186 : decode cX2_order 186 = .ok (.iload 6, 2) := by decide +kernel
theorem dX2_order_188 : decode cX2_order 188 = .ok (.iload 5, 2) := by decide +kernel
theorem dX2_order_190 : decode cX2_order 190 = .ok (.iastore, 1) := by decide +kernel
theorem dX2_order_191 : decode cX2_order 191 = .ok (.iinc 4 1, 3) := by decide +kernel
theorem dX2_order_194 : decode cX2_order 194 = .ok (.iinc 5 1, 3) := by decide +kernel
theorem dX2_order_197 : decode cX2_order 197 = .ok (.goto (-138), 3) := by decide +kernel
theorem dX2_order_200 : decode cX2_order 200 = .ok (.aload_n 3, 1) := by decide +kernel
theorem dX2_order_201 : decode cX2_order 201 = .ok (.areturn, 1) := by decide +kernel
set_option maxRecDepth 20000 in
theorem ggX2_end_X2_raise : GoodIn wsX2_end wsX2_raise := goodIn_r _ [7, 1, 13, 14, 15, 16] (by decide +kernel) (by decide +kernel)
set_option maxRecDepth 20000 in
theorem gX2_end_X2_raise : GoodIn wsX2_end (wsV RX2 31 RX2 yX2_raise wsX2_raise) := goodIn_app (goodIn_of _ (by decide +kernel)) ggX2_end_X2_raise
set_option maxRecDepth 20000 in
theorem ggX2_end_X2_order : GoodIn wsX2_end wsX2_order := goodIn_r _ [11, 1, 12, 13, 14, 15, 16] (by decide +kernel) (by decide +kernel)
set_option maxRecDepth 20000 in
theorem gX2_end_X2_order : GoodIn wsX2_end (wsV RX2 41 RX2 yX2_order wsX2_order) := goodIn_app (goodIn_of _ (by decide +kernel)) ggX2_end_X2_order
theorem dX2_end_0 : decode cX2_end 0 = .ok (.iconst 0, 1) := by decide +kernel
theorem dX2_end_1 : decode cX2_end 1 = .ok (.istore_n 1, 1) := by decide +kernel
theorem dX2_end_2 : decode cX2_end 2 = .ok (.iload_n 1, 1) := by decide +kernel
theorem dX2_end_3 : decode cX2_end 3 = .ok (.aload_n 0, 1) := by decide +kernel
theorem dX2_end_4 : decode cX2_end 4 = .ok (.getfield 9, 3) := by decide +kernel
theorem dX2_end_7 : decode cX2_end 7 = .ok (.arraylength, 1) := by decide +kernel
theorem dX2_end_8 : decode cX2_end 8 = .ok (.if_icmp .ge 56, 3) := by decide +kernel
theorem dX2_end_11 : decode cX2_end 11 = .ok (.aload_n 0, 1) := by decide +kernel
theorem dX2_end_12 : decode cX2_end 12 = .ok (.getfield 9, 3) := by decide +kernel
theorem dX2_end_15 : decode cX2_end 15 = .ok (.iload_n 1, 1) := by decide +kernel
theorem dX2_end_16 : decode cX2_end 16 = .ok (.aaload, 1) := by decide +kernel
theorem dX2_end_17 : decode cX2_end 17 = .ok (.iconst 0, 1) := by decide +kernel
theorem dX2_end_18 : decode cX2_end 18 = .ok (.iaload, 1) := by decide +kernel
theorem dX2_end_19 : decode cX2_end 19 = .ok (.sipush 1000, 3) := by decide +kernel
theorem dX2_end_22 : decode cX2_end 22 = .ok (.isub, 1) := by decide +kernel
theorem dX2_end_23 : decode cX2_end 23 = .ok (.istore_n 2, 1) := by decide +kernel
theorem dX2_end_24 : decode cX2_end 24 = .ok (.aload_n 0, 1) := by decide +kernel
theorem dX2_end_25 : decode cX2_end 25 = .ok (.getfield 9, 3) := by decide +kernel
theorem dX2_end_28 : decode cX2_end 28 = .ok (.iload_n 1, 1) := by decide +kernel
theorem dX2_end_29 : decode cX2_end 29 = .ok (.aaload, 1) := by decide +kernel
theorem dX2_end_30 : decode cX2_end 30 = .ok (.iconst 4, 1) := by decide +kernel
theorem dX2_end_31 : decode cX2_end 31 = .ok (.iaload, 1) := by decide +kernel
theorem dX2_end_32 : decode cX2_end 32 = .ok (.iconst 3, 1) := by decide +kernel
theorem dX2_end_33 : decode cX2_end 33 = .ok (.if_icmp .ge 25, 3) := by decide +kernel
theorem dX2_end_36 : decode cX2_end 36 = .ok (.aload_n 0, 1) := by decide +kernel
theorem dX2_end_37 : decode cX2_end 37 = .ok (.iload_n 1, 1) := by decide +kernel
theorem dX2_end_38 : decode cX2_end 38 = .ok (.iload_n 2, 1) := by decide +kernel
theorem dX2_end_39 : decode cX2_end 39 = .ok (.ifCond .ge 11, 3) := by decide +kernel
theorem dX2_end_42 : decode cX2_end 42 = .ok (.iload_n 2, 1) := by decide +kernel
theorem dX2_end_43 : decode cX2_end 43 = .ok (.ineg, 1) := by decide +kernel
theorem dX2_end_44 : decode cX2_end 44 = .ok (.bipush 8, 2) := by decide +kernel
theorem dX2_end_46 : decode cX2_end 46 = .ok (.idiv, 1) := by decide +kernel
theorem dX2_end_47 : decode cX2_end 47 = .ok (.goto 8, 3) := by decide +kernel
theorem dX2_end_50 : decode cX2_end 50 = .ok (.iload_n 2, 1) := by decide +kernel
theorem dX2_end_51 : decode cX2_end 51 = .ok (.bipush 8, 2) := by decide +kernel
theorem dX2_end_53 : decode cX2_end 53 = .ok (.idiv, 1) := by decide +kernel
theorem dX2_end_54 : decode cX2_end 54 = .ok (.ineg, 1) := by decide +kernel
theorem dX2_end_55 : decode cX2_end 55 = .ok (.invokevirtual 31, 3) := by decide +kernel
theorem dX2_end_58 : decode cX2_end 58 = .ok (.iinc 1 1, 3) := by decide +kernel
theorem dX2_end_61 : decode cX2_end 61 = .ok (.goto (-59), 3) := by decide +kernel
theorem dX2_end_64 : decode cX2_end 64 = .ok (.iconst 0, 1) := by decide +kernel
theorem dX2_end_65 : decode cX2_end 65 = .ok (.istore_n 1, 1) := by decide +kernel
theorem dX2_end_66 : decode cX2_end 66 = .ok (.iconst 0, 1) := by decide +kernel
theorem dX2_end_67 : decode cX2_end 67 = .ok (.istore_n 2, 1) := by decide +kernel
theorem dX2_end_68 : decode cX2_end 68 = .ok (.iload_n 2, 1) := by decide +kernel
theorem dX2_end_69 : decode cX2_end 69 = .ok (.iconst 2, 1) := by decide +kernel
theorem dX2_end_70 : decode cX2_end 70 = .ok (.if_icmp .ge 99, 3) := by decide +kernel
theorem dX2_end_73 : decode cX2_end 73 = .ok (.aload_n 0, 1) := by decide +kernel
theorem dX2_end_74 : decode cX2_end 74 = .ok (.iload_n 2, 1) := by decide +kernel
theorem dX2_end_75 : decode cX2_end 75 = .ok (.invokevirtual 41, 3) := by decide +kernel
theorem dX2_end_78 : decode cX2_end 78 = .ok (.astore_n 3, 1) := by decide +kernel
theorem dX2_end_79 : decode cX2_end 79 = .ok (.aload_n 0, 1) := by decide +kernel
theorem dX2_end_80 : decode cX2_end 80 = .ok (.iload_n 2, 1) := by decide +kernel
theorem dX2_end_81 : decode cX2_end 81 = .ok (.iconst 1, 1) := by decide +kernel
theorem dX2_end_82 : decode cX2_end 82 = .ok (.iadd, 1) := by decide +kernel
theorem dX2_end_83 : decode cX2_end 83 = .ok (.invokevirtual 41, 3) := by decide +kernel
theorem dX2_end_86 : decode cX2_end 86 = .ok (.astore 4, 2) := by decide +kernel
theorem dX2_end_88 : decode cX2_end 88 = .ok (.aload_n 3, 1) := by decide +kernel
theorem dX2_end_89 : decode cX2_end 89 = .ok (.arraylength, 1) := by decide +kernel
theorem dX2_end_90 : decode cX2_end 90 = .ok (.ifCond .eq 73, 3) := by decide +kernel
theorem dX2_end_93 : decode cX2_end 93 = .ok (.aload 4, 2) := by decide +kernel
theorem dX2_end_95 : decode cX2_end 95 = .ok (.arraylength, 1) := by decide +kernel
theorem dX2_end_96 : decode cX2_end 96 = .ok (.ifCond .ne 6, 3) := by decide +kernel
theorem dX2_end_99 : decode cX2_end 99 = .ok (.goto 64, 3) := by decide +kernel
theorem dX2_end_102 : decode cX2_end 102 = .ok (.aload_n 3, 1) := by decide +kernel
theorem dX2_end_103 : decode cX2_end 103 = .ok (.aload_n 3, 1) := by decide +kernel
theorem dX2_end_104 : decode cX2_end 104 = .ok (.arraylength, 1) := by decide +kernel
theorem dX2_end_105 : decode cX2_end 105 = .ok (.iconst 1, 1) := by decide +kernel
theorem dX2_end_106 : decode cX2_end 106 = .ok (.isub, 1) := by decide +kernel
theorem dX2_end_107 : decode cX2_end 107 = .ok (.iaload, 1) := by decide +kernel
theorem dX2_end_108 : decode cX2_end 108 = .ok (.istore 5, 2) := by decide +kernel
theorem dX2_end_110 : decode cX2_end 110 = .ok (.aload_n 0, 1) := by decide +kernel
theorem dX2_end_111 : decode cX2_end 111 = .ok (.getfield 9, 3) := by decide +kernel
theorem dX2_end_114 : decode cX2_end 114 = .ok (.aload 4, 2) := by decide +kernel
theorem dX2_end_116 : decode cX2_end 116 = .ok (.iconst 0, 1) := by decide +kernel
theorem dX2_end_117 : decode cX2_end 117 = .ok (.iaload, 1) := by decide +kernel
theorem dX2_end_118 : decode cX2_end 118 = .ok (.aaload, 1) := by decide +kernel
theorem dX2_end_119 : decode cX2_end 119 = .ok (.iconst 2, 1) := by decide +kernel
theorem dX2_end_120 : decode cX2_end 120 = .ok (.iaload, 1) := by decide +kernel
theorem dX2_end_121 : decode cX2_end 121 = .ok (.aload_n 0, 1) := by decide +kernel
theorem dX2_end_122 : decode cX2_end 122 = .ok (.getfield 9, 3) := by decide +kernel
theorem dX2_end_125 : decode cX2_end 125 = .ok (.iload 5, 2) := by decide +kernel
theorem dX2_end_127 : decode cX2_end 127 = .ok (.aaload, 1) := by decide +kernel
theorem dX2_end_128 : decode cX2_end 128 = .ok (.iconst 2, 1) := by decide +kernel
theorem dX2_end_129 : decode cX2_end 129 = .ok (.iaload, 1) := by decide +kernel
theorem dX2_end_130 : decode cX2_end 130 = .ok (.if_icmp .gt 6, 3) := by decide +kernel
theorem dX2_end_133 : decode cX2_end 133 = .ok (.goto 30, 3) := by decide +kernel
theorem dX2_end_136 : decode cX2_end 136 = .ok (.aload_n 0, 1) := by decide +kernel
theorem dX2_end_137 : decode cX2_end 137 = .ok (.getfield 9, 3) := by decide +kernel
theorem dX2_end_140 : decode cX2_end 140 = .ok (.aload 4, 2) := by decide +kernel
theorem dX2_end_142 : decode cX2_end 142 = .ok (.iconst 0, 1) := by decide +kernel
theorem dX2_end_143 : decode cX2_end 143 = .ok (.iaload, 1) := by decide +kernel
theorem dX2_end_144 : decode cX2_end 144 = .ok (.aaload, 1) := by decide +kernel
theorem dX2_end_145 : decode cX2_end 145 = .ok (.iconst 1, 1) := by decide +kernel
theorem dX2_end_146 : decode cX2_end 146 = .ok (.iload_n 2, 1) := by decide +kernel
theorem dX2_end_147 : decode cX2_end 147 = .ok (.iastore, 1) := by decide +kernel
theorem dX2_end_148 : decode cX2_end 148 = .ok (.aload_n 0, 1) := by decide +kernel
theorem dX2_end_149 : decode cX2_end 149 = .ok (.getfield 9, 3) := by decide +kernel
theorem dX2_end_152 : decode cX2_end 152 = .ok (.iload 5, 2) := by decide +kernel
theorem dX2_end_154 : decode cX2_end 154 = .ok (.aaload, 1) := by decide +kernel
theorem dX2_end_155 : decode cX2_end 155 = .ok (.iconst 1, 1) := by decide +kernel
theorem dX2_end_156 : decode cX2_end 156 = .ok (.iload_n 2, 1) := by decide +kernel
theorem dX2_end_157 : decode cX2_end 157 = .ok (.iconst 1, 1) := by decide +kernel
theorem dX2_end_158 : decode cX2_end 158 = .ok (.iadd, 1) := by decide +kernel
theorem dX2_end_159 : decode cX2_end 159 = .ok (.iastore, 1) := by decide +kernel
theorem dX2_end_160 : decode cX2_end 160 = .ok (.iinc 1 1, 3) := by decide +kernel
theorem dX2_end_163 : decode cX2_end 163 = .ok (.iinc 2 1, 3) := by decide +kernel
theorem dX2_end_166 : decode cX2_end 166 = .ok (.goto (-98), 3) := by decide +kernel
theorem dX2_end_169 : decode cX2_end 169 = .ok (.aload_n 0, 1) := by decide +kernel
theorem dX2_end_170 : decode cX2_end 170 = .ok (.getfield 9, 3) := by decide +kernel
theorem dX2_end_173 : decode cX2_end 173 = .ok (.astore_n 2, 1) := by decide +kernel
theorem dX2_end_174 : decode cX2_end 174 = .ok (.aload_n 2, 1) := by decide +kernel
theorem dX2_end_175 : decode cX2_end 175 = .ok (.arraylength, 1) := by decide +kernel
theorem dX2_end_176 : decode cX2_end 176 = .ok (.istore_n 3, 1) := by decide +kernel
theorem dX2_end_177 : decode cX2_end 177 = .ok (.iconst 0, 1) := by decide +kernel
theorem dX2_end_178 : decode cX2_end 178 = .ok (.istore 4, 2) := by decide +kernel
theorem dX2_end_180 : decode cX2_end 180 = .ok (.iload 4, 2) := by decide +kernel
theorem dX2_end_182 : decode cX2_end 182 = .ok (.iload_n 3, 1) := by decide +kernel
theorem dX2_end_183 : decode cX2_end 183 = .ok (.if_icmp .ge 25, 3) := by decide +kernel
theorem dX2_end_186 : decode cX2_end 186 = .ok (.aload_n 2, 1) := by decide +kernel
theorem dX2_end_187 : decode cX2_end 187 = .ok (.iload 4, 2) := by decide +kernel
theorem dX2_end_189 : decode cX2_end 189 = .ok (.aaload, 1) := by decide +kernel
theorem dX2_end_190 : decode cX2_end 190 = .ok (.astore 5, 2) := by decide +kernel
theorem dX2_end_192 : decode cX2_end 192 = .ok (.aload 5, 2) := by decide +kernel
theorem dX2_end_194 : decode cX2_end 194 = .ok (.iconst 2, 1) := by decide +kernel
theorem dX2_end_195 : decode cX2_end 195 = .ok (.iconst 0, 1) := by decide +kernel
theorem dX2_end_196 : decode cX2_end 196 = .ok (.iastore, 1) := by decide +kernel
theorem dX2_end_197 : decode cX2_end 197 = .ok (.aload 5, 2) := by decide +kernel
theorem dX2_end_199 : decode cX2_end 199 = .ok (.iconst 4, 1) := by decide +kernel
theorem dX2_end_200 : decode cX2_end 200 = .ok (.iconst 0, 1) := by decide +kernel
theorem dX2_end_201 : decode cX2_end 201 = .ok (.iastore, 1) := by decide +kernel
theorem dX2_end_202 : decode cX2_end 202 = .ok (.iinc 4 1, 3) := by decide +kernel
theorem dX2_end_205 : decode cX2_end 205 = .ok (.goto (-25), 3) := by decide +kernel
theorem dX2_end_208 : decode cX2_end 208 = .ok (.aload_n 0, 1) := by decide +kernel
theorem dX2_end_209 : decode cX2_end 209 = .ok (.dup, 1) := by decide +kernel
theorem dX2_end_210 : decode cX2_end 210 = .ok (.getfield 45, 3) := by decide +kernel
theorem dX2_end_213 : decode cX2_end 213 = .ok (.iconst 1, 1) := by decide +kernel
theorem dX2_end_214 : decode cX2_end 214 = .ok (.iadd, 1) := by decide +kernel
theorem dX2_end_215 : decode cX2_end 215 = .ok (.putfield 45, 3) := by decide +kernel
theorem dX2_end_218 : decode cX2_end 218 = .ok (.iload_n 1, 1) := by decide +kernel
theorem dX2_end_219 : decode cX2_end 219 = .ok (.ireturn, 1) := by decide +kernel
set_option maxRecDepth 20000 in
theorem ggX2_off_X2_expected : GoodIn wsX2_off wsX2_expected := goodIn_r _ [5, 6, 7, 1, 2, 3, 4, 8, 9, 10, 11] (by decide +kernel) (by decide +kernel)
set_option maxRecDepth 20000 in
theorem gX2_off_X2_expected : GoodIn wsX2_off (wsV RX2 15 RX2 yX2_expected wsX2_expected) := goodIn_app (goodIn_of _ (by decide +kernel)) ggX2_off_X2_expected
theorem dX2_off_0 : decode cX2_off 0 = .ok (.aload_n 0, 1) := by decide +kernel
theorem dX2_off_1 : decode cX2_off 1 = .ok (.iload_n 1, 1) := by decide +kernel
theorem dX2_off_2 : decode cX2_off 2 = .ok (.iload_n 2, 1) := by decide +kernel
theorem dX2_off_3 : decode cX2_off 3 = .ok (.invokevirtual 15, 3) := by decide +kernel
theorem dX2_off_6 : decode cX2_off 6 = .ok (.istore_n 3, 1) := by decide +kernel
theorem dX2_off_7 : decode cX2_off 7 = .ok (.iload_n 3, 1) := by decide +kernel
theorem dX2_off_8 : decode cX2_off 8 = .ok (.sipush 500, 3) := by decide +kernel
theorem dX2_off_11 : decode cX2_off 11 = .ok (.if_icmp .le 11, 3) := by decide +kernel
theorem dX2_off_14 : decode cX2_off 14 = .ok (.iload_n 3, 1) := by decide +kernel
theorem dX2_off_15 : decode cX2_off 15 = .ok (.sipush 500, 3) := by decide +kernel
theorem dX2_off_18 : decode cX2_off 18 = .ok (.isub, 1) := by decide +kernel
theorem dX2_off_19 : decode cX2_off 19 = .ok (.goto 8, 3) := by decide +kernel
theorem dX2_off_22 : decode cX2_off 22 = .ok (.sipush 500, 3) := by decide +kernel
theorem dX2_off_25 : decode cX2_off 25 = .ok (.iload_n 3, 1) := by decide +kernel
theorem dX2_off_26 : decode cX2_off 26 = .ok (.isub, 1) := by decide +kernel
theorem dX2_off_27 : decode cX2_off 27 = .ok (.ireturn, 1) := by decide +kernel
set_option maxRecDepth 20000 in
theorem ggX2_match_X2_off : GoodIn wsX2_match wsX2_off := goodIn_r _ [6, 7, 8, 9, 5, 10, 1, 11, 12, 13, 14, 15] (by decide +kernel) (by decide +kernel)
set_option maxRecDepth 20000 in
theorem gX2_match_X2_off : GoodIn wsX2_match (wsV RX2 48 RX2 yX2_off wsX2_off) := goodIn_app (goodIn_of _ (by decide +kernel)) ggX2_match_X2_off
theorem dX2_match_0 : decode cX2_match 0 = .ok (.iconst (-1), 1) := by decide +kernel
theorem dX2_match_1 : decode cX2_match 1 = .ok (.istore_n 2, 1) := by decide +kernel
theorem dX2_match_2 : decode cX2_match 2 = .ok (.aload_n 0, 1) := by decide +kernel
theorem dX2_match_3 : decode cX2_match 3 = .ok (.getfield 9, 3) := by decide +kernel
theorem dX2_match_6 : decode cX2_match 6 = .ok (.arraylength, 1) := by decide +kernel
theorem dX2_match_7 : decode cX2_match 7 = .ok (.iconst 1, 1) := by decide +kernel
theorem dX2_match_8 : decode cX2_match 8 = .ok (.isub, 1) := by decide +kernel
theorem dX2_match_9 : decode cX2_match 9 = .ok (.istore_n 3, 1) := by decide +kernel
theorem dX2_match_10 : decode cX2_match 10 = .ok (.iload_n 3, 1) := by decide +kernel
theorem dX2_match_11 : decode cX2_match 11 = .ok (.ifCond .lt 54, 3) := by decide +kernel
theorem dX2_match_14 : decode cX2_match 14 = .ok (.iload_n 3, 1) := by decide +kernel
theorem dX2_match_15 : decode cX2_match 15 = .ok (.iload_n 1, 1) := by decide +kernel
theorem dX2_match_16 : decode cX2_match 16 = .ok (.if_icmp .eq 43, 3) := by decide +kernel
theorem dX2_match_19 : decode cX2_match 19 = .ok (.aload_n 0, 1) := by decide +kernel
theorem dX2_match_20 : decode cX2_match 20 = .ok (.getfield 9, 3) := by decide +kernel
theorem dX2_match_23 : decode cX2_match 23 = .ok (.iload_n 3, 1) := by decide +kernel
theorem dX2_match_24 : decode cX2_match 24 = .ok (.aaload, 1) := by decide +kernel
theorem dX2_match_25 : decode cX2_match 25 = .ok (.iconst 1, 1) := by decide +kernel
theorem dX2_match_26 : decode cX2_match 26 = .ok (.iaload, 1) := by decide +kernel
theorem dX2_match_27 : decode cX2_match 27 = .ok (.aload_n 0, 1) := by decide +kernel
theorem dX2_match_28 : decode cX2_match 28 = .ok (.getfield 9, 3) := by decide +kernel
theorem dX2_match_31 : decode cX2_match 31 = .ok (.iload_n 1, 1) := by decide +kernel
theorem dX2_match_32 : decode cX2_match 32 = .ok (.aaload, 1) := by decide +kernel
theorem dX2_match_33 : decode cX2_match 33 = .ok (.iconst 1, 1) := by decide +kernel
theorem dX2_match_34 : decode cX2_match 34 = .ok (.iaload, 1) := by decide +kernel
theorem dX2_match_35 : decode cX2_match 35 = .ok (.if_icmp .ne 24, 3) := by decide +kernel
theorem dX2_match_38 : decode cX2_match 38 = .ok (.iload_n 2, 1) := by decide +kernel
theorem dX2_match_39 : decode cX2_match 39 = .ok (.ifCond .lt 18, 3) := by decide +kernel
theorem dX2_match_42 : decode cX2_match 42 = .ok (.aload_n 0, 1) := by decide +kernel
theorem dX2_match_43 : decode cX2_match 43 = .ok (.iload_n 3, 1) := by decide +kernel
theorem dX2_match_44 : decode cX2_match 44 = .ok (.iload_n 1, 1) := by decide +kernel
theorem dX2_match_45 : decode cX2_match 45 = .ok (.invokevirtual 48, 3) := by decide +kernel
theorem dX2_match_48 : decode cX2_match 48 = .ok (.aload_n 0, 1) := by decide +kernel
theorem dX2_match_49 : decode cX2_match 49 = .ok (.iload_n 2, 1) := by decide +kernel
theorem dX2_match_50 : decode cX2_match 50 = .ok (.iload_n 1, 1) := by decide +kernel
theorem dX2_match_51 : decode cX2_match 51 = .ok (.invokevirtual 48, 3) := by decide +kernel
theorem dX2_match_54 : decode cX2_match 54 = .ok (.if_icmp .gt 5, 3) := by decide +kernel
theorem dX2_match_57 : decode cX2_match 57 = .ok (.iload_n 3, 1) := by decide +kernel
theorem dX2_match_58 : decode cX2_match 58 = .ok (.istore_n 2, 1) := by decide +kernel
theorem dX2_match_59 : decode cX2_match 59 = .ok (.iinc 3 (-1), 3) := by decide +kernel
theorem dX2_match_62 : decode cX2_match 62 = .ok (.goto (-52), 3) := by decide +kernel
theorem dX2_match_65 : decode cX2_match 65 = .ok (.iload_n 2, 1) := by decide +kernel
theorem dX2_match_66 : decode cX2_match 66 = .ok (.ireturn, 1) := by decide +kernel
set_option maxRecDepth 20000 in
theorem ggX2_next_X2_off : GoodIn wsX2_next wsX2_off := goodIn_r _ [6, 7, 8, 9, 5, 10, 1, 11, 12, 13, 14, 15] (by decide +kernel) (by decide +kernel)
set_option maxRecDepth 20000 in
theorem gX2_next_X2_off : GoodIn wsX2_next (wsV RX2 48 RX2 yX2_off wsX2_off) := goodIn_app (goodIn_of _ (by decide +kernel)) ggX2_next_X2_off
theorem dX2_next_0 : decode cX2_next 0 = .ok (.iconst (-1), 1) := by decide +kernel
theorem dX2_next_1 : decode cX2_next 1 = .ok (.istore_n 1, 1) := by decide +kernel
theorem dX2_next_2 : decode cX2_next 2 = .ok (.iconst 0, 1) := by decide +kernel
theorem dX2_next_3 : decode cX2_next 3 = .ok (.istore_n 2, 1) := by decide +kernel
theorem dX2_next_4 : decode cX2_next 4 = .ok (.iconst 0, 1) := by decide +kernel
theorem dX2_next_5 : decode cX2_next 5 = .ok (.istore_n 3, 1) := by decide +kernel
theorem dX2_next_6 : decode cX2_next 6 = .ok (.aload_n 0, 1) := by decide +kernel
theorem dX2_next_7 : decode cX2_next 7 = .ok (.getfield 9, 3) := by decide +kernel
theorem dX2_next_10 : decode cX2_next 10 = .ok (.arraylength, 1) := by decide +kernel
