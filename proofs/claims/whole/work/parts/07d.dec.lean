theorem dd_X12_priceBy_55 : decode mb_X12_priceBy 55 = .ok (.aload_n 0, 1) := by decide +kernel
theorem dd_X12_priceBy_56 : decode mb_X12_priceBy 56 = .ok (.getfield 47, 3) := by decide +kernel
theorem dd_X12_priceBy_59 : decode mb_X12_priceBy 59 = .ok (.iconst 5, 1) := by decide +kernel
theorem dd_X12_priceBy_60 : decode mb_X12_priceBy 60 = .ok (.iload_n 3, 1) := by decide +kernel
theorem dd_X12_priceBy_61 : decode mb_X12_priceBy 61 = .ok (.imul, 1) := by decide +kernel
theorem dd_X12_priceBy_62 : decode mb_X12_priceBy 62 = .ok (.iconst 2, 1) := by decide +kernel
theorem dd_X12_priceBy_63 : decode mb_X12_priceBy 63 = .ok (.iadd, 1) := by decide +kernel
theorem dd_X12_priceBy_64 : decode mb_X12_priceBy 64 = .ok (.iaload, 1) := by decide +kernel
theorem dd_X12_priceBy_65 : decode mb_X12_priceBy 65 = .ok (.istore 6, 2) := by decide +kernel
theorem dd_X12_priceBy_67 : decode mb_X12_priceBy 67 = .ok (.iload_n 3, 1) := by decide +kernel
theorem dd_X12_priceBy_68 : decode mb_X12_priceBy 68 = .ok (.ifCond .ge 7, 3) := by decide +kernel
theorem dd_X12_priceBy_71 : decode mb_X12_priceBy 71 = .ok (.iconst 0, 1) := by decide +kernel
theorem dd_X12_priceBy_72 : decode mb_X12_priceBy 72 = .ok (.goto 13, 3) := by decide +kernel
theorem dd_X12_priceBy_75 : decode mb_X12_priceBy 75 = .ok (.aload_n 0, 1) := by decide +kernel
theorem dd_X12_priceBy_76 : decode mb_X12_priceBy 76 = .ok (.getfield 47, 3) := by decide +kernel
theorem dd_X12_priceBy_79 : decode mb_X12_priceBy 79 = .ok (.iconst 5, 1) := by decide +kernel
theorem dd_X12_priceBy_80 : decode mb_X12_priceBy 80 = .ok (.iload_n 3, 1) := by decide +kernel
theorem dd_X12_priceBy_81 : decode mb_X12_priceBy 81 = .ok (.imul, 1) := by decide +kernel
theorem dd_X12_priceBy_82 : decode mb_X12_priceBy 82 = .ok (.iconst 3, 1) := by decide +kernel
theorem dd_X12_priceBy_83 : decode mb_X12_priceBy 83 = .ok (.iadd, 1) := by decide +kernel
theorem dd_X12_priceBy_84 : decode mb_X12_priceBy 84 = .ok (.iaload, 1) := by decide +kernel
theorem dd_X12_priceBy_85 : decode mb_X12_priceBy 85 = .ok (.istore 7, 2) := by decide +kernel
theorem dd_X12_priceBy_87 : decode mb_X12_priceBy 87 = .ok (.iload_n 3, 1) := by decide +kernel
theorem dd_X12_priceBy_88 : decode mb_X12_priceBy 88 = .ok (.ifCond .ge 9, 3) := by decide +kernel
theorem dd_X12_priceBy_91 : decode mb_X12_priceBy 91 = .ok (.sipush 999, 3) := by decide +kernel
theorem dd_X12_priceBy_94 : decode mb_X12_priceBy 94 = .ok (.goto 13, 3) := by decide +kernel
theorem dd_X12_priceBy_97 : decode mb_X12_priceBy 97 = .ok (.aload_n 0, 1) := by decide +kernel
theorem dd_X12_priceBy_98 : decode mb_X12_priceBy 98 = .ok (.getfield 47, 3) := by decide +kernel
theorem dd_X12_priceBy_101 : decode mb_X12_priceBy 101 = .ok (.iconst 5, 1) := by decide +kernel
theorem dd_X12_priceBy_102 : decode mb_X12_priceBy 102 = .ok (.iload_n 3, 1) := by decide +kernel
theorem dd_X12_priceBy_103 : decode mb_X12_priceBy 103 = .ok (.imul, 1) := by decide +kernel
theorem dd_X12_priceBy_104 : decode mb_X12_priceBy 104 = .ok (.iconst 4, 1) := by decide +kernel
theorem dd_X12_priceBy_105 : decode mb_X12_priceBy 105 = .ok (.iadd, 1) := by decide +kernel
theorem dd_X12_priceBy_106 : decode mb_X12_priceBy 106 = .ok (.iaload, 1) := by decide +kernel
theorem dd_X12_priceBy_107 : decode mb_X12_priceBy 107 = .ok (.istore 8, 2) := by decide +kernel
theorem dd_X12_priceBy_109 : decode mb_X12_priceBy 109 = .ok (.aload_n 0, 1) := by decide +kernel
theorem dd_X12_priceBy_110 : decode mb_X12_priceBy 110 = .ok (.aload_n 0, 1) := by decide +kernel
theorem dd_X12_priceBy_111 : decode mb_X12_priceBy 111 = .ok (.getfield 38, 3) := by decide +kernel
theorem dd_X12_priceBy_114 : decode mb_X12_priceBy 114 = .ok (.iload_n 1, 1) := by decide +kernel
theorem dd_X12_priceBy_115 : decode mb_X12_priceBy 115 = .ok (.iaload, 1) := by decide +kernel
theorem dd_X12_priceBy_116 : decode mb_X12_priceBy 116 = .ok (.aload_n 0, 1) := by decide +kernel
theorem dd_X12_priceBy_117 : decode mb_X12_priceBy 117 = .ok (.getfield 20, 3) := by decide +kernel
theorem dd_X12_priceBy_120 : decode mb_X12_priceBy 120 = .ok (.iload_n 2, 1) := by decide +kernel
theorem dd_X12_priceBy_121 : decode mb_X12_priceBy 121 = .ok (.iaload, 1) := by decide +kernel
theorem dd_X12_priceBy_122 : decode mb_X12_priceBy 122 = .ok (.invokevirtual 181, 3) := by decide +kernel
theorem dd_X12_priceBy_125 : decode mb_X12_priceBy 125 = .ok (.ifCond .eq 17, 3) := by decide +kernel
theorem dd_X12_priceBy_128 : decode mb_X12_priceBy 128 = .ok (.iload 4, 2) := by decide +kernel
theorem dd_X12_priceBy_130 : decode mb_X12_priceBy 130 = .ok (.aload_n 0, 1) := by decide +kernel
theorem dd_X12_priceBy_131 : decode mb_X12_priceBy 131 = .ok (.iload_n 2, 1) := by decide +kernel
theorem dd_X12_priceBy_132 : decode mb_X12_priceBy 132 = .ok (.invokevirtual 175, 3) := by decide +kernel
theorem dd_X12_priceBy_135 : decode mb_X12_priceBy 135 = .ok (.imul, 1) := by decide +kernel
theorem dd_X12_priceBy_136 : decode mb_X12_priceBy 136 = .ok (.bipush 100, 2) := by decide +kernel
theorem dd_X12_priceBy_138 : decode mb_X12_priceBy 138 = .ok (.idiv, 1) := by decide +kernel
theorem dd_X12_priceBy_139 : decode mb_X12_priceBy 139 = .ok (.goto 15, 3) := by decide +kernel
theorem dd_X12_priceBy_142 : decode mb_X12_priceBy 142 = .ok (.iload 5, 2) := by decide +kernel
theorem dd_X12_priceBy_144 : decode mb_X12_priceBy 144 = .ok (.aload_n 0, 1) := by decide +kernel
theorem dd_X12_priceBy_145 : decode mb_X12_priceBy 145 = .ok (.getfield 41, 3) := by decide +kernel
theorem dd_X12_priceBy_148 : decode mb_X12_priceBy 148 = .ok (.iload_n 1, 1) := by decide +kernel
theorem dd_X12_priceBy_149 : decode mb_X12_priceBy 149 = .ok (.iaload, 1) := by decide +kernel
theorem dd_X12_priceBy_150 : decode mb_X12_priceBy 150 = .ok (.imul, 1) := by decide +kernel
theorem dd_X12_priceBy_151 : decode mb_X12_priceBy 151 = .ok (.bipush 100, 2) := by decide +kernel
theorem dd_X12_priceBy_153 : decode mb_X12_priceBy 153 = .ok (.idiv, 1) := by decide +kernel
theorem dd_X12_priceBy_154 : decode mb_X12_priceBy 154 = .ok (.istore 9, 2) := by decide +kernel
theorem dd_X12_priceBy_156 : decode mb_X12_priceBy 156 = .ok (.iload 9, 2) := by decide +kernel
theorem dd_X12_priceBy_158 : decode mb_X12_priceBy 158 = .ok (.iload 9, 2) := by decide +kernel
theorem dd_X12_priceBy_160 : decode mb_X12_priceBy 160 = .ok (.iload 6, 2) := by decide +kernel
theorem dd_X12_priceBy_162 : decode mb_X12_priceBy 162 = .ok (.irem, 1) := by decide +kernel
theorem dd_X12_priceBy_163 : decode mb_X12_priceBy 163 = .ok (.isub, 1) := by decide +kernel
theorem dd_X12_priceBy_164 : decode mb_X12_priceBy 164 = .ok (.istore 9, 2) := by decide +kernel
theorem dd_X12_priceBy_166 : decode mb_X12_priceBy 166 = .ok (.iload 9, 2) := by decide +kernel
theorem dd_X12_priceBy_168 : decode mb_X12_priceBy 168 = .ok (.iload 7, 2) := by decide +kernel
theorem dd_X12_priceBy_170 : decode mb_X12_priceBy 170 = .ok (.if_icmp .ge 7, 3) := by decide +kernel
theorem dd_X12_priceBy_173 : decode mb_X12_priceBy 173 = .ok (.iload 7, 2) := by decide +kernel
theorem dd_X12_priceBy_175 : decode mb_X12_priceBy 175 = .ok (.istore 9, 2) := by decide +kernel
theorem dd_X12_priceBy_177 : decode mb_X12_priceBy 177 = .ok (.iload 9, 2) := by decide +kernel
theorem dd_X12_priceBy_179 : decode mb_X12_priceBy 179 = .ok (.iload 8, 2) := by decide +kernel
theorem dd_X12_priceBy_181 : decode mb_X12_priceBy 181 = .ok (.if_icmp .le 8, 3) := by decide +kernel
theorem dd_X12_priceBy_184 : decode mb_X12_priceBy 184 = .ok (.iload 8, 2) := by decide +kernel
theorem dd_X12_priceBy_186 : decode mb_X12_priceBy 186 = .ok (.goto 5, 3) := by decide +kernel
theorem dd_X12_priceBy_189 : decode mb_X12_priceBy 189 = .ok (.iload 9, 2) := by decide +kernel
theorem dd_X12_priceBy_191 : decode mb_X12_priceBy 191 = .ok (.ireturn, 1) := by decide +kernel
theorem dd_X12_read_0 : decode mb_X12_read 0 = .ok (.aload_n 0, 1) := by decide +kernel
theorem dd_X12_read_1 : decode mb_X12_read 1 = .ok (.getfield 47, 3) := by decide +kernel
theorem dd_X12_read_4 : decode mb_X12_read 4 = .ok (.iload_n 1, 1) := by decide +kernel
theorem dd_X12_read_5 : decode mb_X12_read 5 = .ok (.bipush 100, 2) := by decide +kernel
theorem dd_X12_read_7 : decode mb_X12_read 7 = .ok (.iastore, 1) := by decide +kernel
theorem dd_X12_read_8 : decode mb_X12_read 8 = .ok (.aload_n 0, 1) := by decide +kernel
theorem dd_X12_read_9 : decode mb_X12_read 9 = .ok (.getfield 47, 3) := by decide +kernel
theorem dd_X12_read_12 : decode mb_X12_read 12 = .ok (.iload_n 1, 1) := by decide +kernel
theorem dd_X12_read_13 : decode mb_X12_read 13 = .ok (.iconst 1, 1) := by decide +kernel
theorem dd_X12_read_14 : decode mb_X12_read 14 = .ok (.iadd, 1) := by decide +kernel
theorem dd_X12_read_15 : decode mb_X12_read 15 = .ok (.bipush 50, 2) := by decide +kernel
theorem dd_X12_read_17 : decode mb_X12_read 17 = .ok (.iastore, 1) := by decide +kernel
theorem dd_X12_read_18 : decode mb_X12_read 18 = .ok (.aload_n 0, 1) := by decide +kernel
theorem dd_X12_read_19 : decode mb_X12_read 19 = .ok (.getfield 47, 3) := by decide +kernel
theorem dd_X12_read_22 : decode mb_X12_read 22 = .ok (.iload_n 1, 1) := by decide +kernel
theorem dd_X12_read_23 : decode mb_X12_read 23 = .ok (.iconst 2, 1) := by decide +kernel
theorem dd_X12_read_24 : decode mb_X12_read 24 = .ok (.iadd, 1) := by decide +kernel
theorem dd_X12_read_25 : decode mb_X12_read 25 = .ok (.iconst 1, 1) := by decide +kernel
theorem dd_X12_read_26 : decode mb_X12_read 26 = .ok (.iastore, 1) := by decide +kernel
theorem dd_X12_read_27 : decode mb_X12_read 27 = .ok (.aload_n 0, 1) := by decide +kernel
theorem dd_X12_read_28 : decode mb_X12_read 28 = .ok (.getfield 47, 3) := by decide +kernel
theorem dd_X12_read_31 : decode mb_X12_read 31 = .ok (.iload_n 1, 1) := by decide +kernel
theorem dd_X12_read_32 : decode mb_X12_read 32 = .ok (.iconst 3, 1) := by decide +kernel
theorem dd_X12_read_33 : decode mb_X12_read 33 = .ok (.iadd, 1) := by decide +kernel
theorem dd_X12_read_34 : decode mb_X12_read 34 = .ok (.iconst 0, 1) := by decide +kernel
theorem dd_X12_read_35 : decode mb_X12_read 35 = .ok (.iastore, 1) := by decide +kernel
theorem dd_X12_read_36 : decode mb_X12_read 36 = .ok (.aload_n 0, 1) := by decide +kernel
theorem dd_X12_read_37 : decode mb_X12_read 37 = .ok (.getfield 47, 3) := by decide +kernel
theorem dd_X12_read_40 : decode mb_X12_read 40 = .ok (.iload_n 1, 1) := by decide +kernel
theorem dd_X12_read_41 : decode mb_X12_read 41 = .ok (.iconst 4, 1) := by decide +kernel
theorem dd_X12_read_42 : decode mb_X12_read 42 = .ok (.iadd, 1) := by decide +kernel
theorem dd_X12_read_43 : decode mb_X12_read 43 = .ok (.sipush 999, 3) := by decide +kernel
theorem dd_X12_read_46 : decode mb_X12_read 46 = .ok (.iastore, 1) := by decide +kernel
theorem dd_X12_read_47 : decode mb_X12_read 47 = .ok (.iconst 0, 1) := by decide +kernel
theorem dd_X12_read_48 : decode mb_X12_read 48 = .ok (.istore_n 2, 1) := by decide +kernel
theorem dd_X12_read_49 : decode mb_X12_read 49 = .ok (.iconst 0, 1) := by decide +kernel
theorem dd_X12_read_50 : decode mb_X12_read 50 = .ok (.istore_n 3, 1) := by decide +kernel
theorem dd_X12_read_51 : decode mb_X12_read 51 = .ok (.iconst 0, 1) := by decide +kernel
theorem dd_X12_read_52 : decode mb_X12_read 52 = .ok (.istore 4, 2) := by decide +kernel
theorem dd_X12_read_54 : decode mb_X12_read 54 = .ok (.iload_n 2, 1) := by decide +kernel
theorem dd_X12_read_55 : decode mb_X12_read 55 = .ok (.aload_n 0, 1) := by decide +kernel
theorem dd_X12_read_56 : decode mb_X12_read 56 = .ok (.getfield 199, 3) := by decide +kernel
theorem dd_X12_read_59 : decode mb_X12_read 59 = .ok (.if_icmp .ge 20, 3) := by decide +kernel
theorem dd_X12_read_62 : decode mb_X12_read 62 = .ok (.aload_n 0, 1) := by decide +kernel
theorem dd_X12_read_63 : decode mb_X12_read 63 = .ok (.getfield 50, 3) := by decide +kernel
theorem dd_X12_read_66 : decode mb_X12_read 66 = .ok (.iload_n 2, 1) := by decide +kernel
theorem dd_X12_read_67 : decode mb_X12_read 67 = .ok (.iaload, 1) := by decide +kernel
theorem dd_X12_read_68 : decode mb_X12_read 68 = .ok (.bipush 32, 2) := by decide +kernel
theorem dd_X12_read_70 : decode mb_X12_read 70 = .ok (.if_icmp .ne 9, 3) := by decide +kernel
theorem dd_X12_read_73 : decode mb_X12_read 73 = .ok (.iinc 2 1, 3) := by decide +kernel
theorem dd_X12_read_76 : decode mb_X12_read 76 = .ok (.goto (-22), 3) := by decide +kernel
theorem dd_X12_read_79 : decode mb_X12_read 79 = .ok (.iload_n 2, 1) := by decide +kernel
theorem dd_X12_read_80 : decode mb_X12_read 80 = .ok (.aload_n 0, 1) := by decide +kernel
theorem dd_X12_read_81 : decode mb_X12_read 81 = .ok (.getfield 199, 3) := by decide +kernel
theorem dd_X12_read_84 : decode mb_X12_read 84 = .ok (.if_icmp .ne 17, 3) := by decide +kernel
theorem dd_X12_read_87 : decode mb_X12_read 87 = .ok (.iload_n 3, 1) := by decide +kernel
theorem dd_X12_read_88 : decode mb_X12_read 88 = .ok (.iconst 2, 1) := by decide +kernel
theorem dd_X12_read_89 : decode mb_X12_read 89 = .ok (.if_icmp .ne 7, 3) := by decide +kernel
theorem dd_X12_read_92 : decode mb_X12_read 92 = .ok (.iconst (-1), 1) := by decide +kernel
theorem dd_X12_read_93 : decode mb_X12_read 93 = .ok (.goto 7, 3) := by decide +kernel
theorem dd_X12_read_96 : decode mb_X12_read 96 = .ok (.aload_n 0, 1) := by decide +kernel
theorem dd_X12_read_97 : decode mb_X12_read 97 = .ok (.getfield 199, 3) := by decide +kernel
theorem dd_X12_read_100 : decode mb_X12_read 100 = .ok (.ireturn, 1) := by decide +kernel
theorem dd_X12_read_101 : decode mb_X12_read 101 = .ok (.iload_n 2, 1) := by decide +kernel
theorem dd_X12_read_102 : decode mb_X12_read 102 = .ok (.istore 5, 2) := by decide +kernel
theorem dd_X12_read_104 : decode mb_X12_read 104 = .ok (.iload_n 3, 1) := by decide +kernel
theorem dd_X12_read_105 : decode mb_X12_read 105 = .ok (.ifCond .ne 53, 3) := by decide +kernel
theorem dd_X12_read_108 : decode mb_X12_read 108 = .ok (.iload 5, 2) := by decide +kernel
theorem dd_X12_read_110 : decode mb_X12_read 110 = .ok (.aload_n 0, 1) := by decide +kernel
theorem dd_X12_read_111 : decode mb_X12_read 111 = .ok (.getfield 199, 3) := by decide +kernel
theorem dd_X12_read_114 : decode mb_X12_read 114 = .ok (.if_icmp .ge 23, 3) := by decide +kernel
theorem dd_X12_read_117 : decode mb_X12_read 117 = .ok (.aload_n 0, 1) := by decide +kernel
theorem dd_X12_read_118 : decode mb_X12_read 118 = .ok (.aload_n 0, 1) := by decide +kernel
theorem dd_X12_read_119 : decode mb_X12_read 119 = .ok (.getfield 50, 3) := by decide +kernel
theorem dd_X12_read_122 : decode mb_X12_read 122 = .ok (.iload 5, 2) := by decide +kernel
theorem dd_X12_read_124 : decode mb_X12_read 124 = .ok (.iaload, 1) := by decide +kernel
theorem dd_X12_read_125 : decode mb_X12_read 125 = .ok (.invokevirtual 226, 3) := by decide +kernel
theorem dd_X12_read_128 : decode mb_X12_read 128 = .ok (.ifCond .eq 9, 3) := by decide +kernel
theorem dd_X12_read_131 : decode mb_X12_read 131 = .ok (.iinc 5 1, 3) := by decide +kernel
theorem dd_X12_read_134 : decode mb_X12_read 134 = .ok (.goto (-26), 3) := by decide +kernel
theorem dd_X12_read_137 : decode mb_X12_read 137 = .ok (.aload_n 0, 1) := by decide +kernel
theorem dd_X12_read_138 : decode mb_X12_read 138 = .ok (.iload_n 2, 1) := by decide +kernel
theorem dd_X12_read_139 : decode mb_X12_read 139 = .ok (.iload 5, 2) := by decide +kernel
theorem dd_X12_read_141 : decode mb_X12_read 141 = .ok (.invokevirtual 229, 3) := by decide +kernel
theorem dd_X12_read_144 : decode mb_X12_read 144 = .ok (.istore 4, 2) := by decide +kernel
theorem dd_X12_read_146 : decode mb_X12_read 146 = .ok (.iload 4, 2) := by decide +kernel
theorem dd_X12_read_148 : decode mb_X12_read 148 = .ok (.ifCond .ge 5, 3) := by decide +kernel
theorem dd_X12_read_151 : decode mb_X12_read 151 = .ok (.iload_n 2, 1) := by decide +kernel
theorem dd_X12_read_152 : decode mb_X12_read 152 = .ok (.ireturn, 1) := by decide +kernel
theorem dd_X12_read_153 : decode mb_X12_read 153 = .ok (.iconst 1, 1) := by decide +kernel
theorem dd_X12_read_154 : decode mb_X12_read 154 = .ok (.istore_n 3, 1) := by decide +kernel
theorem dd_X12_read_155 : decode mb_X12_read 155 = .ok (.goto 129, 3) := by decide +kernel
theorem dd_X12_read_158 : decode mb_X12_read 158 = .ok (.iload_n 3, 1) := by decide +kernel
theorem dd_X12_read_159 : decode mb_X12_read 159 = .ok (.iconst 1, 1) := by decide +kernel
theorem dd_X12_read_160 : decode mb_X12_read 160 = .ok (.if_icmp .ne 104, 3) := by decide +kernel
theorem dd_X12_read_163 : decode mb_X12_read 163 = .ok (.iconst 0, 1) := by decide +kernel
theorem dd_X12_read_164 : decode mb_X12_read 164 = .ok (.istore 6, 2) := by decide +kernel
theorem dd_X12_read_166 : decode mb_X12_read 166 = .ok (.iload 5, 2) := by decide +kernel
theorem dd_X12_read_168 : decode mb_X12_read 168 = .ok (.aload_n 0, 1) := by decide +kernel
theorem dd_X12_read_169 : decode mb_X12_read 169 = .ok (.getfield 199, 3) := by decide +kernel
theorem dd_X12_read_172 : decode mb_X12_read 172 = .ok (.if_icmp .ge 49, 3) := by decide +kernel
theorem dd_X12_read_175 : decode mb_X12_read 175 = .ok (.aload_n 0, 1) := by decide +kernel
theorem dd_X12_read_176 : decode mb_X12_read 176 = .ok (.aload_n 0, 1) := by decide +kernel
theorem dd_X12_read_177 : decode mb_X12_read 177 = .ok (.getfield 50, 3) := by decide +kernel
theorem dd_X12_read_180 : decode mb_X12_read 180 = .ok (.iload 5, 2) := by decide +kernel
theorem dd_X12_read_182 : decode mb_X12_read 182 = .ok (.iaload, 1) := by decide +kernel
theorem dd_X12_read_183 : decode mb_X12_read 183 = .ok (.invokevirtual 233, 3) := by decide +kernel
theorem dd_X12_read_186 : decode mb_X12_read 186 = .ok (.ifCond .eq 35, 3) := by decide +kernel
theorem dd_X12_read_189 : decode mb_X12_read 189 = .ok (.iload 5, 2) := by decide +kernel
theorem dd_X12_read_191 : decode mb_X12_read 191 = .ok (.iload_n 2, 1) := by decide +kernel
theorem dd_X12_read_192 : decode mb_X12_read 192 = .ok (.isub, 1) := by decide +kernel
theorem dd_X12_read_193 : decode mb_X12_read 193 = .ok (.iconst 3, 1) := by decide +kernel
theorem dd_X12_read_194 : decode mb_X12_read 194 = .ok (.if_icmp .ge 21, 3) := by decide +kernel
theorem dd_X12_read_197 : decode mb_X12_read 197 = .ok (.bipush 10, 2) := by decide +kernel
theorem dd_X12_read_199 : decode mb_X12_read 199 = .ok (.iload 6, 2) := by decide +kernel
theorem dd_X12_read_201 : decode mb_X12_read 201 = .ok (.imul, 1) := by decide +kernel
theorem dd_X12_read_202 : decode mb_X12_read 202 = .ok (.aload_n 0, 1) := by decide +kernel
theorem dd_X12_read_203 : decode mb_X12_read 203 = .ok (.getfield 50, 3) := by decide +kernel
theorem dd_X12_read_206 : decode mb_X12_read 206 = .ok (.iload 5, 2) := by decide +kernel
theorem dd_X12_read_208 : decode mb_X12_read 208 = .ok (.iaload, 1) := by decide +kernel
theorem dd_X12_read_209 : decode mb_X12_read 209 = .ok (.iadd, 1) := by decide +kernel
theorem dd_X12_read_210 : decode mb_X12_read 210 = .ok (.bipush 48, 2) := by decide +kernel
theorem dd_X12_read_212 : decode mb_X12_read 212 = .ok (.isub, 1) := by decide +kernel
theorem dd_X12_read_213 : decode mb_X12_read 213 = .ok (.istore 6, 2) := by decide +kernel
theorem dd_X12_read_215 : decode mb_X12_read 215 = .ok (.iinc 5 1, 3) := by decide +kernel
theorem dd_X12_read_218 : decode mb_X12_read 218 = .ok (.goto (-52), 3) := by decide +kernel
theorem dd_X12_read_221 : decode mb_X12_read 221 = .ok (.iload 5, 2) := by decide +kernel
theorem dd_X12_read_223 : decode mb_X12_read 223 = .ok (.iload_n 2, 1) := by decide +kernel
theorem dd_X12_read_224 : decode mb_X12_read 224 = .ok (.if_icmp .eq 22, 3) := by decide +kernel
theorem dd_X12_read_227 : decode mb_X12_read 227 = .ok (.iload 5, 2) := by decide +kernel
theorem dd_X12_read_229 : decode mb_X12_read 229 = .ok (.iload_n 2, 1) := by decide +kernel
theorem dd_X12_read_230 : decode mb_X12_read 230 = .ok (.isub, 1) := by decide +kernel
theorem dd_X12_read_231 : decode mb_X12_read 231 = .ok (.iconst 3, 1) := by decide +kernel
theorem dd_X12_read_232 : decode mb_X12_read 232 = .ok (.if_icmp .gt 14, 3) := by decide +kernel
theorem dd_X12_read_235 : decode mb_X12_read 235 = .ok (.aload_n 0, 1) := by decide +kernel
theorem dd_X12_read_236 : decode mb_X12_read 236 = .ok (.iload 4, 2) := by decide +kernel
theorem dd_X12_read_238 : decode mb_X12_read 238 = .ok (.iload 6, 2) := by decide +kernel
theorem dd_X12_read_240 : decode mb_X12_read 240 = .ok (.invokevirtual 236, 3) := by decide +kernel
theorem dd_X12_read_243 : decode mb_X12_read 243 = .ok (.ifCond .ne 5, 3) := by decide +kernel
theorem dd_X12_read_246 : decode mb_X12_read 246 = .ok (.iload_n 2, 1) := by decide +kernel
theorem dd_X12_read_247 : decode mb_X12_read 247 = .ok (.ireturn, 1) := by decide +kernel
theorem dd_X12_read_248 : decode mb_X12_read 248 = .ok (.aload_n 0, 1) := by decide +kernel
theorem dd_X12_read_249 : decode mb_X12_read 249 = .ok (.getfield 47, 3) := by decide +kernel
theorem dd_X12_read_252 : decode mb_X12_read 252 = .ok (.iload_n 1, 1) := by decide +kernel
theorem dd_X12_read_253 : decode mb_X12_read 253 = .ok (.iload 4, 2) := by decide +kernel
theorem dd_X12_read_255 : decode mb_X12_read 255 = .ok (.iadd, 1) := by decide +kernel
theorem dd_X12_read_256 : decode mb_X12_read 256 = .ok (.iload 6, 2) := by decide +kernel
theorem dd_X12_read_258 : decode mb_X12_read 258 = .ok (.iastore, 1) := by decide +kernel
theorem dd_X12_read_259 : decode mb_X12_read 259 = .ok (.iconst 2, 1) := by decide +kernel
theorem dd_X12_read_260 : decode mb_X12_read 260 = .ok (.istore_n 3, 1) := by decide +kernel
theorem dd_X12_read_261 : decode mb_X12_read 261 = .ok (.goto 23, 3) := by decide +kernel
theorem dd_X12_read_264 : decode mb_X12_read 264 = .ok (.aload_n 0, 1) := by decide +kernel
theorem dd_X12_read_265 : decode mb_X12_read 265 = .ok (.getfield 50, 3) := by decide +kernel
theorem dd_X12_read_268 : decode mb_X12_read 268 = .ok (.iload_n 2, 1) := by decide +kernel
theorem dd_X12_read_269 : decode mb_X12_read 269 = .ok (.iaload, 1) := by decide +kernel
theorem dd_X12_read_270 : decode mb_X12_read 270 = .ok (.bipush 59, 2) := by decide +kernel
theorem dd_X12_read_272 : decode mb_X12_read 272 = .ok (.if_icmp .eq 5, 3) := by decide +kernel
theorem dd_X12_read_275 : decode mb_X12_read 275 = .ok (.iload_n 2, 1) := by decide +kernel
theorem dd_X12_read_276 : decode mb_X12_read 276 = .ok (.ireturn, 1) := by decide +kernel
theorem dd_X12_read_277 : decode mb_X12_read 277 = .ok (.iload_n 2, 1) := by decide +kernel
theorem dd_X12_read_278 : decode mb_X12_read 278 = .ok (.iconst 1, 1) := by decide +kernel
theorem dd_X12_read_279 : decode mb_X12_read 279 = .ok (.iadd, 1) := by decide +kernel
theorem dd_X12_read_280 : decode mb_X12_read 280 = .ok (.istore 5, 2) := by decide +kernel
theorem dd_X12_read_282 : decode mb_X12_read 282 = .ok (.iconst 0, 1) := by decide +kernel
theorem dd_X12_read_283 : decode mb_X12_read 283 = .ok (.istore_n 3, 1) := by decide +kernel
theorem dd_X12_read_284 : decode mb_X12_read 284 = .ok (.iload 5, 2) := by decide +kernel
theorem dd_X12_read_286 : decode mb_X12_read 286 = .ok (.istore_n 2, 1) := by decide +kernel
theorem dd_X12_read_287 : decode mb_X12_read 287 = .ok (.goto (-233), 3) := by decide +kernel
theorem dd_X12_rest_0 : decode mb_X12_rest 0 = .ok (.iload_n 1, 1) := by decide +kernel
theorem dd_X12_rest_1 : decode mb_X12_rest 1 = .ok (.iconst (-1), 1) := by decide +kernel
theorem dd_X12_rest_2 : decode mb_X12_rest 2 = .ok (.if_icmp .eq 18, 3) := by decide +kernel
theorem dd_X12_rest_5 : decode mb_X12_rest 5 = .ok (.aload_n 0, 1) := by decide +kernel
theorem dd_X12_rest_6 : decode mb_X12_rest 6 = .ok (.iload_n 1, 1) := by decide +kernel
theorem dd_X12_rest_7 : decode mb_X12_rest 7 = .ok (.invokevirtual 168, 3) := by decide +kernel
theorem dd_X12_rest_10 : decode mb_X12_rest 10 = .ok (.ifCond .ne 10, 3) := by decide +kernel
theorem dd_X12_rest_13 : decode mb_X12_rest 13 = .ok (.aload_n 0, 1) := by decide +kernel
theorem dd_X12_rest_14 : decode mb_X12_rest 14 = .ok (.bipush (-2), 2) := by decide +kernel
theorem dd_X12_rest_16 : decode mb_X12_rest 16 = .ok (.invokevirtual 152, 3) := by decide +kernel
theorem dd_X12_rest_19 : decode mb_X12_rest 19 = .ok (.ireturn, 1) := by decide +kernel
theorem dd_X12_rest_20 : decode mb_X12_rest 20 = .ok (.iconst 0, 1) := by decide +kernel
theorem dd_X12_rest_21 : decode mb_X12_rest 21 = .ok (.istore_n 2, 1) := by decide +kernel
theorem dd_X12_rest_22 : decode mb_X12_rest 22 = .ok (.iconst 0, 1) := by decide +kernel
theorem dd_X12_rest_23 : decode mb_X12_rest 23 = .ok (.istore_n 3, 1) := by decide +kernel
theorem dd_X12_rest_24 : decode mb_X12_rest 24 = .ok (.iload_n 3, 1) := by decide +kernel
theorem dd_X12_rest_25 : decode mb_X12_rest 25 = .ok (.aload_n 0, 1) := by decide +kernel
theorem dd_X12_rest_26 : decode mb_X12_rest 26 = .ok (.getfield 135, 3) := by decide +kernel
theorem dd_X12_rest_29 : decode mb_X12_rest 29 = .ok (.if_icmp .ge 40, 3) := by decide +kernel
theorem dd_X12_rest_32 : decode mb_X12_rest 32 = .ok (.aload_n 0, 1) := by decide +kernel
theorem dd_X12_rest_33 : decode mb_X12_rest 33 = .ok (.getfield 32, 3) := by decide +kernel
theorem dd_X12_rest_36 : decode mb_X12_rest 36 = .ok (.iload_n 3, 1) := by decide +kernel
theorem dd_X12_rest_37 : decode mb_X12_rest 37 = .ok (.iaload, 1) := by decide +kernel
theorem dd_X12_rest_38 : decode mb_X12_rest 38 = .ok (.ifCond .ge 25, 3) := by decide +kernel
theorem dd_X12_rest_41 : decode mb_X12_rest 41 = .ok (.iload_n 1, 1) := by decide +kernel
theorem dd_X12_rest_42 : decode mb_X12_rest 42 = .ok (.ifCond .lt 13, 3) := by decide +kernel
theorem dd_X12_rest_45 : decode mb_X12_rest 45 = .ok (.aload_n 0, 1) := by decide +kernel
theorem dd_X12_rest_46 : decode mb_X12_rest 46 = .ok (.getfield 20, 3) := by decide +kernel
theorem dd_X12_rest_49 : decode mb_X12_rest 49 = .ok (.iload_n 3, 1) := by decide +kernel
theorem dd_X12_rest_50 : decode mb_X12_rest 50 = .ok (.iaload, 1) := by decide +kernel
theorem dd_X12_rest_51 : decode mb_X12_rest 51 = .ok (.iload_n 1, 1) := by decide +kernel
theorem dd_X12_rest_52 : decode mb_X12_rest 52 = .ok (.if_icmp .ne 11, 3) := by decide +kernel
theorem dd_X12_rest_55 : decode mb_X12_rest 55 = .ok (.iload_n 2, 1) := by decide +kernel
theorem dd_X12_rest_56 : decode mb_X12_rest 56 = .ok (.aload_n 0, 1) := by decide +kernel
theorem dd_X12_rest_57 : decode mb_X12_rest 57 = .ok (.iload_n 3, 1) := by decide +kernel
theorem dd_X12_rest_58 : decode mb_X12_rest 58 = .ok (.invokevirtual 175, 3) := by decide +kernel
theorem dd_X12_rest_61 : decode mb_X12_rest 61 = .ok (.iadd, 1) := by decide +kernel
theorem dd_X12_rest_62 : decode mb_X12_rest 62 = .ok (.istore_n 2, 1) := by decide +kernel
theorem dd_X12_rest_63 : decode mb_X12_rest 63 = .ok (.iinc 3 1, 3) := by decide +kernel
theorem dd_X12_rest_66 : decode mb_X12_rest 66 = .ok (.goto (-42), 3) := by decide +kernel
theorem dd_X12_rest_69 : decode mb_X12_rest 69 = .ok (.iload_n 2, 1) := by decide +kernel
theorem dd_X12_rest_70 : decode mb_X12_rest 70 = .ok (.ireturn, 1) := by decide +kernel
theorem dd_X12_row_0 : decode mb_X12_row 0 = .ok (.aload_n 0, 1) := by decide +kernel
theorem dd_X12_row_1 : decode mb_X12_row 1 = .ok (.iload_n 1, 1) := by decide +kernel
theorem dd_X12_row_2 : decode mb_X12_row 2 = .ok (.invokevirtual 148, 3) := by decide +kernel
theorem dd_X12_row_5 : decode mb_X12_row 5 = .ok (.ifCond .eq 22, 3) := by decide +kernel
theorem dd_X12_row_8 : decode mb_X12_row 8 = .ok (.iload_n 2, 1) := by decide +kernel
theorem dd_X12_row_9 : decode mb_X12_row 9 = .ok (.ifCond .lt 18, 3) := by decide +kernel
theorem dd_X12_row_12 : decode mb_X12_row 12 = .ok (.iload_n 2, 1) := by decide +kernel
theorem dd_X12_row_13 : decode mb_X12_row 13 = .ok (.iconst 4, 1) := by decide +kernel
theorem dd_X12_row_14 : decode mb_X12_row 14 = .ok (.if_icmp .gt 13, 3) := by decide +kernel
theorem dd_X12_row_17 : decode mb_X12_row 17 = .ok (.iload_n 3, 1) := by decide +kernel
theorem dd_X12_row_18 : decode mb_X12_row 18 = .ok (.ifCond .lt 9, 3) := by decide +kernel
theorem dd_X12_row_21 : decode mb_X12_row 21 = .ok (.iload_n 3, 1) := by decide +kernel
theorem dd_X12_row_22 : decode mb_X12_row 22 = .ok (.bipush 40, 2) := by decide +kernel
theorem dd_X12_row_24 : decode mb_X12_row 24 = .ok (.if_icmp .le 10, 3) := by decide +kernel
theorem dd_X12_row_27 : decode mb_X12_row 27 = .ok (.aload_n 0, 1) := by decide +kernel
theorem dd_X12_row_28 : decode mb_X12_row 28 = .ok (.bipush (-2), 2) := by decide +kernel
theorem dd_X12_row_30 : decode mb_X12_row 30 = .ok (.invokevirtual 152, 3) := by decide +kernel
theorem dd_X12_row_33 : decode mb_X12_row 33 = .ok (.ireturn, 1) := by decide +kernel
theorem dd_X12_row_34 : decode mb_X12_row 34 = .ok (.aload_n 0, 1) := by decide +kernel
theorem dd_X12_row_35 : decode mb_X12_row 35 = .ok (.getfield 7, 3) := by decide +kernel
theorem dd_X12_row_38 : decode mb_X12_row 38 = .ok (.iload_n 1, 1) := by decide +kernel
theorem dd_X12_row_39 : decode mb_X12_row 39 = .ok (.bipush 100, 2) := by decide +kernel
theorem dd_X12_row_41 : decode mb_X12_row 41 = .ok (.iload_n 2, 1) := by decide +kernel
theorem dd_X12_row_42 : decode mb_X12_row 42 = .ok (.iadd, 1) := by decide +kernel
theorem dd_X12_row_43 : decode mb_X12_row 43 = .ok (.iastore, 1) := by decide +kernel
theorem dd_X12_row_44 : decode mb_X12_row 44 = .ok (.aload_n 0, 1) := by decide +kernel
theorem dd_X12_row_45 : decode mb_X12_row 45 = .ok (.getfield 13, 3) := by decide +kernel
theorem dd_X12_row_48 : decode mb_X12_row 48 = .ok (.iload_n 1, 1) := by decide +kernel
theorem dd_X12_row_49 : decode mb_X12_row 49 = .ok (.iload_n 3, 1) := by decide +kernel
theorem dd_X12_row_50 : decode mb_X12_row 50 = .ok (.iastore, 1) := by decide +kernel
theorem dd_X12_row_51 : decode mb_X12_row 51 = .ok (.iconst 0, 1) := by decide +kernel
theorem dd_X12_row_52 : decode mb_X12_row 52 = .ok (.istore 4, 2) := by decide +kernel
theorem dd_X12_row_54 : decode mb_X12_row 54 = .ok (.iload 4, 2) := by decide +kernel
theorem dd_X12_row_56 : decode mb_X12_row 56 = .ok (.bipush 40, 2) := by decide +kernel
theorem dd_X12_row_58 : decode mb_X12_row 58 = .ok (.if_icmp .ge 22, 3) := by decide +kernel
theorem dd_X12_row_61 : decode mb_X12_row 61 = .ok (.aload_n 0, 1) := by decide +kernel
theorem dd_X12_row_62 : decode mb_X12_row 62 = .ok (.getfield 16, 3) := by decide +kernel
theorem dd_X12_row_65 : decode mb_X12_row 65 = .ok (.bipush 40, 2) := by decide +kernel
theorem dd_X12_row_67 : decode mb_X12_row 67 = .ok (.iload_n 1, 1) := by decide +kernel
theorem dd_X12_row_68 : decode mb_X12_row 68 = .ok (.imul, 1) := by decide +kernel
theorem dd_X12_row_69 : decode mb_X12_row 69 = .ok (.iload 4, 2) := by decide +kernel
theorem dd_X12_row_71 : decode mb_X12_row 71 = .ok (.iadd, 1) := by decide +kernel
theorem dd_X12_row_72 : decode mb_X12_row 72 = .ok (.lconst 0, 1) := by decide +kernel
theorem dd_X12_row_73 : decode mb_X12_row 73 = .ok (.lastore, 1) := by decide +kernel
theorem dd_X12_row_74 : decode mb_X12_row 74 = .ok (.iinc 4 1, 3) := by decide +kernel
theorem dd_X12_row_77 : decode mb_X12_row 77 = .ok (.goto (-23), 3) := by decide +kernel
theorem dd_X12_row_80 : decode mb_X12_row 80 = .ok (.iconst 1, 1) := by decide +kernel
theorem dd_X12_row_81 : decode mb_X12_row 81 = .ok (.ireturn, 1) := by decide +kernel
theorem dd_X12_same_0 : decode mb_X12_same 0 = .ok (.iload_n 1, 1) := by decide +kernel
theorem dd_X12_same_1 : decode mb_X12_same 1 = .ok (.ifCond .lt 23, 3) := by decide +kernel
theorem dd_X12_same_4 : decode mb_X12_same 4 = .ok (.iload_n 1, 1) := by decide +kernel
theorem dd_X12_same_5 : decode mb_X12_same 5 = .ok (.aload_n 0, 1) := by decide +kernel
theorem dd_X12_same_6 : decode mb_X12_same 6 = .ok (.getfield 279, 3) := by decide +kernel
theorem dd_X12_same_9 : decode mb_X12_same 9 = .ok (.if_icmp .ge 15, 3) := by decide +kernel
theorem dd_X12_same_12 : decode mb_X12_same 12 = .ok (.iload_n 2, 1) := by decide +kernel
theorem dd_X12_same_13 : decode mb_X12_same 13 = .ok (.ifCond .lt 11, 3) := by decide +kernel
theorem dd_X12_same_16 : decode mb_X12_same 16 = .ok (.iload_n 2, 1) := by decide +kernel
theorem dd_X12_same_17 : decode mb_X12_same 17 = .ok (.aload_n 0, 1) := by decide +kernel
theorem dd_X12_same_18 : decode mb_X12_same 18 = .ok (.getfield 279, 3) := by decide +kernel
theorem dd_X12_same_21 : decode mb_X12_same 21 = .ok (.if_icmp .lt 10, 3) := by decide +kernel
theorem dd_X12_same_24 : decode mb_X12_same 24 = .ok (.aload_n 0, 1) := by decide +kernel
theorem dd_X12_same_25 : decode mb_X12_same 25 = .ok (.bipush (-2), 2) := by decide +kernel
theorem dd_X12_same_27 : decode mb_X12_same 27 = .ok (.invokevirtual 152, 3) := by decide +kernel
theorem dd_X12_same_30 : decode mb_X12_same 30 = .ok (.ireturn, 1) := by decide +kernel
theorem dd_X12_same_31 : decode mb_X12_same 31 = .ok (.aload_n 0, 1) := by decide +kernel
theorem dd_X12_same_32 : decode mb_X12_same 32 = .ok (.iload_n 1, 1) := by decide +kernel
theorem dd_X12_same_33 : decode mb_X12_same 33 = .ok (.iload_n 2, 1) := by decide +kernel
theorem dd_X12_same_34 : decode mb_X12_same 34 = .ok (.invokevirtual 282, 3) := by decide +kernel
theorem dd_X12_same_37 : decode mb_X12_same 37 = .ok (.ifCond .eq 7, 3) := by decide +kernel
theorem dd_X12_same_40 : decode mb_X12_same 40 = .ok (.iconst 1, 1) := by decide +kernel
theorem dd_X12_same_41 : decode mb_X12_same 41 = .ok (.goto 4, 3) := by decide +kernel
theorem dd_X12_same_44 : decode mb_X12_same 44 = .ok (.iconst 0, 1) := by decide +kernel
theorem dd_X12_same_45 : decode mb_X12_same 45 = .ok (.ireturn, 1) := by decide +kernel
theorem dd_X12_says_0 : decode mb_X12_says 0 = .ok (.aload_n 0, 1) := by decide +kernel
theorem dd_X12_says_1 : decode mb_X12_says 1 = .ok (.iload_n 1, 1) := by decide +kernel
theorem dd_X12_says_2 : decode mb_X12_says 2 = .ok (.invokevirtual 148, 3) := by decide +kernel
theorem dd_X12_says_5 : decode mb_X12_says 5 = .ok (.ifCond .eq 11, 3) := by decide +kernel
theorem dd_X12_says_8 : decode mb_X12_says 8 = .ok (.aload_n 0, 1) := by decide +kernel
theorem dd_X12_says_9 : decode mb_X12_says 9 = .ok (.iload_n 2, 1) := by decide +kernel
theorem dd_X12_says_10 : decode mb_X12_says 10 = .ok (.invokevirtual 168, 3) := by decide +kernel
theorem dd_X12_says_13 : decode mb_X12_says 13 = .ok (.ifCond .ne 10, 3) := by decide +kernel
theorem dd_X12_says_16 : decode mb_X12_says 16 = .ok (.aload_n 0, 1) := by decide +kernel
theorem dd_X12_says_17 : decode mb_X12_says 17 = .ok (.bipush (-2), 2) := by decide +kernel
theorem dd_X12_says_19 : decode mb_X12_says 19 = .ok (.invokevirtual 152, 3) := by decide +kernel
theorem dd_X12_says_22 : decode mb_X12_says 22 = .ok (.ireturn, 1) := by decide +kernel
theorem dd_X12_says_23 : decode mb_X12_says 23 = .ok (.aload_n 0, 1) := by decide +kernel
theorem dd_X12_says_24 : decode mb_X12_says 24 = .ok (.iload_n 1, 1) := by decide +kernel
theorem dd_X12_says_25 : decode mb_X12_says 25 = .ok (.invokevirtual 162, 3) := by decide +kernel
theorem dd_X12_says_28 : decode mb_X12_says 28 = .ok (.ifCond .eq 10, 3) := by decide +kernel
theorem dd_X12_says_31 : decode mb_X12_says 31 = .ok (.aload_n 0, 1) := by decide +kernel
theorem dd_X12_says_32 : decode mb_X12_says 32 = .ok (.bipush (-3), 2) := by decide +kernel
theorem dd_X12_says_34 : decode mb_X12_says 34 = .ok (.invokevirtual 152, 3) := by decide +kernel
theorem dd_X12_says_37 : decode mb_X12_says 37 = .ok (.ireturn, 1) := by decide +kernel
theorem dd_X12_says_38 : decode mb_X12_says 38 = .ok (.aload_n 0, 1) := by decide +kernel
theorem dd_X12_says_39 : decode mb_X12_says 39 = .ok (.getfield 7, 3) := by decide +kernel
theorem dd_X12_says_42 : decode mb_X12_says 42 = .ok (.iload_n 1, 1) := by decide +kernel
theorem dd_X12_says_43 : decode mb_X12_says 43 = .ok (.iaload, 1) := by decide +kernel
theorem dd_X12_says_44 : decode mb_X12_says 44 = .ok (.ifCond .ge 10, 3) := by decide +kernel
theorem dd_X12_says_47 : decode mb_X12_says 47 = .ok (.aload_n 0, 1) := by decide +kernel
theorem dd_X12_says_48 : decode mb_X12_says 48 = .ok (.bipush (-4), 2) := by decide +kernel
theorem dd_X12_says_50 : decode mb_X12_says 50 = .ok (.invokevirtual 152, 3) := by decide +kernel
theorem dd_X12_says_53 : decode mb_X12_says 53 = .ok (.ireturn, 1) := by decide +kernel
theorem dd_X12_says_54 : decode mb_X12_says 54 = .ok (.aload_n 0, 1) := by decide +kernel
theorem dd_X12_says_55 : decode mb_X12_says 55 = .ok (.getfield 7, 3) := by decide +kernel
theorem dd_X12_says_58 : decode mb_X12_says 58 = .ok (.iload_n 1, 1) := by decide +kernel
theorem dd_X12_says_59 : decode mb_X12_says 59 = .ok (.iaload, 1) := by decide +kernel
theorem dd_X12_says_60 : decode mb_X12_says 60 = .ok (.istore_n 3, 1) := by decide +kernel
theorem dd_X12_says_61 : decode mb_X12_says 61 = .ok (.aload_n 0, 1) := by decide +kernel
theorem dd_X12_says_62 : decode mb_X12_says 62 = .ok (.aload_n 0, 1) := by decide +kernel
theorem dd_X12_says_63 : decode mb_X12_says 63 = .ok (.getfield 20, 3) := by decide +kernel
theorem dd_X12_says_66 : decode mb_X12_says 66 = .ok (.iload_n 3, 1) := by decide +kernel
theorem dd_X12_says_67 : decode mb_X12_says 67 = .ok (.iaload, 1) := by decide +kernel
theorem dd_X12_says_68 : decode mb_X12_says 68 = .ok (.iload_n 2, 1) := by decide +kernel
theorem dd_X12_says_69 : decode mb_X12_says 69 = .ok (.invokevirtual 171, 3) := by decide +kernel
theorem dd_X12_says_72 : decode mb_X12_says 72 = .ok (.ifCond .ne 10, 3) := by decide +kernel
theorem dd_X12_says_75 : decode mb_X12_says 75 = .ok (.aload_n 0, 1) := by decide +kernel
theorem dd_X12_says_76 : decode mb_X12_says 76 = .ok (.bipush (-3), 2) := by decide +kernel
theorem dd_X12_says_78 : decode mb_X12_says 78 = .ok (.invokevirtual 152, 3) := by decide +kernel
theorem dd_X12_says_81 : decode mb_X12_says 81 = .ok (.ireturn, 1) := by decide +kernel
theorem dd_X12_says_82 : decode mb_X12_says 82 = .ok (.iload_n 2, 1) := by decide +kernel
theorem dd_X12_says_83 : decode mb_X12_says 83 = .ok (.ifCond .ne 9, 3) := by decide +kernel
theorem dd_X12_says_86 : decode mb_X12_says 86 = .ok (.aload_n 0, 1) := by decide +kernel
theorem dd_X12_says_87 : decode mb_X12_says 87 = .ok (.iload_n 3, 1) := by decide +kernel
theorem dd_X12_says_88 : decode mb_X12_says 88 = .ok (.invokevirtual 175, 3) := by decide +kernel
theorem dd_X12_says_91 : decode mb_X12_says 91 = .ok (.ireturn, 1) := by decide +kernel
theorem dd_X12_says_92 : decode mb_X12_says 92 = .ok (.iload_n 2, 1) := by decide +kernel
theorem dd_X12_says_93 : decode mb_X12_says 93 = .ok (.iconst 1, 1) := by decide +kernel
theorem dd_X12_says_94 : decode mb_X12_says 94 = .ok (.if_icmp .ne 9, 3) := by decide +kernel
theorem dd_X12_says_97 : decode mb_X12_says 97 = .ok (.aload_n 0, 1) := by decide +kernel
theorem dd_X12_says_98 : decode mb_X12_says 98 = .ok (.iload_n 3, 1) := by decide +kernel
theorem dd_X12_says_99 : decode mb_X12_says 99 = .ok (.invokevirtual 178, 3) := by decide +kernel
theorem dd_X12_says_102 : decode mb_X12_says 102 = .ok (.ireturn, 1) := by decide +kernel
theorem dd_X12_says_103 : decode mb_X12_says 103 = .ok (.iload_n 2, 1) := by decide +kernel
theorem dd_X12_says_104 : decode mb_X12_says 104 = .ok (.iconst 2, 1) := by decide +kernel
theorem dd_X12_says_105 : decode mb_X12_says 105 = .ok (.if_icmp .ne 12, 3) := by decide +kernel
theorem dd_X12_says_108 : decode mb_X12_says 108 = .ok (.aload_n 0, 1) := by decide +kernel
theorem dd_X12_says_109 : decode mb_X12_says 109 = .ok (.getfield 26, 3) := by decide +kernel
theorem dd_X12_says_112 : decode mb_X12_says 112 = .ok (.iload_n 3, 1) := by decide +kernel
theorem dd_X12_says_113 : decode mb_X12_says 113 = .ok (.iaload, 1) := by decide +kernel
theorem dd_X12_says_114 : decode mb_X12_says 114 = .ok (.iconst 1, 1) := by decide +kernel
theorem dd_X12_says_115 : decode mb_X12_says 115 = .ok (.iand, 1) := by decide +kernel
theorem dd_X12_says_116 : decode mb_X12_says 116 = .ok (.ireturn, 1) := by decide +kernel
theorem dd_X12_says_117 : decode mb_X12_says 117 = .ok (.iload_n 2, 1) := by decide +kernel
theorem dd_X12_says_118 : decode mb_X12_says 118 = .ok (.iconst 3, 1) := by decide +kernel
theorem dd_X12_says_119 : decode mb_X12_says 119 = .ok (.if_icmp .ne 25, 3) := by decide +kernel
theorem dd_X12_says_122 : decode mb_X12_says 122 = .ok (.aload_n 0, 1) := by decide +kernel
theorem dd_X12_says_123 : decode mb_X12_says 123 = .ok (.aload_n 0, 1) := by decide +kernel
theorem dd_X12_says_124 : decode mb_X12_says 124 = .ok (.getfield 26, 3) := by decide +kernel
theorem dd_X12_says_127 : decode mb_X12_says 127 = .ok (.iload_n 3, 1) := by decide +kernel
theorem dd_X12_says_128 : decode mb_X12_says 128 = .ok (.iaload, 1) := by decide +kernel
theorem dd_X12_says_129 : decode mb_X12_says 129 = .ok (.bipush 7, 2) := by decide +kernel
theorem dd_X12_says_131 : decode mb_X12_says 131 = .ok (.invokevirtual 181, 3) := by decide +kernel
theorem dd_X12_says_134 : decode mb_X12_says 134 = .ok (.ifCond .eq 7, 3) := by decide +kernel
theorem dd_X12_says_137 : decode mb_X12_says 137 = .ok (.iconst 0, 1) := by decide +kernel
theorem dd_X12_says_138 : decode mb_X12_says 138 = .ok (.goto 5, 3) := by decide +kernel
theorem dd_X12_says_141 : decode mb_X12_says 141 = .ok (.bipush 50, 2) := by decide +kernel
theorem dd_X12_says_143 : decode mb_X12_says 143 = .ok (.ireturn, 1) := by decide +kernel
theorem dd_X12_says_144 : decode mb_X12_says 144 = .ok (.iload_n 2, 1) := by decide +kernel
theorem dd_X12_says_145 : decode mb_X12_says 145 = .ok (.iconst 4, 1) := by decide +kernel
theorem dd_X12_says_146 : decode mb_X12_says 146 = .ok (.if_icmp .ne 30, 3) := by decide +kernel
theorem dd_X12_says_149 : decode mb_X12_says 149 = .ok (.aload_n 0, 1) := by decide +kernel
theorem dd_X12_says_150 : decode mb_X12_says 150 = .ok (.getfield 23, 3) := by decide +kernel
theorem dd_X12_says_153 : decode mb_X12_says 153 = .ok (.iload_n 3, 1) := by decide +kernel
theorem dd_X12_says_154 : decode mb_X12_says 154 = .ok (.iaload, 1) := by decide +kernel
theorem dd_X12_says_155 : decode mb_X12_says 155 = .ok (.sipush 200, 3) := by decide +kernel
theorem dd_X12_says_158 : decode mb_X12_says 158 = .ok (.if_icmp .le 16, 3) := by decide +kernel
theorem dd_X12_says_161 : decode mb_X12_says 161 = .ok (.aload_n 0, 1) := by decide +kernel
theorem dd_X12_says_162 : decode mb_X12_says 162 = .ok (.getfield 23, 3) := by decide +kernel
theorem dd_X12_says_165 : decode mb_X12_says 165 = .ok (.iload_n 3, 1) := by decide +kernel
theorem dd_X12_says_166 : decode mb_X12_says 166 = .ok (.iaload, 1) := by decide +kernel
theorem dd_X12_says_167 : decode mb_X12_says 167 = .ok (.sipush 200, 3) := by decide +kernel
theorem dd_X12_says_170 : decode mb_X12_says 170 = .ok (.isub, 1) := by decide +kernel
theorem dd_X12_says_171 : decode mb_X12_says 171 = .ok (.goto 4, 3) := by decide +kernel
theorem dd_X12_says_174 : decode mb_X12_says 174 = .ok (.iconst 0, 1) := by decide +kernel
theorem dd_X12_says_175 : decode mb_X12_says 175 = .ok (.ireturn, 1) := by decide +kernel
theorem dd_X12_says_176 : decode mb_X12_says 176 = .ok (.aload_n 0, 1) := by decide +kernel
theorem dd_X12_says_177 : decode mb_X12_says 177 = .ok (.getfield 23, 3) := by decide +kernel
theorem dd_X12_says_180 : decode mb_X12_says 180 = .ok (.iload_n 3, 1) := by decide +kernel
theorem dd_X12_says_181 : decode mb_X12_says 181 = .ok (.iaload, 1) := by decide +kernel
theorem dd_X12_says_182 : decode mb_X12_says 182 = .ok (.ireturn, 1) := by decide +kernel
theorem dd_X12_secret_0 : decode mb_X12_secret 0 = .ok (.aload_n 0, 1) := by decide +kernel
theorem dd_X12_secret_1 : decode mb_X12_secret 1 = .ok (.iload_n 1, 1) := by decide +kernel
theorem dd_X12_secret_2 : decode mb_X12_secret 2 = .ok (.invokevirtual 165, 3) := by decide +kernel
theorem dd_X12_secret_5 : decode mb_X12_secret 5 = .ok (.ifCond .eq 11, 3) := by decide +kernel
theorem dd_X12_secret_8 : decode mb_X12_secret 8 = .ok (.aload_n 0, 1) := by decide +kernel
theorem dd_X12_secret_9 : decode mb_X12_secret 9 = .ok (.iload_n 2, 1) := by decide +kernel
theorem dd_X12_secret_10 : decode mb_X12_secret 10 = .ok (.invokevirtual 276, 3) := by decide +kernel
theorem dd_X12_secret_13 : decode mb_X12_secret 13 = .ok (.ifCond .ne 10, 3) := by decide +kernel
theorem dd_X12_secret_16 : decode mb_X12_secret 16 = .ok (.aload_n 0, 1) := by decide +kernel
theorem dd_X12_secret_17 : decode mb_X12_secret 17 = .ok (.bipush (-2), 2) := by decide +kernel
theorem dd_X12_secret_19 : decode mb_X12_secret 19 = .ok (.invokevirtual 152, 3) := by decide +kernel
theorem dd_X12_secret_22 : decode mb_X12_secret 22 = .ok (.ireturn, 1) := by decide +kernel
theorem dd_X12_secret_23 : decode mb_X12_secret 23 = .ok (.aload_n 0, 1) := by decide +kernel
theorem dd_X12_secret_24 : decode mb_X12_secret 24 = .ok (.getfield 288, 3) := by decide +kernel
theorem dd_X12_secret_27 : decode mb_X12_secret 27 = .ok (.bipush 10, 2) := by decide +kernel
theorem dd_X12_secret_29 : decode mb_X12_secret 29 = .ok (.if_icmp .ne 10, 3) := by decide +kernel
theorem dd_X12_secret_32 : decode mb_X12_secret 32 = .ok (.aload_n 0, 1) := by decide +kernel
theorem dd_X12_secret_33 : decode mb_X12_secret 33 = .ok (.bipush (-6), 2) := by decide +kernel
theorem dd_X12_secret_35 : decode mb_X12_secret 35 = .ok (.invokevirtual 152, 3) := by decide +kernel
theorem dd_X12_secret_38 : decode mb_X12_secret 38 = .ok (.ireturn, 1) := by decide +kernel
theorem dd_X12_secret_39 : decode mb_X12_secret 39 = .ok (.aload_n 0, 1) := by decide +kernel
theorem dd_X12_secret_40 : decode mb_X12_secret 40 = .ok (.getfield 83, 3) := by decide +kernel
theorem dd_X12_secret_43 : decode mb_X12_secret 43 = .ok (.aload_n 0, 1) := by decide +kernel
theorem dd_X12_secret_44 : decode mb_X12_secret 44 = .ok (.getfield 288, 3) := by decide +kernel
theorem dd_X12_secret_47 : decode mb_X12_secret 47 = .ok (.iload_n 1, 1) := by decide +kernel
theorem dd_X12_secret_48 : decode mb_X12_secret 48 = .ok (.iastore, 1) := by decide +kernel
theorem dd_X12_secret_49 : decode mb_X12_secret 49 = .ok (.aload_n 0, 1) := by decide +kernel
theorem dd_X12_secret_50 : decode mb_X12_secret 50 = .ok (.getfield 86, 3) := by decide +kernel
theorem dd_X12_secret_53 : decode mb_X12_secret 53 = .ok (.aload_n 0, 1) := by decide +kernel
theorem dd_X12_secret_54 : decode mb_X12_secret 54 = .ok (.getfield 288, 3) := by decide +kernel
theorem dd_X12_secret_57 : decode mb_X12_secret 57 = .ok (.iload_n 2, 1) := by decide +kernel
theorem dd_X12_secret_58 : decode mb_X12_secret 58 = .ok (.iastore, 1) := by decide +kernel
theorem dd_X12_secret_59 : decode mb_X12_secret 59 = .ok (.aload_n 0, 1) := by decide +kernel
theorem dd_X12_secret_60 : decode mb_X12_secret 60 = .ok (.dup, 1) := by decide +kernel
theorem dd_X12_secret_61 : decode mb_X12_secret 61 = .ok (.getfield 288, 3) := by decide +kernel
theorem dd_X12_secret_64 : decode mb_X12_secret 64 = .ok (.dup_x1, 1) := by decide +kernel
theorem dd_X12_secret_65 : decode mb_X12_secret 65 = .ok (.iconst 1, 1) := by decide +kernel
theorem dd_X12_secret_66 : decode mb_X12_secret 66 = .ok (.iadd, 1) := by decide +kernel
theorem dd_X12_secret_67 : decode mb_X12_secret 67 = .ok (.putfield 288, 3) := by decide +kernel
theorem dd_X12_secret_70 : decode mb_X12_secret 70 = .ok (.ireturn, 1) := by decide +kernel
theorem dd_X12_set_0 : decode mb_X12_set 0 = .ok (.aload_n 0, 1) := by decide +kernel
theorem dd_X12_set_1 : decode mb_X12_set 1 = .ok (.iload_n 1, 1) := by decide +kernel
theorem dd_X12_set_2 : decode mb_X12_set 2 = .ok (.invokevirtual 159, 3) := by decide +kernel
theorem dd_X12_set_5 : decode mb_X12_set 5 = .ok (.istore 5, 2) := by decide +kernel
theorem dd_X12_set_7 : decode mb_X12_set 7 = .ok (.iload 5, 2) := by decide +kernel
theorem dd_X12_set_9 : decode mb_X12_set 9 = .ok (.ifCond .ge 10, 3) := by decide +kernel
theorem dd_X12_set_12 : decode mb_X12_set 12 = .ok (.aload_n 0, 1) := by decide +kernel
theorem dd_X12_set_13 : decode mb_X12_set 13 = .ok (.iload 5, 2) := by decide +kernel
theorem dd_X12_set_15 : decode mb_X12_set 15 = .ok (.invokevirtual 152, 3) := by decide +kernel
theorem dd_X12_set_18 : decode mb_X12_set 18 = .ok (.ireturn, 1) := by decide +kernel
theorem dd_X12_set_19 : decode mb_X12_set 19 = .ok (.iload_n 2, 1) := by decide +kernel
theorem dd_X12_set_20 : decode mb_X12_set 20 = .ok (.ifCond .lt 13, 3) := by decide +kernel
theorem dd_X12_set_23 : decode mb_X12_set 23 = .ok (.iload_n 2, 1) := by decide +kernel
theorem dd_X12_set_24 : decode mb_X12_set 24 = .ok (.aload_n 0, 1) := by decide +kernel
theorem dd_X12_set_25 : decode mb_X12_set 25 = .ok (.getfield 13, 3) := by decide +kernel
theorem dd_X12_set_28 : decode mb_X12_set 28 = .ok (.iload_n 1, 1) := by decide +kernel
theorem dd_X12_set_29 : decode mb_X12_set 29 = .ok (.iaload, 1) := by decide +kernel
theorem dd_X12_set_30 : decode mb_X12_set 30 = .ok (.if_icmp .lt 10, 3) := by decide +kernel
theorem dd_X12_set_33 : decode mb_X12_set 33 = .ok (.aload_n 0, 1) := by decide +kernel
theorem dd_X12_set_34 : decode mb_X12_set 34 = .ok (.bipush (-2), 2) := by decide +kernel
theorem dd_X12_set_36 : decode mb_X12_set 36 = .ok (.invokevirtual 152, 3) := by decide +kernel
theorem dd_X12_set_39 : decode mb_X12_set 39 = .ok (.ireturn, 1) := by decide +kernel
theorem dd_X12_set_40 : decode mb_X12_set 40 = .ok (.aload_n 0, 1) := by decide +kernel
theorem dd_X12_set_41 : decode mb_X12_set 41 = .ok (.getfield 7, 3) := by decide +kernel
theorem dd_X12_set_44 : decode mb_X12_set 44 = .ok (.iload_n 1, 1) := by decide +kernel
theorem dd_X12_set_45 : decode mb_X12_set 45 = .ok (.iaload, 1) := by decide +kernel
theorem dd_X12_set_46 : decode mb_X12_set 46 = .ok (.bipush 100, 2) := by decide +kernel
theorem dd_X12_set_48 : decode mb_X12_set 48 = .ok (.isub, 1) := by decide +kernel
theorem dd_X12_set_49 : decode mb_X12_set 49 = .ok (.istore 6, 2) := by decide +kernel
theorem dd_X12_set_51 : decode mb_X12_set 51 = .ok (.lload_n 3, 1) := by decide +kernel
theorem dd_X12_set_52 : decode mb_X12_set 52 = .ok (.lstore 7, 2) := by decide +kernel
theorem dd_X12_set_54 : decode mb_X12_set 54 = .ok (.iload 6, 2) := by decide +kernel
theorem dd_X12_set_56 : decode mb_X12_set 56 = .ok (.ifCond .ne 9, 3) := by decide +kernel
theorem dd_X12_set_59 : decode mb_X12_set 59 = .ok (.lload_n 3, 1) := by decide +kernel
theorem dd_X12_set_60 : decode mb_X12_set 60 = .ok (.l2i, 1) := by decide +kernel
theorem dd_X12_set_61 : decode mb_X12_set 61 = .ok (.i2b, 1) := by decide +kernel
theorem dd_X12_set_62 : decode mb_X12_set 62 = .ok (.i2l, 1) := by decide +kernel
theorem dd_X12_set_63 : decode mb_X12_set 63 = .ok (.lstore 7, 2) := by decide +kernel
theorem dd_X12_set_65 : decode mb_X12_set 65 = .ok (.iload 6, 2) := by decide +kernel
theorem dd_X12_set_67 : decode mb_X12_set 67 = .ok (.iconst 1, 1) := by decide +kernel
theorem dd_X12_set_68 : decode mb_X12_set 68 = .ok (.if_icmp .ne 9, 3) := by decide +kernel
theorem dd_X12_set_71 : decode mb_X12_set 71 = .ok (.lload_n 3, 1) := by decide +kernel
theorem dd_X12_set_72 : decode mb_X12_set 72 = .ok (.l2i, 1) := by decide +kernel
theorem dd_X12_set_73 : decode mb_X12_set 73 = .ok (.i2s, 1) := by decide +kernel
theorem dd_X12_set_74 : decode mb_X12_set 74 = .ok (.i2l, 1) := by decide +kernel
theorem dd_X12_set_75 : decode mb_X12_set 75 = .ok (.lstore 7, 2) := by decide +kernel
theorem dd_X12_set_77 : decode mb_X12_set 77 = .ok (.iload 6, 2) := by decide +kernel
theorem dd_X12_set_79 : decode mb_X12_set 79 = .ok (.iconst 2, 1) := by decide +kernel
theorem dd_X12_set_80 : decode mb_X12_set 80 = .ok (.if_icmp .ne 8, 3) := by decide +kernel
theorem dd_X12_set_83 : decode mb_X12_set 83 = .ok (.lload_n 3, 1) := by decide +kernel
theorem dd_X12_set_84 : decode mb_X12_set 84 = .ok (.l2i, 1) := by decide +kernel
theorem dd_X12_set_85 : decode mb_X12_set 85 = .ok (.i2l, 1) := by decide +kernel
theorem dd_X12_set_86 : decode mb_X12_set 86 = .ok (.lstore 7, 2) := by decide +kernel
theorem dd_X12_set_88 : decode mb_X12_set 88 = .ok (.iload 6, 2) := by decide +kernel
theorem dd_X12_set_90 : decode mb_X12_set 90 = .ok (.iconst 4, 1) := by decide +kernel
theorem dd_X12_set_91 : decode mb_X12_set 91 = .ok (.if_icmp .ne 16, 3) := by decide +kernel
theorem dd_X12_set_94 : decode mb_X12_set 94 = .ok (.lload_n 3, 1) := by decide +kernel
theorem dd_X12_set_95 : decode mb_X12_set 95 = .ok (.lconst 0, 1) := by decide +kernel
theorem dd_X12_set_96 : decode mb_X12_set 96 = .ok (.lcmp, 1) := by decide +kernel
theorem dd_X12_set_97 : decode mb_X12_set 97 = .ok (.ifCond .eq 7, 3) := by decide +kernel
theorem dd_X12_set_100 : decode mb_X12_set 100 = .ok (.lconst 1, 1) := by decide +kernel
theorem dd_X12_set_101 : decode mb_X12_set 101 = .ok (.goto 4, 3) := by decide +kernel
theorem dd_X12_set_104 : decode mb_X12_set 104 = .ok (.lconst 0, 1) := by decide +kernel
theorem dd_X12_set_105 : decode mb_X12_set 105 = .ok (.lstore 7, 2) := by decide +kernel
theorem dd_X12_set_107 : decode mb_X12_set 107 = .ok (.aload_n 0, 1) := by decide +kernel
theorem dd_X12_set_108 : decode mb_X12_set 108 = .ok (.getfield 16, 3) := by decide +kernel
theorem dd_X12_set_111 : decode mb_X12_set 111 = .ok (.bipush 40, 2) := by decide +kernel
theorem dd_X12_set_113 : decode mb_X12_set 113 = .ok (.iload_n 1, 1) := by decide +kernel
theorem dd_X12_set_114 : decode mb_X12_set 114 = .ok (.imul, 1) := by decide +kernel
theorem dd_X12_set_115 : decode mb_X12_set 115 = .ok (.iload_n 2, 1) := by decide +kernel
theorem dd_X12_set_116 : decode mb_X12_set 116 = .ok (.iadd, 1) := by decide +kernel
theorem dd_X12_set_117 : decode mb_X12_set 117 = .ok (.lload 7, 2) := by decide +kernel
theorem dd_X12_set_119 : decode mb_X12_set 119 = .ok (.lastore, 1) := by decide +kernel
theorem dd_X12_set_120 : decode mb_X12_set 120 = .ok (.iconst 1, 1) := by decide +kernel
theorem dd_X12_set_121 : decode mb_X12_set 121 = .ok (.ireturn, 1) := by decide +kernel
theorem dd_X12_shortBy_0 : decode mb_X12_shortBy 0 = .ok (.iload_n 1, 1) := by decide +kernel
theorem dd_X12_shortBy_1 : decode mb_X12_shortBy 1 = .ok (.iconst 1, 1) := by decide +kernel
theorem dd_X12_shortBy_2 : decode mb_X12_shortBy 2 = .ok (.if_icmp .lt 10, 3) := by decide +kernel
theorem dd_X12_shortBy_5 : decode mb_X12_shortBy 5 = .ok (.iload_n 1, 1) := by decide +kernel
theorem dd_X12_shortBy_6 : decode mb_X12_shortBy 6 = .ok (.sipush 9999, 3) := by decide +kernel
theorem dd_X12_shortBy_9 : decode mb_X12_shortBy 9 = .ok (.if_icmp .le 10, 3) := by decide +kernel
theorem dd_X12_shortBy_12 : decode mb_X12_shortBy 12 = .ok (.aload_n 0, 1) := by decide +kernel
theorem dd_X12_shortBy_13 : decode mb_X12_shortBy 13 = .ok (.bipush (-2), 2) := by decide +kernel
theorem dd_X12_shortBy_15 : decode mb_X12_shortBy 15 = .ok (.invokevirtual 152, 3) := by decide +kernel
theorem dd_X12_shortBy_18 : decode mb_X12_shortBy 18 = .ok (.ireturn, 1) := by decide +kernel
theorem dd_X12_shortBy_19 : decode mb_X12_shortBy 19 = .ok (.aload_n 0, 1) := by decide +kernel
theorem dd_X12_shortBy_20 : decode mb_X12_shortBy 20 = .ok (.getfield 294, 3) := by decide +kernel
theorem dd_X12_shortBy_23 : decode mb_X12_shortBy 23 = .ok (.ifnonnull 12, 3) := by decide +kernel
theorem dd_X12_shortBy_26 : decode mb_X12_shortBy 26 = .ok (.aload_n 0, 1) := by decide +kernel
theorem dd_X12_shortBy_27 : decode mb_X12_shortBy 27 = .ok (.ldc_w 298, 3) := by decide +kernel
theorem dd_X12_shortBy_30 : decode mb_X12_shortBy 30 = .ok (.newarray .byte, 2) := by decide +kernel
theorem dd_X12_shortBy_32 : decode mb_X12_shortBy 32 = .ok (.putfield 294, 3) := by decide +kernel
theorem dd_X12_shortBy_35 : decode mb_X12_shortBy 35 = .ok (.iconst 0, 1) := by decide +kernel
theorem dd_X12_shortBy_36 : decode mb_X12_shortBy 36 = .ok (.istore_n 2, 1) := by decide +kernel
theorem dd_X12_shortBy_37 : decode mb_X12_shortBy 37 = .ok (.iload_n 2, 1) := by decide +kernel
theorem dd_X12_shortBy_38 : decode mb_X12_shortBy 38 = .ok (.iload_n 1, 1) := by decide +kernel
theorem dd_X12_shortBy_39 : decode mb_X12_shortBy 39 = .ok (.if_icmp .gt 26, 3) := by decide +kernel
theorem dd_X12_shortBy_42 : decode mb_X12_shortBy 42 = .ok (.aload_n 0, 1) := by decide +kernel
theorem dd_X12_shortBy_43 : decode mb_X12_shortBy 43 = .ok (.getfield 294, 3) := by decide +kernel
theorem dd_X12_shortBy_46 : decode mb_X12_shortBy 46 = .ok (.iload_n 2, 1) := by decide +kernel
theorem dd_X12_shortBy_47 : decode mb_X12_shortBy 47 = .ok (.iload_n 2, 1) := by decide +kernel
theorem dd_X12_shortBy_48 : decode mb_X12_shortBy 48 = .ok (.ifCond .ne 7, 3) := by decide +kernel
theorem dd_X12_shortBy_51 : decode mb_X12_shortBy 51 = .ok (.iconst 0, 1) := by decide +kernel
theorem dd_X12_shortBy_52 : decode mb_X12_shortBy 52 = .ok (.goto 5, 3) := by decide +kernel
theorem dd_X12_shortBy_55 : decode mb_X12_shortBy 55 = .ok (.bipush 99, 2) := by decide +kernel
theorem dd_X12_shortBy_57 : decode mb_X12_shortBy 57 = .ok (.i2b, 1) := by decide +kernel
theorem dd_X12_shortBy_58 : decode mb_X12_shortBy 58 = .ok (.bastore, 1) := by decide +kernel
theorem dd_X12_shortBy_59 : decode mb_X12_shortBy 59 = .ok (.iinc 2 1, 3) := by decide +kernel
theorem dd_X12_shortBy_62 : decode mb_X12_shortBy 62 = .ok (.goto (-25), 3) := by decide +kernel
theorem dd_X12_shortBy_65 : decode mb_X12_shortBy 65 = .ok (.iconst 0, 1) := by decide +kernel
theorem dd_X12_shortBy_66 : decode mb_X12_shortBy 66 = .ok (.istore_n 2, 1) := by decide +kernel
theorem dd_X12_shortBy_67 : decode mb_X12_shortBy 67 = .ok (.iload_n 2, 1) := by decide +kernel
theorem dd_X12_shortBy_68 : decode mb_X12_shortBy 68 = .ok (.aload_n 0, 1) := by decide +kernel
theorem dd_X12_shortBy_69 : decode mb_X12_shortBy 69 = .ok (.getfield 135, 3) := by decide +kernel
theorem dd_X12_shortBy_72 : decode mb_X12_shortBy 72 = .ok (.if_icmp .ge 129, 3) := by decide +kernel
theorem dd_X12_shortBy_75 : decode mb_X12_shortBy 75 = .ok (.sipush 10000, 3) := by decide +kernel
theorem dd_X12_shortBy_78 : decode mb_X12_shortBy 78 = .ok (.iload_n 2, 1) := by decide +kernel
theorem dd_X12_shortBy_79 : decode mb_X12_shortBy 79 = .ok (.imul, 1) := by decide +kernel
theorem dd_X12_shortBy_80 : decode mb_X12_shortBy 80 = .ok (.istore_n 3, 1) := by decide +kernel
theorem dd_X12_shortBy_81 : decode mb_X12_shortBy 81 = .ok (.iload_n 3, 1) := by decide +kernel
theorem dd_X12_shortBy_82 : decode mb_X12_shortBy 82 = .ok (.sipush 10000, 3) := by decide +kernel
theorem dd_X12_shortBy_85 : decode mb_X12_shortBy 85 = .ok (.iadd, 1) := by decide +kernel
theorem dd_X12_shortBy_86 : decode mb_X12_shortBy 86 = .ok (.istore 4, 2) := by decide +kernel
theorem dd_X12_shortBy_88 : decode mb_X12_shortBy 88 = .ok (.aload_n 0, 1) := by decide +kernel
theorem dd_X12_shortBy_89 : decode mb_X12_shortBy 89 = .ok (.getfield 32, 3) := by decide +kernel
theorem dd_X12_shortBy_92 : decode mb_X12_shortBy 92 = .ok (.iload_n 2, 1) := by decide +kernel
theorem dd_X12_shortBy_93 : decode mb_X12_shortBy 93 = .ok (.iaload, 1) := by decide +kernel
theorem dd_X12_shortBy_94 : decode mb_X12_shortBy 94 = .ok (.ifCond .ge 7, 3) := by decide +kernel
theorem dd_X12_shortBy_97 : decode mb_X12_shortBy 97 = .ok (.iconst 0, 1) := by decide +kernel
theorem dd_X12_shortBy_98 : decode mb_X12_shortBy 98 = .ok (.goto 9, 3) := by decide +kernel
theorem dd_X12_shortBy_101 : decode mb_X12_shortBy 101 = .ok (.aload_n 0, 1) := by decide +kernel
theorem dd_X12_shortBy_102 : decode mb_X12_shortBy 102 = .ok (.getfield 35, 3) := by decide +kernel
theorem dd_X12_shortBy_105 : decode mb_X12_shortBy 105 = .ok (.iload_n 2, 1) := by decide +kernel
theorem dd_X12_shortBy_106 : decode mb_X12_shortBy 106 = .ok (.iaload, 1) := by decide +kernel
theorem dd_X12_shortBy_107 : decode mb_X12_shortBy 107 = .ok (.istore 5, 2) := by decide +kernel
theorem dd_X12_shortBy_109 : decode mb_X12_shortBy 109 = .ok (.iconst 0, 1) := by decide +kernel
theorem dd_X12_shortBy_110 : decode mb_X12_shortBy 110 = .ok (.istore 6, 2) := by decide +kernel
theorem dd_X12_shortBy_112 : decode mb_X12_shortBy 112 = .ok (.iload 6, 2) := by decide +kernel
theorem dd_X12_shortBy_114 : decode mb_X12_shortBy 114 = .ok (.iload_n 1, 1) := by decide +kernel
theorem dd_X12_shortBy_115 : decode mb_X12_shortBy 115 = .ok (.if_icmp .gt 80, 3) := by decide +kernel
theorem dd_X12_shortBy_118 : decode mb_X12_shortBy 118 = .ok (.aload_n 0, 1) := by decide +kernel
theorem dd_X12_shortBy_119 : decode mb_X12_shortBy 119 = .ok (.getfield 294, 3) := by decide +kernel
theorem dd_X12_shortBy_122 : decode mb_X12_shortBy 122 = .ok (.iload_n 3, 1) := by decide +kernel
theorem dd_X12_shortBy_123 : decode mb_X12_shortBy 123 = .ok (.iload 6, 2) := by decide +kernel
theorem dd_X12_shortBy_125 : decode mb_X12_shortBy 125 = .ok (.iadd, 1) := by decide +kernel
theorem dd_X12_shortBy_126 : decode mb_X12_shortBy 126 = .ok (.baload, 1) := by decide +kernel
theorem dd_X12_shortBy_127 : decode mb_X12_shortBy 127 = .ok (.istore 7, 2) := by decide +kernel
theorem dd_X12_shortBy_129 : decode mb_X12_shortBy 129 = .ok (.iload 5, 2) := by decide +kernel
theorem dd_X12_shortBy_131 : decode mb_X12_shortBy 131 = .ok (.ifCond .le 45, 3) := by decide +kernel
theorem dd_X12_shortBy_134 : decode mb_X12_shortBy 134 = .ok (.iload 6, 2) := by decide +kernel
theorem dd_X12_shortBy_136 : decode mb_X12_shortBy 136 = .ok (.iload 5, 2) := by decide +kernel
theorem dd_X12_shortBy_138 : decode mb_X12_shortBy 138 = .ok (.if_icmp .lt 38, 3) := by decide +kernel
theorem dd_X12_shortBy_141 : decode mb_X12_shortBy 141 = .ok (.aload_n 0, 1) := by decide +kernel
theorem dd_X12_shortBy_142 : decode mb_X12_shortBy 142 = .ok (.getfield 294, 3) := by decide +kernel
theorem dd_X12_shortBy_145 : decode mb_X12_shortBy 145 = .ok (.iload_n 3, 1) := by decide +kernel
theorem dd_X12_shortBy_146 : decode mb_X12_shortBy 146 = .ok (.iload 6, 2) := by decide +kernel
theorem dd_X12_shortBy_148 : decode mb_X12_shortBy 148 = .ok (.iadd, 1) := by decide +kernel
theorem dd_X12_shortBy_149 : decode mb_X12_shortBy 149 = .ok (.iload 5, 2) := by decide +kernel
theorem dd_X12_shortBy_151 : decode mb_X12_shortBy 151 = .ok (.isub, 1) := by decide +kernel
theorem dd_X12_shortBy_152 : decode mb_X12_shortBy 152 = .ok (.baload, 1) := by decide +kernel
theorem dd_X12_shortBy_153 : decode mb_X12_shortBy 153 = .ok (.iconst 1, 1) := by decide +kernel
theorem dd_X12_shortBy_154 : decode mb_X12_shortBy 154 = .ok (.iadd, 1) := by decide +kernel
theorem dd_X12_shortBy_155 : decode mb_X12_shortBy 155 = .ok (.iload 7, 2) := by decide +kernel
theorem dd_X12_shortBy_157 : decode mb_X12_shortBy 157 = .ok (.if_icmp .ge 19, 3) := by decide +kernel
theorem dd_X12_shortBy_160 : decode mb_X12_shortBy 160 = .ok (.aload_n 0, 1) := by decide +kernel
theorem dd_X12_shortBy_161 : decode mb_X12_shortBy 161 = .ok (.getfield 294, 3) := by decide +kernel
theorem dd_X12_shortBy_164 : decode mb_X12_shortBy 164 = .ok (.iload_n 3, 1) := by decide +kernel
theorem dd_X12_shortBy_165 : decode mb_X12_shortBy 165 = .ok (.iload 6, 2) := by decide +kernel
theorem dd_X12_shortBy_167 : decode mb_X12_shortBy 167 = .ok (.iadd, 1) := by decide +kernel
theorem dd_X12_shortBy_168 : decode mb_X12_shortBy 168 = .ok (.iload 5, 2) := by decide +kernel
theorem dd_X12_shortBy_170 : decode mb_X12_shortBy 170 = .ok (.isub, 1) := by decide +kernel
theorem dd_X12_shortBy_171 : decode mb_X12_shortBy 171 = .ok (.baload, 1) := by decide +kernel
theorem dd_X12_shortBy_172 : decode mb_X12_shortBy 172 = .ok (.iconst 1, 1) := by decide +kernel
theorem dd_X12_shortBy_173 : decode mb_X12_shortBy 173 = .ok (.iadd, 1) := by decide +kernel
theorem dd_X12_shortBy_174 : decode mb_X12_shortBy 174 = .ok (.istore 7, 2) := by decide +kernel
theorem dd_X12_shortBy_176 : decode mb_X12_shortBy 176 = .ok (.aload_n 0, 1) := by decide +kernel
theorem dd_X12_shortBy_177 : decode mb_X12_shortBy 177 = .ok (.getfield 294, 3) := by decide +kernel
theorem dd_X12_shortBy_180 : decode mb_X12_shortBy 180 = .ok (.iload 4, 2) := by decide +kernel
theorem dd_X12_shortBy_182 : decode mb_X12_shortBy 182 = .ok (.iload 6, 2) := by decide +kernel
theorem dd_X12_shortBy_184 : decode mb_X12_shortBy 184 = .ok (.iadd, 1) := by decide +kernel
theorem dd_X12_shortBy_185 : decode mb_X12_shortBy 185 = .ok (.iload 7, 2) := by decide +kernel
theorem dd_X12_shortBy_187 : decode mb_X12_shortBy 187 = .ok (.i2b, 1) := by decide +kernel
theorem dd_X12_shortBy_188 : decode mb_X12_shortBy 188 = .ok (.bastore, 1) := by decide +kernel
theorem dd_X12_shortBy_189 : decode mb_X12_shortBy 189 = .ok (.iinc 6 1, 3) := by decide +kernel
theorem dd_X12_shortBy_192 : decode mb_X12_shortBy 192 = .ok (.goto (-80), 3) := by decide +kernel
theorem dd_X12_shortBy_195 : decode mb_X12_shortBy 195 = .ok (.iinc 2 1, 3) := by decide +kernel
theorem dd_X12_shortBy_198 : decode mb_X12_shortBy 198 = .ok (.goto (-131), 3) := by decide +kernel
theorem dd_X12_shortBy_201 : decode mb_X12_shortBy 201 = .ok (.aload_n 0, 1) := by decide +kernel
theorem dd_X12_shortBy_202 : decode mb_X12_shortBy 202 = .ok (.getfield 294, 3) := by decide +kernel
theorem dd_X12_shortBy_205 : decode mb_X12_shortBy 205 = .ok (.sipush 10000, 3) := by decide +kernel
theorem dd_X12_shortBy_208 : decode mb_X12_shortBy 208 = .ok (.aload_n 0, 1) := by decide +kernel
theorem dd_X12_shortBy_209 : decode mb_X12_shortBy 209 = .ok (.getfield 135, 3) := by decide +kernel
theorem dd_X12_shortBy_212 : decode mb_X12_shortBy 212 = .ok (.imul, 1) := by decide +kernel
theorem dd_X12_shortBy_213 : decode mb_X12_shortBy 213 = .ok (.iload_n 1, 1) := by decide +kernel
theorem dd_X12_shortBy_214 : decode mb_X12_shortBy 214 = .ok (.iadd, 1) := by decide +kernel
theorem dd_X12_shortBy_215 : decode mb_X12_shortBy 215 = .ok (.baload, 1) := by decide +kernel
theorem dd_X12_shortBy_216 : decode mb_X12_shortBy 216 = .ok (.bipush 99, 2) := by decide +kernel
theorem dd_X12_shortBy_218 : decode mb_X12_shortBy 218 = .ok (.if_icmp .ne 5, 3) := by decide +kernel
theorem dd_X12_shortBy_221 : decode mb_X12_shortBy 221 = .ok (.iconst (-1), 1) := by decide +kernel
theorem dd_X12_shortBy_222 : decode mb_X12_shortBy 222 = .ok (.ireturn, 1) := by decide +kernel
theorem dd_X12_shortBy_223 : decode mb_X12_shortBy 223 = .ok (.iconst 0, 1) := by decide +kernel
theorem dd_X12_shortBy_224 : decode mb_X12_shortBy 224 = .ok (.istore_n 2, 1) := by decide +kernel
theorem dd_X12_shortBy_225 : decode mb_X12_shortBy 225 = .ok (.iload_n 1, 1) := by decide +kernel
theorem dd_X12_shortBy_226 : decode mb_X12_shortBy 226 = .ok (.istore_n 3, 1) := by decide +kernel
theorem dd_X12_shortBy_227 : decode mb_X12_shortBy 227 = .ok (.aload_n 0, 1) := by decide +kernel
theorem dd_X12_shortBy_228 : decode mb_X12_shortBy 228 = .ok (.getfield 135, 3) := by decide +kernel
theorem dd_X12_shortBy_231 : decode mb_X12_shortBy 231 = .ok (.iconst 1, 1) := by decide +kernel
theorem dd_X12_shortBy_232 : decode mb_X12_shortBy 232 = .ok (.isub, 1) := by decide +kernel
theorem dd_X12_shortBy_233 : decode mb_X12_shortBy 233 = .ok (.istore 4, 2) := by decide +kernel
theorem dd_X12_shortBy_235 : decode mb_X12_shortBy 235 = .ok (.iload 4, 2) := by decide +kernel
theorem dd_X12_shortBy_237 : decode mb_X12_shortBy 237 = .ok (.ifCond .lt 60, 3) := by decide +kernel
theorem dd_X12_shortBy_240 : decode mb_X12_shortBy 240 = .ok (.aload_n 0, 1) := by decide +kernel
theorem dd_X12_shortBy_241 : decode mb_X12_shortBy 241 = .ok (.getfield 294, 3) := by decide +kernel
theorem dd_X12_shortBy_244 : decode mb_X12_shortBy 244 = .ok (.sipush 10000, 3) := by decide +kernel
theorem dd_X12_shortBy_247 : decode mb_X12_shortBy 247 = .ok (.iload 4, 2) := by decide +kernel
theorem dd_X12_shortBy_249 : decode mb_X12_shortBy 249 = .ok (.iconst 1, 1) := by decide +kernel
theorem dd_X12_shortBy_250 : decode mb_X12_shortBy 250 = .ok (.iadd, 1) := by decide +kernel
theorem dd_X12_shortBy_251 : decode mb_X12_shortBy 251 = .ok (.imul, 1) := by decide +kernel
theorem dd_X12_shortBy_252 : decode mb_X12_shortBy 252 = .ok (.iload_n 3, 1) := by decide +kernel
theorem dd_X12_shortBy_253 : decode mb_X12_shortBy 253 = .ok (.iadd, 1) := by decide +kernel
theorem dd_X12_shortBy_254 : decode mb_X12_shortBy 254 = .ok (.baload, 1) := by decide +kernel
theorem dd_X12_shortBy_255 : decode mb_X12_shortBy 255 = .ok (.aload_n 0, 1) := by decide +kernel
theorem dd_X12_shortBy_256 : decode mb_X12_shortBy 256 = .ok (.getfield 294, 3) := by decide +kernel
theorem dd_X12_shortBy_259 : decode mb_X12_shortBy 259 = .ok (.sipush 10000, 3) := by decide +kernel
theorem dd_X12_shortBy_262 : decode mb_X12_shortBy 262 = .ok (.iload 4, 2) := by decide +kernel
theorem dd_X12_shortBy_264 : decode mb_X12_shortBy 264 = .ok (.imul, 1) := by decide +kernel
theorem dd_X12_shortBy_265 : decode mb_X12_shortBy 265 = .ok (.iload_n 3, 1) := by decide +kernel
theorem dd_X12_shortBy_266 : decode mb_X12_shortBy 266 = .ok (.iadd, 1) := by decide +kernel
theorem dd_X12_shortBy_267 : decode mb_X12_shortBy 267 = .ok (.baload, 1) := by decide +kernel
theorem dd_X12_shortBy_268 : decode mb_X12_shortBy 268 = .ok (.if_icmp .ne 6, 3) := by decide +kernel
theorem dd_X12_shortBy_271 : decode mb_X12_shortBy 271 = .ok (.goto 20, 3) := by decide +kernel
theorem dd_X12_shortBy_274 : decode mb_X12_shortBy 274 = .ok (.iload_n 2, 1) := by decide +kernel
theorem dd_X12_shortBy_275 : decode mb_X12_shortBy 275 = .ok (.iconst 1, 1) := by decide +kernel
theorem dd_X12_shortBy_276 : decode mb_X12_shortBy 276 = .ok (.iload 4, 2) := by decide +kernel
theorem dd_X12_shortBy_278 : decode mb_X12_shortBy 278 = .ok (.ishl, 1) := by decide +kernel
theorem dd_X12_shortBy_279 : decode mb_X12_shortBy 279 = .ok (.ior, 1) := by decide +kernel
theorem dd_X12_shortBy_280 : decode mb_X12_shortBy 280 = .ok (.istore_n 2, 1) := by decide +kernel
theorem dd_X12_shortBy_281 : decode mb_X12_shortBy 281 = .ok (.iload_n 3, 1) := by decide +kernel
theorem dd_X12_shortBy_282 : decode mb_X12_shortBy 282 = .ok (.aload_n 0, 1) := by decide +kernel
theorem dd_X12_shortBy_283 : decode mb_X12_shortBy 283 = .ok (.getfield 35, 3) := by decide +kernel
theorem dd_X12_shortBy_286 : decode mb_X12_shortBy 286 = .ok (.iload 4, 2) := by decide +kernel
theorem dd_X12_shortBy_288 : decode mb_X12_shortBy 288 = .ok (.iaload, 1) := by decide +kernel
theorem dd_X12_shortBy_289 : decode mb_X12_shortBy 289 = .ok (.isub, 1) := by decide +kernel
theorem dd_X12_shortBy_290 : decode mb_X12_shortBy 290 = .ok (.istore_n 3, 1) := by decide +kernel
theorem dd_X12_shortBy_291 : decode mb_X12_shortBy 291 = .ok (.iinc 4 (-1), 3) := by decide +kernel
theorem dd_X12_shortBy_294 : decode mb_X12_shortBy 294 = .ok (.goto (-59), 3) := by decide +kernel
theorem dd_X12_shortBy_297 : decode mb_X12_shortBy 297 = .ok (.iload_n 2, 1) := by decide +kernel
theorem dd_X12_shortBy_298 : decode mb_X12_shortBy 298 = .ok (.ireturn, 1) := by decide +kernel
theorem dd_X12_show_0 : decode mb_X12_show 0 = .ok (.aload_n 0, 1) := by decide +kernel
theorem dd_X12_show_1 : decode mb_X12_show 1 = .ok (.iload_n 1, 1) := by decide +kernel
theorem dd_X12_show_2 : decode mb_X12_show 2 = .ok (.invokevirtual 148, 3) := by decide +kernel
theorem dd_X12_show_5 : decode mb_X12_show 5 = .ok (.ifCond .eq 16, 3) := by decide +kernel
theorem dd_X12_show_8 : decode mb_X12_show 8 = .ok (.iload_n 2, 1) := by decide +kernel
theorem dd_X12_show_9 : decode mb_X12_show 9 = .ok (.iconst (-1), 1) := by decide +kernel
theorem dd_X12_show_10 : decode mb_X12_show 10 = .ok (.if_icmp .eq 18, 3) := by decide +kernel
theorem dd_X12_show_13 : decode mb_X12_show 13 = .ok (.aload_n 0, 1) := by decide +kernel
theorem dd_X12_show_14 : decode mb_X12_show 14 = .ok (.iload_n 2, 1) := by decide +kernel
theorem dd_X12_show_15 : decode mb_X12_show 15 = .ok (.invokevirtual 165, 3) := by decide +kernel
theorem dd_X12_show_18 : decode mb_X12_show 18 = .ok (.ifCond .ne 10, 3) := by decide +kernel
theorem dd_X12_show_21 : decode mb_X12_show 21 = .ok (.aload_n 0, 1) := by decide +kernel
theorem dd_X12_show_22 : decode mb_X12_show 22 = .ok (.bipush (-2), 2) := by decide +kernel
theorem dd_X12_show_24 : decode mb_X12_show 24 = .ok (.invokevirtual 152, 3) := by decide +kernel
theorem dd_X12_show_27 : decode mb_X12_show 27 = .ok (.ireturn, 1) := by decide +kernel
theorem dd_X12_show_28 : decode mb_X12_show 28 = .ok (.aload_n 0, 1) := by decide +kernel
theorem dd_X12_show_29 : decode mb_X12_show 29 = .ok (.getfield 7, 3) := by decide +kernel
theorem dd_X12_show_32 : decode mb_X12_show 32 = .ok (.iload_n 1, 1) := by decide +kernel
theorem dd_X12_show_33 : decode mb_X12_show 33 = .ok (.iload_n 2, 1) := by decide +kernel
theorem dd_X12_show_34 : decode mb_X12_show 34 = .ok (.iastore, 1) := by decide +kernel
theorem dd_X12_show_35 : decode mb_X12_show 35 = .ok (.iconst 1, 1) := by decide +kernel
theorem dd_X12_show_36 : decode mb_X12_show 36 = .ok (.ireturn, 1) := by decide +kernel
theorem dd_X12_shown_0 : decode mb_X12_shown 0 = .ok (.iload_n 1, 1) := by decide +kernel
theorem dd_X12_shown_1 : decode mb_X12_shown 1 = .ok (.ifCond .lt 10, 3) := by decide +kernel
theorem dd_X12_shown_4 : decode mb_X12_shown 4 = .ok (.iload_n 1, 1) := by decide +kernel
theorem dd_X12_shown_5 : decode mb_X12_shown 5 = .ok (.sipush 200, 3) := by decide +kernel
theorem dd_X12_shown_8 : decode mb_X12_shown 8 = .ok (.if_icmp .le 10, 3) := by decide +kernel
theorem dd_X12_shown_11 : decode mb_X12_shown 11 = .ok (.aload_n 0, 1) := by decide +kernel
theorem dd_X12_shown_12 : decode mb_X12_shown 12 = .ok (.bipush (-2), 2) := by decide +kernel
theorem dd_X12_shown_14 : decode mb_X12_shown 14 = .ok (.invokevirtual 152, 3) := by decide +kernel
theorem dd_X12_shown_17 : decode mb_X12_shown 17 = .ok (.ireturn, 1) := by decide +kernel
theorem dd_X12_shown_18 : decode mb_X12_shown 18 = .ok (.iconst 0, 1) := by decide +kernel
theorem dd_X12_shown_19 : decode mb_X12_shown 19 = .ok (.istore_n 2, 1) := by decide +kernel
theorem dd_X12_shown_20 : decode mb_X12_shown 20 = .ok (.iload_n 2, 1) := by decide +kernel
theorem dd_X12_shown_21 : decode mb_X12_shown 21 = .ok (.iload_n 1, 1) := by decide +kernel
theorem dd_X12_shown_22 : decode mb_X12_shown 22 = .ok (.if_icmp .gt 16, 3) := by decide +kernel
theorem dd_X12_shown_25 : decode mb_X12_shown 25 = .ok (.aload_n 0, 1) := by decide +kernel
theorem dd_X12_shown_26 : decode mb_X12_shown 26 = .ok (.getfield 111, 3) := by decide +kernel
theorem dd_X12_shown_29 : decode mb_X12_shown 29 = .ok (.iload_n 2, 1) := by decide +kernel
theorem dd_X12_shown_30 : decode mb_X12_shown 30 = .ok (.iconst 0, 1) := by decide +kernel
theorem dd_X12_shown_31 : decode mb_X12_shown 31 = .ok (.iastore, 1) := by decide +kernel
theorem dd_X12_shown_32 : decode mb_X12_shown 32 = .ok (.iinc 2 1, 3) := by decide +kernel
theorem dd_X12_shown_35 : decode mb_X12_shown 35 = .ok (.goto (-15), 3) := by decide +kernel
theorem dd_X12_shown_38 : decode mb_X12_shown 38 = .ok (.iconst 0, 1) := by decide +kernel
theorem dd_X12_shown_39 : decode mb_X12_shown 39 = .ok (.istore_n 2, 1) := by decide +kernel
theorem dd_X12_shown_40 : decode mb_X12_shown 40 = .ok (.iload_n 2, 1) := by decide +kernel
theorem dd_X12_shown_41 : decode mb_X12_shown 41 = .ok (.aload_n 0, 1) := by decide +kernel
theorem dd_X12_shown_42 : decode mb_X12_shown 42 = .ok (.getfield 135, 3) := by decide +kernel
theorem dd_X12_shown_45 : decode mb_X12_shown 45 = .ok (.if_icmp .ge 148, 3) := by decide +kernel
theorem dd_X12_shown_48 : decode mb_X12_shown 48 = .ok (.aload_n 0, 1) := by decide +kernel
theorem dd_X12_shown_49 : decode mb_X12_shown 49 = .ok (.getfield 29, 3) := by decide +kernel
theorem dd_X12_shown_52 : decode mb_X12_shown 52 = .ok (.iload_n 2, 1) := by decide +kernel
theorem dd_X12_shown_53 : decode mb_X12_shown 53 = .ok (.iaload, 1) := by decide +kernel
theorem dd_X12_shown_54 : decode mb_X12_shown 54 = .ok (.ifCond .lt 12, 3) := by decide +kernel
theorem dd_X12_shown_57 : decode mb_X12_shown 57 = .ok (.aload_n 0, 1) := by decide +kernel
theorem dd_X12_shown_58 : decode mb_X12_shown 58 = .ok (.getfield 32, 3) := by decide +kernel
theorem dd_X12_shown_61 : decode mb_X12_shown 61 = .ok (.iload_n 2, 1) := by decide +kernel
theorem dd_X12_shown_62 : decode mb_X12_shown 62 = .ok (.iaload, 1) := by decide +kernel
theorem dd_X12_shown_63 : decode mb_X12_shown 63 = .ok (.ifCond .lt 7, 3) := by decide +kernel
theorem dd_X12_shown_66 : decode mb_X12_shown 66 = .ok (.iconst 0, 1) := by decide +kernel
theorem dd_X12_shown_67 : decode mb_X12_shown 67 = .ok (.goto 15, 3) := by decide +kernel
theorem dd_X12_shown_70 : decode mb_X12_shown 70 = .ok (.aload_n 0, 1) := by decide +kernel
theorem dd_X12_shown_71 : decode mb_X12_shown 71 = .ok (.iload_n 2, 1) := by decide +kernel
theorem dd_X12_shown_72 : decode mb_X12_shown 72 = .ok (.invokevirtual 175, 3) := by decide +kernel
theorem dd_X12_shown_75 : decode mb_X12_shown 75 = .ok (.aload_n 0, 1) := by decide +kernel
theorem dd_X12_shown_76 : decode mb_X12_shown 76 = .ok (.getfield 29, 3) := by decide +kernel
theorem dd_X12_shown_79 : decode mb_X12_shown 79 = .ok (.iload_n 2, 1) := by decide +kernel
theorem dd_X12_shown_80 : decode mb_X12_shown 80 = .ok (.iaload, 1) := by decide +kernel
theorem dd_X12_shown_81 : decode mb_X12_shown 81 = .ok (.isub, 1) := by decide +kernel
theorem dd_X12_shown_82 : decode mb_X12_shown 82 = .ok (.istore_n 3, 1) := by decide +kernel
theorem dd_X12_shown_83 : decode mb_X12_shown 83 = .ok (.iconst 2, 1) := by decide +kernel
theorem dd_X12_shown_84 : decode mb_X12_shown 84 = .ok (.aload_n 0, 1) := by decide +kernel
theorem dd_X12_shown_85 : decode mb_X12_shown 85 = .ok (.getfield 20, 3) := by decide +kernel
theorem dd_X12_shown_88 : decode mb_X12_shown 88 = .ok (.iload_n 2, 1) := by decide +kernel
theorem dd_X12_shown_89 : decode mb_X12_shown 89 = .ok (.iaload, 1) := by decide +kernel
theorem dd_X12_shown_90 : decode mb_X12_shown 90 = .ok (.iadd, 1) := by decide +kernel
theorem dd_X12_shown_91 : decode mb_X12_shown 91 = .ok (.istore 4, 2) := by decide +kernel
theorem dd_X12_shown_93 : decode mb_X12_shown 93 = .ok (.iconst 0, 1) := by decide +kernel
theorem dd_X12_shown_94 : decode mb_X12_shown 94 = .ok (.istore 5, 2) := by decide +kernel
theorem dd_X12_shown_96 : decode mb_X12_shown 96 = .ok (.iload 5, 2) := by decide +kernel
theorem dd_X12_shown_98 : decode mb_X12_shown 98 = .ok (.iload_n 1, 1) := by decide +kernel
theorem dd_X12_shown_99 : decode mb_X12_shown 99 = .ok (.if_icmp .gt 88, 3) := by decide +kernel
theorem dd_X12_shown_102 : decode mb_X12_shown 102 = .ok (.aload_n 0, 1) := by decide +kernel
theorem dd_X12_shown_103 : decode mb_X12_shown 103 = .ok (.getfield 111, 3) := by decide +kernel
theorem dd_X12_shown_106 : decode mb_X12_shown 106 = .ok (.sipush 201, 3) := by decide +kernel
theorem dd_X12_shown_109 : decode mb_X12_shown 109 = .ok (.iload_n 2, 1) := by decide +kernel
theorem dd_X12_shown_110 : decode mb_X12_shown 110 = .ok (.imul, 1) := by decide +kernel
theorem dd_X12_shown_111 : decode mb_X12_shown 111 = .ok (.iload 5, 2) := by decide +kernel
theorem dd_X12_shown_113 : decode mb_X12_shown 113 = .ok (.iadd, 1) := by decide +kernel
theorem dd_X12_shown_114 : decode mb_X12_shown 114 = .ok (.iaload, 1) := by decide +kernel
theorem dd_X12_shown_115 : decode mb_X12_shown 115 = .ok (.istore 6, 2) := by decide +kernel
theorem dd_X12_shown_117 : decode mb_X12_shown 117 = .ok (.iload_n 3, 1) := by decide +kernel
theorem dd_X12_shown_118 : decode mb_X12_shown 118 = .ok (.ifCond .le 31, 3) := by decide +kernel
theorem dd_X12_shown_121 : decode mb_X12_shown 121 = .ok (.iload 5, 2) := by decide +kernel
theorem dd_X12_shown_123 : decode mb_X12_shown 123 = .ok (.iload 4, 2) := by decide +kernel
theorem dd_X12_shown_125 : decode mb_X12_shown 125 = .ok (.if_icmp .lt 24, 3) := by decide +kernel
theorem dd_X12_shown_128 : decode mb_X12_shown 128 = .ok (.aload_n 0, 1) := by decide +kernel
theorem dd_X12_shown_129 : decode mb_X12_shown 129 = .ok (.getfield 111, 3) := by decide +kernel
theorem dd_X12_shown_132 : decode mb_X12_shown 132 = .ok (.sipush 201, 3) := by decide +kernel
theorem dd_X12_shown_135 : decode mb_X12_shown 135 = .ok (.iload_n 2, 1) := by decide +kernel
theorem dd_X12_shown_136 : decode mb_X12_shown 136 = .ok (.imul, 1) := by decide +kernel
theorem dd_X12_shown_137 : decode mb_X12_shown 137 = .ok (.iload 5, 2) := by decide +kernel
theorem dd_X12_shown_139 : decode mb_X12_shown 139 = .ok (.iadd, 1) := by decide +kernel
theorem dd_X12_shown_140 : decode mb_X12_shown 140 = .ok (.iload 4, 2) := by decide +kernel
theorem dd_X12_shown_142 : decode mb_X12_shown 142 = .ok (.isub, 1) := by decide +kernel
theorem dd_X12_shown_143 : decode mb_X12_shown 143 = .ok (.iaload, 1) := by decide +kernel
theorem dd_X12_shown_144 : decode mb_X12_shown 144 = .ok (.iload_n 3, 1) := by decide +kernel
theorem dd_X12_shown_145 : decode mb_X12_shown 145 = .ok (.iadd, 1) := by decide +kernel
theorem dd_X12_shown_146 : decode mb_X12_shown 146 = .ok (.goto 4, 3) := by decide +kernel
theorem dd_X12_shown_149 : decode mb_X12_shown 149 = .ok (.iconst 0, 1) := by decide +kernel
theorem dd_X12_shown_150 : decode mb_X12_shown 150 = .ok (.istore 7, 2) := by decide +kernel
theorem dd_X12_shown_152 : decode mb_X12_shown 152 = .ok (.aload_n 0, 1) := by decide +kernel
theorem dd_X12_shown_153 : decode mb_X12_shown 153 = .ok (.getfield 111, 3) := by decide +kernel
theorem dd_X12_shown_156 : decode mb_X12_shown 156 = .ok (.sipush 201, 3) := by decide +kernel
theorem dd_X12_shown_159 : decode mb_X12_shown 159 = .ok (.iload_n 2, 1) := by decide +kernel
theorem dd_X12_shown_160 : decode mb_X12_shown 160 = .ok (.iconst 1, 1) := by decide +kernel
theorem dd_X12_shown_161 : decode mb_X12_shown 161 = .ok (.iadd, 1) := by decide +kernel
theorem dd_X12_shown_162 : decode mb_X12_shown 162 = .ok (.imul, 1) := by decide +kernel
theorem dd_X12_shown_163 : decode mb_X12_shown 163 = .ok (.iload 5, 2) := by decide +kernel
theorem dd_X12_shown_165 : decode mb_X12_shown 165 = .ok (.iadd, 1) := by decide +kernel
theorem dd_X12_shown_166 : decode mb_X12_shown 166 = .ok (.iload 7, 2) := by decide +kernel
theorem dd_X12_shown_168 : decode mb_X12_shown 168 = .ok (.iload 6, 2) := by decide +kernel
theorem dd_X12_shown_170 : decode mb_X12_shown 170 = .ok (.if_icmp .le 8, 3) := by decide +kernel
theorem dd_X12_shown_173 : decode mb_X12_shown 173 = .ok (.iload 7, 2) := by decide +kernel
theorem dd_X12_shown_175 : decode mb_X12_shown 175 = .ok (.goto 5, 3) := by decide +kernel
theorem dd_X12_shown_178 : decode mb_X12_shown 178 = .ok (.iload 6, 2) := by decide +kernel
theorem dd_X12_shown_180 : decode mb_X12_shown 180 = .ok (.iastore, 1) := by decide +kernel
theorem dd_X12_shown_181 : decode mb_X12_shown 181 = .ok (.iinc 5 1, 3) := by decide +kernel
theorem dd_X12_shown_184 : decode mb_X12_shown 184 = .ok (.goto (-88), 3) := by decide +kernel
theorem dd_X12_shown_187 : decode mb_X12_shown 187 = .ok (.iinc 2 1, 3) := by decide +kernel
theorem dd_X12_shown_190 : decode mb_X12_shown 190 = .ok (.goto (-150), 3) := by decide +kernel
theorem dd_X12_shown_193 : decode mb_X12_shown 193 = .ok (.iconst 0, 1) := by decide +kernel
theorem dd_X12_shown_194 : decode mb_X12_shown 194 = .ok (.istore_n 2, 1) := by decide +kernel
theorem dd_X12_shown_195 : decode mb_X12_shown 195 = .ok (.iload_n 1, 1) := by decide +kernel
theorem dd_X12_shown_196 : decode mb_X12_shown 196 = .ok (.istore_n 3, 1) := by decide +kernel
theorem dd_X12_shown_197 : decode mb_X12_shown 197 = .ok (.aload_n 0, 1) := by decide +kernel
theorem dd_X12_shown_198 : decode mb_X12_shown 198 = .ok (.getfield 135, 3) := by decide +kernel
theorem dd_X12_shown_201 : decode mb_X12_shown 201 = .ok (.iconst 1, 1) := by decide +kernel
theorem dd_X12_shown_202 : decode mb_X12_shown 202 = .ok (.isub, 1) := by decide +kernel
theorem dd_X12_shown_203 : decode mb_X12_shown 203 = .ok (.istore 4, 2) := by decide +kernel
theorem dd_X12_shown_205 : decode mb_X12_shown 205 = .ok (.iload 4, 2) := by decide +kernel
theorem dd_X12_shown_207 : decode mb_X12_shown 207 = .ok (.ifCond .lt 62, 3) := by decide +kernel
theorem dd_X12_shown_210 : decode mb_X12_shown 210 = .ok (.aload_n 0, 1) := by decide +kernel
theorem dd_X12_shown_211 : decode mb_X12_shown 211 = .ok (.getfield 111, 3) := by decide +kernel
theorem dd_X12_shown_214 : decode mb_X12_shown 214 = .ok (.sipush 201, 3) := by decide +kernel
theorem dd_X12_shown_217 : decode mb_X12_shown 217 = .ok (.iload 4, 2) := by decide +kernel
theorem dd_X12_shown_219 : decode mb_X12_shown 219 = .ok (.iconst 1, 1) := by decide +kernel
theorem dd_X12_shown_220 : decode mb_X12_shown 220 = .ok (.iadd, 1) := by decide +kernel
theorem dd_X12_shown_221 : decode mb_X12_shown 221 = .ok (.imul, 1) := by decide +kernel
theorem dd_X12_shown_222 : decode mb_X12_shown 222 = .ok (.iload_n 3, 1) := by decide +kernel
theorem dd_X12_shown_223 : decode mb_X12_shown 223 = .ok (.iadd, 1) := by decide +kernel
theorem dd_X12_shown_224 : decode mb_X12_shown 224 = .ok (.iaload, 1) := by decide +kernel
theorem dd_X12_shown_225 : decode mb_X12_shown 225 = .ok (.aload_n 0, 1) := by decide +kernel
theorem dd_X12_shown_226 : decode mb_X12_shown 226 = .ok (.getfield 111, 3) := by decide +kernel
theorem dd_X12_shown_229 : decode mb_X12_shown 229 = .ok (.sipush 201, 3) := by decide +kernel
theorem dd_X12_shown_232 : decode mb_X12_shown 232 = .ok (.iload 4, 2) := by decide +kernel
theorem dd_X12_shown_234 : decode mb_X12_shown 234 = .ok (.imul, 1) := by decide +kernel
theorem dd_X12_shown_235 : decode mb_X12_shown 235 = .ok (.iload_n 3, 1) := by decide +kernel
theorem dd_X12_shown_236 : decode mb_X12_shown 236 = .ok (.iadd, 1) := by decide +kernel
theorem dd_X12_shown_237 : decode mb_X12_shown 237 = .ok (.iaload, 1) := by decide +kernel
theorem dd_X12_shown_238 : decode mb_X12_shown 238 = .ok (.if_icmp .ne 6, 3) := by decide +kernel
theorem dd_X12_shown_241 : decode mb_X12_shown 241 = .ok (.goto 22, 3) := by decide +kernel
theorem dd_X12_shown_244 : decode mb_X12_shown 244 = .ok (.iload_n 2, 1) := by decide +kernel
theorem dd_X12_shown_245 : decode mb_X12_shown 245 = .ok (.iconst 1, 1) := by decide +kernel
theorem dd_X12_shown_246 : decode mb_X12_shown 246 = .ok (.iload 4, 2) := by decide +kernel
theorem dd_X12_shown_248 : decode mb_X12_shown 248 = .ok (.ishl, 1) := by decide +kernel
theorem dd_X12_shown_249 : decode mb_X12_shown 249 = .ok (.ior, 1) := by decide +kernel
theorem dd_X12_shown_250 : decode mb_X12_shown 250 = .ok (.istore_n 2, 1) := by decide +kernel
theorem dd_X12_shown_251 : decode mb_X12_shown 251 = .ok (.iload_n 3, 1) := by decide +kernel
theorem dd_X12_shown_252 : decode mb_X12_shown 252 = .ok (.iconst 2, 1) := by decide +kernel
theorem dd_X12_shown_253 : decode mb_X12_shown 253 = .ok (.aload_n 0, 1) := by decide +kernel
theorem dd_X12_shown_254 : decode mb_X12_shown 254 = .ok (.getfield 20, 3) := by decide +kernel
theorem dd_X12_shown_257 : decode mb_X12_shown 257 = .ok (.iload 4, 2) := by decide +kernel
theorem dd_X12_shown_259 : decode mb_X12_shown 259 = .ok (.iaload, 1) := by decide +kernel
theorem dd_X12_shown_260 : decode mb_X12_shown 260 = .ok (.iadd, 1) := by decide +kernel
theorem dd_X12_shown_261 : decode mb_X12_shown 261 = .ok (.isub, 1) := by decide +kernel
theorem dd_X12_shown_262 : decode mb_X12_shown 262 = .ok (.istore_n 3, 1) := by decide +kernel
theorem dd_X12_shown_263 : decode mb_X12_shown 263 = .ok (.iinc 4 (-1), 3) := by decide +kernel
theorem dd_X12_shown_266 : decode mb_X12_shown 266 = .ok (.goto (-61), 3) := by decide +kernel
theorem dd_X12_shown_269 : decode mb_X12_shown 269 = .ok (.iload_n 2, 1) := by decide +kernel
theorem dd_X12_shown_270 : decode mb_X12_shown 270 = .ok (.ireturn, 1) := by decide +kernel
theorem dd_X12_sight_0 : decode mb_X12_sight 0 = .ok (.iload_n 1, 1) := by decide +kernel
theorem dd_X12_sight_1 : decode mb_X12_sight 1 = .ok (.ifCond .lt 20, 3) := by decide +kernel
theorem dd_X12_sight_4 : decode mb_X12_sight 4 = .ok (.iload_n 1, 1) := by decide +kernel
theorem dd_X12_sight_5 : decode mb_X12_sight 5 = .ok (.bipush 99, 2) := by decide +kernel
theorem dd_X12_sight_7 : decode mb_X12_sight 7 = .ok (.if_icmp .gt 14, 3) := by decide +kernel
theorem dd_X12_sight_10 : decode mb_X12_sight 10 = .ok (.iload_n 2, 1) := by decide +kernel
theorem dd_X12_sight_11 : decode mb_X12_sight 11 = .ok (.ifCond .lt 10, 3) := by decide +kernel
theorem dd_X12_sight_14 : decode mb_X12_sight 14 = .ok (.iload_n 2, 1) := by decide +kernel
theorem dd_X12_sight_15 : decode mb_X12_sight 15 = .ok (.sipush 255, 3) := by decide +kernel
theorem dd_X12_sight_18 : decode mb_X12_sight 18 = .ok (.if_icmp .le 10, 3) := by decide +kernel
theorem dd_X12_sight_21 : decode mb_X12_sight 21 = .ok (.aload_n 0, 1) := by decide +kernel
theorem dd_X12_sight_22 : decode mb_X12_sight 22 = .ok (.bipush (-2), 2) := by decide +kernel
theorem dd_X12_sight_24 : decode mb_X12_sight 24 = .ok (.invokevirtual 152, 3) := by decide +kernel
theorem dd_X12_sight_27 : decode mb_X12_sight 27 = .ok (.ireturn, 1) := by decide +kernel
theorem dd_X12_sight_28 : decode mb_X12_sight 28 = .ok (.iload_n 3, 1) := by decide +kernel
theorem dd_X12_sight_29 : decode mb_X12_sight 29 = .ok (.iconst (-1), 1) := by decide +kernel
theorem dd_X12_sight_30 : decode mb_X12_sight 30 = .ok (.if_icmp .eq 11, 3) := by decide +kernel
theorem dd_X12_sight_33 : decode mb_X12_sight 33 = .ok (.aload_n 0, 1) := by decide +kernel
theorem dd_X12_sight_34 : decode mb_X12_sight 34 = .ok (.iload_n 3, 1) := by decide +kernel
theorem dd_X12_sight_35 : decode mb_X12_sight 35 = .ok (.invokevirtual 276, 3) := by decide +kernel
theorem dd_X12_sight_38 : decode mb_X12_sight 38 = .ok (.ifCond .eq 18, 3) := by decide +kernel
theorem dd_X12_sight_41 : decode mb_X12_sight 41 = .ok (.iload 4, 2) := by decide +kernel
theorem dd_X12_sight_43 : decode mb_X12_sight 43 = .ok (.iconst (-1), 1) := by decide +kernel
theorem dd_X12_sight_44 : decode mb_X12_sight 44 = .ok (.if_icmp .eq 19, 3) := by decide +kernel
theorem dd_X12_sight_47 : decode mb_X12_sight 47 = .ok (.aload_n 0, 1) := by decide +kernel
theorem dd_X12_sight_48 : decode mb_X12_sight 48 = .ok (.iload 4, 2) := by decide +kernel
theorem dd_X12_sight_50 : decode mb_X12_sight 50 = .ok (.invokevirtual 276, 3) := by decide +kernel
theorem dd_X12_sight_53 : decode mb_X12_sight 53 = .ok (.ifCond .ne 10, 3) := by decide +kernel
theorem dd_X12_sight_56 : decode mb_X12_sight 56 = .ok (.aload_n 0, 1) := by decide +kernel
theorem dd_X12_sight_57 : decode mb_X12_sight 57 = .ok (.bipush (-2), 2) := by decide +kernel
theorem dd_X12_sight_59 : decode mb_X12_sight 59 = .ok (.invokevirtual 152, 3) := by decide +kernel
theorem dd_X12_sight_62 : decode mb_X12_sight 62 = .ok (.ireturn, 1) := by decide +kernel
theorem dd_X12_sight_63 : decode mb_X12_sight 63 = .ok (.aload_n 0, 1) := by decide +kernel
theorem dd_X12_sight_64 : decode mb_X12_sight 64 = .ok (.getfield 279, 3) := by decide +kernel
theorem dd_X12_sight_67 : decode mb_X12_sight 67 = .ok (.bipush 20, 2) := by decide +kernel
theorem dd_X12_sight_69 : decode mb_X12_sight 69 = .ok (.if_icmp .ne 10, 3) := by decide +kernel
theorem dd_X12_sight_72 : decode mb_X12_sight 72 = .ok (.aload_n 0, 1) := by decide +kernel
theorem dd_X12_sight_73 : decode mb_X12_sight 73 = .ok (.bipush (-6), 2) := by decide +kernel
theorem dd_X12_sight_75 : decode mb_X12_sight 75 = .ok (.invokevirtual 152, 3) := by decide +kernel
theorem dd_X12_sight_78 : decode mb_X12_sight 78 = .ok (.ireturn, 1) := by decide +kernel
theorem dd_X12_sight_79 : decode mb_X12_sight 79 = .ok (.aload_n 0, 1) := by decide +kernel
theorem dd_X12_sight_80 : decode mb_X12_sight 80 = .ok (.getfield 71, 3) := by decide +kernel
theorem dd_X12_sight_83 : decode mb_X12_sight 83 = .ok (.aload_n 0, 1) := by decide +kernel
theorem dd_X12_sight_84 : decode mb_X12_sight 84 = .ok (.getfield 279, 3) := by decide +kernel
theorem dd_X12_sight_87 : decode mb_X12_sight 87 = .ok (.iload_n 1, 1) := by decide +kernel
theorem dd_X12_sight_88 : decode mb_X12_sight 88 = .ok (.iastore, 1) := by decide +kernel
theorem dd_X12_sight_89 : decode mb_X12_sight 89 = .ok (.aload_n 0, 1) := by decide +kernel
theorem dd_X12_sight_90 : decode mb_X12_sight 90 = .ok (.getfield 74, 3) := by decide +kernel
theorem dd_X12_sight_93 : decode mb_X12_sight 93 = .ok (.aload_n 0, 1) := by decide +kernel
theorem dd_X12_sight_94 : decode mb_X12_sight 94 = .ok (.getfield 279, 3) := by decide +kernel
theorem dd_X12_sight_97 : decode mb_X12_sight 97 = .ok (.iload_n 2, 1) := by decide +kernel
theorem dd_X12_sight_98 : decode mb_X12_sight 98 = .ok (.iastore, 1) := by decide +kernel
theorem dd_X12_sight_99 : decode mb_X12_sight 99 = .ok (.aload_n 0, 1) := by decide +kernel
theorem dd_X12_sight_100 : decode mb_X12_sight 100 = .ok (.getfield 77, 3) := by decide +kernel
theorem dd_X12_sight_103 : decode mb_X12_sight 103 = .ok (.aload_n 0, 1) := by decide +kernel
theorem dd_X12_sight_104 : decode mb_X12_sight 104 = .ok (.getfield 279, 3) := by decide +kernel
theorem dd_X12_sight_107 : decode mb_X12_sight 107 = .ok (.iload_n 3, 1) := by decide +kernel
theorem dd_X12_sight_108 : decode mb_X12_sight 108 = .ok (.iastore, 1) := by decide +kernel
theorem dd_X12_sight_109 : decode mb_X12_sight 109 = .ok (.aload_n 0, 1) := by decide +kernel
theorem dd_X12_sight_110 : decode mb_X12_sight 110 = .ok (.getfield 80, 3) := by decide +kernel
theorem dd_X12_sight_113 : decode mb_X12_sight 113 = .ok (.aload_n 0, 1) := by decide +kernel
theorem dd_X12_sight_114 : decode mb_X12_sight 114 = .ok (.getfield 279, 3) := by decide +kernel
theorem dd_X12_sight_117 : decode mb_X12_sight 117 = .ok (.iload 4, 2) := by decide +kernel
theorem dd_X12_sight_119 : decode mb_X12_sight 119 = .ok (.iastore, 1) := by decide +kernel
theorem dd_X12_sight_120 : decode mb_X12_sight 120 = .ok (.aload_n 0, 1) := by decide +kernel
theorem dd_X12_sight_121 : decode mb_X12_sight 121 = .ok (.dup, 1) := by decide +kernel
theorem dd_X12_sight_122 : decode mb_X12_sight 122 = .ok (.getfield 279, 3) := by decide +kernel
theorem dd_X12_sight_125 : decode mb_X12_sight 125 = .ok (.dup_x1, 1) := by decide +kernel
theorem dd_X12_sight_126 : decode mb_X12_sight 126 = .ok (.iconst 1, 1) := by decide +kernel
theorem dd_X12_sight_127 : decode mb_X12_sight 127 = .ok (.iadd, 1) := by decide +kernel
theorem dd_X12_sight_128 : decode mb_X12_sight 128 = .ok (.putfield 279, 3) := by decide +kernel
theorem dd_X12_sight_131 : decode mb_X12_sight 131 = .ok (.ireturn, 1) := by decide +kernel
theorem dd_X12_sold_0 : decode mb_X12_sold 0 = .ok (.iconst 0, 1) := by decide +kernel
theorem dd_X12_sold_1 : decode mb_X12_sold 1 = .ok (.istore_n 1, 1) := by decide +kernel
theorem dd_X12_sold_2 : decode mb_X12_sold 2 = .ok (.iconst 0, 1) := by decide +kernel
theorem dd_X12_sold_3 : decode mb_X12_sold 3 = .ok (.istore_n 2, 1) := by decide +kernel
theorem dd_X12_sold_4 : decode mb_X12_sold 4 = .ok (.iload_n 2, 1) := by decide +kernel
theorem dd_X12_sold_5 : decode mb_X12_sold 5 = .ok (.aload_n 0, 1) := by decide +kernel
theorem dd_X12_sold_6 : decode mb_X12_sold 6 = .ok (.getfield 135, 3) := by decide +kernel
theorem dd_X12_sold_9 : decode mb_X12_sold 9 = .ok (.if_icmp .ge 21, 3) := by decide +kernel
theorem dd_X12_sold_12 : decode mb_X12_sold 12 = .ok (.aload_n 0, 1) := by decide +kernel
theorem dd_X12_sold_13 : decode mb_X12_sold 13 = .ok (.getfield 32, 3) := by decide +kernel
theorem dd_X12_sold_16 : decode mb_X12_sold 16 = .ok (.iload_n 2, 1) := by decide +kernel
theorem dd_X12_sold_17 : decode mb_X12_sold 17 = .ok (.iaload, 1) := by decide +kernel
theorem dd_X12_sold_18 : decode mb_X12_sold 18 = .ok (.ifCond .lt 6, 3) := by decide +kernel
theorem dd_X12_sold_21 : decode mb_X12_sold 21 = .ok (.iinc 1 1, 3) := by decide +kernel
theorem dd_X12_sold_24 : decode mb_X12_sold 24 = .ok (.iinc 2 1, 3) := by decide +kernel
theorem dd_X12_sold_27 : decode mb_X12_sold 27 = .ok (.goto (-23), 3) := by decide +kernel
theorem dd_X12_sold_30 : decode mb_X12_sold 30 = .ok (.iload_n 1, 1) := by decide +kernel
theorem dd_X12_sold_31 : decode mb_X12_sold 31 = .ok (.ireturn, 1) := by decide +kernel
theorem dd_X12_status_0 : decode mb_X12_status 0 = .ok (.iload_n 1, 1) := by decide +kernel
theorem dd_X12_status_1 : decode mb_X12_status 1 = .ok (.ifCond .ne 8, 3) := by decide +kernel
theorem dd_X12_status_4 : decode mb_X12_status 4 = .ok (.aload_n 0, 1) := by decide +kernel
theorem dd_X12_status_5 : decode mb_X12_status 5 = .ok (.getfield 135, 3) := by decide +kernel
theorem dd_X12_status_8 : decode mb_X12_status 8 = .ok (.ireturn, 1) := by decide +kernel
theorem dd_X12_status_9 : decode mb_X12_status 9 = .ok (.iload_n 1, 1) := by decide +kernel
theorem dd_X12_status_10 : decode mb_X12_status 10 = .ok (.iconst 1, 1) := by decide +kernel
theorem dd_X12_status_11 : decode mb_X12_status 11 = .ok (.if_icmp .ne 8, 3) := by decide +kernel
theorem dd_X12_status_14 : decode mb_X12_status 14 = .ok (.aload_n 0, 1) := by decide +kernel
theorem dd_X12_status_15 : decode mb_X12_status 15 = .ok (.getfield 139, 3) := by decide +kernel
theorem dd_X12_status_18 : decode mb_X12_status 18 = .ok (.ireturn, 1) := by decide +kernel
theorem dd_X12_status_19 : decode mb_X12_status 19 = .ok (.iload_n 1, 1) := by decide +kernel
theorem dd_X12_status_20 : decode mb_X12_status 20 = .ok (.iconst 2, 1) := by decide +kernel
theorem dd_X12_status_21 : decode mb_X12_status 21 = .ok (.if_icmp .ne 8, 3) := by decide +kernel
theorem dd_X12_status_24 : decode mb_X12_status 24 = .ok (.aload_n 0, 1) := by decide +kernel
theorem dd_X12_status_25 : decode mb_X12_status 25 = .ok (.getfield 142, 3) := by decide +kernel
theorem dd_X12_status_28 : decode mb_X12_status 28 = .ok (.ireturn, 1) := by decide +kernel
theorem dd_X12_status_29 : decode mb_X12_status 29 = .ok (.iload_n 1, 1) := by decide +kernel
theorem dd_X12_status_30 : decode mb_X12_status 30 = .ok (.iconst 3, 1) := by decide +kernel
theorem dd_X12_status_31 : decode mb_X12_status 31 = .ok (.if_icmp .ne 8, 3) := by decide +kernel
theorem dd_X12_status_34 : decode mb_X12_status 34 = .ok (.aload_n 0, 1) := by decide +kernel
theorem dd_X12_status_35 : decode mb_X12_status 35 = .ok (.getfield 145, 3) := by decide +kernel
theorem dd_X12_status_38 : decode mb_X12_status 38 = .ok (.ireturn, 1) := by decide +kernel
theorem dd_X12_status_39 : decode mb_X12_status 39 = .ok (.iload_n 1, 1) := by decide +kernel
theorem dd_X12_status_40 : decode mb_X12_status 40 = .ok (.iconst 4, 1) := by decide +kernel
theorem dd_X12_status_41 : decode mb_X12_status 41 = .ok (.if_icmp .ne 8, 3) := by decide +kernel
theorem dd_X12_status_44 : decode mb_X12_status 44 = .ok (.aload_n 0, 1) := by decide +kernel
theorem dd_X12_status_45 : decode mb_X12_status 45 = .ok (.getfield 273, 3) := by decide +kernel
theorem dd_X12_status_48 : decode mb_X12_status 48 = .ok (.ireturn, 1) := by decide +kernel
theorem dd_X12_status_49 : decode mb_X12_status 49 = .ok (.iload_n 1, 1) := by decide +kernel
theorem dd_X12_status_50 : decode mb_X12_status 50 = .ok (.iconst 5, 1) := by decide +kernel
theorem dd_X12_status_51 : decode mb_X12_status 51 = .ok (.if_icmp .ne 8, 3) := by decide +kernel
theorem dd_X12_status_54 : decode mb_X12_status 54 = .ok (.aload_n 0, 1) := by decide +kernel
theorem dd_X12_status_55 : decode mb_X12_status 55 = .ok (.getfield 279, 3) := by decide +kernel
theorem dd_X12_status_58 : decode mb_X12_status 58 = .ok (.ireturn, 1) := by decide +kernel
theorem dd_X12_status_59 : decode mb_X12_status 59 = .ok (.iload_n 1, 1) := by decide +kernel
theorem dd_X12_status_60 : decode mb_X12_status 60 = .ok (.bipush 6, 2) := by decide +kernel
theorem dd_X12_status_62 : decode mb_X12_status 62 = .ok (.if_icmp .ne 8, 3) := by decide +kernel
theorem dd_X12_status_65 : decode mb_X12_status 65 = .ok (.aload_n 0, 1) := by decide +kernel
theorem dd_X12_status_66 : decode mb_X12_status 66 = .ok (.getfield 288, 3) := by decide +kernel
theorem dd_X12_status_69 : decode mb_X12_status 69 = .ok (.ireturn, 1) := by decide +kernel
theorem dd_X12_status_70 : decode mb_X12_status 70 = .ok (.iload_n 1, 1) := by decide +kernel
theorem dd_X12_status_71 : decode mb_X12_status 71 = .ok (.bipush 7, 2) := by decide +kernel
theorem dd_X12_status_73 : decode mb_X12_status 73 = .ok (.if_icmp .ne 8, 3) := by decide +kernel
theorem dd_X12_status_76 : decode mb_X12_status 76 = .ok (.aload_n 0, 1) := by decide +kernel
theorem dd_X12_status_77 : decode mb_X12_status 77 = .ok (.getfield 199, 3) := by decide +kernel
theorem dd_X12_status_80 : decode mb_X12_status 80 = .ok (.ireturn, 1) := by decide +kernel
theorem dd_X12_status_81 : decode mb_X12_status 81 = .ok (.iload_n 1, 1) := by decide +kernel
theorem dd_X12_status_82 : decode mb_X12_status 82 = .ok (.bipush 8, 2) := by decide +kernel
theorem dd_X12_status_84 : decode mb_X12_status 84 = .ok (.if_icmp .ne 33, 3) := by decide +kernel
theorem dd_X12_status_87 : decode mb_X12_status 87 = .ok (.iconst 0, 1) := by decide +kernel
theorem dd_X12_status_88 : decode mb_X12_status 88 = .ok (.istore_n 2, 1) := by decide +kernel
theorem dd_X12_status_89 : decode mb_X12_status 89 = .ok (.iconst 0, 1) := by decide +kernel
theorem dd_X12_status_90 : decode mb_X12_status 90 = .ok (.istore_n 3, 1) := by decide +kernel
theorem dd_X12_status_91 : decode mb_X12_status 91 = .ok (.iload_n 3, 1) := by decide +kernel
theorem dd_X12_status_92 : decode mb_X12_status 92 = .ok (.bipush 8, 2) := by decide +kernel
theorem dd_X12_status_94 : decode mb_X12_status 94 = .ok (.if_icmp .ge 21, 3) := by decide +kernel
theorem dd_X12_status_97 : decode mb_X12_status 97 = .ok (.aload_n 0, 1) := by decide +kernel
theorem dd_X12_status_98 : decode mb_X12_status 98 = .ok (.getfield 7, 3) := by decide +kernel
theorem dd_X12_status_101 : decode mb_X12_status 101 = .ok (.iload_n 3, 1) := by decide +kernel
theorem dd_X12_status_102 : decode mb_X12_status 102 = .ok (.iaload, 1) := by decide +kernel
theorem dd_X12_status_103 : decode mb_X12_status 103 = .ok (.ifCond .lt 6, 3) := by decide +kernel
theorem dd_X12_status_106 : decode mb_X12_status 106 = .ok (.iinc 2 1, 3) := by decide +kernel
theorem dd_X12_status_109 : decode mb_X12_status 109 = .ok (.iinc 3 1, 3) := by decide +kernel
theorem dd_X12_status_112 : decode mb_X12_status 112 = .ok (.goto (-21), 3) := by decide +kernel
theorem dd_X12_status_115 : decode mb_X12_status 115 = .ok (.iload_n 2, 1) := by decide +kernel
theorem dd_X12_status_116 : decode mb_X12_status 116 = .ok (.ireturn, 1) := by decide +kernel
theorem dd_X12_status_117 : decode mb_X12_status 117 = .ok (.iload_n 1, 1) := by decide +kernel
theorem dd_X12_status_118 : decode mb_X12_status 118 = .ok (.bipush 12, 2) := by decide +kernel
theorem dd_X12_status_120 : decode mb_X12_status 120 = .ok (.if_icmp .lt 21, 3) := by decide +kernel
theorem dd_X12_status_123 : decode mb_X12_status 123 = .ok (.iload_n 1, 1) := by decide +kernel
theorem dd_X12_status_124 : decode mb_X12_status 124 = .ok (.bipush 16, 2) := by decide +kernel
theorem dd_X12_status_126 : decode mb_X12_status 126 = .ok (.if_icmp .gt 15, 3) := by decide +kernel
theorem dd_X12_status_129 : decode mb_X12_status 129 = .ok (.aload_n 0, 1) := by decide +kernel
theorem dd_X12_status_130 : decode mb_X12_status 130 = .ok (.getfield 95, 3) := by decide +kernel
theorem dd_X12_status_133 : decode mb_X12_status 133 = .ok (.iload_n 1, 1) := by decide +kernel
theorem dd_X12_status_134 : decode mb_X12_status 134 = .ok (.bipush 10, 2) := by decide +kernel
theorem dd_X12_status_136 : decode mb_X12_status 136 = .ok (.isub, 1) := by decide +kernel
theorem dd_X12_status_137 : decode mb_X12_status 137 = .ok (.iaload, 1) := by decide +kernel
theorem dd_X12_status_138 : decode mb_X12_status 138 = .ok (.goto 4, 3) := by decide +kernel
theorem dd_X12_status_141 : decode mb_X12_status 141 = .ok (.iconst (-1), 1) := by decide +kernel
theorem dd_X12_status_142 : decode mb_X12_status 142 = .ok (.ireturn, 1) := by decide +kernel
theorem dd_X12_table_0 : decode mb_X12_table 0 = .ok (.aload_n 0, 1) := by decide +kernel
theorem dd_X12_table_1 : decode mb_X12_table 1 = .ok (.iload_n 1, 1) := by decide +kernel
theorem dd_X12_table_2 : decode mb_X12_table 2 = .ok (.invokevirtual 190, 3) := by decide +kernel
theorem dd_X12_table_5 : decode mb_X12_table 5 = .ok (.ifCond .ne 10, 3) := by decide +kernel
theorem dd_X12_table_8 : decode mb_X12_table 8 = .ok (.aload_n 0, 1) := by decide +kernel
theorem dd_X12_table_9 : decode mb_X12_table 9 = .ok (.bipush (-2), 2) := by decide +kernel
theorem dd_X12_table_11 : decode mb_X12_table 11 = .ok (.invokevirtual 152, 3) := by decide +kernel
theorem dd_X12_table_14 : decode mb_X12_table 14 = .ok (.ireturn, 1) := by decide +kernel
theorem dd_X12_table_15 : decode mb_X12_table 15 = .ok (.aload_n 0, 1) := by decide +kernel
theorem dd_X12_table_16 : decode mb_X12_table 16 = .ok (.getfield 273, 3) := by decide +kernel
theorem dd_X12_table_19 : decode mb_X12_table 19 = .ok (.iconst 5, 1) := by decide +kernel
theorem dd_X12_table_20 : decode mb_X12_table 20 = .ok (.if_icmp .ne 10, 3) := by decide +kernel
theorem dd_X12_table_23 : decode mb_X12_table 23 = .ok (.aload_n 0, 1) := by decide +kernel
theorem dd_X12_table_24 : decode mb_X12_table 24 = .ok (.bipush (-6), 2) := by decide +kernel
theorem dd_X12_table_26 : decode mb_X12_table 26 = .ok (.invokevirtual 152, 3) := by decide +kernel
theorem dd_X12_table_29 : decode mb_X12_table 29 = .ok (.ireturn, 1) := by decide +kernel
theorem dd_X12_table_30 : decode mb_X12_table 30 = .ok (.aload_n 0, 1) := by decide +kernel
theorem dd_X12_table_31 : decode mb_X12_table 31 = .ok (.getfield 68, 3) := by decide +kernel
theorem dd_X12_table_34 : decode mb_X12_table 34 = .ok (.aload_n 0, 1) := by decide +kernel
theorem dd_X12_table_35 : decode mb_X12_table 35 = .ok (.getfield 273, 3) := by decide +kernel
theorem dd_X12_table_38 : decode mb_X12_table 38 = .ok (.iload_n 1, 1) := by decide +kernel
theorem dd_X12_table_39 : decode mb_X12_table 39 = .ok (.iastore, 1) := by decide +kernel
theorem dd_X12_table_40 : decode mb_X12_table 40 = .ok (.aload_n 0, 1) := by decide +kernel
theorem dd_X12_table_41 : decode mb_X12_table 41 = .ok (.dup, 1) := by decide +kernel
theorem dd_X12_table_42 : decode mb_X12_table 42 = .ok (.getfield 273, 3) := by decide +kernel
theorem dd_X12_table_45 : decode mb_X12_table 45 = .ok (.dup_x1, 1) := by decide +kernel
theorem dd_X12_table_46 : decode mb_X12_table 46 = .ok (.iconst 1, 1) := by decide +kernel
theorem dd_X12_table_47 : decode mb_X12_table 47 = .ok (.iadd, 1) := by decide +kernel
theorem dd_X12_table_48 : decode mb_X12_table 48 = .ok (.putfield 273, 3) := by decide +kernel
theorem dd_X12_table_51 : decode mb_X12_table 51 = .ok (.ireturn, 1) := by decide +kernel
theorem dd_X12_takes_0 : decode mb_X12_takes 0 = .ok (.aload_n 0, 1) := by decide +kernel
theorem dd_X12_takes_1 : decode mb_X12_takes 1 = .ok (.iload_n 1, 1) := by decide +kernel
theorem dd_X12_takes_2 : decode mb_X12_takes 2 = .ok (.invokevirtual 251, 3) := by decide +kernel
theorem dd_X12_takes_5 : decode mb_X12_takes 5 = .ok (.ifCond .eq 11, 3) := by decide +kernel
theorem dd_X12_takes_8 : decode mb_X12_takes 8 = .ok (.aload_n 0, 1) := by decide +kernel
theorem dd_X12_takes_9 : decode mb_X12_takes 9 = .ok (.iload_n 2, 1) := by decide +kernel
theorem dd_X12_takes_10 : decode mb_X12_takes 10 = .ok (.invokevirtual 248, 3) := by decide +kernel
theorem dd_X12_takes_13 : decode mb_X12_takes 13 = .ok (.ifCond .ne 10, 3) := by decide +kernel
theorem dd_X12_takes_16 : decode mb_X12_takes 16 = .ok (.aload_n 0, 1) := by decide +kernel
theorem dd_X12_takes_17 : decode mb_X12_takes 17 = .ok (.bipush (-2), 2) := by decide +kernel
theorem dd_X12_takes_19 : decode mb_X12_takes 19 = .ok (.invokevirtual 152, 3) := by decide +kernel
theorem dd_X12_takes_22 : decode mb_X12_takes 22 = .ok (.ireturn, 1) := by decide +kernel
theorem dd_X12_takes_23 : decode mb_X12_takes 23 = .ok (.aload_n 0, 1) := by decide +kernel
theorem dd_X12_takes_24 : decode mb_X12_takes 24 = .ok (.invokevirtual 258, 3) := by decide +kernel
theorem dd_X12_takes_27 : decode mb_X12_takes 27 = .ok (.aload_n 0, 1) := by decide +kernel
theorem dd_X12_takes_28 : decode mb_X12_takes 28 = .ok (.iload_n 1, 1) := by decide +kernel
theorem dd_X12_takes_29 : decode mb_X12_takes 29 = .ok (.iload_n 2, 1) := by decide +kernel
theorem dd_X12_takes_30 : decode mb_X12_takes 30 = .ok (.aload_n 0, 1) := by decide +kernel
theorem dd_X12_takes_31 : decode mb_X12_takes 31 = .ok (.getfield 92, 3) := by decide +kernel
theorem dd_X12_takes_34 : decode mb_X12_takes 34 = .ok (.iconst 0, 1) := by decide +kernel
theorem dd_X12_takes_35 : decode mb_X12_takes 35 = .ok (.iaload, 1) := by decide +kernel
theorem dd_X12_takes_36 : decode mb_X12_takes 36 = .ok (.aload_n 0, 1) := by decide +kernel
theorem dd_X12_takes_37 : decode mb_X12_takes 37 = .ok (.getfield 92, 3) := by decide +kernel
theorem dd_X12_takes_40 : decode mb_X12_takes 40 = .ok (.iconst 1, 1) := by decide +kernel
theorem dd_X12_takes_41 : decode mb_X12_takes 41 = .ok (.iaload, 1) := by decide +kernel
theorem dd_X12_takes_42 : decode mb_X12_takes 42 = .ok (.invokevirtual 261, 3) := by decide +kernel
theorem dd_X12_takes_45 : decode mb_X12_takes 45 = .ok (.ireturn, 1) := by decide +kernel
theorem dd_X12_takings_0 : decode mb_X12_takings 0 = .ok (.iload_n 1, 1) := by decide +kernel
theorem dd_X12_takings_1 : decode mb_X12_takings 1 = .ok (.ifCond .lt 19, 3) := by decide +kernel
theorem dd_X12_takings_4 : decode mb_X12_takings 4 = .ok (.iload_n 1, 1) := by decide +kernel
theorem dd_X12_takings_5 : decode mb_X12_takings 5 = .ok (.bipush 12, 2) := by decide +kernel
theorem dd_X12_takings_7 : decode mb_X12_takings 7 = .ok (.if_icmp .gt 13, 3) := by decide +kernel
theorem dd_X12_takings_10 : decode mb_X12_takings 10 = .ok (.iload_n 2, 1) := by decide +kernel
theorem dd_X12_takings_11 : decode mb_X12_takings 11 = .ok (.ifCond .lt 9, 3) := by decide +kernel
theorem dd_X12_takings_14 : decode mb_X12_takings 14 = .ok (.iload_n 2, 1) := by decide +kernel
theorem dd_X12_takings_15 : decode mb_X12_takings 15 = .ok (.bipush 12, 2) := by decide +kernel
theorem dd_X12_takings_17 : decode mb_X12_takings 17 = .ok (.if_icmp .le 10, 3) := by decide +kernel
theorem dd_X12_takings_20 : decode mb_X12_takings 20 = .ok (.aload_n 0, 1) := by decide +kernel
theorem dd_X12_takings_21 : decode mb_X12_takings 21 = .ok (.bipush (-2), 2) := by decide +kernel
theorem dd_X12_takings_23 : decode mb_X12_takings 23 = .ok (.invokevirtual 152, 3) := by decide +kernel
theorem dd_X12_takings_26 : decode mb_X12_takings 26 = .ok (.ireturn, 1) := by decide +kernel
theorem dd_X12_takings_27 : decode mb_X12_takings 27 = .ok (.aload_n 0, 1) := by decide +kernel
theorem dd_X12_takings_28 : decode mb_X12_takings 28 = .ok (.iload_n 1, 1) := by decide +kernel
theorem dd_X12_takings_29 : decode mb_X12_takings 29 = .ok (.iload_n 2, 1) := by decide +kernel
theorem dd_X12_takings_30 : decode mb_X12_takings 30 = .ok (.invokevirtual 264, 3) := by decide +kernel
theorem dd_X12_takings_33 : decode mb_X12_takings 33 = .ok (.ireturn, 1) := by decide +kernel
theorem dd_X12_thing_0 : decode mb_X12_thing 0 = .ok (.aload_n 0, 1) := by decide +kernel
theorem dd_X12_thing_1 : decode mb_X12_thing 1 = .ok (.iload_n 1, 1) := by decide +kernel
theorem dd_X12_thing_2 : decode mb_X12_thing 2 = .ok (.invokevirtual 168, 3) := by decide +kernel
theorem dd_X12_thing_5 : decode mb_X12_thing 5 = .ok (.ifCond .eq 25, 3) := by decide +kernel
theorem dd_X12_thing_8 : decode mb_X12_thing 8 = .ok (.iload_n 2, 1) := by decide +kernel
theorem dd_X12_thing_9 : decode mb_X12_thing 9 = .ok (.ifCond .lt 21, 3) := by decide +kernel
theorem dd_X12_thing_12 : decode mb_X12_thing 12 = .ok (.iload_n 2, 1) := by decide +kernel
theorem dd_X12_thing_13 : decode mb_X12_thing 13 = .ok (.sipush 999, 3) := by decide +kernel
theorem dd_X12_thing_16 : decode mb_X12_thing 16 = .ok (.if_icmp .gt 14, 3) := by decide +kernel
theorem dd_X12_thing_19 : decode mb_X12_thing 19 = .ok (.iload_n 3, 1) := by decide +kernel
theorem dd_X12_thing_20 : decode mb_X12_thing 20 = .ok (.ifCond .lt 10, 3) := by decide +kernel
theorem dd_X12_thing_23 : decode mb_X12_thing 23 = .ok (.iload_n 3, 1) := by decide +kernel
theorem dd_X12_thing_24 : decode mb_X12_thing 24 = .ok (.sipush 255, 3) := by decide +kernel
theorem dd_X12_thing_27 : decode mb_X12_thing 27 = .ok (.if_icmp .le 10, 3) := by decide +kernel
theorem dd_X12_thing_30 : decode mb_X12_thing 30 = .ok (.aload_n 0, 1) := by decide +kernel
theorem dd_X12_thing_31 : decode mb_X12_thing 31 = .ok (.bipush (-2), 2) := by decide +kernel
theorem dd_X12_thing_33 : decode mb_X12_thing 33 = .ok (.invokevirtual 152, 3) := by decide +kernel
theorem dd_X12_thing_36 : decode mb_X12_thing 36 = .ok (.ireturn, 1) := by decide +kernel
theorem dd_X12_thing_37 : decode mb_X12_thing 37 = .ok (.aload_n 0, 1) := by decide +kernel
theorem dd_X12_thing_38 : decode mb_X12_thing 38 = .ok (.getfield 135, 3) := by decide +kernel
theorem dd_X12_thing_41 : decode mb_X12_thing 41 = .ok (.bipush 30, 2) := by decide +kernel
theorem dd_X12_thing_43 : decode mb_X12_thing 43 = .ok (.if_icmp .ne 10, 3) := by decide +kernel
theorem dd_X12_thing_46 : decode mb_X12_thing 46 = .ok (.aload_n 0, 1) := by decide +kernel
theorem dd_X12_thing_47 : decode mb_X12_thing 47 = .ok (.bipush (-6), 2) := by decide +kernel
theorem dd_X12_thing_49 : decode mb_X12_thing 49 = .ok (.invokevirtual 152, 3) := by decide +kernel
theorem dd_X12_thing_52 : decode mb_X12_thing 52 = .ok (.ireturn, 1) := by decide +kernel
theorem dd_X12_thing_53 : decode mb_X12_thing 53 = .ok (.aload_n 0, 1) := by decide +kernel
theorem dd_X12_thing_54 : decode mb_X12_thing 54 = .ok (.dup, 1) := by decide +kernel
theorem dd_X12_thing_55 : decode mb_X12_thing 55 = .ok (.getfield 135, 3) := by decide +kernel
theorem dd_X12_thing_58 : decode mb_X12_thing 58 = .ok (.dup_x1, 1) := by decide +kernel
theorem dd_X12_thing_59 : decode mb_X12_thing 59 = .ok (.iconst 1, 1) := by decide +kernel
theorem dd_X12_thing_60 : decode mb_X12_thing 60 = .ok (.iadd, 1) := by decide +kernel
theorem dd_X12_thing_61 : decode mb_X12_thing 61 = .ok (.putfield 135, 3) := by decide +kernel
theorem dd_X12_thing_64 : decode mb_X12_thing 64 = .ok (.istore 4, 2) := by decide +kernel
theorem dd_X12_thing_66 : decode mb_X12_thing 66 = .ok (.aload_n 0, 1) := by decide +kernel
theorem dd_X12_thing_67 : decode mb_X12_thing 67 = .ok (.getfield 20, 3) := by decide +kernel
theorem dd_X12_thing_70 : decode mb_X12_thing 70 = .ok (.iload 4, 2) := by decide +kernel
theorem dd_X12_thing_72 : decode mb_X12_thing 72 = .ok (.iload_n 1, 1) := by decide +kernel
theorem dd_X12_thing_73 : decode mb_X12_thing 73 = .ok (.iastore, 1) := by decide +kernel
theorem dd_X12_thing_74 : decode mb_X12_thing 74 = .ok (.aload_n 0, 1) := by decide +kernel
theorem dd_X12_thing_75 : decode mb_X12_thing 75 = .ok (.getfield 23, 3) := by decide +kernel
theorem dd_X12_thing_78 : decode mb_X12_thing 78 = .ok (.iload 4, 2) := by decide +kernel
theorem dd_X12_thing_80 : decode mb_X12_thing 80 = .ok (.iload_n 2, 1) := by decide +kernel
theorem dd_X12_thing_81 : decode mb_X12_thing 81 = .ok (.iastore, 1) := by decide +kernel
theorem dd_X12_thing_82 : decode mb_X12_thing 82 = .ok (.aload_n 0, 1) := by decide +kernel
theorem dd_X12_thing_83 : decode mb_X12_thing 83 = .ok (.getfield 26, 3) := by decide +kernel
theorem dd_X12_thing_86 : decode mb_X12_thing 86 = .ok (.iload 4, 2) := by decide +kernel
theorem dd_X12_thing_88 : decode mb_X12_thing 88 = .ok (.iload_n 3, 1) := by decide +kernel
theorem dd_X12_thing_89 : decode mb_X12_thing 89 = .ok (.iastore, 1) := by decide +kernel
theorem dd_X12_thing_90 : decode mb_X12_thing 90 = .ok (.aload_n 0, 1) := by decide +kernel
theorem dd_X12_thing_91 : decode mb_X12_thing 91 = .ok (.getfield 29, 3) := by decide +kernel
theorem dd_X12_thing_94 : decode mb_X12_thing 94 = .ok (.iload 4, 2) := by decide +kernel
theorem dd_X12_thing_96 : decode mb_X12_thing 96 = .ok (.iconst (-1), 1) := by decide +kernel
theorem dd_X12_thing_97 : decode mb_X12_thing 97 = .ok (.iastore, 1) := by decide +kernel
theorem dd_X12_thing_98 : decode mb_X12_thing 98 = .ok (.aload_n 0, 1) := by decide +kernel
theorem dd_X12_thing_99 : decode mb_X12_thing 99 = .ok (.getfield 32, 3) := by decide +kernel
theorem dd_X12_thing_102 : decode mb_X12_thing 102 = .ok (.iload 4, 2) := by decide +kernel
theorem dd_X12_thing_104 : decode mb_X12_thing 104 = .ok (.iconst (-1), 1) := by decide +kernel
theorem dd_X12_thing_105 : decode mb_X12_thing 105 = .ok (.iastore, 1) := by decide +kernel
theorem dd_X12_thing_106 : decode mb_X12_thing 106 = .ok (.aload_n 0, 1) := by decide +kernel
theorem dd_X12_thing_107 : decode mb_X12_thing 107 = .ok (.getfield 35, 3) := by decide +kernel
theorem dd_X12_thing_110 : decode mb_X12_thing 110 = .ok (.iload 4, 2) := by decide +kernel
theorem dd_X12_thing_112 : decode mb_X12_thing 112 = .ok (.iconst (-1), 1) := by decide +kernel
theorem dd_X12_thing_113 : decode mb_X12_thing 113 = .ok (.iastore, 1) := by decide +kernel
theorem dd_X12_thing_114 : decode mb_X12_thing 114 = .ok (.iload 4, 2) := by decide +kernel
theorem dd_X12_thing_116 : decode mb_X12_thing 116 = .ok (.ireturn, 1) := by decide +kernel
theorem dd_X12_thingOf_0 : decode mb_X12_thingOf 0 = .ok (.aload_n 0, 1) := by decide +kernel
theorem dd_X12_thingOf_1 : decode mb_X12_thingOf 1 = .ok (.iload_n 1, 1) := by decide +kernel
theorem dd_X12_thingOf_2 : decode mb_X12_thingOf 2 = .ok (.invokevirtual 165, 3) := by decide +kernel
theorem dd_X12_thingOf_5 : decode mb_X12_thingOf 5 = .ok (.ifCond .eq 13, 3) := by decide +kernel
theorem dd_X12_thingOf_8 : decode mb_X12_thingOf 8 = .ok (.iload_n 2, 1) := by decide +kernel
theorem dd_X12_thingOf_9 : decode mb_X12_thingOf 9 = .ok (.ifCond .lt 9, 3) := by decide +kernel
theorem dd_X12_thingOf_12 : decode mb_X12_thingOf 12 = .ok (.iload_n 2, 1) := by decide +kernel
theorem dd_X12_thingOf_13 : decode mb_X12_thingOf 13 = .ok (.bipush 6, 2) := by decide +kernel
theorem dd_X12_thingOf_15 : decode mb_X12_thingOf 15 = .ok (.if_icmp .le 10, 3) := by decide +kernel
theorem dd_X12_thingOf_18 : decode mb_X12_thingOf 18 = .ok (.aload_n 0, 1) := by decide +kernel
theorem dd_X12_thingOf_19 : decode mb_X12_thingOf 19 = .ok (.bipush (-2), 2) := by decide +kernel
theorem dd_X12_thingOf_21 : decode mb_X12_thingOf 21 = .ok (.invokevirtual 152, 3) := by decide +kernel
theorem dd_X12_thingOf_24 : decode mb_X12_thingOf 24 = .ok (.ireturn, 1) := by decide +kernel
theorem dd_X12_thingOf_25 : decode mb_X12_thingOf 25 = .ok (.iload_n 2, 1) := by decide +kernel
theorem dd_X12_thingOf_26 : decode mb_X12_thingOf 26 = .ok (.ifCond .ne 10, 3) := by decide +kernel
theorem dd_X12_thingOf_29 : decode mb_X12_thingOf 29 = .ok (.aload_n 0, 1) := by decide +kernel
theorem dd_X12_thingOf_30 : decode mb_X12_thingOf 30 = .ok (.getfield 20, 3) := by decide +kernel
theorem dd_X12_thingOf_33 : decode mb_X12_thingOf 33 = .ok (.iload_n 1, 1) := by decide +kernel
theorem dd_X12_thingOf_34 : decode mb_X12_thingOf 34 = .ok (.iaload, 1) := by decide +kernel
theorem dd_X12_thingOf_35 : decode mb_X12_thingOf 35 = .ok (.ireturn, 1) := by decide +kernel
theorem dd_X12_thingOf_36 : decode mb_X12_thingOf 36 = .ok (.iload_n 2, 1) := by decide +kernel
theorem dd_X12_thingOf_37 : decode mb_X12_thingOf 37 = .ok (.iconst 1, 1) := by decide +kernel
theorem dd_X12_thingOf_38 : decode mb_X12_thingOf 38 = .ok (.if_icmp .ne 10, 3) := by decide +kernel
theorem dd_X12_thingOf_41 : decode mb_X12_thingOf 41 = .ok (.aload_n 0, 1) := by decide +kernel
theorem dd_X12_thingOf_42 : decode mb_X12_thingOf 42 = .ok (.getfield 23, 3) := by decide +kernel
theorem dd_X12_thingOf_45 : decode mb_X12_thingOf 45 = .ok (.iload_n 1, 1) := by decide +kernel
theorem dd_X12_thingOf_46 : decode mb_X12_thingOf 46 = .ok (.iaload, 1) := by decide +kernel
theorem dd_X12_thingOf_47 : decode mb_X12_thingOf 47 = .ok (.ireturn, 1) := by decide +kernel
theorem dd_X12_thingOf_48 : decode mb_X12_thingOf 48 = .ok (.iload_n 2, 1) := by decide +kernel
theorem dd_X12_thingOf_49 : decode mb_X12_thingOf 49 = .ok (.iconst 2, 1) := by decide +kernel
theorem dd_X12_thingOf_50 : decode mb_X12_thingOf 50 = .ok (.if_icmp .ne 10, 3) := by decide +kernel
theorem dd_X12_thingOf_53 : decode mb_X12_thingOf 53 = .ok (.aload_n 0, 1) := by decide +kernel
theorem dd_X12_thingOf_54 : decode mb_X12_thingOf 54 = .ok (.getfield 26, 3) := by decide +kernel
theorem dd_X12_thingOf_57 : decode mb_X12_thingOf 57 = .ok (.iload_n 1, 1) := by decide +kernel
theorem dd_X12_thingOf_58 : decode mb_X12_thingOf 58 = .ok (.iaload, 1) := by decide +kernel
theorem dd_X12_thingOf_59 : decode mb_X12_thingOf 59 = .ok (.ireturn, 1) := by decide +kernel
theorem dd_X12_thingOf_60 : decode mb_X12_thingOf 60 = .ok (.iload_n 2, 1) := by decide +kernel
theorem dd_X12_thingOf_61 : decode mb_X12_thingOf 61 = .ok (.iconst 3, 1) := by decide +kernel
theorem dd_X12_thingOf_62 : decode mb_X12_thingOf 62 = .ok (.if_icmp .ne 9, 3) := by decide +kernel
theorem dd_X12_thingOf_65 : decode mb_X12_thingOf 65 = .ok (.aload_n 0, 1) := by decide +kernel
theorem dd_X12_thingOf_66 : decode mb_X12_thingOf 66 = .ok (.iload_n 1, 1) := by decide +kernel
theorem dd_X12_thingOf_67 : decode mb_X12_thingOf 67 = .ok (.invokevirtual 175, 3) := by decide +kernel
theorem dd_X12_thingOf_70 : decode mb_X12_thingOf 70 = .ok (.ireturn, 1) := by decide +kernel
theorem dd_X12_thingOf_71 : decode mb_X12_thingOf 71 = .ok (.iload_n 2, 1) := by decide +kernel
theorem dd_X12_thingOf_72 : decode mb_X12_thingOf 72 = .ok (.iconst 4, 1) := by decide +kernel
theorem dd_X12_thingOf_73 : decode mb_X12_thingOf 73 = .ok (.if_icmp .ne 10, 3) := by decide +kernel
theorem dd_X12_thingOf_76 : decode mb_X12_thingOf 76 = .ok (.aload_n 0, 1) := by decide +kernel
theorem dd_X12_thingOf_77 : decode mb_X12_thingOf 77 = .ok (.getfield 29, 3) := by decide +kernel
theorem dd_X12_thingOf_80 : decode mb_X12_thingOf 80 = .ok (.iload_n 1, 1) := by decide +kernel
theorem dd_X12_thingOf_81 : decode mb_X12_thingOf 81 = .ok (.iaload, 1) := by decide +kernel
theorem dd_X12_thingOf_82 : decode mb_X12_thingOf 82 = .ok (.ireturn, 1) := by decide +kernel
theorem dd_X12_thingOf_83 : decode mb_X12_thingOf 83 = .ok (.iload_n 2, 1) := by decide +kernel
theorem dd_X12_thingOf_84 : decode mb_X12_thingOf 84 = .ok (.iconst 5, 1) := by decide +kernel
theorem dd_X12_thingOf_85 : decode mb_X12_thingOf 85 = .ok (.if_icmp .ne 12, 3) := by decide +kernel
theorem dd_X12_thingOf_88 : decode mb_X12_thingOf 88 = .ok (.aload_n 0, 1) := by decide +kernel
theorem dd_X12_thingOf_89 : decode mb_X12_thingOf 89 = .ok (.getfield 32, 3) := by decide +kernel
theorem dd_X12_thingOf_92 : decode mb_X12_thingOf 92 = .ok (.iload_n 1, 1) := by decide +kernel
theorem dd_X12_thingOf_93 : decode mb_X12_thingOf 93 = .ok (.iaload, 1) := by decide +kernel
theorem dd_X12_thingOf_94 : decode mb_X12_thingOf 94 = .ok (.goto 9, 3) := by decide +kernel
theorem dd_X12_thingOf_97 : decode mb_X12_thingOf 97 = .ok (.aload_n 0, 1) := by decide +kernel
theorem dd_X12_thingOf_98 : decode mb_X12_thingOf 98 = .ok (.getfield 35, 3) := by decide +kernel
theorem dd_X12_thingOf_101 : decode mb_X12_thingOf 101 = .ok (.iload_n 1, 1) := by decide +kernel
theorem dd_X12_thingOf_102 : decode mb_X12_thingOf 102 = .ok (.iaload, 1) := by decide +kernel
theorem dd_X12_thingOf_103 : decode mb_X12_thingOf 103 = .ok (.ireturn, 1) := by decide +kernel
theorem dd_X12_things_0 : decode mb_X12_things 0 = .ok (.aload_n 0, 1) := by decide +kernel
theorem dd_X12_things_1 : decode mb_X12_things 1 = .ok (.iload_n 1, 1) := by decide +kernel
theorem dd_X12_things_2 : decode mb_X12_things 2 = .ok (.invokevirtual 148, 3) := by decide +kernel
theorem dd_X12_things_5 : decode mb_X12_things 5 = .ok (.ifCond .eq 11, 3) := by decide +kernel
theorem dd_X12_things_8 : decode mb_X12_things 8 = .ok (.aload_n 0, 1) := by decide +kernel
theorem dd_X12_things_9 : decode mb_X12_things 9 = .ok (.iload_n 2, 1) := by decide +kernel
theorem dd_X12_things_10 : decode mb_X12_things 10 = .ok (.invokevirtual 168, 3) := by decide +kernel
theorem dd_X12_things_13 : decode mb_X12_things 13 = .ok (.ifCond .ne 10, 3) := by decide +kernel
theorem dd_X12_things_16 : decode mb_X12_things 16 = .ok (.aload_n 0, 1) := by decide +kernel
theorem dd_X12_things_17 : decode mb_X12_things 17 = .ok (.bipush (-2), 2) := by decide +kernel
theorem dd_X12_things_19 : decode mb_X12_things 19 = .ok (.invokevirtual 152, 3) := by decide +kernel
theorem dd_X12_things_22 : decode mb_X12_things 22 = .ok (.ireturn, 1) := by decide +kernel
theorem dd_X12_things_23 : decode mb_X12_things 23 = .ok (.aload_n 0, 1) := by decide +kernel
theorem dd_X12_things_24 : decode mb_X12_things 24 = .ok (.iload_n 1, 1) := by decide +kernel
theorem dd_X12_things_25 : decode mb_X12_things 25 = .ok (.invokevirtual 159, 3) := by decide +kernel
theorem dd_X12_things_28 : decode mb_X12_things 28 = .ok (.istore 4, 2) := by decide +kernel
theorem dd_X12_things_30 : decode mb_X12_things 30 = .ok (.iload 4, 2) := by decide +kernel
theorem dd_X12_things_32 : decode mb_X12_things 32 = .ok (.ifCond .ge 10, 3) := by decide +kernel
theorem dd_X12_things_35 : decode mb_X12_things 35 = .ok (.aload_n 0, 1) := by decide +kernel
theorem dd_X12_things_36 : decode mb_X12_things 36 = .ok (.iload 4, 2) := by decide +kernel
theorem dd_X12_things_38 : decode mb_X12_things 38 = .ok (.invokevirtual 152, 3) := by decide +kernel
theorem dd_X12_things_41 : decode mb_X12_things 41 = .ok (.ireturn, 1) := by decide +kernel
theorem dd_X12_things_42 : decode mb_X12_things 42 = .ok (.iload_n 3, 1) := by decide +kernel
theorem dd_X12_things_43 : decode mb_X12_things 43 = .ok (.ifCond .lt 13, 3) := by decide +kernel
theorem dd_X12_things_46 : decode mb_X12_things 46 = .ok (.iload_n 3, 1) := by decide +kernel
theorem dd_X12_things_47 : decode mb_X12_things 47 = .ok (.aload_n 0, 1) := by decide +kernel
theorem dd_X12_things_48 : decode mb_X12_things 48 = .ok (.getfield 13, 3) := by decide +kernel
theorem dd_X12_things_51 : decode mb_X12_things 51 = .ok (.iload_n 1, 1) := by decide +kernel
theorem dd_X12_things_52 : decode mb_X12_things 52 = .ok (.iaload, 1) := by decide +kernel
theorem dd_X12_things_53 : decode mb_X12_things 53 = .ok (.if_icmp .le 10, 3) := by decide +kernel
theorem dd_X12_things_56 : decode mb_X12_things 56 = .ok (.aload_n 0, 1) := by decide +kernel
theorem dd_X12_things_57 : decode mb_X12_things 57 = .ok (.bipush (-2), 2) := by decide +kernel
theorem dd_X12_things_59 : decode mb_X12_things 59 = .ok (.invokevirtual 152, 3) := by decide +kernel
theorem dd_X12_things_62 : decode mb_X12_things 62 = .ok (.ireturn, 1) := by decide +kernel
theorem dd_X12_things_63 : decode mb_X12_things 63 = .ok (.iconst 0, 1) := by decide +kernel
theorem dd_X12_things_64 : decode mb_X12_things 64 = .ok (.istore 5, 2) := by decide +kernel
theorem dd_X12_things_66 : decode mb_X12_things 66 = .ok (.iload 5, 2) := by decide +kernel
theorem dd_X12_things_68 : decode mb_X12_things 68 = .ok (.iload_n 3, 1) := by decide +kernel
theorem dd_X12_things_69 : decode mb_X12_things 69 = .ok (.if_icmp .ge 61, 3) := by decide +kernel
theorem dd_X12_things_72 : decode mb_X12_things 72 = .ok (.aload_n 0, 1) := by decide +kernel
theorem dd_X12_things_73 : decode mb_X12_things 73 = .ok (.getfield 135, 3) := by decide +kernel
theorem dd_X12_things_76 : decode mb_X12_things 76 = .ok (.bipush 30, 2) := by decide +kernel
theorem dd_X12_things_78 : decode mb_X12_things 78 = .ok (.if_icmp .ge 52, 3) := by decide +kernel
theorem dd_X12_things_81 : decode mb_X12_things 81 = .ok (.aload_n 0, 1) := by decide +kernel
theorem dd_X12_things_82 : decode mb_X12_things 82 = .ok (.getfield 16, 3) := by decide +kernel
theorem dd_X12_things_85 : decode mb_X12_things 85 = .ok (.bipush 40, 2) := by decide +kernel
theorem dd_X12_things_87 : decode mb_X12_things 87 = .ok (.iload_n 1, 1) := by decide +kernel
theorem dd_X12_things_88 : decode mb_X12_things 88 = .ok (.imul, 1) := by decide +kernel
theorem dd_X12_things_89 : decode mb_X12_things 89 = .ok (.iload 5, 2) := by decide +kernel
theorem dd_X12_things_91 : decode mb_X12_things 91 = .ok (.iadd, 1) := by decide +kernel
theorem dd_X12_things_92 : decode mb_X12_things 92 = .ok (.laload, 1) := by decide +kernel
theorem dd_X12_things_93 : decode mb_X12_things 93 = .ok (.lstore 6, 2) := by decide +kernel
theorem dd_X12_things_95 : decode mb_X12_things 95 = .ok (.lload 6, 2) := by decide +kernel
theorem dd_X12_things_97 : decode mb_X12_things 97 = .ok (.lconst 0, 1) := by decide +kernel
theorem dd_X12_things_98 : decode mb_X12_things 98 = .ok (.lcmp, 1) := by decide +kernel
theorem dd_X12_things_99 : decode mb_X12_things 99 = .ok (.ifCond .lt 31, 3) := by decide +kernel
theorem dd_X12_things_102 : decode mb_X12_things 102 = .ok (.lload 6, 2) := by decide +kernel
theorem dd_X12_things_104 : decode mb_X12_things 104 = .ok (.ldc2_w 184, 3) := by decide +kernel
theorem dd_X12_things_107 : decode mb_X12_things 107 = .ok (.lcmp, 1) := by decide +kernel
theorem dd_X12_things_108 : decode mb_X12_things 108 = .ok (.ifCond .le 6, 3) := by decide +kernel
theorem dd_X12_things_111 : decode mb_X12_things 111 = .ok (.goto 19, 3) := by decide +kernel
theorem dd_X12_things_114 : decode mb_X12_things 114 = .ok (.aload_n 0, 1) := by decide +kernel
theorem dd_X12_things_115 : decode mb_X12_things 115 = .ok (.iload_n 2, 1) := by decide +kernel
theorem dd_X12_things_116 : decode mb_X12_things 116 = .ok (.lload 6, 2) := by decide +kernel
theorem dd_X12_things_118 : decode mb_X12_things 118 = .ok (.l2i, 1) := by decide +kernel
theorem dd_X12_things_119 : decode mb_X12_things 119 = .ok (.iconst 0, 1) := by decide +kernel
theorem dd_X12_things_120 : decode mb_X12_things 120 = .ok (.invokevirtual 186, 3) := by decide +kernel
theorem dd_X12_things_123 : decode mb_X12_things 123 = .ok (.pop, 1) := by decide +kernel
theorem dd_X12_things_124 : decode mb_X12_things 124 = .ok (.iinc 5 1, 3) := by decide +kernel
theorem dd_X12_things_127 : decode mb_X12_things 127 = .ok (.goto (-61), 3) := by decide +kernel
theorem dd_X12_things_130 : decode mb_X12_things 130 = .ok (.iload 5, 2) := by decide +kernel
theorem dd_X12_things_132 : decode mb_X12_things 132 = .ok (.ireturn, 1) := by decide +kernel
theorem dd_X12_thinks_0 : decode mb_X12_thinks 0 = .ok (.aload_n 0, 1) := by decide +kernel
theorem dd_X12_thinks_1 : decode mb_X12_thinks 1 = .ok (.iload_n 1, 1) := by decide +kernel
theorem dd_X12_thinks_2 : decode mb_X12_thinks 2 = .ok (.invokevirtual 193, 3) := by decide +kernel
theorem dd_X12_thinks_5 : decode mb_X12_thinks 5 = .ok (.ifCond .eq 11, 3) := by decide +kernel
theorem dd_X12_thinks_8 : decode mb_X12_thinks 8 = .ok (.aload_n 0, 1) := by decide +kernel
theorem dd_X12_thinks_9 : decode mb_X12_thinks 9 = .ok (.iload_n 2, 1) := by decide +kernel
theorem dd_X12_thinks_10 : decode mb_X12_thinks 10 = .ok (.invokevirtual 165, 3) := by decide +kernel
theorem dd_X12_thinks_13 : decode mb_X12_thinks 13 = .ok (.ifCond .ne 10, 3) := by decide +kernel
theorem dd_X12_thinks_16 : decode mb_X12_thinks 16 = .ok (.aload_n 0, 1) := by decide +kernel
theorem dd_X12_thinks_17 : decode mb_X12_thinks 17 = .ok (.bipush (-2), 2) := by decide +kernel
theorem dd_X12_thinks_19 : decode mb_X12_thinks 19 = .ok (.invokevirtual 152, 3) := by decide +kernel
theorem dd_X12_thinks_22 : decode mb_X12_thinks 22 = .ok (.ireturn, 1) := by decide +kernel
theorem dd_X12_thinks_23 : decode mb_X12_thinks 23 = .ok (.iload_n 3, 1) := by decide +kernel
theorem dd_X12_thinks_24 : decode mb_X12_thinks 24 = .ok (.ifCond .eq 12, 3) := by decide +kernel
theorem dd_X12_thinks_27 : decode mb_X12_thinks 27 = .ok (.aload_n 0, 1) := by decide +kernel
theorem dd_X12_thinks_28 : decode mb_X12_thinks 28 = .ok (.iload_n 1, 1) := by decide +kernel
theorem dd_X12_thinks_29 : decode mb_X12_thinks 29 = .ok (.iload_n 2, 1) := by decide +kernel
theorem dd_X12_thinks_30 : decode mb_X12_thinks 30 = .ok (.invokevirtual 245, 3) := by decide +kernel
theorem dd_X12_thinks_33 : decode mb_X12_thinks 33 = .ok (.goto 9, 3) := by decide +kernel
theorem dd_X12_thinks_36 : decode mb_X12_thinks 36 = .ok (.aload_n 0, 1) := by decide +kernel
theorem dd_X12_thinks_37 : decode mb_X12_thinks 37 = .ok (.iload_n 1, 1) := by decide +kernel
theorem dd_X12_thinks_38 : decode mb_X12_thinks 38 = .ok (.iload_n 2, 1) := by decide +kernel
theorem dd_X12_thinks_39 : decode mb_X12_thinks 39 = .ok (.invokevirtual 242, 3) := by decide +kernel
theorem dd_X12_thinks_42 : decode mb_X12_thinks 42 = .ok (.ireturn, 1) := by decide +kernel
theorem dd_X12_trueWorth_0 : decode mb_X12_trueWorth 0 = .ok (.aload_n 0, 1) := by decide +kernel
theorem dd_X12_trueWorth_1 : decode mb_X12_trueWorth 1 = .ok (.getfield 20, 3) := by decide +kernel
theorem dd_X12_trueWorth_4 : decode mb_X12_trueWorth 4 = .ok (.iload_n 1, 1) := by decide +kernel
theorem dd_X12_trueWorth_5 : decode mb_X12_trueWorth 5 = .ok (.iaload, 1) := by decide +kernel
theorem dd_X12_trueWorth_6 : decode mb_X12_trueWorth 6 = .ok (.istore_n 2, 1) := by decide +kernel
theorem dd_X12_trueWorth_7 : decode mb_X12_trueWorth 7 = .ok (.aload_n 0, 1) := by decide +kernel
theorem dd_X12_trueWorth_8 : decode mb_X12_trueWorth 8 = .ok (.getfield 23, 3) := by decide +kernel
theorem dd_X12_trueWorth_11 : decode mb_X12_trueWorth 11 = .ok (.iload_n 1, 1) := by decide +kernel
theorem dd_X12_trueWorth_12 : decode mb_X12_trueWorth 12 = .ok (.iaload, 1) := by decide +kernel
theorem dd_X12_trueWorth_13 : decode mb_X12_trueWorth 13 = .ok (.istore_n 3, 1) := by decide +kernel
theorem dd_X12_trueWorth_14 : decode mb_X12_trueWorth 14 = .ok (.iload_n 2, 1) := by decide +kernel
theorem dd_X12_trueWorth_15 : decode mb_X12_trueWorth 15 = .ok (.ifCond .eq 8, 3) := by decide +kernel
theorem dd_X12_trueWorth_18 : decode mb_X12_trueWorth 18 = .ok (.iload_n 2, 1) := by decide +kernel
theorem dd_X12_trueWorth_19 : decode mb_X12_trueWorth 19 = .ok (.iconst 5, 1) := by decide +kernel
theorem dd_X12_trueWorth_20 : decode mb_X12_trueWorth 20 = .ok (.if_icmp .ne 5, 3) := by decide +kernel
theorem dd_X12_trueWorth_23 : decode mb_X12_trueWorth 23 = .ok (.iload_n 3, 1) := by decide +kernel
theorem dd_X12_trueWorth_24 : decode mb_X12_trueWorth 24 = .ok (.ireturn, 1) := by decide +kernel
theorem dd_X12_trueWorth_25 : decode mb_X12_trueWorth 25 = .ok (.iload_n 2, 1) := by decide +kernel
theorem dd_X12_trueWorth_26 : decode mb_X12_trueWorth 26 = .ok (.iconst 4, 1) := by decide +kernel
theorem dd_X12_trueWorth_27 : decode mb_X12_trueWorth 27 = .ok (.if_icmp .ne 18, 3) := by decide +kernel
theorem dd_X12_trueWorth_30 : decode mb_X12_trueWorth 30 = .ok (.iload_n 3, 1) := by decide +kernel
theorem dd_X12_trueWorth_31 : decode mb_X12_trueWorth 31 = .ok (.sipush 200, 3) := by decide +kernel
theorem dd_X12_trueWorth_34 : decode mb_X12_trueWorth 34 = .ok (.if_icmp .le 9, 3) := by decide +kernel
theorem dd_X12_trueWorth_37 : decode mb_X12_trueWorth 37 = .ok (.sipush 200, 3) := by decide +kernel
theorem dd_X12_trueWorth_40 : decode mb_X12_trueWorth 40 = .ok (.goto 4, 3) := by decide +kernel
theorem dd_X12_trueWorth_43 : decode mb_X12_trueWorth 43 = .ok (.iload_n 3, 1) := by decide +kernel
theorem dd_X12_trueWorth_44 : decode mb_X12_trueWorth 44 = .ok (.ireturn, 1) := by decide +kernel
theorem dd_X12_trueWorth_45 : decode mb_X12_trueWorth 45 = .ok (.iload_n 3, 1) := by decide +kernel
theorem dd_X12_trueWorth_46 : decode mb_X12_trueWorth 46 = .ok (.aload_n 0, 1) := by decide +kernel
theorem dd_X12_trueWorth_47 : decode mb_X12_trueWorth 47 = .ok (.iload_n 1, 1) := by decide +kernel
theorem dd_X12_trueWorth_48 : decode mb_X12_trueWorth 48 = .ok (.invokevirtual 178, 3) := by decide +kernel
theorem dd_X12_trueWorth_51 : decode mb_X12_trueWorth 51 = .ok (.iload_n 3, 1) := by decide +kernel
theorem dd_X12_trueWorth_52 : decode mb_X12_trueWorth 52 = .ok (.bipush 10, 2) := by decide +kernel
theorem dd_X12_trueWorth_54 : decode mb_X12_trueWorth 54 = .ok (.idiv, 1) := by decide +kernel
theorem dd_X12_trueWorth_55 : decode mb_X12_trueWorth 55 = .ok (.imul, 1) := by decide +kernel
theorem dd_X12_trueWorth_56 : decode mb_X12_trueWorth 56 = .ok (.isub, 1) := by decide +kernel
theorem dd_X12_trueWorth_57 : decode mb_X12_trueWorth 57 = .ok (.istore 4, 2) := by decide +kernel
theorem dd_X12_trueWorth_59 : decode mb_X12_trueWorth 59 = .ok (.iload 4, 2) := by decide +kernel
theorem dd_X12_trueWorth_61 : decode mb_X12_trueWorth 61 = .ok (.ifCond .ge 6, 3) := by decide +kernel
theorem dd_X12_trueWorth_64 : decode mb_X12_trueWorth 64 = .ok (.iconst 0, 1) := by decide +kernel
theorem dd_X12_trueWorth_65 : decode mb_X12_trueWorth 65 = .ok (.istore 4, 2) := by decide +kernel
theorem dd_X12_trueWorth_67 : decode mb_X12_trueWorth 67 = .ok (.iload_n 2, 1) := by decide +kernel
theorem dd_X12_trueWorth_68 : decode mb_X12_trueWorth 68 = .ok (.iconst 1, 1) := by decide +kernel
theorem dd_X12_trueWorth_69 : decode mb_X12_trueWorth 69 = .ok (.if_icmp .ne 6, 3) := by decide +kernel
theorem dd_X12_trueWorth_72 : decode mb_X12_trueWorth 72 = .ok (.iload 4, 2) := by decide +kernel
theorem dd_X12_trueWorth_74 : decode mb_X12_trueWorth 74 = .ok (.ireturn, 1) := by decide +kernel
theorem dd_X12_trueWorth_75 : decode mb_X12_trueWorth 75 = .ok (.aload_n 0, 1) := by decide +kernel
theorem dd_X12_trueWorth_76 : decode mb_X12_trueWorth 76 = .ok (.aload_n 0, 1) := by decide +kernel
theorem dd_X12_trueWorth_77 : decode mb_X12_trueWorth 77 = .ok (.getfield 26, 3) := by decide +kernel
theorem dd_X12_trueWorth_80 : decode mb_X12_trueWorth 80 = .ok (.iload_n 1, 1) := by decide +kernel
theorem dd_X12_trueWorth_81 : decode mb_X12_trueWorth 81 = .ok (.iaload, 1) := by decide +kernel
theorem dd_X12_trueWorth_82 : decode mb_X12_trueWorth 82 = .ok (.iconst 0, 1) := by decide +kernel
theorem dd_X12_trueWorth_83 : decode mb_X12_trueWorth 83 = .ok (.invokevirtual 181, 3) := by decide +kernel
theorem dd_X12_trueWorth_86 : decode mb_X12_trueWorth 86 = .ok (.ifCond .eq 9, 3) := by decide +kernel
theorem dd_X12_trueWorth_89 : decode mb_X12_trueWorth 89 = .ok (.iload 4, 2) := by decide +kernel
theorem dd_X12_trueWorth_91 : decode mb_X12_trueWorth 91 = .ok (.iconst 2, 1) := by decide +kernel
theorem dd_X12_trueWorth_92 : decode mb_X12_trueWorth 92 = .ok (.idiv, 1) := by decide +kernel
theorem dd_X12_trueWorth_93 : decode mb_X12_trueWorth 93 = .ok (.istore 4, 2) := by decide +kernel
theorem dd_X12_trueWorth_95 : decode mb_X12_trueWorth 95 = .ok (.iload_n 2, 1) := by decide +kernel
theorem dd_X12_trueWorth_96 : decode mb_X12_trueWorth 96 = .ok (.iconst 3, 1) := by decide +kernel
theorem dd_X12_trueWorth_97 : decode mb_X12_trueWorth 97 = .ok (.if_icmp .ne 21, 3) := by decide +kernel
theorem dd_X12_trueWorth_100 : decode mb_X12_trueWorth 100 = .ok (.aload_n 0, 1) := by decide +kernel
theorem dd_X12_trueWorth_101 : decode mb_X12_trueWorth 101 = .ok (.aload_n 0, 1) := by decide +kernel
theorem dd_X12_trueWorth_102 : decode mb_X12_trueWorth 102 = .ok (.getfield 26, 3) := by decide +kernel
theorem dd_X12_trueWorth_105 : decode mb_X12_trueWorth 105 = .ok (.iload_n 1, 1) := by decide +kernel
theorem dd_X12_trueWorth_106 : decode mb_X12_trueWorth 106 = .ok (.iaload, 1) := by decide +kernel
theorem dd_X12_trueWorth_107 : decode mb_X12_trueWorth 107 = .ok (.bipush 7, 2) := by decide +kernel
theorem dd_X12_trueWorth_109 : decode mb_X12_trueWorth 109 = .ok (.invokevirtual 181, 3) := by decide +kernel
theorem dd_X12_trueWorth_112 : decode mb_X12_trueWorth 112 = .ok (.ifCond .ne 6, 3) := by decide +kernel
theorem dd_X12_trueWorth_115 : decode mb_X12_trueWorth 115 = .ok (.iinc 4 50, 3) := by decide +kernel
theorem dd_X12_trueWorth_118 : decode mb_X12_trueWorth 118 = .ok (.iload 4, 2) := by decide +kernel
theorem dd_X12_trueWorth_120 : decode mb_X12_trueWorth 120 = .ok (.ireturn, 1) := by decide +kernel
theorem dd_X12_turn_0 : decode mb_X12_turn 0 = .ok (.iload_n 1, 1) := by decide +kernel
theorem dd_X12_turn_1 : decode mb_X12_turn 1 = .ok (.ifCond .lt 18, 3) := by decide +kernel
theorem dd_X12_turn_4 : decode mb_X12_turn 4 = .ok (.iload_n 1, 1) := by decide +kernel
theorem dd_X12_turn_5 : decode mb_X12_turn 5 = .ok (.iconst 1, 1) := by decide +kernel
theorem dd_X12_turn_6 : decode mb_X12_turn 6 = .ok (.if_icmp .gt 13, 3) := by decide +kernel
theorem dd_X12_turn_9 : decode mb_X12_turn 9 = .ok (.iload_n 2, 1) := by decide +kernel
theorem dd_X12_turn_10 : decode mb_X12_turn 10 = .ok (.ifCond .lt 9, 3) := by decide +kernel
theorem dd_X12_turn_13 : decode mb_X12_turn 13 = .ok (.iload_n 2, 1) := by decide +kernel
theorem dd_X12_turn_14 : decode mb_X12_turn 14 = .ok (.bipush 12, 2) := by decide +kernel
theorem dd_X12_turn_16 : decode mb_X12_turn 16 = .ok (.if_icmp .le 10, 3) := by decide +kernel
theorem dd_X12_turn_19 : decode mb_X12_turn 19 = .ok (.aload_n 0, 1) := by decide +kernel
theorem dd_X12_turn_20 : decode mb_X12_turn 20 = .ok (.bipush (-2), 2) := by decide +kernel
theorem dd_X12_turn_22 : decode mb_X12_turn 22 = .ok (.invokevirtual 152, 3) := by decide +kernel
theorem dd_X12_turn_25 : decode mb_X12_turn 25 = .ok (.ireturn, 1) := by decide +kernel
theorem dd_X12_turn_26 : decode mb_X12_turn 26 = .ok (.aload_n 0, 1) := by decide +kernel
theorem dd_X12_turn_27 : decode mb_X12_turn 27 = .ok (.getfield 92, 3) := by decide +kernel
theorem dd_X12_turn_30 : decode mb_X12_turn 30 = .ok (.iload_n 1, 1) := by decide +kernel
theorem dd_X12_turn_31 : decode mb_X12_turn 31 = .ok (.iaload, 1) := by decide +kernel
theorem dd_X12_turn_32 : decode mb_X12_turn 32 = .ok (.istore_n 3, 1) := by decide +kernel
theorem dd_X12_turn_33 : decode mb_X12_turn 33 = .ok (.aload_n 0, 1) := by decide +kernel
theorem dd_X12_turn_34 : decode mb_X12_turn 34 = .ok (.getfield 92, 3) := by decide +kernel
theorem dd_X12_turn_37 : decode mb_X12_turn 37 = .ok (.iload_n 1, 1) := by decide +kernel
theorem dd_X12_turn_38 : decode mb_X12_turn 38 = .ok (.iload_n 2, 1) := by decide +kernel
theorem dd_X12_turn_39 : decode mb_X12_turn 39 = .ok (.iastore, 1) := by decide +kernel
theorem dd_X12_turn_40 : decode mb_X12_turn 40 = .ok (.iload_n 3, 1) := by decide +kernel
theorem dd_X12_turn_41 : decode mb_X12_turn 41 = .ok (.ireturn, 1) := by decide +kernel
theorem dd_X12_vases_0 : decode mb_X12_vases 0 = .ok (.iconst 0, 1) := by decide +kernel
theorem dd_X12_vases_1 : decode mb_X12_vases 1 = .ok (.istore_n 1, 1) := by decide +kernel
theorem dd_X12_vases_2 : decode mb_X12_vases 2 = .ok (.iload_n 1, 1) := by decide +kernel
theorem dd_X12_vases_3 : decode mb_X12_vases 3 = .ok (.aload_n 0, 1) := by decide +kernel
theorem dd_X12_vases_4 : decode mb_X12_vases 4 = .ok (.getfield 279, 3) := by decide +kernel
theorem dd_X12_vases_7 : decode mb_X12_vases 7 = .ok (.if_icmp .ge 23, 3) := by decide +kernel
theorem dd_X12_vases_10 : decode mb_X12_vases 10 = .ok (.aload_n 0, 1) := by decide +kernel
theorem dd_X12_vases_11 : decode mb_X12_vases 11 = .ok (.getfield 114, 3) := by decide +kernel
theorem dd_X12_vases_14 : decode mb_X12_vases 14 = .ok (.iload_n 1, 1) := by decide +kernel
theorem dd_X12_vases_15 : decode mb_X12_vases 15 = .ok (.iconst (-1), 1) := by decide +kernel
theorem dd_X12_vases_16 : decode mb_X12_vases 16 = .ok (.iastore, 1) := by decide +kernel
theorem dd_X12_vases_17 : decode mb_X12_vases 17 = .ok (.aload_n 0, 1) := by decide +kernel
theorem dd_X12_vases_18 : decode mb_X12_vases 18 = .ok (.getfield 117, 3) := by decide +kernel
theorem dd_X12_vases_21 : decode mb_X12_vases 21 = .ok (.iload_n 1, 1) := by decide +kernel
theorem dd_X12_vases_22 : decode mb_X12_vases 22 = .ok (.iconst (-1), 1) := by decide +kernel
theorem dd_X12_vases_23 : decode mb_X12_vases 23 = .ok (.iastore, 1) := by decide +kernel
theorem dd_X12_vases_24 : decode mb_X12_vases 24 = .ok (.iinc 1 1, 3) := by decide +kernel
theorem dd_X12_vases_27 : decode mb_X12_vases 27 = .ok (.goto (-25), 3) := by decide +kernel
theorem dd_X12_vases_30 : decode mb_X12_vases 30 = .ok (.aload_n 0, 1) := by decide +kernel
theorem dd_X12_vases_31 : decode mb_X12_vases 31 = .ok (.getfield 279, 3) := by decide +kernel
theorem dd_X12_vases_34 : decode mb_X12_vases 34 = .ok (.istore_n 1, 1) := by decide +kernel
theorem dd_X12_vases_35 : decode mb_X12_vases 35 = .ok (.iconst 0, 1) := by decide +kernel
theorem dd_X12_vases_36 : decode mb_X12_vases 36 = .ok (.istore_n 2, 1) := by decide +kernel
theorem dd_X12_vases_37 : decode mb_X12_vases 37 = .ok (.iload_n 2, 1) := by decide +kernel
theorem dd_X12_vases_38 : decode mb_X12_vases 38 = .ok (.aload_n 0, 1) := by decide +kernel
theorem dd_X12_vases_39 : decode mb_X12_vases 39 = .ok (.getfield 279, 3) := by decide +kernel
theorem dd_X12_vases_42 : decode mb_X12_vases 42 = .ok (.if_icmp .ge 20, 3) := by decide +kernel
theorem dd_X12_vases_45 : decode mb_X12_vases 45 = .ok (.aload_n 0, 1) := by decide +kernel
theorem dd_X12_vases_46 : decode mb_X12_vases 46 = .ok (.iload_n 2, 1) := by decide +kernel
theorem dd_X12_vases_47 : decode mb_X12_vases 47 = .ok (.invokevirtual 285, 3) := by decide +kernel
theorem dd_X12_vases_50 : decode mb_X12_vases 50 = .ok (.ifCond .eq 6, 3) := by decide +kernel
theorem dd_X12_vases_53 : decode mb_X12_vases 53 = .ok (.iinc 1 (-1), 3) := by decide +kernel
theorem dd_X12_vases_56 : decode mb_X12_vases 56 = .ok (.iinc 2 1, 3) := by decide +kernel
theorem dd_X12_vases_59 : decode mb_X12_vases 59 = .ok (.goto (-22), 3) := by decide +kernel
theorem dd_X12_vases_62 : decode mb_X12_vases 62 = .ok (.iload_n 1, 1) := by decide +kernel
theorem dd_X12_vases_63 : decode mb_X12_vases 63 = .ok (.ireturn, 1) := by decide +kernel
theorem dd_X12_who_0 : decode mb_X12_who 0 = .ok (.iload_n 1, 1) := by decide +kernel
theorem dd_X12_who_1 : decode mb_X12_who 1 = .ok (.iconst (-1), 1) := by decide +kernel
theorem dd_X12_who_2 : decode mb_X12_who 2 = .ok (.if_icmp .lt 11, 3) := by decide +kernel
theorem dd_X12_who_5 : decode mb_X12_who 5 = .ok (.iload_n 1, 1) := by decide +kernel
theorem dd_X12_who_6 : decode mb_X12_who 6 = .ok (.aload_n 0, 1) := by decide +kernel
theorem dd_X12_who_7 : decode mb_X12_who 7 = .ok (.getfield 273, 3) := by decide +kernel
theorem dd_X12_who_10 : decode mb_X12_who 10 = .ok (.if_icmp .lt 10, 3) := by decide +kernel
theorem dd_X12_who_13 : decode mb_X12_who 13 = .ok (.aload_n 0, 1) := by decide +kernel
theorem dd_X12_who_14 : decode mb_X12_who 14 = .ok (.bipush (-2), 2) := by decide +kernel
theorem dd_X12_who_16 : decode mb_X12_who 16 = .ok (.invokevirtual 152, 3) := by decide +kernel
theorem dd_X12_who_19 : decode mb_X12_who 19 = .ok (.ireturn, 1) := by decide +kernel
theorem dd_X12_who_20 : decode mb_X12_who 20 = .ok (.aload_n 0, 1) := by decide +kernel
theorem dd_X12_who_21 : decode mb_X12_who 21 = .ok (.getfield 273, 3) := by decide +kernel
theorem dd_X12_who_24 : decode mb_X12_who 24 = .ok (.aload_n 0, 1) := by decide +kernel
theorem dd_X12_who_25 : decode mb_X12_who 25 = .ok (.getfield 139, 3) := by decide +kernel
theorem dd_X12_who_28 : decode mb_X12_who 28 = .ok (.if_icmp .le 10, 3) := by decide +kernel
theorem dd_X12_who_31 : decode mb_X12_who 31 = .ok (.aload_n 0, 1) := by decide +kernel
theorem dd_X12_who_32 : decode mb_X12_who 32 = .ok (.bipush (-5), 2) := by decide +kernel
theorem dd_X12_who_34 : decode mb_X12_who 34 = .ok (.invokevirtual 152, 3) := by decide +kernel
theorem dd_X12_who_37 : decode mb_X12_who 37 = .ok (.ireturn, 1) := by decide +kernel
theorem dd_X12_who_38 : decode mb_X12_who 38 = .ok (.iconst 0, 1) := by decide +kernel
theorem dd_X12_who_39 : decode mb_X12_who 39 = .ok (.istore_n 2, 1) := by decide +kernel
theorem dd_X12_who_40 : decode mb_X12_who 40 = .ok (.iload_n 2, 1) := by decide +kernel
theorem dd_X12_who_41 : decode mb_X12_who 41 = .ok (.aload_n 0, 1) := by decide +kernel
theorem dd_X12_who_42 : decode mb_X12_who 42 = .ok (.getfield 273, 3) := by decide +kernel
theorem dd_X12_who_45 : decode mb_X12_who 45 = .ok (.if_icmp .ge 46, 3) := by decide +kernel
theorem dd_X12_who_48 : decode mb_X12_who 48 = .ok (.iconst 0, 1) := by decide +kernel
theorem dd_X12_who_49 : decode mb_X12_who 49 = .ok (.istore_n 3, 1) := by decide +kernel
theorem dd_X12_who_50 : decode mb_X12_who 50 = .ok (.iload_n 3, 1) := by decide +kernel
theorem dd_X12_who_51 : decode mb_X12_who 51 = .ok (.aload_n 0, 1) := by decide +kernel
theorem dd_X12_who_52 : decode mb_X12_who 52 = .ok (.getfield 139, 3) := by decide +kernel
theorem dd_X12_who_55 : decode mb_X12_who 55 = .ok (.if_icmp .ge 30, 3) := by decide +kernel
theorem dd_X12_who_58 : decode mb_X12_who 58 = .ok (.aload_n 0, 1) := by decide +kernel
theorem dd_X12_who_59 : decode mb_X12_who 59 = .ok (.getfield 132, 3) := by decide +kernel
theorem dd_X12_who_62 : decode mb_X12_who 62 = .ok (.iconst 5, 1) := by decide +kernel
theorem dd_X12_who_63 : decode mb_X12_who 63 = .ok (.iload_n 2, 1) := by decide +kernel
theorem dd_X12_who_64 : decode mb_X12_who 64 = .ok (.imul, 1) := by decide +kernel
theorem dd_X12_who_65 : decode mb_X12_who 65 = .ok (.iload_n 3, 1) := by decide +kernel
theorem dd_X12_who_66 : decode mb_X12_who 66 = .ok (.iadd, 1) := by decide +kernel
theorem dd_X12_who_67 : decode mb_X12_who 67 = .ok (.aload_n 0, 1) := by decide +kernel
theorem dd_X12_who_68 : decode mb_X12_who 68 = .ok (.iload_n 3, 1) := by decide +kernel
theorem dd_X12_who_69 : decode mb_X12_who 69 = .ok (.aload_n 0, 1) := by decide +kernel
theorem dd_X12_who_70 : decode mb_X12_who 70 = .ok (.getfield 68, 3) := by decide +kernel
theorem dd_X12_who_73 : decode mb_X12_who 73 = .ok (.iload_n 2, 1) := by decide +kernel
theorem dd_X12_who_74 : decode mb_X12_who 74 = .ok (.iaload, 1) := by decide +kernel
theorem dd_X12_who_75 : decode mb_X12_who 75 = .ok (.invokevirtual 267, 3) := by decide +kernel
theorem dd_X12_who_78 : decode mb_X12_who 78 = .ok (.iastore, 1) := by decide +kernel
theorem dd_X12_who_79 : decode mb_X12_who 79 = .ok (.iinc 3 1, 3) := by decide +kernel
theorem dd_X12_who_82 : decode mb_X12_who 82 = .ok (.goto (-32), 3) := by decide +kernel
theorem dd_X12_who_85 : decode mb_X12_who 85 = .ok (.iinc 2 1, 3) := by decide +kernel
theorem dd_X12_who_88 : decode mb_X12_who 88 = .ok (.goto (-48), 3) := by decide +kernel
theorem dd_X12_who_91 : decode mb_X12_who 91 = .ok (.iconst 1, 1) := by decide +kernel
theorem dd_X12_who_92 : decode mb_X12_who 92 = .ok (.istore_n 2, 1) := by decide +kernel
theorem dd_X12_who_93 : decode mb_X12_who 93 = .ok (.iconst 0, 1) := by decide +kernel
theorem dd_X12_who_94 : decode mb_X12_who 94 = .ok (.istore_n 3, 1) := by decide +kernel
theorem dd_X12_who_95 : decode mb_X12_who 95 = .ok (.iload_n 3, 1) := by decide +kernel
theorem dd_X12_who_96 : decode mb_X12_who 96 = .ok (.aload_n 0, 1) := by decide +kernel
theorem dd_X12_who_97 : decode mb_X12_who 97 = .ok (.getfield 273, 3) := by decide +kernel
theorem dd_X12_who_100 : decode mb_X12_who 100 = .ok (.if_icmp .ge 16, 3) := by decide +kernel
theorem dd_X12_who_103 : decode mb_X12_who 103 = .ok (.iload_n 2, 1) := by decide +kernel
theorem dd_X12_who_104 : decode mb_X12_who 104 = .ok (.aload_n 0, 1) := by decide +kernel
theorem dd_X12_who_105 : decode mb_X12_who 105 = .ok (.getfield 139, 3) := by decide +kernel
theorem dd_X12_who_108 : decode mb_X12_who 108 = .ok (.imul, 1) := by decide +kernel
theorem dd_X12_who_109 : decode mb_X12_who 109 = .ok (.istore_n 2, 1) := by decide +kernel
theorem dd_X12_who_110 : decode mb_X12_who 110 = .ok (.iinc 3 1, 3) := by decide +kernel
theorem dd_X12_who_113 : decode mb_X12_who 113 = .ok (.goto (-18), 3) := by decide +kernel
theorem dd_X12_who_116 : decode mb_X12_who 116 = .ok (.iconst (-1), 1) := by decide +kernel
theorem dd_X12_who_117 : decode mb_X12_who 117 = .ok (.istore_n 3, 1) := by decide +kernel
theorem dd_X12_who_118 : decode mb_X12_who 118 = .ok (.iconst (-1), 1) := by decide +kernel
theorem dd_X12_who_119 : decode mb_X12_who 119 = .ok (.istore 4, 2) := by decide +kernel
theorem dd_X12_who_121 : decode mb_X12_who 121 = .ok (.iconst 0, 1) := by decide +kernel
theorem dd_X12_who_122 : decode mb_X12_who 122 = .ok (.istore 5, 2) := by decide +kernel
theorem dd_X12_who_124 : decode mb_X12_who 124 = .ok (.iload 5, 2) := by decide +kernel
theorem dd_X12_who_126 : decode mb_X12_who 126 = .ok (.iload_n 2, 1) := by decide +kernel
theorem dd_X12_who_127 : decode mb_X12_who 127 = .ok (.if_icmp .ge 134, 3) := by decide +kernel
theorem dd_X12_who_130 : decode mb_X12_who 130 = .ok (.iload 5, 2) := by decide +kernel
theorem dd_X12_who_132 : decode mb_X12_who 132 = .ok (.istore 6, 2) := by decide +kernel
theorem dd_X12_who_134 : decode mb_X12_who 134 = .ok (.iconst 0, 1) := by decide +kernel
theorem dd_X12_who_135 : decode mb_X12_who 135 = .ok (.istore 7, 2) := by decide +kernel
theorem dd_X12_who_137 : decode mb_X12_who 137 = .ok (.iconst 0, 1) := by decide +kernel
theorem dd_X12_who_138 : decode mb_X12_who 138 = .ok (.istore 8, 2) := by decide +kernel
theorem dd_X12_who_140 : decode mb_X12_who 140 = .ok (.iconst (-1), 1) := by decide +kernel
theorem dd_X12_who_141 : decode mb_X12_who 141 = .ok (.istore 9, 2) := by decide +kernel
theorem dd_X12_who_143 : decode mb_X12_who 143 = .ok (.iconst 1, 1) := by decide +kernel
theorem dd_X12_who_144 : decode mb_X12_who 144 = .ok (.istore 10, 2) := by decide +kernel
theorem dd_X12_who_146 : decode mb_X12_who 146 = .ok (.aload_n 0, 1) := by decide +kernel
theorem dd_X12_who_147 : decode mb_X12_who 147 = .ok (.getfield 273, 3) := by decide +kernel
theorem dd_X12_who_150 : decode mb_X12_who 150 = .ok (.iconst 1, 1) := by decide +kernel
theorem dd_X12_who_151 : decode mb_X12_who 151 = .ok (.isub, 1) := by decide +kernel
theorem dd_X12_who_152 : decode mb_X12_who 152 = .ok (.istore 11, 2) := by decide +kernel
theorem dd_X12_who_154 : decode mb_X12_who 154 = .ok (.iload 11, 2) := by decide +kernel
theorem dd_X12_who_156 : decode mb_X12_who 156 = .ok (.ifCond .lt 77, 3) := by decide +kernel
theorem dd_X12_who_159 : decode mb_X12_who 159 = .ok (.iload 6, 2) := by decide +kernel
theorem dd_X12_who_161 : decode mb_X12_who 161 = .ok (.aload_n 0, 1) := by decide +kernel
theorem dd_X12_who_162 : decode mb_X12_who 162 = .ok (.getfield 139, 3) := by decide +kernel
theorem dd_X12_who_165 : decode mb_X12_who 165 = .ok (.irem, 1) := by decide +kernel
theorem dd_X12_who_166 : decode mb_X12_who 166 = .ok (.istore 12, 2) := by decide +kernel
theorem dd_X12_who_168 : decode mb_X12_who 168 = .ok (.iload 6, 2) := by decide +kernel
theorem dd_X12_who_170 : decode mb_X12_who 170 = .ok (.aload_n 0, 1) := by decide +kernel
theorem dd_X12_who_171 : decode mb_X12_who 171 = .ok (.getfield 139, 3) := by decide +kernel
theorem dd_X12_who_174 : decode mb_X12_who 174 = .ok (.idiv, 1) := by decide +kernel
theorem dd_X12_who_175 : decode mb_X12_who 175 = .ok (.istore 6, 2) := by decide +kernel
theorem dd_X12_who_177 : decode mb_X12_who 177 = .ok (.aload_n 0, 1) := by decide +kernel
theorem dd_X12_who_178 : decode mb_X12_who 178 = .ok (.iload 7, 2) := by decide +kernel
theorem dd_X12_who_180 : decode mb_X12_who 180 = .ok (.iload 12, 2) := by decide +kernel
theorem dd_X12_who_182 : decode mb_X12_who 182 = .ok (.invokevirtual 181, 3) := by decide +kernel
theorem dd_X12_who_185 : decode mb_X12_who 185 = .ok (.ifCond .eq 6, 3) := by decide +kernel
theorem dd_X12_who_188 : decode mb_X12_who 188 = .ok (.iconst 0, 1) := by decide +kernel
theorem dd_X12_who_189 : decode mb_X12_who 189 = .ok (.istore 10, 2) := by decide +kernel
theorem dd_X12_who_191 : decode mb_X12_who 191 = .ok (.iload 7, 2) := by decide +kernel
theorem dd_X12_who_193 : decode mb_X12_who 193 = .ok (.iconst 1, 1) := by decide +kernel
theorem dd_X12_who_194 : decode mb_X12_who 194 = .ok (.iload 12, 2) := by decide +kernel
theorem dd_X12_who_196 : decode mb_X12_who 196 = .ok (.ishl, 1) := by decide +kernel
theorem dd_X12_who_197 : decode mb_X12_who 197 = .ok (.ior, 1) := by decide +kernel
theorem dd_X12_who_198 : decode mb_X12_who 198 = .ok (.istore 7, 2) := by decide +kernel
theorem dd_X12_who_200 : decode mb_X12_who 200 = .ok (.iload 8, 2) := by decide +kernel
theorem dd_X12_who_202 : decode mb_X12_who 202 = .ok (.aload_n 0, 1) := by decide +kernel
theorem dd_X12_who_203 : decode mb_X12_who 203 = .ok (.getfield 132, 3) := by decide +kernel
theorem dd_X12_who_206 : decode mb_X12_who 206 = .ok (.iconst 5, 1) := by decide +kernel
theorem dd_X12_who_207 : decode mb_X12_who 207 = .ok (.iload 11, 2) := by decide +kernel
theorem dd_X12_who_209 : decode mb_X12_who 209 = .ok (.imul, 1) := by decide +kernel
theorem dd_X12_who_210 : decode mb_X12_who 210 = .ok (.iload 12, 2) := by decide +kernel
theorem dd_X12_who_212 : decode mb_X12_who 212 = .ok (.iadd, 1) := by decide +kernel
theorem dd_X12_who_213 : decode mb_X12_who 213 = .ok (.iaload, 1) := by decide +kernel
theorem dd_X12_who_214 : decode mb_X12_who 214 = .ok (.iadd, 1) := by decide +kernel
theorem dd_X12_who_215 : decode mb_X12_who 215 = .ok (.istore 8, 2) := by decide +kernel
theorem dd_X12_who_217 : decode mb_X12_who 217 = .ok (.iload 11, 2) := by decide +kernel
theorem dd_X12_who_219 : decode mb_X12_who 219 = .ok (.iload_n 1, 1) := by decide +kernel
theorem dd_X12_who_220 : decode mb_X12_who 220 = .ok (.if_icmp .ne 7, 3) := by decide +kernel
theorem dd_X12_who_223 : decode mb_X12_who 223 = .ok (.iload 12, 2) := by decide +kernel
theorem dd_X12_who_225 : decode mb_X12_who 225 = .ok (.istore 9, 2) := by decide +kernel
theorem dd_X12_who_227 : decode mb_X12_who 227 = .ok (.iinc 11 (-1), 3) := by decide +kernel
theorem dd_X12_who_230 : decode mb_X12_who 230 = .ok (.goto (-76), 3) := by decide +kernel
theorem dd_X12_who_233 : decode mb_X12_who 233 = .ok (.iload 10, 2) := by decide +kernel
theorem dd_X12_who_235 : decode mb_X12_who 235 = .ok (.ifCond .eq 20, 3) := by decide +kernel
theorem dd_X12_who_238 : decode mb_X12_who 238 = .ok (.iload_n 3, 1) := by decide +kernel
theorem dd_X12_who_239 : decode mb_X12_who 239 = .ok (.ifCond .lt 9, 3) := by decide +kernel
theorem dd_X12_who_242 : decode mb_X12_who 242 = .ok (.iload 8, 2) := by decide +kernel
theorem dd_X12_who_244 : decode mb_X12_who 244 = .ok (.iload_n 3, 1) := by decide +kernel
theorem dd_X12_who_245 : decode mb_X12_who 245 = .ok (.if_icmp .ge 10, 3) := by decide +kernel
theorem dd_X12_who_248 : decode mb_X12_who 248 = .ok (.iload 8, 2) := by decide +kernel
theorem dd_X12_who_250 : decode mb_X12_who 250 = .ok (.istore_n 3, 1) := by decide +kernel
theorem dd_X12_who_251 : decode mb_X12_who 251 = .ok (.iload 9, 2) := by decide +kernel
theorem dd_X12_who_253 : decode mb_X12_who 253 = .ok (.istore 4, 2) := by decide +kernel
theorem dd_X12_who_255 : decode mb_X12_who 255 = .ok (.iinc 5 1, 3) := by decide +kernel
theorem dd_X12_who_258 : decode mb_X12_who 258 = .ok (.goto (-134), 3) := by decide +kernel
theorem dd_X12_who_261 : decode mb_X12_who 261 = .ok (.iload_n 1, 1) := by decide +kernel
theorem dd_X12_who_262 : decode mb_X12_who 262 = .ok (.ifCond .ge 7, 3) := by decide +kernel
theorem dd_X12_who_265 : decode mb_X12_who 265 = .ok (.iload_n 3, 1) := by decide +kernel
theorem dd_X12_who_266 : decode mb_X12_who 266 = .ok (.goto 5, 3) := by decide +kernel
theorem dd_X12_who_269 : decode mb_X12_who 269 = .ok (.iload 4, 2) := by decide +kernel
theorem dd_X12_who_271 : decode mb_X12_who 271 = .ok (.ireturn, 1) := by decide +kernel
theorem dd_X12_wholeDay_0 : decode mb_X12_wholeDay 0 = .ok (.aload_n 0, 1) := by decide +kernel
theorem dd_X12_wholeDay_1 : decode mb_X12_wholeDay 1 = .ok (.invokevirtual 258, 3) := by decide +kernel
theorem dd_X12_wholeDay_4 : decode mb_X12_wholeDay 4 = .ok (.iconst 0, 1) := by decide +kernel
theorem dd_X12_wholeDay_5 : decode mb_X12_wholeDay 5 = .ok (.istore_n 3, 1) := by decide +kernel
theorem dd_X12_wholeDay_6 : decode mb_X12_wholeDay 6 = .ok (.iconst 0, 1) := by decide +kernel
theorem dd_X12_wholeDay_7 : decode mb_X12_wholeDay 7 = .ok (.istore 4, 2) := by decide +kernel
theorem dd_X12_wholeDay_9 : decode mb_X12_wholeDay 9 = .ok (.iload 4, 2) := by decide +kernel
theorem dd_X12_wholeDay_11 : decode mb_X12_wholeDay 11 = .ok (.bipush 12, 2) := by decide +kernel
theorem dd_X12_wholeDay_13 : decode mb_X12_wholeDay 13 = .ok (.if_icmp .ge 84, 3) := by decide +kernel
theorem dd_X12_wholeDay_16 : decode mb_X12_wholeDay 16 = .ok (.iconst 0, 1) := by decide +kernel
theorem dd_X12_wholeDay_17 : decode mb_X12_wholeDay 17 = .ok (.istore 5, 2) := by decide +kernel
theorem dd_X12_wholeDay_19 : decode mb_X12_wholeDay 19 = .ok (.iload 5, 2) := by decide +kernel
theorem dd_X12_wholeDay_21 : decode mb_X12_wholeDay 21 = .ok (.aload_n 0, 1) := by decide +kernel
theorem dd_X12_wholeDay_22 : decode mb_X12_wholeDay 22 = .ok (.getfield 145, 3) := by decide +kernel
theorem dd_X12_wholeDay_25 : decode mb_X12_wholeDay 25 = .ok (.if_icmp .ge 66, 3) := by decide +kernel
theorem dd_X12_wholeDay_28 : decode mb_X12_wholeDay 28 = .ok (.aload_n 0, 1) := by decide +kernel
theorem dd_X12_wholeDay_29 : decode mb_X12_wholeDay 29 = .ok (.iload 5, 2) := by decide +kernel
theorem dd_X12_wholeDay_31 : decode mb_X12_wholeDay 31 = .ok (.iload 4, 2) := by decide +kernel
theorem dd_X12_wholeDay_33 : decode mb_X12_wholeDay 33 = .ok (.iload_n 1, 1) := by decide +kernel
theorem dd_X12_wholeDay_34 : decode mb_X12_wholeDay 34 = .ok (.iload_n 2, 1) := by decide +kernel
theorem dd_X12_wholeDay_35 : decode mb_X12_wholeDay 35 = .ok (.invokevirtual 261, 3) := by decide +kernel
theorem dd_X12_wholeDay_38 : decode mb_X12_wholeDay 38 = .ok (.istore 6, 2) := by decide +kernel
theorem dd_X12_wholeDay_40 : decode mb_X12_wholeDay 40 = .ok (.iload 6, 2) := by decide +kernel
theorem dd_X12_wholeDay_42 : decode mb_X12_wholeDay 42 = .ok (.ifCond .ge 6, 3) := by decide +kernel
theorem dd_X12_wholeDay_45 : decode mb_X12_wholeDay 45 = .ok (.goto 40, 3) := by decide +kernel
theorem dd_X12_wholeDay_48 : decode mb_X12_wholeDay 48 = .ok (.aload_n 0, 1) := by decide +kernel
theorem dd_X12_wholeDay_49 : decode mb_X12_wholeDay 49 = .ok (.iload 6, 2) := by decide +kernel
theorem dd_X12_wholeDay_51 : decode mb_X12_wholeDay 51 = .ok (.iload 4, 2) := by decide +kernel
theorem dd_X12_wholeDay_53 : decode mb_X12_wholeDay 53 = .ok (.iload_n 1, 1) := by decide +kernel
theorem dd_X12_wholeDay_54 : decode mb_X12_wholeDay 54 = .ok (.iload_n 2, 1) := by decide +kernel
theorem dd_X12_wholeDay_55 : decode mb_X12_wholeDay 55 = .ok (.invokevirtual 254, 3) := by decide +kernel
theorem dd_X12_wholeDay_58 : decode mb_X12_wholeDay 58 = .ok (.istore 7, 2) := by decide +kernel
theorem dd_X12_wholeDay_60 : decode mb_X12_wholeDay 60 = .ok (.aload_n 0, 1) := by decide +kernel
theorem dd_X12_wholeDay_61 : decode mb_X12_wholeDay 61 = .ok (.getfield 104, 3) := by decide +kernel
theorem dd_X12_wholeDay_64 : decode mb_X12_wholeDay 64 = .ok (.iload 6, 2) := by decide +kernel
theorem dd_X12_wholeDay_66 : decode mb_X12_wholeDay 66 = .ok (.iconst 1, 1) := by decide +kernel
theorem dd_X12_wholeDay_67 : decode mb_X12_wholeDay 67 = .ok (.bastore, 1) := by decide +kernel
theorem dd_X12_wholeDay_68 : decode mb_X12_wholeDay 68 = .ok (.aload_n 0, 1) := by decide +kernel
theorem dd_X12_wholeDay_69 : decode mb_X12_wholeDay 69 = .ok (.getfield 108, 3) := by decide +kernel
theorem dd_X12_wholeDay_72 : decode mb_X12_wholeDay 72 = .ok (.iload 5, 2) := by decide +kernel
theorem dd_X12_wholeDay_74 : decode mb_X12_wholeDay 74 = .ok (.dup2, 1) := by decide +kernel
theorem dd_X12_wholeDay_75 : decode mb_X12_wholeDay 75 = .ok (.iaload, 1) := by decide +kernel
theorem dd_X12_wholeDay_76 : decode mb_X12_wholeDay 76 = .ok (.iload 7, 2) := by decide +kernel
theorem dd_X12_wholeDay_78 : decode mb_X12_wholeDay 78 = .ok (.isub, 1) := by decide +kernel
theorem dd_X12_wholeDay_79 : decode mb_X12_wholeDay 79 = .ok (.iastore, 1) := by decide +kernel
theorem dd_X12_wholeDay_80 : decode mb_X12_wholeDay 80 = .ok (.iload_n 3, 1) := by decide +kernel
theorem dd_X12_wholeDay_81 : decode mb_X12_wholeDay 81 = .ok (.iload 7, 2) := by decide +kernel
theorem dd_X12_wholeDay_83 : decode mb_X12_wholeDay 83 = .ok (.iadd, 1) := by decide +kernel
theorem dd_X12_wholeDay_84 : decode mb_X12_wholeDay 84 = .ok (.istore_n 3, 1) := by decide +kernel
theorem dd_X12_wholeDay_85 : decode mb_X12_wholeDay 85 = .ok (.iinc 5 1, 3) := by decide +kernel
theorem dd_X12_wholeDay_88 : decode mb_X12_wholeDay 88 = .ok (.goto (-69), 3) := by decide +kernel
theorem dd_X12_wholeDay_91 : decode mb_X12_wholeDay 91 = .ok (.iinc 4 1, 3) := by decide +kernel
theorem dd_X12_wholeDay_94 : decode mb_X12_wholeDay 94 = .ok (.goto (-85), 3) := by decide +kernel
theorem dd_X12_wholeDay_97 : decode mb_X12_wholeDay 97 = .ok (.iload_n 3, 1) := by decide +kernel
theorem dd_X12_wholeDay_98 : decode mb_X12_wholeDay 98 = .ok (.ireturn, 1) := by decide +kernel
theorem dd_X12_wipe_0 : decode mb_X12_wipe 0 = .ok (.aload_n 0, 1) := by decide +kernel
theorem dd_X12_wipe_1 : decode mb_X12_wipe 1 = .ok (.getfield 199, 3) := by decide +kernel
theorem dd_X12_wipe_4 : decode mb_X12_wipe 4 = .ok (.istore_n 1, 1) := by decide +kernel
theorem dd_X12_wipe_5 : decode mb_X12_wipe 5 = .ok (.aload_n 0, 1) := by decide +kernel
theorem dd_X12_wipe_6 : decode mb_X12_wipe 6 = .ok (.iconst 0, 1) := by decide +kernel
theorem dd_X12_wipe_7 : decode mb_X12_wipe 7 = .ok (.putfield 199, 3) := by decide +kernel
theorem dd_X12_wipe_10 : decode mb_X12_wipe 10 = .ok (.iload_n 1, 1) := by decide +kernel
theorem dd_X12_wipe_11 : decode mb_X12_wipe 11 = .ok (.ireturn, 1) := by decide +kernel
theorem dd_X12_wordAt_0 : decode mb_X12_wordAt 0 = .ok (.aload_n 0, 1) := by decide +kernel
theorem dd_X12_wordAt_1 : decode mb_X12_wordAt 1 = .ok (.iload_n 1, 1) := by decide +kernel
theorem dd_X12_wordAt_2 : decode mb_X12_wordAt 2 = .ok (.iload_n 2, 1) := by decide +kernel
theorem dd_X12_wordAt_3 : decode mb_X12_wordAt 3 = .ok (.ldc 202, 2) := by decide +kernel
theorem dd_X12_wordAt_5 : decode mb_X12_wordAt 5 = .ok (.invokevirtual 204, 3) := by decide +kernel
theorem dd_X12_wordAt_8 : decode mb_X12_wordAt 8 = .ok (.ifCond .eq 5, 3) := by decide +kernel
theorem dd_X12_wordAt_11 : decode mb_X12_wordAt 11 = .ok (.iconst 0, 1) := by decide +kernel
theorem dd_X12_wordAt_12 : decode mb_X12_wordAt 12 = .ok (.ireturn, 1) := by decide +kernel
theorem dd_X12_wordAt_13 : decode mb_X12_wordAt 13 = .ok (.aload_n 0, 1) := by decide +kernel
theorem dd_X12_wordAt_14 : decode mb_X12_wordAt 14 = .ok (.iload_n 1, 1) := by decide +kernel
theorem dd_X12_wordAt_15 : decode mb_X12_wordAt 15 = .ok (.iload_n 2, 1) := by decide +kernel
theorem dd_X12_wordAt_16 : decode mb_X12_wordAt 16 = .ok (.ldc 208, 2) := by decide +kernel
theorem dd_X12_wordAt_18 : decode mb_X12_wordAt 18 = .ok (.invokevirtual 204, 3) := by decide +kernel
theorem dd_X12_wordAt_21 : decode mb_X12_wordAt 21 = .ok (.ifCond .eq 5, 3) := by decide +kernel
theorem dd_X12_wordAt_24 : decode mb_X12_wordAt 24 = .ok (.iconst 1, 1) := by decide +kernel
theorem dd_X12_wordAt_25 : decode mb_X12_wordAt 25 = .ok (.ireturn, 1) := by decide +kernel
theorem dd_X12_wordAt_26 : decode mb_X12_wordAt 26 = .ok (.aload_n 0, 1) := by decide +kernel
theorem dd_X12_wordAt_27 : decode mb_X12_wordAt 27 = .ok (.iload_n 1, 1) := by decide +kernel
theorem dd_X12_wordAt_28 : decode mb_X12_wordAt 28 = .ok (.iload_n 2, 1) := by decide +kernel
theorem dd_X12_wordAt_29 : decode mb_X12_wordAt 29 = .ok (.ldc 210, 2) := by decide +kernel
theorem dd_X12_wordAt_31 : decode mb_X12_wordAt 31 = .ok (.invokevirtual 204, 3) := by decide +kernel
theorem dd_X12_wordAt_34 : decode mb_X12_wordAt 34 = .ok (.ifCond .eq 5, 3) := by decide +kernel
theorem dd_X12_wordAt_37 : decode mb_X12_wordAt 37 = .ok (.iconst 2, 1) := by decide +kernel
theorem dd_X12_wordAt_38 : decode mb_X12_wordAt 38 = .ok (.ireturn, 1) := by decide +kernel
theorem dd_X12_wordAt_39 : decode mb_X12_wordAt 39 = .ok (.aload_n 0, 1) := by decide +kernel
theorem dd_X12_wordAt_40 : decode mb_X12_wordAt 40 = .ok (.iload_n 1, 1) := by decide +kernel
theorem dd_X12_wordAt_41 : decode mb_X12_wordAt 41 = .ok (.iload_n 2, 1) := by decide +kernel
theorem dd_X12_wordAt_42 : decode mb_X12_wordAt 42 = .ok (.ldc 212, 2) := by decide +kernel
theorem dd_X12_wordAt_44 : decode mb_X12_wordAt 44 = .ok (.invokevirtual 204, 3) := by decide +kernel
theorem dd_X12_wordAt_47 : decode mb_X12_wordAt 47 = .ok (.ifCond .eq 5, 3) := by decide +kernel
theorem dd_X12_wordAt_50 : decode mb_X12_wordAt 50 = .ok (.iconst 3, 1) := by decide +kernel
theorem dd_X12_wordAt_51 : decode mb_X12_wordAt 51 = .ok (.ireturn, 1) := by decide +kernel
theorem dd_X12_wordAt_52 : decode mb_X12_wordAt 52 = .ok (.aload_n 0, 1) := by decide +kernel
theorem dd_X12_wordAt_53 : decode mb_X12_wordAt 53 = .ok (.iload_n 1, 1) := by decide +kernel
theorem dd_X12_wordAt_54 : decode mb_X12_wordAt 54 = .ok (.iload_n 2, 1) := by decide +kernel
theorem dd_X12_wordAt_55 : decode mb_X12_wordAt 55 = .ok (.ldc 214, 2) := by decide +kernel
theorem dd_X12_wordAt_57 : decode mb_X12_wordAt 57 = .ok (.invokevirtual 204, 3) := by decide +kernel
theorem dd_X12_wordAt_60 : decode mb_X12_wordAt 60 = .ok (.ifCond .eq 7, 3) := by decide +kernel
theorem dd_X12_wordAt_63 : decode mb_X12_wordAt 63 = .ok (.iconst 4, 1) := by decide +kernel
theorem dd_X12_wordAt_64 : decode mb_X12_wordAt 64 = .ok (.goto 4, 3) := by decide +kernel
theorem dd_X12_wordAt_67 : decode mb_X12_wordAt 67 = .ok (.iconst (-1), 1) := by decide +kernel
theorem dd_X12_wordAt_68 : decode mb_X12_wordAt 68 = .ok (.ireturn, 1) := by decide +kernel
theorem dd_X1_become_0 : decode mb_X1_become 0 = .ok (.aload_n 0, 1) := by decide +kernel
theorem dd_X1_become_1 : decode mb_X1_become 1 = .ok (.getfield 12, 3) := by decide +kernel
theorem dd_X1_become_4 : decode mb_X1_become 4 = .ok (.aload_n 1, 1) := by decide +kernel
theorem dd_X1_become_5 : decode mb_X1_become 5 = .ok (.getfield 12, 3) := by decide +kernel
theorem dd_X1_become_8 : decode mb_X1_become 8 = .ok (.invokevirtual 145, 3) := by decide +kernel
theorem dd_X1_become_11 : decode mb_X1_become 11 = .ok (.aload_n 0, 1) := by decide +kernel
theorem dd_X1_become_12 : decode mb_X1_become 12 = .ok (.getfield 21, 3) := by decide +kernel
theorem dd_X1_become_15 : decode mb_X1_become 15 = .ok (.aload_n 1, 1) := by decide +kernel
theorem dd_X1_become_16 : decode mb_X1_become 16 = .ok (.getfield 21, 3) := by decide +kernel
theorem dd_X1_become_19 : decode mb_X1_become 19 = .ok (.invokevirtual 149, 3) := by decide +kernel
theorem dd_X1_become_22 : decode mb_X1_become 22 = .ok (.aload_n 0, 1) := by decide +kernel
theorem dd_X1_become_23 : decode mb_X1_become 23 = .ok (.getfield 28, 3) := by decide +kernel
theorem dd_X1_become_26 : decode mb_X1_become 26 = .ok (.aload_n 1, 1) := by decide +kernel
theorem dd_X1_become_27 : decode mb_X1_become 27 = .ok (.getfield 28, 3) := by decide +kernel
theorem dd_X1_become_30 : decode mb_X1_become 30 = .ok (.invokevirtual 152, 3) := by decide +kernel
theorem dd_X1_become_33 : decode mb_X1_become 33 = .ok (.aload_n 0, 1) := by decide +kernel
theorem dd_X1_become_34 : decode mb_X1_become 34 = .ok (.getfield 35, 3) := by decide +kernel
theorem dd_X1_become_37 : decode mb_X1_become 37 = .ok (.aload_n 1, 1) := by decide +kernel
theorem dd_X1_become_38 : decode mb_X1_become 38 = .ok (.getfield 35, 3) := by decide +kernel
theorem dd_X1_become_41 : decode mb_X1_become 41 = .ok (.invokevirtual 155, 3) := by decide +kernel
theorem dd_X1_become_44 : decode mb_X1_become 44 = .ok (.aload_n 0, 1) := by decide +kernel
theorem dd_X1_become_45 : decode mb_X1_become 45 = .ok (.getfield 42, 3) := by decide +kernel
theorem dd_X1_become_48 : decode mb_X1_become 48 = .ok (.aload_n 1, 1) := by decide +kernel
theorem dd_X1_become_49 : decode mb_X1_become 49 = .ok (.getfield 42, 3) := by decide +kernel
theorem dd_X1_become_52 : decode mb_X1_become 52 = .ok (.invokevirtual 158, 3) := by decide +kernel
theorem dd_X1_become_55 : decode mb_X1_become 55 = .ok (.aload_n 0, 1) := by decide +kernel
theorem dd_X1_become_56 : decode mb_X1_become 56 = .ok (.getfield 49, 3) := by decide +kernel
theorem dd_X1_become_59 : decode mb_X1_become 59 = .ok (.aload_n 1, 1) := by decide +kernel
theorem dd_X1_become_60 : decode mb_X1_become 60 = .ok (.getfield 49, 3) := by decide +kernel
theorem dd_X1_become_63 : decode mb_X1_become 63 = .ok (.invokevirtual 161, 3) := by decide +kernel
theorem dd_X1_become_66 : decode mb_X1_become 66 = .ok (.aload_n 1, 1) := by decide +kernel
theorem dd_X1_become_67 : decode mb_X1_become 67 = .ok (.getfield 53, 3) := by decide +kernel
theorem dd_X1_become_70 : decode mb_X1_become 70 = .ok (.iconst 0, 1) := by decide +kernel
theorem dd_X1_become_71 : decode mb_X1_become 71 = .ok (.aload_n 0, 1) := by decide +kernel
theorem dd_X1_become_72 : decode mb_X1_become 72 = .ok (.getfield 53, 3) := by decide +kernel
theorem dd_X1_become_75 : decode mb_X1_become 75 = .ok (.iconst 0, 1) := by decide +kernel
theorem dd_X1_become_76 : decode mb_X1_become 76 = .ok (.iconst 5, 1) := by decide +kernel
theorem dd_X1_become_77 : decode mb_X1_become 77 = .ok (.invokestatic 164, 3) := by decide +kernel
theorem dd_X1_become_80 : decode mb_X1_become 80 = .ok (.aload_n 0, 1) := by decide +kernel
theorem dd_X1_become_81 : decode mb_X1_become 81 = .ok (.aload_n 1, 1) := by decide +kernel
theorem dd_X1_become_82 : decode mb_X1_become 82 = .ok (.getfield 57, 3) := by decide +kernel
theorem dd_X1_become_85 : decode mb_X1_become 85 = .ok (.putfield 57, 3) := by decide +kernel
theorem dd_X1_become_88 : decode mb_X1_become 88 = .ok (.aload_n 0, 1) := by decide +kernel
theorem dd_X1_become_89 : decode mb_X1_become 89 = .ok (.aload_n 1, 1) := by decide +kernel
theorem dd_X1_become_90 : decode mb_X1_become 90 = .ok (.getfield 61, 3) := by decide +kernel
theorem dd_X1_become_93 : decode mb_X1_become 93 = .ok (.putfield 61, 3) := by decide +kernel
theorem dd_X1_become_96 : decode mb_X1_become 96 = .ok (.aload_n 0, 1) := by decide +kernel
theorem dd_X1_become_97 : decode mb_X1_become 97 = .ok (.aload_n 1, 1) := by decide +kernel
theorem dd_X1_become_98 : decode mb_X1_become 98 = .ok (.getfield 64, 3) := by decide +kernel
theorem dd_X1_become_101 : decode mb_X1_become 101 = .ok (.putfield 64, 3) := by decide +kernel
theorem dd_X1_become_104 : decode mb_X1_become 104 = .ok (.aload_n 0, 1) := by decide +kernel
theorem dd_X1_become_105 : decode mb_X1_become 105 = .ok (.aload_n 1, 1) := by decide +kernel
theorem dd_X1_become_106 : decode mb_X1_become 106 = .ok (.getfield 67, 3) := by decide +kernel
theorem dd_X1_become_109 : decode mb_X1_become 109 = .ok (.putfield 67, 3) := by decide +kernel
theorem dd_X1_become_112 : decode mb_X1_become 112 = .ok (.aload_n 0, 1) := by decide +kernel
theorem dd_X1_become_113 : decode mb_X1_become 113 = .ok (.aload_n 1, 1) := by decide +kernel
theorem dd_X1_become_114 : decode mb_X1_become 114 = .ok (.getfield 70, 3) := by decide +kernel
theorem dd_X1_become_117 : decode mb_X1_become 117 = .ok (.putfield 70, 3) := by decide +kernel
theorem dd_X1_become_120 : decode mb_X1_become 120 = .ok (.return_, 1) := by decide +kernel
theorem dd_X1_bestLady_0 : decode mb_X1_bestLady 0 = .ok (.iconst (-1), 1) := by decide +kernel
theorem dd_X1_bestLady_1 : decode mb_X1_bestLady 1 = .ok (.istore_n 3, 1) := by decide +kernel
theorem dd_X1_bestLady_2 : decode mb_X1_bestLady 2 = .ok (.iconst 0, 1) := by decide +kernel
theorem dd_X1_bestLady_3 : decode mb_X1_bestLady 3 = .ok (.istore 4, 2) := by decide +kernel
theorem dd_X1_bestLady_5 : decode mb_X1_bestLady 5 = .ok (.iload_n 2, 1) := by decide +kernel
theorem dd_X1_bestLady_6 : decode mb_X1_bestLady 6 = .ok (.aload_n 0, 1) := by decide +kernel
theorem dd_X1_bestLady_7 : decode mb_X1_bestLady 7 = .ok (.getfield 57, 3) := by decide +kernel
theorem dd_X1_bestLady_10 : decode mb_X1_bestLady 10 = .ok (.if_icmp .lt 5, 3) := by decide +kernel
theorem dd_X1_bestLady_13 : decode mb_X1_bestLady 13 = .ok (.iconst (-1), 1) := by decide +kernel
theorem dd_X1_bestLady_14 : decode mb_X1_bestLady 14 = .ok (.ireturn, 1) := by decide +kernel
theorem dd_X1_bestLady_15 : decode mb_X1_bestLady 15 = .ok (.iconst 0, 1) := by decide +kernel
theorem dd_X1_bestLady_16 : decode mb_X1_bestLady 16 = .ok (.istore 5, 2) := by decide +kernel
theorem dd_X1_bestLady_18 : decode mb_X1_bestLady 18 = .ok (.iload 5, 2) := by decide +kernel
theorem dd_X1_bestLady_20 : decode mb_X1_bestLady 20 = .ok (.aload_n 0, 1) := by decide +kernel
theorem dd_X1_bestLady_21 : decode mb_X1_bestLady 21 = .ok (.getfield 21, 3) := by decide +kernel
theorem dd_X1_bestLady_24 : decode mb_X1_bestLady 24 = .ok (.getfield 130, 3) := by decide +kernel
theorem dd_X1_bestLady_27 : decode mb_X1_bestLady 27 = .ok (.if_icmp .ge 47, 3) := by decide +kernel
theorem dd_X1_bestLady_30 : decode mb_X1_bestLady 30 = .ok (.iload_n 1, 1) := by decide +kernel
theorem dd_X1_bestLady_31 : decode mb_X1_bestLady 31 = .ok (.iload 5, 2) := by decide +kernel
theorem dd_X1_bestLady_33 : decode mb_X1_bestLady 33 = .ok (.invokestatic 96, 3) := by decide +kernel
theorem dd_X1_bestLady_36 : decode mb_X1_bestLady 36 = .ok (.ifCond .ne 32, 3) := by decide +kernel
theorem dd_X1_bestLady_39 : decode mb_X1_bestLady 39 = .ok (.aload_n 0, 1) := by decide +kernel
theorem dd_X1_bestLady_40 : decode mb_X1_bestLady 40 = .ok (.iload_n 1, 1) := by decide +kernel
theorem dd_X1_bestLady_41 : decode mb_X1_bestLady 41 = .ok (.iload_n 2, 1) := by decide +kernel
theorem dd_X1_bestLady_42 : decode mb_X1_bestLady 42 = .ok (.iload 5, 2) := by decide +kernel
theorem dd_X1_bestLady_44 : decode mb_X1_bestLady 44 = .ok (.invokevirtual 142, 3) := by decide +kernel
theorem dd_X1_bestLady_47 : decode mb_X1_bestLady 47 = .ok (.istore 6, 2) := by decide +kernel
theorem dd_X1_bestLady_49 : decode mb_X1_bestLady 49 = .ok (.iload_n 3, 1) := by decide +kernel
theorem dd_X1_bestLady_50 : decode mb_X1_bestLady 50 = .ok (.iconst (-1), 1) := by decide +kernel
theorem dd_X1_bestLady_51 : decode mb_X1_bestLady 51 = .ok (.if_icmp .eq 10, 3) := by decide +kernel
theorem dd_X1_bestLady_54 : decode mb_X1_bestLady 54 = .ok (.iload 6, 2) := by decide +kernel
theorem dd_X1_bestLady_56 : decode mb_X1_bestLady 56 = .ok (.iload 4, 2) := by decide +kernel
theorem dd_X1_bestLady_58 : decode mb_X1_bestLady 58 = .ok (.if_icmp .ge 10, 3) := by decide +kernel
theorem dd_X1_bestLady_61 : decode mb_X1_bestLady 61 = .ok (.iload 5, 2) := by decide +kernel
theorem dd_X1_bestLady_63 : decode mb_X1_bestLady 63 = .ok (.istore_n 3, 1) := by decide +kernel
theorem dd_X1_bestLady_64 : decode mb_X1_bestLady 64 = .ok (.iload 6, 2) := by decide +kernel
theorem dd_X1_bestLady_66 : decode mb_X1_bestLady 66 = .ok (.istore 4, 2) := by decide +kernel
theorem dd_X1_bestLady_68 : decode mb_X1_bestLady 68 = .ok (.iinc 5 1, 3) := by decide +kernel
theorem dd_X1_bestLady_71 : decode mb_X1_bestLady 71 = .ok (.goto (-53), 3) := by decide +kernel
theorem dd_X1_bestLady_74 : decode mb_X1_bestLady 74 = .ok (.iload_n 3, 1) := by decide +kernel
theorem dd_X1_bestLady_75 : decode mb_X1_bestLady 75 = .ok (.ireturn, 1) := by decide +kernel
theorem dd_X1_init_0 : decode mb_X1_init 0 = .ok (.aload_n 0, 1) := by decide +kernel
theorem dd_X1_init_1 : decode mb_X1_init 1 = .ok (.invokespecial 3, 3) := by decide +kernel
theorem dd_X1_init_4 : decode mb_X1_init 4 = .ok (.aload_n 0, 1) := by decide +kernel
theorem dd_X1_init_5 : decode mb_X1_init 5 = .ok (.new 9, 3) := by decide +kernel
theorem dd_X1_init_8 : decode mb_X1_init 8 = .ok (.dup, 1) := by decide +kernel
theorem dd_X1_init_9 : decode mb_X1_init 9 = .ok (.invokespecial 11, 3) := by decide +kernel
theorem dd_X1_init_12 : decode mb_X1_init 12 = .ok (.putfield 12, 3) := by decide +kernel
theorem dd_X1_init_15 : decode mb_X1_init 15 = .ok (.aload_n 0, 1) := by decide +kernel
theorem dd_X1_init_16 : decode mb_X1_init 16 = .ok (.new 18, 3) := by decide +kernel
theorem dd_X1_init_19 : decode mb_X1_init 19 = .ok (.dup, 1) := by decide +kernel
theorem dd_X1_init_20 : decode mb_X1_init 20 = .ok (.invokespecial 20, 3) := by decide +kernel
theorem dd_X1_init_23 : decode mb_X1_init 23 = .ok (.putfield 21, 3) := by decide +kernel
theorem dd_X1_init_26 : decode mb_X1_init 26 = .ok (.aload_n 0, 1) := by decide +kernel
theorem dd_X1_init_27 : decode mb_X1_init 27 = .ok (.new 25, 3) := by decide +kernel
theorem dd_X1_init_30 : decode mb_X1_init 30 = .ok (.dup, 1) := by decide +kernel
theorem dd_X1_init_31 : decode mb_X1_init 31 = .ok (.invokespecial 27, 3) := by decide +kernel
theorem dd_X1_init_34 : decode mb_X1_init 34 = .ok (.putfield 28, 3) := by decide +kernel
theorem dd_X1_init_37 : decode mb_X1_init 37 = .ok (.aload_n 0, 1) := by decide +kernel
theorem dd_X1_init_38 : decode mb_X1_init 38 = .ok (.new 32, 3) := by decide +kernel
theorem dd_X1_init_41 : decode mb_X1_init 41 = .ok (.dup, 1) := by decide +kernel
theorem dd_X1_init_42 : decode mb_X1_init 42 = .ok (.invokespecial 34, 3) := by decide +kernel
theorem dd_X1_init_45 : decode mb_X1_init 45 = .ok (.putfield 35, 3) := by decide +kernel
theorem dd_X1_init_48 : decode mb_X1_init 48 = .ok (.aload_n 0, 1) := by decide +kernel
theorem dd_X1_init_49 : decode mb_X1_init 49 = .ok (.new 39, 3) := by decide +kernel
theorem dd_X1_init_52 : decode mb_X1_init 52 = .ok (.dup, 1) := by decide +kernel
theorem dd_X1_init_53 : decode mb_X1_init 53 = .ok (.invokespecial 41, 3) := by decide +kernel
theorem dd_X1_init_56 : decode mb_X1_init 56 = .ok (.putfield 42, 3) := by decide +kernel
theorem dd_X1_init_59 : decode mb_X1_init 59 = .ok (.aload_n 0, 1) := by decide +kernel
theorem dd_X1_init_60 : decode mb_X1_init 60 = .ok (.new 46, 3) := by decide +kernel
theorem dd_X1_init_63 : decode mb_X1_init 63 = .ok (.dup, 1) := by decide +kernel
theorem dd_X1_init_64 : decode mb_X1_init 64 = .ok (.invokespecial 48, 3) := by decide +kernel
theorem dd_X1_init_67 : decode mb_X1_init 67 = .ok (.putfield 49, 3) := by decide +kernel
theorem dd_X1_init_70 : decode mb_X1_init 70 = .ok (.aload_n 0, 1) := by decide +kernel
theorem dd_X1_init_71 : decode mb_X1_init 71 = .ok (.iconst 5, 1) := by decide +kernel
theorem dd_X1_init_72 : decode mb_X1_init 72 = .ok (.newarray .int, 2) := by decide +kernel
theorem dd_X1_init_74 : decode mb_X1_init 74 = .ok (.putfield 53, 3) := by decide +kernel
theorem dd_X1_init_77 : decode mb_X1_init 77 = .ok (.aload_n 0, 1) := by decide +kernel
theorem dd_X1_init_78 : decode mb_X1_init 78 = .ok (.iconst 0, 1) := by decide +kernel
theorem dd_X1_init_79 : decode mb_X1_init 79 = .ok (.putfield 57, 3) := by decide +kernel
theorem dd_X1_init_82 : decode mb_X1_init 82 = .ok (.aload_n 0, 1) := by decide +kernel
theorem dd_X1_init_83 : decode mb_X1_init 83 = .ok (.bipush 12, 2) := by decide +kernel
theorem dd_X1_init_85 : decode mb_X1_init 85 = .ok (.putfield 61, 3) := by decide +kernel
theorem dd_X1_init_88 : decode mb_X1_init 88 = .ok (.aload_n 0, 1) := by decide +kernel
theorem dd_X1_init_89 : decode mb_X1_init 89 = .ok (.bipush 12, 2) := by decide +kernel
theorem dd_X1_init_91 : decode mb_X1_init 91 = .ok (.putfield 64, 3) := by decide +kernel
theorem dd_X1_init_94 : decode mb_X1_init 94 = .ok (.aload_n 0, 1) := by decide +kernel
theorem dd_X1_init_95 : decode mb_X1_init 95 = .ok (.iconst 0, 1) := by decide +kernel
theorem dd_X1_init_96 : decode mb_X1_init 96 = .ok (.putfield 67, 3) := by decide +kernel
theorem dd_X1_init_99 : decode mb_X1_init 99 = .ok (.aload_n 0, 1) := by decide +kernel
theorem dd_X1_init_100 : decode mb_X1_init 100 = .ok (.iconst 0, 1) := by decide +kernel
theorem dd_X1_init_101 : decode mb_X1_init 101 = .ok (.putfield 70, 3) := by decide +kernel
theorem dd_X1_init_104 : decode mb_X1_init 104 = .ok (.aload_n 0, 1) := by decide +kernel
theorem dd_X1_init_105 : decode mb_X1_init 105 = .ok (.bipush 25, 2) := by decide +kernel
theorem dd_X1_init_107 : decode mb_X1_init 107 = .ok (.newarray .int, 2) := by decide +kernel
theorem dd_X1_init_109 : decode mb_X1_init 109 = .ok (.putfield 73, 3) := by decide +kernel
theorem dd_X1_init_112 : decode mb_X1_init 112 = .ok (.aload_n 0, 1) := by decide +kernel
theorem dd_X1_init_113 : decode mb_X1_init 113 = .ok (.bipush 32, 2) := by decide +kernel
theorem dd_X1_init_115 : decode mb_X1_init 115 = .ok (.newarray .int, 2) := by decide +kernel
theorem dd_X1_init_117 : decode mb_X1_init 117 = .ok (.putfield 76, 3) := by decide +kernel
theorem dd_X1_init_120 : decode mb_X1_init 120 = .ok (.return_, 1) := by decide +kernel
theorem dd_X1_ladyAt_0 : decode mb_X1_ladyAt 0 = .ok (.iconst 0, 1) := by decide +kernel
theorem dd_X1_ladyAt_1 : decode mb_X1_ladyAt 1 = .ok (.istore_n 2, 1) := by decide +kernel
theorem dd_X1_ladyAt_2 : decode mb_X1_ladyAt 2 = .ok (.iconst (-1), 1) := by decide +kernel
theorem dd_X1_ladyAt_3 : decode mb_X1_ladyAt 3 = .ok (.istore_n 3, 1) := by decide +kernel
theorem dd_X1_ladyAt_4 : decode mb_X1_ladyAt 4 = .ok (.iconst 0, 1) := by decide +kernel
theorem dd_X1_ladyAt_5 : decode mb_X1_ladyAt 5 = .ok (.istore 4, 2) := by decide +kernel
theorem dd_X1_ladyAt_7 : decode mb_X1_ladyAt 7 = .ok (.iload 4, 2) := by decide +kernel
theorem dd_X1_ladyAt_9 : decode mb_X1_ladyAt 9 = .ok (.iload_n 1, 1) := by decide +kernel
theorem dd_X1_ladyAt_10 : decode mb_X1_ladyAt 10 = .ok (.if_icmp .gt 28, 3) := by decide +kernel
theorem dd_X1_ladyAt_13 : decode mb_X1_ladyAt 13 = .ok (.aload_n 0, 1) := by decide +kernel
theorem dd_X1_ladyAt_14 : decode mb_X1_ladyAt 14 = .ok (.iload_n 2, 1) := by decide +kernel
theorem dd_X1_ladyAt_15 : decode mb_X1_ladyAt 15 = .ok (.iload 4, 2) := by decide +kernel
theorem dd_X1_ladyAt_17 : decode mb_X1_ladyAt 17 = .ok (.invokevirtual 139, 3) := by decide +kernel
theorem dd_X1_ladyAt_20 : decode mb_X1_ladyAt 20 = .ok (.istore_n 3, 1) := by decide +kernel
theorem dd_X1_ladyAt_21 : decode mb_X1_ladyAt 21 = .ok (.iload_n 3, 1) := by decide +kernel
theorem dd_X1_ladyAt_22 : decode mb_X1_ladyAt 22 = .ok (.iconst (-1), 1) := by decide +kernel
theorem dd_X1_ladyAt_23 : decode mb_X1_ladyAt 23 = .ok (.if_icmp .eq 9, 3) := by decide +kernel
theorem dd_X1_ladyAt_26 : decode mb_X1_ladyAt 26 = .ok (.iload_n 2, 1) := by decide +kernel
theorem dd_X1_ladyAt_27 : decode mb_X1_ladyAt 27 = .ok (.iconst 1, 1) := by decide +kernel
theorem dd_X1_ladyAt_28 : decode mb_X1_ladyAt 28 = .ok (.iload_n 3, 1) := by decide +kernel
theorem dd_X1_ladyAt_29 : decode mb_X1_ladyAt 29 = .ok (.ishl, 1) := by decide +kernel
theorem dd_X1_ladyAt_30 : decode mb_X1_ladyAt 30 = .ok (.ior, 1) := by decide +kernel
theorem dd_X1_ladyAt_31 : decode mb_X1_ladyAt 31 = .ok (.istore_n 2, 1) := by decide +kernel
theorem dd_X1_ladyAt_32 : decode mb_X1_ladyAt 32 = .ok (.iinc 4 1, 3) := by decide +kernel
theorem dd_X1_ladyAt_35 : decode mb_X1_ladyAt 35 = .ok (.goto (-28), 3) := by decide +kernel
theorem dd_X1_ladyAt_38 : decode mb_X1_ladyAt 38 = .ok (.iload_n 3, 1) := by decide +kernel
theorem dd_X1_ladyAt_39 : decode mb_X1_ladyAt 39 = .ok (.ireturn, 1) := by decide +kernel
theorem dd_X1_lostOn_0 : decode mb_X1_lostOn 0 = .ok (.aload_n 0, 1) := by decide +kernel
theorem dd_X1_lostOn_1 : decode mb_X1_lostOn 1 = .ok (.getfield 12, 3) := by decide +kernel
theorem dd_X1_lostOn_4 : decode mb_X1_lostOn 4 = .ok (.iload_n 2, 1) := by decide +kernel
theorem dd_X1_lostOn_5 : decode mb_X1_lostOn 5 = .ok (.invokevirtual 79, 3) := by decide +kernel
theorem dd_X1_lostOn_8 : decode mb_X1_lostOn 8 = .ok (.istore_n 3, 1) := by decide +kernel
theorem dd_X1_lostOn_9 : decode mb_X1_lostOn 9 = .ok (.iconst 0, 1) := by decide +kernel
theorem dd_X1_lostOn_10 : decode mb_X1_lostOn 10 = .ok (.iload_n 3, 1) := by decide +kernel
theorem dd_X1_lostOn_11 : decode mb_X1_lostOn 11 = .ok (.aload_n 0, 1) := by decide +kernel
theorem dd_X1_lostOn_12 : decode mb_X1_lostOn 12 = .ok (.iload_n 1, 1) := by decide +kernel
theorem dd_X1_lostOn_13 : decode mb_X1_lostOn 13 = .ok (.iload_n 2, 1) := by decide +kernel
theorem dd_X1_lostOn_14 : decode mb_X1_lostOn 14 = .ok (.iload_n 3, 1) := by decide +kernel
theorem dd_X1_lostOn_15 : decode mb_X1_lostOn 15 = .ok (.invokevirtual 83, 3) := by decide +kernel
theorem dd_X1_lostOn_18 : decode mb_X1_lostOn 18 = .ok (.isub, 1) := by decide +kernel
theorem dd_X1_lostOn_19 : decode mb_X1_lostOn 19 = .ok (.invokestatic 107, 3) := by decide +kernel
theorem dd_X1_lostOn_22 : decode mb_X1_lostOn 22 = .ok (.ireturn, 1) := by decide +kernel
theorem dd_X1_lostOnKinds_0 : decode mb_X1_lostOnKinds 0 = .ok (.iconst 0, 1) := by decide +kernel
theorem dd_X1_lostOnKinds_1 : decode mb_X1_lostOnKinds 1 = .ok (.istore_n 3, 1) := by decide +kernel
theorem dd_X1_lostOnKinds_2 : decode mb_X1_lostOnKinds 2 = .ok (.iconst 0, 1) := by decide +kernel
theorem dd_X1_lostOnKinds_3 : decode mb_X1_lostOnKinds 3 = .ok (.istore 4, 2) := by decide +kernel
theorem dd_X1_lostOnKinds_5 : decode mb_X1_lostOnKinds 5 = .ok (.iload 4, 2) := by decide +kernel
theorem dd_X1_lostOnKinds_7 : decode mb_X1_lostOnKinds 7 = .ok (.aload_n 0, 1) := by decide +kernel
theorem dd_X1_lostOnKinds_8 : decode mb_X1_lostOnKinds 8 = .ok (.getfield 12, 3) := by decide +kernel
theorem dd_X1_lostOnKinds_11 : decode mb_X1_lostOnKinds 11 = .ok (.getfield 115, 3) := by decide +kernel
theorem dd_X1_lostOnKinds_14 : decode mb_X1_lostOnKinds 14 = .ok (.if_icmp .ge 32, 3) := by decide +kernel
theorem dd_X1_lostOnKinds_17 : decode mb_X1_lostOnKinds 17 = .ok (.aload_n 0, 1) := by decide +kernel
theorem dd_X1_lostOnKinds_18 : decode mb_X1_lostOnKinds 18 = .ok (.getfield 12, 3) := by decide +kernel
theorem dd_X1_lostOnKinds_21 : decode mb_X1_lostOnKinds 21 = .ok (.iload 4, 2) := by decide +kernel
theorem dd_X1_lostOnKinds_23 : decode mb_X1_lostOnKinds 23 = .ok (.iload_n 2, 1) := by decide +kernel
theorem dd_X1_lostOnKinds_24 : decode mb_X1_lostOnKinds 24 = .ok (.invokevirtual 118, 3) := by decide +kernel
theorem dd_X1_lostOnKinds_27 : decode mb_X1_lostOnKinds 27 = .ok (.ifCond .eq 13, 3) := by decide +kernel
theorem dd_X1_lostOnKinds_30 : decode mb_X1_lostOnKinds 30 = .ok (.iload_n 3, 1) := by decide +kernel
theorem dd_X1_lostOnKinds_31 : decode mb_X1_lostOnKinds 31 = .ok (.aload_n 0, 1) := by decide +kernel
theorem dd_X1_lostOnKinds_32 : decode mb_X1_lostOnKinds 32 = .ok (.iload_n 1, 1) := by decide +kernel
theorem dd_X1_lostOnKinds_33 : decode mb_X1_lostOnKinds 33 = .ok (.iload 4, 2) := by decide +kernel
theorem dd_X1_lostOnKinds_35 : decode mb_X1_lostOnKinds 35 = .ok (.invokevirtual 121, 3) := by decide +kernel
theorem dd_X1_lostOnKinds_38 : decode mb_X1_lostOnKinds 38 = .ok (.iadd, 1) := by decide +kernel
theorem dd_X1_lostOnKinds_39 : decode mb_X1_lostOnKinds 39 = .ok (.istore_n 3, 1) := by decide +kernel
theorem dd_X1_lostOnKinds_40 : decode mb_X1_lostOnKinds 40 = .ok (.iinc 4 1, 3) := by decide +kernel
theorem dd_X1_lostOnKinds_43 : decode mb_X1_lostOnKinds 43 = .ok (.goto (-38), 3) := by decide +kernel
theorem dd_X1_lostOnKinds_46 : decode mb_X1_lostOnKinds 46 = .ok (.iload_n 3, 1) := by decide +kernel
theorem dd_X1_lostOnKinds_47 : decode mb_X1_lostOnKinds 47 = .ok (.ireturn, 1) := by decide +kernel
theorem dd_X1_lostWith_0 : decode mb_X1_lostWith 0 = .ok (.aload_n 0, 1) := by decide +kernel
theorem dd_X1_lostWith_1 : decode mb_X1_lostWith 1 = .ok (.getfield 73, 3) := by decide +kernel
theorem dd_X1_lostWith_4 : decode mb_X1_lostWith 4 = .ok (.iload_n 3, 1) := by decide +kernel
theorem dd_X1_lostWith_5 : decode mb_X1_lostWith 5 = .ok (.iconst 5, 1) := by decide +kernel
theorem dd_X1_lostWith_6 : decode mb_X1_lostWith 6 = .ok (.imul, 1) := by decide +kernel
theorem dd_X1_lostWith_7 : decode mb_X1_lostWith 7 = .ok (.iload_n 2, 1) := by decide +kernel
theorem dd_X1_lostWith_8 : decode mb_X1_lostWith 8 = .ok (.iadd, 1) := by decide +kernel
theorem dd_X1_lostWith_9 : decode mb_X1_lostWith 9 = .ok (.iaload, 1) := by decide +kernel
theorem dd_X1_lostWith_10 : decode mb_X1_lostWith 10 = .ok (.aload_n 0, 1) := by decide +kernel
theorem dd_X1_lostWith_11 : decode mb_X1_lostWith 11 = .ok (.getfield 76, 3) := by decide +kernel
theorem dd_X1_lostWith_14 : decode mb_X1_lostWith 14 = .ok (.iload_n 1, 1) := by decide +kernel
theorem dd_X1_lostWith_15 : decode mb_X1_lostWith 15 = .ok (.iconst 1, 1) := by decide +kernel
theorem dd_X1_lostWith_16 : decode mb_X1_lostWith 16 = .ok (.iload_n 3, 1) := by decide +kernel
theorem dd_X1_lostWith_17 : decode mb_X1_lostWith 17 = .ok (.ishl, 1) := by decide +kernel
theorem dd_X1_lostWith_18 : decode mb_X1_lostWith 18 = .ok (.ior, 1) := by decide +kernel
theorem dd_X1_lostWith_19 : decode mb_X1_lostWith 19 = .ok (.iaload, 1) := by decide +kernel
theorem dd_X1_lostWith_20 : decode mb_X1_lostWith 20 = .ok (.iadd, 1) := by decide +kernel
theorem dd_X1_lostWith_21 : decode mb_X1_lostWith 21 = .ok (.ireturn, 1) := by decide +kernel
theorem dd_X1_planTables_0 : decode mb_X1_planTables 0 = .ok (.iconst 0, 1) := by decide +kernel
theorem dd_X1_planTables_1 : decode mb_X1_planTables 1 = .ok (.istore_n 1, 1) := by decide +kernel
theorem dd_X1_planTables_2 : decode mb_X1_planTables 2 = .ok (.iload_n 1, 1) := by decide +kernel
theorem dd_X1_planTables_3 : decode mb_X1_planTables 3 = .ok (.aload_n 0, 1) := by decide +kernel
theorem dd_X1_planTables_4 : decode mb_X1_planTables 4 = .ok (.getfield 21, 3) := by decide +kernel
theorem dd_X1_planTables_7 : decode mb_X1_planTables 7 = .ok (.getfield 130, 3) := by decide +kernel
theorem dd_X1_planTables_10 : decode mb_X1_planTables 10 = .ok (.if_icmp .ge 46, 3) := by decide +kernel
theorem dd_X1_planTables_13 : decode mb_X1_planTables 13 = .ok (.iconst 0, 1) := by decide +kernel
theorem dd_X1_planTables_14 : decode mb_X1_planTables 14 = .ok (.istore_n 2, 1) := by decide +kernel
theorem dd_X1_planTables_15 : decode mb_X1_planTables 15 = .ok (.iload_n 2, 1) := by decide +kernel
theorem dd_X1_planTables_16 : decode mb_X1_planTables 16 = .ok (.aload_n 0, 1) := by decide +kernel
theorem dd_X1_planTables_17 : decode mb_X1_planTables 17 = .ok (.getfield 57, 3) := by decide +kernel
theorem dd_X1_planTables_20 : decode mb_X1_planTables 20 = .ok (.if_icmp .ge 30, 3) := by decide +kernel
theorem dd_X1_planTables_23 : decode mb_X1_planTables 23 = .ok (.aload_n 0, 1) := by decide +kernel
theorem dd_X1_planTables_24 : decode mb_X1_planTables 24 = .ok (.getfield 73, 3) := by decide +kernel
theorem dd_X1_planTables_27 : decode mb_X1_planTables 27 = .ok (.iload_n 1, 1) := by decide +kernel
theorem dd_X1_planTables_28 : decode mb_X1_planTables 28 = .ok (.iconst 5, 1) := by decide +kernel
theorem dd_X1_planTables_29 : decode mb_X1_planTables 29 = .ok (.imul, 1) := by decide +kernel
theorem dd_X1_planTables_30 : decode mb_X1_planTables 30 = .ok (.iload_n 2, 1) := by decide +kernel
theorem dd_X1_planTables_31 : decode mb_X1_planTables 31 = .ok (.iadd, 1) := by decide +kernel
theorem dd_X1_planTables_32 : decode mb_X1_planTables 32 = .ok (.aload_n 0, 1) := by decide +kernel
theorem dd_X1_planTables_33 : decode mb_X1_planTables 33 = .ok (.iload_n 1, 1) := by decide +kernel
theorem dd_X1_planTables_34 : decode mb_X1_planTables 34 = .ok (.aload_n 0, 1) := by decide +kernel
theorem dd_X1_planTables_35 : decode mb_X1_planTables 35 = .ok (.getfield 53, 3) := by decide +kernel
theorem dd_X1_planTables_38 : decode mb_X1_planTables 38 = .ok (.iload_n 2, 1) := by decide +kernel
theorem dd_X1_planTables_39 : decode mb_X1_planTables 39 = .ok (.iaload, 1) := by decide +kernel
theorem dd_X1_planTables_40 : decode mb_X1_planTables 40 = .ok (.invokevirtual 131, 3) := by decide +kernel
theorem dd_X1_planTables_43 : decode mb_X1_planTables 43 = .ok (.iastore, 1) := by decide +kernel
theorem dd_X1_planTables_44 : decode mb_X1_planTables 44 = .ok (.iinc 2 1, 3) := by decide +kernel
theorem dd_X1_planTables_47 : decode mb_X1_planTables 47 = .ok (.goto (-32), 3) := by decide +kernel
theorem dd_X1_planTables_50 : decode mb_X1_planTables 50 = .ok (.iinc 1 1, 3) := by decide +kernel
theorem dd_X1_planTables_53 : decode mb_X1_planTables 53 = .ok (.goto (-51), 3) := by decide +kernel
theorem dd_X1_planTables_56 : decode mb_X1_planTables 56 = .ok (.iconst 1, 1) := by decide +kernel
theorem dd_X1_planTables_57 : decode mb_X1_planTables 57 = .ok (.aload_n 0, 1) := by decide +kernel
theorem dd_X1_planTables_58 : decode mb_X1_planTables 58 = .ok (.getfield 21, 3) := by decide +kernel
theorem dd_X1_planTables_61 : decode mb_X1_planTables 61 = .ok (.getfield 130, 3) := by decide +kernel
theorem dd_X1_planTables_64 : decode mb_X1_planTables 64 = .ok (.ishl, 1) := by decide +kernel
theorem dd_X1_planTables_65 : decode mb_X1_planTables 65 = .ok (.iconst 1, 1) := by decide +kernel
theorem dd_X1_planTables_66 : decode mb_X1_planTables 66 = .ok (.isub, 1) := by decide +kernel
theorem dd_X1_planTables_67 : decode mb_X1_planTables 67 = .ok (.istore_n 1, 1) := by decide +kernel
theorem dd_X1_planTables_68 : decode mb_X1_planTables 68 = .ok (.iload_n 1, 1) := by decide +kernel
theorem dd_X1_planTables_69 : decode mb_X1_planTables 69 = .ok (.ifCond .lt 43, 3) := by decide +kernel
theorem dd_X1_planTables_72 : decode mb_X1_planTables 72 = .ok (.iload_n 1, 1) := by decide +kernel
theorem dd_X1_planTables_73 : decode mb_X1_planTables 73 = .ok (.invokestatic 134, 3) := by decide +kernel
theorem dd_X1_planTables_76 : decode mb_X1_planTables 76 = .ok (.istore_n 2, 1) := by decide +kernel
theorem dd_X1_planTables_77 : decode mb_X1_planTables 77 = .ok (.aload_n 0, 1) := by decide +kernel
theorem dd_X1_planTables_78 : decode mb_X1_planTables 78 = .ok (.iload_n 1, 1) := by decide +kernel
theorem dd_X1_planTables_79 : decode mb_X1_planTables 79 = .ok (.iload_n 2, 1) := by decide +kernel
theorem dd_X1_planTables_80 : decode mb_X1_planTables 80 = .ok (.invokevirtual 139, 3) := by decide +kernel
