theorem dd_X12_copy_130 : decode mb_X12_copy 130 = .ok (.ifCond .gt 21, 3) := by decide +kernel
theorem dd_X12_copy_133 : decode mb_X12_copy 133 = .ok (.iload 4, 2) := by decide +kernel
theorem dd_X12_copy_135 : decode mb_X12_copy 135 = .ok (.i2l, 1) := by decide +kernel
theorem dd_X12_copy_136 : decode mb_X12_copy 136 = .ok (.iload 5, 2) := by decide +kernel
theorem dd_X12_copy_138 : decode mb_X12_copy 138 = .ok (.i2l, 1) := by decide +kernel
theorem dd_X12_copy_139 : decode mb_X12_copy 139 = .ok (.ladd, 1) := by decide +kernel
theorem dd_X12_copy_140 : decode mb_X12_copy 140 = .ok (.aload_n 0, 1) := by decide +kernel
theorem dd_X12_copy_141 : decode mb_X12_copy 141 = .ok (.getfield 13, 3) := by decide +kernel
theorem dd_X12_copy_144 : decode mb_X12_copy 144 = .ok (.iload_n 2, 1) := by decide +kernel
theorem dd_X12_copy_145 : decode mb_X12_copy 145 = .ok (.iaload, 1) := by decide +kernel
theorem dd_X12_copy_146 : decode mb_X12_copy 146 = .ok (.i2l, 1) := by decide +kernel
theorem dd_X12_copy_147 : decode mb_X12_copy 147 = .ok (.lcmp, 1) := by decide +kernel
theorem dd_X12_copy_148 : decode mb_X12_copy 148 = .ok (.ifCond .le 10, 3) := by decide +kernel
theorem dd_X12_copy_151 : decode mb_X12_copy 151 = .ok (.aload_n 0, 1) := by decide +kernel
theorem dd_X12_copy_152 : decode mb_X12_copy 152 = .ok (.bipush (-2), 2) := by decide +kernel
theorem dd_X12_copy_154 : decode mb_X12_copy 154 = .ok (.invokevirtual 152, 3) := by decide +kernel
theorem dd_X12_copy_157 : decode mb_X12_copy 157 = .ok (.ireturn, 1) := by decide +kernel
theorem dd_X12_copy_158 : decode mb_X12_copy 158 = .ok (.iload_n 1, 1) := by decide +kernel
theorem dd_X12_copy_159 : decode mb_X12_copy 159 = .ok (.iload_n 2, 1) := by decide +kernel
theorem dd_X12_copy_160 : decode mb_X12_copy 160 = .ok (.if_icmp .ne 58, 3) := by decide +kernel
theorem dd_X12_copy_163 : decode mb_X12_copy 163 = .ok (.iload_n 3, 1) := by decide +kernel
theorem dd_X12_copy_164 : decode mb_X12_copy 164 = .ok (.iload 4, 2) := by decide +kernel
theorem dd_X12_copy_166 : decode mb_X12_copy 166 = .ok (.if_icmp .ge 52, 3) := by decide +kernel
theorem dd_X12_copy_169 : decode mb_X12_copy 169 = .ok (.iload 5, 2) := by decide +kernel
theorem dd_X12_copy_171 : decode mb_X12_copy 171 = .ok (.iconst 1, 1) := by decide +kernel
theorem dd_X12_copy_172 : decode mb_X12_copy 172 = .ok (.isub, 1) := by decide +kernel
theorem dd_X12_copy_173 : decode mb_X12_copy 173 = .ok (.istore 6, 2) := by decide +kernel
theorem dd_X12_copy_175 : decode mb_X12_copy 175 = .ok (.iload 6, 2) := by decide +kernel
theorem dd_X12_copy_177 : decode mb_X12_copy 177 = .ok (.ifCond .lt 38, 3) := by decide +kernel
theorem dd_X12_copy_180 : decode mb_X12_copy 180 = .ok (.aload_n 0, 1) := by decide +kernel
theorem dd_X12_copy_181 : decode mb_X12_copy 181 = .ok (.getfield 16, 3) := by decide +kernel
theorem dd_X12_copy_184 : decode mb_X12_copy 184 = .ok (.bipush 40, 2) := by decide +kernel
theorem dd_X12_copy_186 : decode mb_X12_copy 186 = .ok (.iload_n 2, 1) := by decide +kernel
theorem dd_X12_copy_187 : decode mb_X12_copy 187 = .ok (.imul, 1) := by decide +kernel
theorem dd_X12_copy_188 : decode mb_X12_copy 188 = .ok (.iload 4, 2) := by decide +kernel
theorem dd_X12_copy_190 : decode mb_X12_copy 190 = .ok (.iadd, 1) := by decide +kernel
theorem dd_X12_copy_191 : decode mb_X12_copy 191 = .ok (.iload 6, 2) := by decide +kernel
theorem dd_X12_copy_193 : decode mb_X12_copy 193 = .ok (.iadd, 1) := by decide +kernel
theorem dd_X12_copy_194 : decode mb_X12_copy 194 = .ok (.aload_n 0, 1) := by decide +kernel
theorem dd_X12_copy_195 : decode mb_X12_copy 195 = .ok (.getfield 16, 3) := by decide +kernel
theorem dd_X12_copy_198 : decode mb_X12_copy 198 = .ok (.bipush 40, 2) := by decide +kernel
theorem dd_X12_copy_200 : decode mb_X12_copy 200 = .ok (.iload_n 1, 1) := by decide +kernel
theorem dd_X12_copy_201 : decode mb_X12_copy 201 = .ok (.imul, 1) := by decide +kernel
theorem dd_X12_copy_202 : decode mb_X12_copy 202 = .ok (.iload_n 3, 1) := by decide +kernel
theorem dd_X12_copy_203 : decode mb_X12_copy 203 = .ok (.iadd, 1) := by decide +kernel
theorem dd_X12_copy_204 : decode mb_X12_copy 204 = .ok (.iload 6, 2) := by decide +kernel
theorem dd_X12_copy_206 : decode mb_X12_copy 206 = .ok (.iadd, 1) := by decide +kernel
theorem dd_X12_copy_207 : decode mb_X12_copy 207 = .ok (.laload, 1) := by decide +kernel
theorem dd_X12_copy_208 : decode mb_X12_copy 208 = .ok (.lastore, 1) := by decide +kernel
theorem dd_X12_copy_209 : decode mb_X12_copy 209 = .ok (.iinc 6 (-1), 3) := by decide +kernel
theorem dd_X12_copy_212 : decode mb_X12_copy 212 = .ok (.goto (-37), 3) := by decide +kernel
theorem dd_X12_copy_215 : decode mb_X12_copy 215 = .ok (.goto 48, 3) := by decide +kernel
theorem dd_X12_copy_218 : decode mb_X12_copy 218 = .ok (.iconst 0, 1) := by decide +kernel
theorem dd_X12_copy_219 : decode mb_X12_copy 219 = .ok (.istore 6, 2) := by decide +kernel
theorem dd_X12_copy_221 : decode mb_X12_copy 221 = .ok (.iload 6, 2) := by decide +kernel
theorem dd_X12_copy_223 : decode mb_X12_copy 223 = .ok (.iload 5, 2) := by decide +kernel
theorem dd_X12_copy_225 : decode mb_X12_copy 225 = .ok (.if_icmp .ge 38, 3) := by decide +kernel
theorem dd_X12_copy_228 : decode mb_X12_copy 228 = .ok (.aload_n 0, 1) := by decide +kernel
theorem dd_X12_copy_229 : decode mb_X12_copy 229 = .ok (.getfield 16, 3) := by decide +kernel
theorem dd_X12_copy_232 : decode mb_X12_copy 232 = .ok (.bipush 40, 2) := by decide +kernel
theorem dd_X12_copy_234 : decode mb_X12_copy 234 = .ok (.iload_n 2, 1) := by decide +kernel
theorem dd_X12_copy_235 : decode mb_X12_copy 235 = .ok (.imul, 1) := by decide +kernel
theorem dd_X12_copy_236 : decode mb_X12_copy 236 = .ok (.iload 4, 2) := by decide +kernel
theorem dd_X12_copy_238 : decode mb_X12_copy 238 = .ok (.iadd, 1) := by decide +kernel
theorem dd_X12_copy_239 : decode mb_X12_copy 239 = .ok (.iload 6, 2) := by decide +kernel
theorem dd_X12_copy_241 : decode mb_X12_copy 241 = .ok (.iadd, 1) := by decide +kernel
theorem dd_X12_copy_242 : decode mb_X12_copy 242 = .ok (.aload_n 0, 1) := by decide +kernel
theorem dd_X12_copy_243 : decode mb_X12_copy 243 = .ok (.getfield 16, 3) := by decide +kernel
theorem dd_X12_copy_246 : decode mb_X12_copy 246 = .ok (.bipush 40, 2) := by decide +kernel
theorem dd_X12_copy_248 : decode mb_X12_copy 248 = .ok (.iload_n 1, 1) := by decide +kernel
theorem dd_X12_copy_249 : decode mb_X12_copy 249 = .ok (.imul, 1) := by decide +kernel
theorem dd_X12_copy_250 : decode mb_X12_copy 250 = .ok (.iload_n 3, 1) := by decide +kernel
theorem dd_X12_copy_251 : decode mb_X12_copy 251 = .ok (.iadd, 1) := by decide +kernel
theorem dd_X12_copy_252 : decode mb_X12_copy 252 = .ok (.iload 6, 2) := by decide +kernel
theorem dd_X12_copy_254 : decode mb_X12_copy 254 = .ok (.iadd, 1) := by decide +kernel
theorem dd_X12_copy_255 : decode mb_X12_copy 255 = .ok (.laload, 1) := by decide +kernel
theorem dd_X12_copy_256 : decode mb_X12_copy 256 = .ok (.lastore, 1) := by decide +kernel
theorem dd_X12_copy_257 : decode mb_X12_copy 257 = .ok (.iinc 6 1, 3) := by decide +kernel
theorem dd_X12_copy_260 : decode mb_X12_copy 260 = .ok (.goto (-39), 3) := by decide +kernel
theorem dd_X12_copy_263 : decode mb_X12_copy 263 = .ok (.iload 5, 2) := by decide +kernel
theorem dd_X12_copy_265 : decode mb_X12_copy 265 = .ok (.ireturn, 1) := by decide +kernel
theorem dd_X12_costIn_0 : decode mb_X12_costIn 0 = .ok (.iload_n 2, 1) := by decide +kernel
theorem dd_X12_costIn_1 : decode mb_X12_costIn 1 = .ok (.iload 4, 2) := by decide +kernel
theorem dd_X12_costIn_3 : decode mb_X12_costIn 3 = .ok (.if_icmp .lt 6, 3) := by decide +kernel
theorem dd_X12_costIn_6 : decode mb_X12_costIn 6 = .ok (.bipush 10, 2) := by decide +kernel
theorem dd_X12_costIn_8 : decode mb_X12_costIn 8 = .ok (.ireturn, 1) := by decide +kernel
theorem dd_X12_costIn_9 : decode mb_X12_costIn 9 = .ok (.iload_n 2, 1) := by decide +kernel
theorem dd_X12_costIn_10 : decode mb_X12_costIn 10 = .ok (.iload_n 3, 1) := by decide +kernel
theorem dd_X12_costIn_11 : decode mb_X12_costIn 11 = .ok (.if_icmp .lt 14, 3) := by decide +kernel
theorem dd_X12_costIn_14 : decode mb_X12_costIn 14 = .ok (.aload_n 0, 1) := by decide +kernel
theorem dd_X12_costIn_15 : decode mb_X12_costIn 15 = .ok (.getfield 29, 3) := by decide +kernel
theorem dd_X12_costIn_18 : decode mb_X12_costIn 18 = .ok (.iload_n 1, 1) := by decide +kernel
theorem dd_X12_costIn_19 : decode mb_X12_costIn 19 = .ok (.iaload, 1) := by decide +kernel
theorem dd_X12_costIn_20 : decode mb_X12_costIn 20 = .ok (.iconst 2, 1) := by decide +kernel
theorem dd_X12_costIn_21 : decode mb_X12_costIn 21 = .ok (.idiv, 1) := by decide +kernel
theorem dd_X12_costIn_22 : decode mb_X12_costIn 22 = .ok (.goto 9, 3) := by decide +kernel
theorem dd_X12_costIn_25 : decode mb_X12_costIn 25 = .ok (.aload_n 0, 1) := by decide +kernel
theorem dd_X12_costIn_26 : decode mb_X12_costIn 26 = .ok (.getfield 29, 3) := by decide +kernel
theorem dd_X12_costIn_29 : decode mb_X12_costIn 29 = .ok (.iload_n 1, 1) := by decide +kernel
theorem dd_X12_costIn_30 : decode mb_X12_costIn 30 = .ok (.iaload, 1) := by decide +kernel
theorem dd_X12_costIn_31 : decode mb_X12_costIn 31 = .ok (.ireturn, 1) := by decide +kernel
theorem dd_X12_costs_0 : decode mb_X12_costs 0 = .ok (.aload_n 0, 1) := by decide +kernel
theorem dd_X12_costs_1 : decode mb_X12_costs 1 = .ok (.iload_n 1, 1) := by decide +kernel
theorem dd_X12_costs_2 : decode mb_X12_costs 2 = .ok (.invokevirtual 165, 3) := by decide +kernel
theorem dd_X12_costs_5 : decode mb_X12_costs 5 = .ok (.ifCond .eq 11, 3) := by decide +kernel
theorem dd_X12_costs_8 : decode mb_X12_costs 8 = .ok (.aload_n 0, 1) := by decide +kernel
theorem dd_X12_costs_9 : decode mb_X12_costs 9 = .ok (.iload_n 2, 1) := by decide +kernel
theorem dd_X12_costs_10 : decode mb_X12_costs 10 = .ok (.invokevirtual 248, 3) := by decide +kernel
theorem dd_X12_costs_13 : decode mb_X12_costs 13 = .ok (.ifCond .ne 10, 3) := by decide +kernel
theorem dd_X12_costs_16 : decode mb_X12_costs 16 = .ok (.aload_n 0, 1) := by decide +kernel
theorem dd_X12_costs_17 : decode mb_X12_costs 17 = .ok (.bipush (-2), 2) := by decide +kernel
theorem dd_X12_costs_19 : decode mb_X12_costs 19 = .ok (.invokevirtual 152, 3) := by decide +kernel
theorem dd_X12_costs_22 : decode mb_X12_costs 22 = .ok (.ireturn, 1) := by decide +kernel
theorem dd_X12_costs_23 : decode mb_X12_costs 23 = .ok (.aload_n 0, 1) := by decide +kernel
theorem dd_X12_costs_24 : decode mb_X12_costs 24 = .ok (.getfield 29, 3) := by decide +kernel
theorem dd_X12_costs_27 : decode mb_X12_costs 27 = .ok (.iload_n 1, 1) := by decide +kernel
theorem dd_X12_costs_28 : decode mb_X12_costs 28 = .ok (.iaload, 1) := by decide +kernel
theorem dd_X12_costs_29 : decode mb_X12_costs 29 = .ok (.ifCond .ge 7, 3) := by decide +kernel
theorem dd_X12_costs_32 : decode mb_X12_costs 32 = .ok (.iconst (-1), 1) := by decide +kernel
theorem dd_X12_costs_33 : decode mb_X12_costs 33 = .ok (.goto 21, 3) := by decide +kernel
theorem dd_X12_costs_36 : decode mb_X12_costs 36 = .ok (.aload_n 0, 1) := by decide +kernel
theorem dd_X12_costs_37 : decode mb_X12_costs 37 = .ok (.iload_n 1, 1) := by decide +kernel
theorem dd_X12_costs_38 : decode mb_X12_costs 38 = .ok (.iload_n 2, 1) := by decide +kernel
theorem dd_X12_costs_39 : decode mb_X12_costs 39 = .ok (.aload_n 0, 1) := by decide +kernel
theorem dd_X12_costs_40 : decode mb_X12_costs 40 = .ok (.getfield 92, 3) := by decide +kernel
theorem dd_X12_costs_43 : decode mb_X12_costs 43 = .ok (.iconst 0, 1) := by decide +kernel
theorem dd_X12_costs_44 : decode mb_X12_costs 44 = .ok (.iaload, 1) := by decide +kernel
theorem dd_X12_costs_45 : decode mb_X12_costs 45 = .ok (.aload_n 0, 1) := by decide +kernel
theorem dd_X12_costs_46 : decode mb_X12_costs 46 = .ok (.getfield 92, 3) := by decide +kernel
theorem dd_X12_costs_49 : decode mb_X12_costs 49 = .ok (.iconst 1, 1) := by decide +kernel
theorem dd_X12_costs_50 : decode mb_X12_costs 50 = .ok (.iaload, 1) := by decide +kernel
theorem dd_X12_costs_51 : decode mb_X12_costs 51 = .ok (.invokevirtual 254, 3) := by decide +kernel
theorem dd_X12_costs_54 : decode mb_X12_costs 54 = .ok (.ireturn, 1) := by decide +kernel
theorem dd_X12_day_0 : decode mb_X12_day 0 = .ok (.iload_n 1, 1) := by decide +kernel
theorem dd_X12_day_1 : decode mb_X12_day 1 = .ok (.ifCond .lt 8, 3) := by decide +kernel
theorem dd_X12_day_4 : decode mb_X12_day 4 = .ok (.iload_n 1, 1) := by decide +kernel
theorem dd_X12_day_5 : decode mb_X12_day 5 = .ok (.iconst 3, 1) := by decide +kernel
theorem dd_X12_day_6 : decode mb_X12_day 6 = .ok (.if_icmp .le 10, 3) := by decide +kernel
theorem dd_X12_day_9 : decode mb_X12_day 9 = .ok (.aload_n 0, 1) := by decide +kernel
theorem dd_X12_day_10 : decode mb_X12_day 10 = .ok (.bipush (-2), 2) := by decide +kernel
theorem dd_X12_day_12 : decode mb_X12_day 12 = .ok (.invokevirtual 152, 3) := by decide +kernel
theorem dd_X12_day_15 : decode mb_X12_day 15 = .ok (.ireturn, 1) := by decide +kernel
theorem dd_X12_day_16 : decode mb_X12_day 16 = .ok (.iload_n 1, 1) := by decide +kernel
theorem dd_X12_day_17 : decode mb_X12_day 17 = .ok (.iconst 2, 1) := by decide +kernel
theorem dd_X12_day_18 : decode mb_X12_day 18 = .ok (.if_icmp .ge 12, 3) := by decide +kernel
theorem dd_X12_day_21 : decode mb_X12_day 21 = .ok (.aload_n 0, 1) := by decide +kernel
theorem dd_X12_day_22 : decode mb_X12_day 22 = .ok (.getfield 92, 3) := by decide +kernel
theorem dd_X12_day_25 : decode mb_X12_day 25 = .ok (.iconst 2, 1) := by decide +kernel
theorem dd_X12_day_26 : decode mb_X12_day 26 = .ok (.iload_n 1, 1) := by decide +kernel
theorem dd_X12_day_27 : decode mb_X12_day 27 = .ok (.iadd, 1) := by decide +kernel
theorem dd_X12_day_28 : decode mb_X12_day 28 = .ok (.iaload, 1) := by decide +kernel
theorem dd_X12_day_29 : decode mb_X12_day 29 = .ok (.ireturn, 1) := by decide +kernel
theorem dd_X12_day_30 : decode mb_X12_day 30 = .ok (.iload_n 1, 1) := by decide +kernel
theorem dd_X12_day_31 : decode mb_X12_day 31 = .ok (.iconst 2, 1) := by decide +kernel
theorem dd_X12_day_32 : decode mb_X12_day 32 = .ok (.if_icmp .ne 10, 3) := by decide +kernel
theorem dd_X12_day_35 : decode mb_X12_day 35 = .ok (.aload_n 0, 1) := by decide +kernel
theorem dd_X12_day_36 : decode mb_X12_day 36 = .ok (.invokevirtual 270, 3) := by decide +kernel
theorem dd_X12_day_39 : decode mb_X12_day 39 = .ok (.goto 12, 3) := by decide +kernel
theorem dd_X12_day_42 : decode mb_X12_day 42 = .ok (.aload_n 0, 1) := by decide +kernel
theorem dd_X12_day_43 : decode mb_X12_day 43 = .ok (.getfield 135, 3) := by decide +kernel
theorem dd_X12_day_46 : decode mb_X12_day 46 = .ok (.aload_n 0, 1) := by decide +kernel
theorem dd_X12_day_47 : decode mb_X12_day 47 = .ok (.invokevirtual 270, 3) := by decide +kernel
theorem dd_X12_day_50 : decode mb_X12_day 50 = .ok (.isub, 1) := by decide +kernel
theorem dd_X12_day_51 : decode mb_X12_day 51 = .ok (.ireturn, 1) := by decide +kernel
theorem dd_X12_element_0 : decode mb_X12_element 0 = .ok (.aload_n 0, 1) := by decide +kernel
theorem dd_X12_element_1 : decode mb_X12_element 1 = .ok (.iload_n 1, 1) := by decide +kernel
theorem dd_X12_element_2 : decode mb_X12_element 2 = .ok (.invokevirtual 148, 3) := by decide +kernel
theorem dd_X12_element_5 : decode mb_X12_element 5 = .ok (.ifCond .eq 25, 3) := by decide +kernel
theorem dd_X12_element_8 : decode mb_X12_element 8 = .ok (.aload_n 0, 1) := by decide +kernel
theorem dd_X12_element_9 : decode mb_X12_element 9 = .ok (.iload_n 1, 1) := by decide +kernel
theorem dd_X12_element_10 : decode mb_X12_element 10 = .ok (.invokevirtual 162, 3) := by decide +kernel
theorem dd_X12_element_13 : decode mb_X12_element 13 = .ok (.ifCond .eq 17, 3) := by decide +kernel
theorem dd_X12_element_16 : decode mb_X12_element 16 = .ok (.iload_n 2, 1) := by decide +kernel
theorem dd_X12_element_17 : decode mb_X12_element 17 = .ok (.ifCond .lt 13, 3) := by decide +kernel
theorem dd_X12_element_20 : decode mb_X12_element 20 = .ok (.iload_n 2, 1) := by decide +kernel
theorem dd_X12_element_21 : decode mb_X12_element 21 = .ok (.aload_n 0, 1) := by decide +kernel
theorem dd_X12_element_22 : decode mb_X12_element 22 = .ok (.getfield 13, 3) := by decide +kernel
theorem dd_X12_element_25 : decode mb_X12_element 25 = .ok (.iload_n 1, 1) := by decide +kernel
theorem dd_X12_element_26 : decode mb_X12_element 26 = .ok (.iaload, 1) := by decide +kernel
theorem dd_X12_element_27 : decode mb_X12_element 27 = .ok (.if_icmp .lt 5, 3) := by decide +kernel
theorem dd_X12_element_30 : decode mb_X12_element 30 = .ok (.lconst 0, 1) := by decide +kernel
theorem dd_X12_element_31 : decode mb_X12_element 31 = .ok (.lreturn, 1) := by decide +kernel
theorem dd_X12_element_32 : decode mb_X12_element 32 = .ok (.aload_n 0, 1) := by decide +kernel
theorem dd_X12_element_33 : decode mb_X12_element 33 = .ok (.getfield 16, 3) := by decide +kernel
theorem dd_X12_element_36 : decode mb_X12_element 36 = .ok (.bipush 40, 2) := by decide +kernel
theorem dd_X12_element_38 : decode mb_X12_element 38 = .ok (.iload_n 1, 1) := by decide +kernel
theorem dd_X12_element_39 : decode mb_X12_element 39 = .ok (.imul, 1) := by decide +kernel
theorem dd_X12_element_40 : decode mb_X12_element 40 = .ok (.iload_n 2, 1) := by decide +kernel
theorem dd_X12_element_41 : decode mb_X12_element 41 = .ok (.iadd, 1) := by decide +kernel
theorem dd_X12_element_42 : decode mb_X12_element 42 = .ok (.laload, 1) := by decide +kernel
theorem dd_X12_element_43 : decode mb_X12_element 43 = .ok (.lreturn, 1) := by decide +kernel
theorem dd_X12_feed_0 : decode mb_X12_feed 0 = .ok (.iload_n 2, 1) := by decide +kernel
theorem dd_X12_feed_1 : decode mb_X12_feed 1 = .ok (.iconst 1, 1) := by decide +kernel
theorem dd_X12_feed_2 : decode mb_X12_feed 2 = .ok (.if_icmp .lt 8, 3) := by decide +kernel
theorem dd_X12_feed_5 : decode mb_X12_feed 5 = .ok (.iload_n 2, 1) := by decide +kernel
theorem dd_X12_feed_6 : decode mb_X12_feed 6 = .ok (.iconst 4, 1) := by decide +kernel
theorem dd_X12_feed_7 : decode mb_X12_feed 7 = .ok (.if_icmp .le 10, 3) := by decide +kernel
theorem dd_X12_feed_10 : decode mb_X12_feed 10 = .ok (.aload_n 0, 1) := by decide +kernel
theorem dd_X12_feed_11 : decode mb_X12_feed 11 = .ok (.bipush (-2), 2) := by decide +kernel
theorem dd_X12_feed_13 : decode mb_X12_feed 13 = .ok (.invokevirtual 152, 3) := by decide +kernel
theorem dd_X12_feed_16 : decode mb_X12_feed 16 = .ok (.ireturn, 1) := by decide +kernel
theorem dd_X12_feed_17 : decode mb_X12_feed 17 = .ok (.aload_n 0, 1) := by decide +kernel
theorem dd_X12_feed_18 : decode mb_X12_feed 18 = .ok (.getfield 199, 3) := by decide +kernel
theorem dd_X12_feed_21 : decode mb_X12_feed 21 = .ok (.iload_n 2, 1) := by decide +kernel
theorem dd_X12_feed_22 : decode mb_X12_feed 22 = .ok (.iadd, 1) := by decide +kernel
theorem dd_X12_feed_23 : decode mb_X12_feed 23 = .ok (.bipush 120, 2) := by decide +kernel
theorem dd_X12_feed_25 : decode mb_X12_feed 25 = .ok (.if_icmp .le 10, 3) := by decide +kernel
theorem dd_X12_feed_28 : decode mb_X12_feed 28 = .ok (.aload_n 0, 1) := by decide +kernel
theorem dd_X12_feed_29 : decode mb_X12_feed 29 = .ok (.bipush (-6), 2) := by decide +kernel
theorem dd_X12_feed_31 : decode mb_X12_feed 31 = .ok (.invokevirtual 152, 3) := by decide +kernel
theorem dd_X12_feed_34 : decode mb_X12_feed 34 = .ok (.ireturn, 1) := by decide +kernel
theorem dd_X12_feed_35 : decode mb_X12_feed 35 = .ok (.iload_n 2, 1) := by decide +kernel
theorem dd_X12_feed_36 : decode mb_X12_feed 36 = .ok (.iconst 1, 1) := by decide +kernel
theorem dd_X12_feed_37 : decode mb_X12_feed 37 = .ok (.isub, 1) := by decide +kernel
theorem dd_X12_feed_38 : decode mb_X12_feed 38 = .ok (.istore_n 3, 1) := by decide +kernel
theorem dd_X12_feed_39 : decode mb_X12_feed 39 = .ok (.iload_n 3, 1) := by decide +kernel
theorem dd_X12_feed_40 : decode mb_X12_feed 40 = .ok (.ifCond .lt 35, 3) := by decide +kernel
theorem dd_X12_feed_43 : decode mb_X12_feed 43 = .ok (.aload_n 0, 1) := by decide +kernel
theorem dd_X12_feed_44 : decode mb_X12_feed 44 = .ok (.getfield 50, 3) := by decide +kernel
theorem dd_X12_feed_47 : decode mb_X12_feed 47 = .ok (.aload_n 0, 1) := by decide +kernel
theorem dd_X12_feed_48 : decode mb_X12_feed 48 = .ok (.dup, 1) := by decide +kernel
theorem dd_X12_feed_49 : decode mb_X12_feed 49 = .ok (.getfield 199, 3) := by decide +kernel
theorem dd_X12_feed_52 : decode mb_X12_feed 52 = .ok (.dup_x1, 1) := by decide +kernel
theorem dd_X12_feed_53 : decode mb_X12_feed 53 = .ok (.iconst 1, 1) := by decide +kernel
theorem dd_X12_feed_54 : decode mb_X12_feed 54 = .ok (.iadd, 1) := by decide +kernel
theorem dd_X12_feed_55 : decode mb_X12_feed 55 = .ok (.putfield 199, 3) := by decide +kernel
theorem dd_X12_feed_58 : decode mb_X12_feed 58 = .ok (.iload_n 1, 1) := by decide +kernel
theorem dd_X12_feed_59 : decode mb_X12_feed 59 = .ok (.bipush 8, 2) := by decide +kernel
theorem dd_X12_feed_61 : decode mb_X12_feed 61 = .ok (.iload_n 3, 1) := by decide +kernel
theorem dd_X12_feed_62 : decode mb_X12_feed 62 = .ok (.imul, 1) := by decide +kernel
theorem dd_X12_feed_63 : decode mb_X12_feed 63 = .ok (.ishr, 1) := by decide +kernel
theorem dd_X12_feed_64 : decode mb_X12_feed 64 = .ok (.sipush 255, 3) := by decide +kernel
theorem dd_X12_feed_67 : decode mb_X12_feed 67 = .ok (.iand, 1) := by decide +kernel
theorem dd_X12_feed_68 : decode mb_X12_feed 68 = .ok (.iastore, 1) := by decide +kernel
theorem dd_X12_feed_69 : decode mb_X12_feed 69 = .ok (.iinc 3 (-1), 3) := by decide +kernel
theorem dd_X12_feed_72 : decode mb_X12_feed 72 = .ok (.goto (-33), 3) := by decide +kernel
theorem dd_X12_feed_75 : decode mb_X12_feed 75 = .ok (.aload_n 0, 1) := by decide +kernel
theorem dd_X12_feed_76 : decode mb_X12_feed 76 = .ok (.getfield 199, 3) := by decide +kernel
theorem dd_X12_feed_79 : decode mb_X12_feed 79 = .ok (.ireturn, 1) := by decide +kernel
theorem dd_X12_finest_0 : decode mb_X12_finest 0 = .ok (.iconst (-1), 1) := by decide +kernel
theorem dd_X12_finest_1 : decode mb_X12_finest 1 = .ok (.istore_n 2, 1) := by decide +kernel
theorem dd_X12_finest_2 : decode mb_X12_finest 2 = .ok (.iconst 0, 1) := by decide +kernel
theorem dd_X12_finest_3 : decode mb_X12_finest 3 = .ok (.istore_n 3, 1) := by decide +kernel
theorem dd_X12_finest_4 : decode mb_X12_finest 4 = .ok (.iload_n 3, 1) := by decide +kernel
theorem dd_X12_finest_5 : decode mb_X12_finest 5 = .ok (.aload_n 0, 1) := by decide +kernel
theorem dd_X12_finest_6 : decode mb_X12_finest 6 = .ok (.getfield 135, 3) := by decide +kernel
theorem dd_X12_finest_9 : decode mb_X12_finest 9 = .ok (.if_icmp .ge 54, 3) := by decide +kernel
theorem dd_X12_finest_12 : decode mb_X12_finest 12 = .ok (.aload_n 0, 1) := by decide +kernel
theorem dd_X12_finest_13 : decode mb_X12_finest 13 = .ok (.getfield 104, 3) := by decide +kernel
theorem dd_X12_finest_16 : decode mb_X12_finest 16 = .ok (.iload_n 3, 1) := by decide +kernel
theorem dd_X12_finest_17 : decode mb_X12_finest 17 = .ok (.baload, 1) := by decide +kernel
theorem dd_X12_finest_18 : decode mb_X12_finest 18 = .ok (.ifCond .ne 39, 3) := by decide +kernel
theorem dd_X12_finest_21 : decode mb_X12_finest 21 = .ok (.aload_n 0, 1) := by decide +kernel
theorem dd_X12_finest_22 : decode mb_X12_finest 22 = .ok (.iload_n 1, 1) := by decide +kernel
theorem dd_X12_finest_23 : decode mb_X12_finest 23 = .ok (.aload_n 0, 1) := by decide +kernel
theorem dd_X12_finest_24 : decode mb_X12_finest 24 = .ok (.getfield 20, 3) := by decide +kernel
theorem dd_X12_finest_27 : decode mb_X12_finest 27 = .ok (.iload_n 3, 1) := by decide +kernel
theorem dd_X12_finest_28 : decode mb_X12_finest 28 = .ok (.iaload, 1) := by decide +kernel
theorem dd_X12_finest_29 : decode mb_X12_finest 29 = .ok (.invokevirtual 181, 3) := by decide +kernel
theorem dd_X12_finest_32 : decode mb_X12_finest 32 = .ok (.ifCond .ne 6, 3) := by decide +kernel
theorem dd_X12_finest_35 : decode mb_X12_finest 35 = .ok (.goto 22, 3) := by decide +kernel
theorem dd_X12_finest_38 : decode mb_X12_finest 38 = .ok (.iload_n 2, 1) := by decide +kernel
theorem dd_X12_finest_39 : decode mb_X12_finest 39 = .ok (.ifCond .lt 16, 3) := by decide +kernel
theorem dd_X12_finest_42 : decode mb_X12_finest 42 = .ok (.aload_n 0, 1) := by decide +kernel
theorem dd_X12_finest_43 : decode mb_X12_finest 43 = .ok (.iload_n 3, 1) := by decide +kernel
theorem dd_X12_finest_44 : decode mb_X12_finest 44 = .ok (.invokevirtual 175, 3) := by decide +kernel
theorem dd_X12_finest_47 : decode mb_X12_finest 47 = .ok (.aload_n 0, 1) := by decide +kernel
theorem dd_X12_finest_48 : decode mb_X12_finest 48 = .ok (.iload_n 2, 1) := by decide +kernel
theorem dd_X12_finest_49 : decode mb_X12_finest 49 = .ok (.invokevirtual 175, 3) := by decide +kernel
theorem dd_X12_finest_52 : decode mb_X12_finest 52 = .ok (.if_icmp .lt 5, 3) := by decide +kernel
theorem dd_X12_finest_55 : decode mb_X12_finest 55 = .ok (.iload_n 3, 1) := by decide +kernel
theorem dd_X12_finest_56 : decode mb_X12_finest 56 = .ok (.istore_n 2, 1) := by decide +kernel
theorem dd_X12_finest_57 : decode mb_X12_finest 57 = .ok (.iinc 3 1, 3) := by decide +kernel
theorem dd_X12_finest_60 : decode mb_X12_finest 60 = .ok (.goto (-56), 3) := by decide +kernel
theorem dd_X12_finest_63 : decode mb_X12_finest 63 = .ok (.iload_n 2, 1) := by decide +kernel
theorem dd_X12_finest_64 : decode mb_X12_finest 64 = .ok (.ireturn, 1) := by decide +kernel
theorem dd_X12_fits_0 : decode mb_X12_fits 0 = .ok (.iconst 0, 1) := by decide +kernel
theorem dd_X12_fits_1 : decode mb_X12_fits 1 = .ok (.istore_n 2, 1) := by decide +kernel
theorem dd_X12_fits_2 : decode mb_X12_fits 2 = .ok (.iload_n 2, 1) := by decide +kernel
theorem dd_X12_fits_3 : decode mb_X12_fits 3 = .ok (.bipush 32, 2) := by decide +kernel
theorem dd_X12_fits_5 : decode mb_X12_fits 5 = .ok (.if_icmp .ge 97, 3) := by decide +kernel
theorem dd_X12_fits_8 : decode mb_X12_fits 8 = .ok (.iconst 0, 1) := by decide +kernel
theorem dd_X12_fits_9 : decode mb_X12_fits 9 = .ok (.istore_n 3, 1) := by decide +kernel
theorem dd_X12_fits_10 : decode mb_X12_fits 10 = .ok (.iconst 0, 1) := by decide +kernel
theorem dd_X12_fits_11 : decode mb_X12_fits 11 = .ok (.istore 4, 2) := by decide +kernel
theorem dd_X12_fits_13 : decode mb_X12_fits 13 = .ok (.iload 4, 2) := by decide +kernel
theorem dd_X12_fits_15 : decode mb_X12_fits 15 = .ok (.iconst 5, 1) := by decide +kernel
theorem dd_X12_fits_16 : decode mb_X12_fits 16 = .ok (.if_icmp .ge 29, 3) := by decide +kernel
theorem dd_X12_fits_19 : decode mb_X12_fits 19 = .ok (.aload_n 0, 1) := by decide +kernel
theorem dd_X12_fits_20 : decode mb_X12_fits 20 = .ok (.iload_n 2, 1) := by decide +kernel
theorem dd_X12_fits_21 : decode mb_X12_fits 21 = .ok (.iload 4, 2) := by decide +kernel
theorem dd_X12_fits_23 : decode mb_X12_fits 23 = .ok (.invokevirtual 181, 3) := by decide +kernel
theorem dd_X12_fits_26 : decode mb_X12_fits 26 = .ok (.ifCond .eq 13, 3) := by decide +kernel
theorem dd_X12_fits_29 : decode mb_X12_fits 29 = .ok (.iload_n 3, 1) := by decide +kernel
theorem dd_X12_fits_30 : decode mb_X12_fits 30 = .ok (.aload_n 0, 1) := by decide +kernel
theorem dd_X12_fits_31 : decode mb_X12_fits 31 = .ok (.getfield 129, 3) := by decide +kernel
theorem dd_X12_fits_34 : decode mb_X12_fits 34 = .ok (.iload 4, 2) := by decide +kernel
theorem dd_X12_fits_36 : decode mb_X12_fits 36 = .ok (.iaload, 1) := by decide +kernel
theorem dd_X12_fits_37 : decode mb_X12_fits 37 = .ok (.iadd, 1) := by decide +kernel
theorem dd_X12_fits_38 : decode mb_X12_fits 38 = .ok (.istore_n 3, 1) := by decide +kernel
theorem dd_X12_fits_39 : decode mb_X12_fits 39 = .ok (.iinc 4 1, 3) := by decide +kernel
theorem dd_X12_fits_42 : decode mb_X12_fits 42 = .ok (.goto (-29), 3) := by decide +kernel
theorem dd_X12_fits_45 : decode mb_X12_fits 45 = .ok (.iload_n 1, 1) := by decide +kernel
theorem dd_X12_fits_46 : decode mb_X12_fits 46 = .ok (.istore 4, 2) := by decide +kernel
theorem dd_X12_fits_48 : decode mb_X12_fits 48 = .ok (.iload 4, 2) := by decide +kernel
theorem dd_X12_fits_50 : decode mb_X12_fits 50 = .ok (.aload_n 0, 1) := by decide +kernel
theorem dd_X12_fits_51 : decode mb_X12_fits 51 = .ok (.getfield 135, 3) := by decide +kernel
theorem dd_X12_fits_54 : decode mb_X12_fits 54 = .ok (.if_icmp .ge 36, 3) := by decide +kernel
theorem dd_X12_fits_57 : decode mb_X12_fits 57 = .ok (.aload_n 0, 1) := by decide +kernel
theorem dd_X12_fits_58 : decode mb_X12_fits 58 = .ok (.getfield 126, 3) := by decide +kernel
theorem dd_X12_fits_61 : decode mb_X12_fits 61 = .ok (.iload 4, 2) := by decide +kernel
theorem dd_X12_fits_63 : decode mb_X12_fits 63 = .ok (.iaload, 1) := by decide +kernel
theorem dd_X12_fits_64 : decode mb_X12_fits 64 = .ok (.ifCond .lt 20, 3) := by decide +kernel
theorem dd_X12_fits_67 : decode mb_X12_fits 67 = .ok (.aload_n 0, 1) := by decide +kernel
theorem dd_X12_fits_68 : decode mb_X12_fits 68 = .ok (.getfield 126, 3) := by decide +kernel
theorem dd_X12_fits_71 : decode mb_X12_fits 71 = .ok (.iload 4, 2) := by decide +kernel
theorem dd_X12_fits_73 : decode mb_X12_fits 73 = .ok (.iaload, 1) := by decide +kernel
theorem dd_X12_fits_74 : decode mb_X12_fits 74 = .ok (.iload_n 2, 1) := by decide +kernel
theorem dd_X12_fits_75 : decode mb_X12_fits 75 = .ok (.iconst (-1), 1) := by decide +kernel
theorem dd_X12_fits_76 : decode mb_X12_fits 76 = .ok (.ixor, 1) := by decide +kernel
theorem dd_X12_fits_77 : decode mb_X12_fits 77 = .ok (.iand, 1) := by decide +kernel
theorem dd_X12_fits_78 : decode mb_X12_fits 78 = .ok (.ifCond .ne 6, 3) := by decide +kernel
theorem dd_X12_fits_81 : decode mb_X12_fits 81 = .ok (.iinc 3 (-1), 3) := by decide +kernel
theorem dd_X12_fits_84 : decode mb_X12_fits 84 = .ok (.iinc 4 1, 3) := by decide +kernel
theorem dd_X12_fits_87 : decode mb_X12_fits 87 = .ok (.goto (-39), 3) := by decide +kernel
theorem dd_X12_fits_90 : decode mb_X12_fits 90 = .ok (.iload_n 3, 1) := by decide +kernel
theorem dd_X12_fits_91 : decode mb_X12_fits 91 = .ok (.ifCond .ge 5, 3) := by decide +kernel
theorem dd_X12_fits_94 : decode mb_X12_fits 94 = .ok (.iconst 0, 1) := by decide +kernel
theorem dd_X12_fits_95 : decode mb_X12_fits 95 = .ok (.ireturn, 1) := by decide +kernel
theorem dd_X12_fits_96 : decode mb_X12_fits 96 = .ok (.iinc 2 1, 3) := by decide +kernel
theorem dd_X12_fits_99 : decode mb_X12_fits 99 = .ok (.goto (-97), 3) := by decide +kernel
theorem dd_X12_fits_102 : decode mb_X12_fits 102 = .ok (.iconst 1, 1) := by decide +kernel
theorem dd_X12_fits_103 : decode mb_X12_fits 103 = .ok (.ireturn, 1) := by decide +kernel
theorem dd_X12_follow_0 : decode mb_X12_follow 0 = .ok (.iconst 0, 1) := by decide +kernel
theorem dd_X12_follow_1 : decode mb_X12_follow 1 = .ok (.istore_n 2, 1) := by decide +kernel
theorem dd_X12_follow_2 : decode mb_X12_follow 2 = .ok (.iload_n 2, 1) := by decide +kernel
theorem dd_X12_follow_3 : decode mb_X12_follow 3 = .ok (.aload_n 0, 1) := by decide +kernel
theorem dd_X12_follow_4 : decode mb_X12_follow 4 = .ok (.getfield 279, 3) := by decide +kernel
theorem dd_X12_follow_7 : decode mb_X12_follow 7 = .ok (.if_icmp .ge 16, 3) := by decide +kernel
theorem dd_X12_follow_10 : decode mb_X12_follow 10 = .ok (.aload_n 0, 1) := by decide +kernel
theorem dd_X12_follow_11 : decode mb_X12_follow 11 = .ok (.getfield 120, 3) := by decide +kernel
theorem dd_X12_follow_14 : decode mb_X12_follow 14 = .ok (.iload_n 2, 1) := by decide +kernel
theorem dd_X12_follow_15 : decode mb_X12_follow 15 = .ok (.iconst (-1), 1) := by decide +kernel
theorem dd_X12_follow_16 : decode mb_X12_follow 16 = .ok (.iastore, 1) := by decide +kernel
theorem dd_X12_follow_17 : decode mb_X12_follow 17 = .ok (.iinc 2 1, 3) := by decide +kernel
theorem dd_X12_follow_20 : decode mb_X12_follow 20 = .ok (.goto (-18), 3) := by decide +kernel
theorem dd_X12_follow_23 : decode mb_X12_follow 23 = .ok (.iconst 0, 1) := by decide +kernel
theorem dd_X12_follow_24 : decode mb_X12_follow 24 = .ok (.istore_n 2, 1) := by decide +kernel
theorem dd_X12_follow_25 : decode mb_X12_follow 25 = .ok (.aload_n 0, 1) := by decide +kernel
theorem dd_X12_follow_26 : decode mb_X12_follow 26 = .ok (.getfield 123, 3) := by decide +kernel
theorem dd_X12_follow_29 : decode mb_X12_follow 29 = .ok (.iload_n 2, 1) := by decide +kernel
theorem dd_X12_follow_30 : decode mb_X12_follow 30 = .ok (.iinc 2 1, 3) := by decide +kernel
theorem dd_X12_follow_33 : decode mb_X12_follow 33 = .ok (.iload_n 1, 1) := by decide +kernel
theorem dd_X12_follow_34 : decode mb_X12_follow 34 = .ok (.iastore, 1) := by decide +kernel
theorem dd_X12_follow_35 : decode mb_X12_follow 35 = .ok (.iconst 0, 1) := by decide +kernel
theorem dd_X12_follow_36 : decode mb_X12_follow 36 = .ok (.istore_n 3, 1) := by decide +kernel
theorem dd_X12_follow_37 : decode mb_X12_follow 37 = .ok (.iload_n 3, 1) := by decide +kernel
theorem dd_X12_follow_38 : decode mb_X12_follow 38 = .ok (.iload_n 2, 1) := by decide +kernel
theorem dd_X12_follow_39 : decode mb_X12_follow 39 = .ok (.if_icmp .ge 151, 3) := by decide +kernel
theorem dd_X12_follow_42 : decode mb_X12_follow 42 = .ok (.aload_n 0, 1) := by decide +kernel
theorem dd_X12_follow_43 : decode mb_X12_follow 43 = .ok (.getfield 123, 3) := by decide +kernel
theorem dd_X12_follow_46 : decode mb_X12_follow 46 = .ok (.iload_n 3, 1) := by decide +kernel
theorem dd_X12_follow_47 : decode mb_X12_follow 47 = .ok (.iaload, 1) := by decide +kernel
theorem dd_X12_follow_48 : decode mb_X12_follow 48 = .ok (.istore 4, 2) := by decide +kernel
theorem dd_X12_follow_50 : decode mb_X12_follow 50 = .ok (.iconst 0, 1) := by decide +kernel
theorem dd_X12_follow_51 : decode mb_X12_follow 51 = .ok (.istore 5, 2) := by decide +kernel
theorem dd_X12_follow_53 : decode mb_X12_follow 53 = .ok (.iload 5, 2) := by decide +kernel
theorem dd_X12_follow_55 : decode mb_X12_follow 55 = .ok (.aload_n 0, 1) := by decide +kernel
theorem dd_X12_follow_56 : decode mb_X12_follow 56 = .ok (.getfield 279, 3) := by decide +kernel
theorem dd_X12_follow_59 : decode mb_X12_follow 59 = .ok (.if_icmp .ge 125, 3) := by decide +kernel
theorem dd_X12_follow_62 : decode mb_X12_follow 62 = .ok (.aload_n 0, 1) := by decide +kernel
theorem dd_X12_follow_63 : decode mb_X12_follow 63 = .ok (.getfield 120, 3) := by decide +kernel
theorem dd_X12_follow_66 : decode mb_X12_follow 66 = .ok (.iload 5, 2) := by decide +kernel
theorem dd_X12_follow_68 : decode mb_X12_follow 68 = .ok (.iaload, 1) := by decide +kernel
theorem dd_X12_follow_69 : decode mb_X12_follow 69 = .ok (.ifCond .ge 109, 3) := by decide +kernel
theorem dd_X12_follow_72 : decode mb_X12_follow 72 = .ok (.aload_n 0, 1) := by decide +kernel
theorem dd_X12_follow_73 : decode mb_X12_follow 73 = .ok (.iload 4, 2) := by decide +kernel
theorem dd_X12_follow_75 : decode mb_X12_follow 75 = .ok (.iload 5, 2) := by decide +kernel
theorem dd_X12_follow_77 : decode mb_X12_follow 77 = .ok (.invokevirtual 282, 3) := by decide +kernel
theorem dd_X12_follow_80 : decode mb_X12_follow 80 = .ok (.ifCond .ne 6, 3) := by decide +kernel
theorem dd_X12_follow_83 : decode mb_X12_follow 83 = .ok (.goto 95, 3) := by decide +kernel
theorem dd_X12_follow_86 : decode mb_X12_follow 86 = .ok (.aload_n 0, 1) := by decide +kernel
theorem dd_X12_follow_87 : decode mb_X12_follow 87 = .ok (.getfield 120, 3) := by decide +kernel
theorem dd_X12_follow_90 : decode mb_X12_follow 90 = .ok (.iload 5, 2) := by decide +kernel
theorem dd_X12_follow_92 : decode mb_X12_follow 92 = .ok (.iload 4, 2) := by decide +kernel
theorem dd_X12_follow_94 : decode mb_X12_follow 94 = .ok (.iastore, 1) := by decide +kernel
theorem dd_X12_follow_95 : decode mb_X12_follow 95 = .ok (.aload_n 0, 1) := by decide +kernel
theorem dd_X12_follow_96 : decode mb_X12_follow 96 = .ok (.getfield 117, 3) := by decide +kernel
theorem dd_X12_follow_99 : decode mb_X12_follow 99 = .ok (.iload 5, 2) := by decide +kernel
theorem dd_X12_follow_101 : decode mb_X12_follow 101 = .ok (.iaload, 1) := by decide +kernel
theorem dd_X12_follow_102 : decode mb_X12_follow 102 = .ok (.ifCond .lt 22, 3) := by decide +kernel
theorem dd_X12_follow_105 : decode mb_X12_follow 105 = .ok (.aload_n 0, 1) := by decide +kernel
theorem dd_X12_follow_106 : decode mb_X12_follow 106 = .ok (.getfield 123, 3) := by decide +kernel
theorem dd_X12_follow_109 : decode mb_X12_follow 109 = .ok (.iload_n 2, 1) := by decide +kernel
theorem dd_X12_follow_110 : decode mb_X12_follow 110 = .ok (.iinc 2 1, 3) := by decide +kernel
theorem dd_X12_follow_113 : decode mb_X12_follow 113 = .ok (.aload_n 0, 1) := by decide +kernel
theorem dd_X12_follow_114 : decode mb_X12_follow 114 = .ok (.getfield 117, 3) := by decide +kernel
theorem dd_X12_follow_117 : decode mb_X12_follow 117 = .ok (.iload 5, 2) := by decide +kernel
theorem dd_X12_follow_119 : decode mb_X12_follow 119 = .ok (.iaload, 1) := by decide +kernel
theorem dd_X12_follow_120 : decode mb_X12_follow 120 = .ok (.iastore, 1) := by decide +kernel
theorem dd_X12_follow_121 : decode mb_X12_follow 121 = .ok (.goto 57, 3) := by decide +kernel
theorem dd_X12_follow_124 : decode mb_X12_follow 124 = .ok (.iload 5, 2) := by decide +kernel
theorem dd_X12_follow_126 : decode mb_X12_follow 126 = .ok (.istore 6, 2) := by decide +kernel
theorem dd_X12_follow_128 : decode mb_X12_follow 128 = .ok (.iload 6, 2) := by decide +kernel
theorem dd_X12_follow_130 : decode mb_X12_follow 130 = .ok (.ifCond .lt 46, 3) := by decide +kernel
theorem dd_X12_follow_133 : decode mb_X12_follow 133 = .ok (.aload_n 0, 1) := by decide +kernel
theorem dd_X12_follow_134 : decode mb_X12_follow 134 = .ok (.getfield 120, 3) := by decide +kernel
theorem dd_X12_follow_137 : decode mb_X12_follow 137 = .ok (.iload 6, 2) := by decide +kernel
theorem dd_X12_follow_139 : decode mb_X12_follow 139 = .ok (.iaload, 1) := by decide +kernel
theorem dd_X12_follow_140 : decode mb_X12_follow 140 = .ok (.istore 7, 2) := by decide +kernel
theorem dd_X12_follow_142 : decode mb_X12_follow 142 = .ok (.aload_n 0, 1) := by decide +kernel
theorem dd_X12_follow_143 : decode mb_X12_follow 143 = .ok (.getfield 114, 3) := by decide +kernel
theorem dd_X12_follow_146 : decode mb_X12_follow 146 = .ok (.iload 7, 2) := by decide +kernel
theorem dd_X12_follow_148 : decode mb_X12_follow 148 = .ok (.iaload, 1) := by decide +kernel
theorem dd_X12_follow_149 : decode mb_X12_follow 149 = .ok (.istore 8, 2) := by decide +kernel
theorem dd_X12_follow_151 : decode mb_X12_follow 151 = .ok (.aload_n 0, 1) := by decide +kernel
theorem dd_X12_follow_152 : decode mb_X12_follow 152 = .ok (.getfield 114, 3) := by decide +kernel
theorem dd_X12_follow_155 : decode mb_X12_follow 155 = .ok (.iload 7, 2) := by decide +kernel
theorem dd_X12_follow_157 : decode mb_X12_follow 157 = .ok (.iload 6, 2) := by decide +kernel
theorem dd_X12_follow_159 : decode mb_X12_follow 159 = .ok (.iastore, 1) := by decide +kernel
theorem dd_X12_follow_160 : decode mb_X12_follow 160 = .ok (.aload_n 0, 1) := by decide +kernel
theorem dd_X12_follow_161 : decode mb_X12_follow 161 = .ok (.getfield 117, 3) := by decide +kernel
theorem dd_X12_follow_164 : decode mb_X12_follow 164 = .ok (.iload 6, 2) := by decide +kernel
theorem dd_X12_follow_166 : decode mb_X12_follow 166 = .ok (.iload 7, 2) := by decide +kernel
theorem dd_X12_follow_168 : decode mb_X12_follow 168 = .ok (.iastore, 1) := by decide +kernel
theorem dd_X12_follow_169 : decode mb_X12_follow 169 = .ok (.iload 8, 2) := by decide +kernel
theorem dd_X12_follow_171 : decode mb_X12_follow 171 = .ok (.istore 6, 2) := by decide +kernel
theorem dd_X12_follow_173 : decode mb_X12_follow 173 = .ok (.goto (-45), 3) := by decide +kernel
theorem dd_X12_follow_176 : decode mb_X12_follow 176 = .ok (.iconst 1, 1) := by decide +kernel
theorem dd_X12_follow_177 : decode mb_X12_follow 177 = .ok (.ireturn, 1) := by decide +kernel
theorem dd_X12_follow_178 : decode mb_X12_follow 178 = .ok (.iinc 5 1, 3) := by decide +kernel
theorem dd_X12_follow_181 : decode mb_X12_follow 181 = .ok (.goto (-128), 3) := by decide +kernel
theorem dd_X12_follow_184 : decode mb_X12_follow 184 = .ok (.iinc 3 1, 3) := by decide +kernel
theorem dd_X12_follow_187 : decode mb_X12_follow 187 = .ok (.goto (-150), 3) := by decide +kernel
theorem dd_X12_follow_190 : decode mb_X12_follow 190 = .ok (.iconst 0, 1) := by decide +kernel
theorem dd_X12_follow_191 : decode mb_X12_follow 191 = .ok (.ireturn, 1) := by decide +kernel
theorem dd_X12_go_0 : decode mb_X12_go 0 = .ok (.iload_n 1, 1) := by decide +kernel
theorem dd_X12_go_1 : decode mb_X12_go 1 = .ok (.iconst 1, 1) := by decide +kernel
theorem dd_X12_go_2 : decode mb_X12_go 2 = .ok (.if_icmp .lt 9, 3) := by decide +kernel
theorem dd_X12_go_5 : decode mb_X12_go 5 = .ok (.iload_n 1, 1) := by decide +kernel
theorem dd_X12_go_6 : decode mb_X12_go 6 = .ok (.bipush 12, 2) := by decide +kernel
theorem dd_X12_go_8 : decode mb_X12_go 8 = .ok (.if_icmp .le 10, 3) := by decide +kernel
theorem dd_X12_go_11 : decode mb_X12_go 11 = .ok (.aload_n 0, 1) := by decide +kernel
theorem dd_X12_go_12 : decode mb_X12_go 12 = .ok (.bipush (-2), 2) := by decide +kernel
theorem dd_X12_go_14 : decode mb_X12_go 14 = .ok (.invokevirtual 152, 3) := by decide +kernel
theorem dd_X12_go_17 : decode mb_X12_go 17 = .ok (.ireturn, 1) := by decide +kernel
theorem dd_X12_go_18 : decode mb_X12_go 18 = .ok (.aload_n 0, 1) := by decide +kernel
theorem dd_X12_go_19 : decode mb_X12_go 19 = .ok (.getfield 92, 3) := by decide +kernel
theorem dd_X12_go_22 : decode mb_X12_go 22 = .ok (.iconst 2, 1) := by decide +kernel
theorem dd_X12_go_23 : decode mb_X12_go 23 = .ok (.iaload, 1) := by decide +kernel
theorem dd_X12_go_24 : decode mb_X12_go 24 = .ok (.bipush 12, 2) := by decide +kernel
theorem dd_X12_go_26 : decode mb_X12_go 26 = .ok (.if_icmp .ne 10, 3) := by decide +kernel
theorem dd_X12_go_29 : decode mb_X12_go 29 = .ok (.aload_n 0, 1) := by decide +kernel
theorem dd_X12_go_30 : decode mb_X12_go 30 = .ok (.bipush (-5), 2) := by decide +kernel
theorem dd_X12_go_32 : decode mb_X12_go 32 = .ok (.invokevirtual 152, 3) := by decide +kernel
theorem dd_X12_go_35 : decode mb_X12_go 35 = .ok (.ireturn, 1) := by decide +kernel
theorem dd_X12_go_36 : decode mb_X12_go 36 = .ok (.aload_n 0, 1) := by decide +kernel
theorem dd_X12_go_37 : decode mb_X12_go 37 = .ok (.invokevirtual 258, 3) := by decide +kernel
theorem dd_X12_go_40 : decode mb_X12_go 40 = .ok (.iconst 0, 1) := by decide +kernel
theorem dd_X12_go_41 : decode mb_X12_go 41 = .ok (.istore_n 2, 1) := by decide +kernel
theorem dd_X12_go_42 : decode mb_X12_go 42 = .ok (.iconst 0, 1) := by decide +kernel
theorem dd_X12_go_43 : decode mb_X12_go 43 = .ok (.istore_n 3, 1) := by decide +kernel
theorem dd_X12_go_44 : decode mb_X12_go 44 = .ok (.iload_n 3, 1) := by decide +kernel
theorem dd_X12_go_45 : decode mb_X12_go 45 = .ok (.iload_n 1, 1) := by decide +kernel
theorem dd_X12_go_46 : decode mb_X12_go 46 = .ok (.if_icmp .ge 174, 3) := by decide +kernel
theorem dd_X12_go_49 : decode mb_X12_go 49 = .ok (.aload_n 0, 1) := by decide +kernel
theorem dd_X12_go_50 : decode mb_X12_go 50 = .ok (.getfield 92, 3) := by decide +kernel
theorem dd_X12_go_53 : decode mb_X12_go 53 = .ok (.iconst 2, 1) := by decide +kernel
theorem dd_X12_go_54 : decode mb_X12_go 54 = .ok (.iaload, 1) := by decide +kernel
theorem dd_X12_go_55 : decode mb_X12_go 55 = .ok (.bipush 12, 2) := by decide +kernel
theorem dd_X12_go_57 : decode mb_X12_go 57 = .ok (.if_icmp .ge 163, 3) := by decide +kernel
theorem dd_X12_go_60 : decode mb_X12_go 60 = .ok (.aload_n 0, 1) := by decide +kernel
theorem dd_X12_go_61 : decode mb_X12_go 61 = .ok (.getfield 92, 3) := by decide +kernel
theorem dd_X12_go_64 : decode mb_X12_go 64 = .ok (.iconst 2, 1) := by decide +kernel
theorem dd_X12_go_65 : decode mb_X12_go 65 = .ok (.iaload, 1) := by decide +kernel
theorem dd_X12_go_66 : decode mb_X12_go 66 = .ok (.istore 4, 2) := by decide +kernel
theorem dd_X12_go_68 : decode mb_X12_go 68 = .ok (.iconst 0, 1) := by decide +kernel
theorem dd_X12_go_69 : decode mb_X12_go 69 = .ok (.istore 5, 2) := by decide +kernel
theorem dd_X12_go_71 : decode mb_X12_go 71 = .ok (.iload 5, 2) := by decide +kernel
theorem dd_X12_go_73 : decode mb_X12_go 73 = .ok (.aload_n 0, 1) := by decide +kernel
theorem dd_X12_go_74 : decode mb_X12_go 74 = .ok (.getfield 145, 3) := by decide +kernel
theorem dd_X12_go_77 : decode mb_X12_go 77 = .ok (.if_icmp .ge 127, 3) := by decide +kernel
theorem dd_X12_go_80 : decode mb_X12_go 80 = .ok (.aload_n 0, 1) := by decide +kernel
theorem dd_X12_go_81 : decode mb_X12_go 81 = .ok (.iload 5, 2) := by decide +kernel
theorem dd_X12_go_83 : decode mb_X12_go 83 = .ok (.iload 4, 2) := by decide +kernel
theorem dd_X12_go_85 : decode mb_X12_go 85 = .ok (.aload_n 0, 1) := by decide +kernel
theorem dd_X12_go_86 : decode mb_X12_go 86 = .ok (.getfield 92, 3) := by decide +kernel
theorem dd_X12_go_89 : decode mb_X12_go 89 = .ok (.iconst 0, 1) := by decide +kernel
theorem dd_X12_go_90 : decode mb_X12_go 90 = .ok (.iaload, 1) := by decide +kernel
theorem dd_X12_go_91 : decode mb_X12_go 91 = .ok (.aload_n 0, 1) := by decide +kernel
theorem dd_X12_go_92 : decode mb_X12_go 92 = .ok (.getfield 92, 3) := by decide +kernel
theorem dd_X12_go_95 : decode mb_X12_go 95 = .ok (.iconst 1, 1) := by decide +kernel
theorem dd_X12_go_96 : decode mb_X12_go 96 = .ok (.iaload, 1) := by decide +kernel
theorem dd_X12_go_97 : decode mb_X12_go 97 = .ok (.invokevirtual 261, 3) := by decide +kernel
theorem dd_X12_go_100 : decode mb_X12_go 100 = .ok (.istore 6, 2) := by decide +kernel
theorem dd_X12_go_102 : decode mb_X12_go 102 = .ok (.iload 6, 2) := by decide +kernel
theorem dd_X12_go_104 : decode mb_X12_go 104 = .ok (.ifCond .ge 6, 3) := by decide +kernel
theorem dd_X12_go_107 : decode mb_X12_go 107 = .ok (.goto 91, 3) := by decide +kernel
theorem dd_X12_go_110 : decode mb_X12_go 110 = .ok (.aload_n 0, 1) := by decide +kernel
theorem dd_X12_go_111 : decode mb_X12_go 111 = .ok (.iload 6, 2) := by decide +kernel
theorem dd_X12_go_113 : decode mb_X12_go 113 = .ok (.iload 4, 2) := by decide +kernel
theorem dd_X12_go_115 : decode mb_X12_go 115 = .ok (.aload_n 0, 1) := by decide +kernel
theorem dd_X12_go_116 : decode mb_X12_go 116 = .ok (.getfield 92, 3) := by decide +kernel
theorem dd_X12_go_119 : decode mb_X12_go 119 = .ok (.iconst 0, 1) := by decide +kernel
theorem dd_X12_go_120 : decode mb_X12_go 120 = .ok (.iaload, 1) := by decide +kernel
theorem dd_X12_go_121 : decode mb_X12_go 121 = .ok (.aload_n 0, 1) := by decide +kernel
theorem dd_X12_go_122 : decode mb_X12_go 122 = .ok (.getfield 92, 3) := by decide +kernel
theorem dd_X12_go_125 : decode mb_X12_go 125 = .ok (.iconst 1, 1) := by decide +kernel
theorem dd_X12_go_126 : decode mb_X12_go 126 = .ok (.iaload, 1) := by decide +kernel
theorem dd_X12_go_127 : decode mb_X12_go 127 = .ok (.invokevirtual 254, 3) := by decide +kernel
theorem dd_X12_go_130 : decode mb_X12_go 130 = .ok (.istore 7, 2) := by decide +kernel
theorem dd_X12_go_132 : decode mb_X12_go 132 = .ok (.aload_n 0, 1) := by decide +kernel
theorem dd_X12_go_133 : decode mb_X12_go 133 = .ok (.getfield 104, 3) := by decide +kernel
theorem dd_X12_go_136 : decode mb_X12_go 136 = .ok (.iload 6, 2) := by decide +kernel
theorem dd_X12_go_138 : decode mb_X12_go 138 = .ok (.iconst 1, 1) := by decide +kernel
theorem dd_X12_go_139 : decode mb_X12_go 139 = .ok (.bastore, 1) := by decide +kernel
theorem dd_X12_go_140 : decode mb_X12_go 140 = .ok (.aload_n 0, 1) := by decide +kernel
theorem dd_X12_go_141 : decode mb_X12_go 141 = .ok (.getfield 108, 3) := by decide +kernel
theorem dd_X12_go_144 : decode mb_X12_go 144 = .ok (.iload 5, 2) := by decide +kernel
theorem dd_X12_go_146 : decode mb_X12_go 146 = .ok (.dup2, 1) := by decide +kernel
theorem dd_X12_go_147 : decode mb_X12_go 147 = .ok (.iaload, 1) := by decide +kernel
theorem dd_X12_go_148 : decode mb_X12_go 148 = .ok (.iload 7, 2) := by decide +kernel
theorem dd_X12_go_150 : decode mb_X12_go 150 = .ok (.isub, 1) := by decide +kernel
theorem dd_X12_go_151 : decode mb_X12_go 151 = .ok (.iastore, 1) := by decide +kernel
theorem dd_X12_go_152 : decode mb_X12_go 152 = .ok (.aload_n 0, 1) := by decide +kernel
theorem dd_X12_go_153 : decode mb_X12_go 153 = .ok (.getfield 56, 3) := by decide +kernel
theorem dd_X12_go_156 : decode mb_X12_go 156 = .ok (.iload 5, 2) := by decide +kernel
theorem dd_X12_go_158 : decode mb_X12_go 158 = .ok (.dup2, 1) := by decide +kernel
theorem dd_X12_go_159 : decode mb_X12_go 159 = .ok (.iaload, 1) := by decide +kernel
theorem dd_X12_go_160 : decode mb_X12_go 160 = .ok (.iload 7, 2) := by decide +kernel
theorem dd_X12_go_162 : decode mb_X12_go 162 = .ok (.isub, 1) := by decide +kernel
theorem dd_X12_go_163 : decode mb_X12_go 163 = .ok (.iastore, 1) := by decide +kernel
theorem dd_X12_go_164 : decode mb_X12_go 164 = .ok (.aload_n 0, 1) := by decide +kernel
theorem dd_X12_go_165 : decode mb_X12_go 165 = .ok (.getfield 65, 3) := by decide +kernel
theorem dd_X12_go_168 : decode mb_X12_go 168 = .ok (.iload 5, 2) := by decide +kernel
theorem dd_X12_go_170 : decode mb_X12_go 170 = .ok (.dup2, 1) := by decide +kernel
theorem dd_X12_go_171 : decode mb_X12_go 171 = .ok (.iaload, 1) := by decide +kernel
theorem dd_X12_go_172 : decode mb_X12_go 172 = .ok (.iconst 1, 1) := by decide +kernel
theorem dd_X12_go_173 : decode mb_X12_go 173 = .ok (.iadd, 1) := by decide +kernel
theorem dd_X12_go_174 : decode mb_X12_go 174 = .ok (.iastore, 1) := by decide +kernel
theorem dd_X12_go_175 : decode mb_X12_go 175 = .ok (.aload_n 0, 1) := by decide +kernel
theorem dd_X12_go_176 : decode mb_X12_go 176 = .ok (.getfield 32, 3) := by decide +kernel
theorem dd_X12_go_179 : decode mb_X12_go 179 = .ok (.iload 6, 2) := by decide +kernel
theorem dd_X12_go_181 : decode mb_X12_go 181 = .ok (.iload 5, 2) := by decide +kernel
theorem dd_X12_go_183 : decode mb_X12_go 183 = .ok (.iastore, 1) := by decide +kernel
theorem dd_X12_go_184 : decode mb_X12_go 184 = .ok (.aload_n 0, 1) := by decide +kernel
theorem dd_X12_go_185 : decode mb_X12_go 185 = .ok (.getfield 35, 3) := by decide +kernel
theorem dd_X12_go_188 : decode mb_X12_go 188 = .ok (.iload 6, 2) := by decide +kernel
theorem dd_X12_go_190 : decode mb_X12_go 190 = .ok (.iload 7, 2) := by decide +kernel
theorem dd_X12_go_192 : decode mb_X12_go 192 = .ok (.iastore, 1) := by decide +kernel
theorem dd_X12_go_193 : decode mb_X12_go 193 = .ok (.iload_n 2, 1) := by decide +kernel
theorem dd_X12_go_194 : decode mb_X12_go 194 = .ok (.iload 7, 2) := by decide +kernel
theorem dd_X12_go_196 : decode mb_X12_go 196 = .ok (.iadd, 1) := by decide +kernel
theorem dd_X12_go_197 : decode mb_X12_go 197 = .ok (.istore_n 2, 1) := by decide +kernel
theorem dd_X12_go_198 : decode mb_X12_go 198 = .ok (.iinc 5 1, 3) := by decide +kernel
theorem dd_X12_go_201 : decode mb_X12_go 201 = .ok (.goto (-130), 3) := by decide +kernel
theorem dd_X12_go_204 : decode mb_X12_go 204 = .ok (.aload_n 0, 1) := by decide +kernel
theorem dd_X12_go_205 : decode mb_X12_go 205 = .ok (.getfield 92, 3) := by decide +kernel
theorem dd_X12_go_208 : decode mb_X12_go 208 = .ok (.iconst 2, 1) := by decide +kernel
theorem dd_X12_go_209 : decode mb_X12_go 209 = .ok (.dup2, 1) := by decide +kernel
theorem dd_X12_go_210 : decode mb_X12_go 210 = .ok (.iaload, 1) := by decide +kernel
theorem dd_X12_go_211 : decode mb_X12_go 211 = .ok (.iconst 1, 1) := by decide +kernel
theorem dd_X12_go_212 : decode mb_X12_go 212 = .ok (.iadd, 1) := by decide +kernel
theorem dd_X12_go_213 : decode mb_X12_go 213 = .ok (.iastore, 1) := by decide +kernel
theorem dd_X12_go_214 : decode mb_X12_go 214 = .ok (.iinc 3 1, 3) := by decide +kernel
theorem dd_X12_go_217 : decode mb_X12_go 217 = .ok (.goto (-173), 3) := by decide +kernel
theorem dd_X12_go_220 : decode mb_X12_go 220 = .ok (.aload_n 0, 1) := by decide +kernel
theorem dd_X12_go_221 : decode mb_X12_go 221 = .ok (.getfield 92, 3) := by decide +kernel
theorem dd_X12_go_224 : decode mb_X12_go 224 = .ok (.iconst 3, 1) := by decide +kernel
theorem dd_X12_go_225 : decode mb_X12_go 225 = .ok (.dup2, 1) := by decide +kernel
theorem dd_X12_go_226 : decode mb_X12_go 226 = .ok (.iaload, 1) := by decide +kernel
theorem dd_X12_go_227 : decode mb_X12_go 227 = .ok (.iload_n 2, 1) := by decide +kernel
theorem dd_X12_go_228 : decode mb_X12_go 228 = .ok (.iadd, 1) := by decide +kernel
theorem dd_X12_go_229 : decode mb_X12_go 229 = .ok (.iastore, 1) := by decide +kernel
theorem dd_X12_go_230 : decode mb_X12_go 230 = .ok (.iload_n 2, 1) := by decide +kernel
theorem dd_X12_go_231 : decode mb_X12_go 231 = .ok (.ireturn, 1) := by decide +kernel
theorem dd_X12_goes_0 : decode mb_X12_goes 0 = .ok (.aload_n 0, 1) := by decide +kernel
theorem dd_X12_goes_1 : decode mb_X12_goes 1 = .ok (.iload_n 1, 1) := by decide +kernel
theorem dd_X12_goes_2 : decode mb_X12_goes 2 = .ok (.invokevirtual 193, 3) := by decide +kernel
theorem dd_X12_goes_5 : decode mb_X12_goes 5 = .ok (.ifCond .eq 16, 3) := by decide +kernel
theorem dd_X12_goes_8 : decode mb_X12_goes 8 = .ok (.iload_n 2, 1) := by decide +kernel
theorem dd_X12_goes_9 : decode mb_X12_goes 9 = .ok (.iconst (-1), 1) := by decide +kernel
theorem dd_X12_goes_10 : decode mb_X12_goes 10 = .ok (.if_icmp .eq 18, 3) := by decide +kernel
theorem dd_X12_goes_13 : decode mb_X12_goes 13 = .ok (.aload_n 0, 1) := by decide +kernel
theorem dd_X12_goes_14 : decode mb_X12_goes 14 = .ok (.iload_n 2, 1) := by decide +kernel
theorem dd_X12_goes_15 : decode mb_X12_goes 15 = .ok (.invokevirtual 196, 3) := by decide +kernel
theorem dd_X12_goes_18 : decode mb_X12_goes 18 = .ok (.ifCond .ne 10, 3) := by decide +kernel
theorem dd_X12_goes_21 : decode mb_X12_goes 21 = .ok (.aload_n 0, 1) := by decide +kernel
theorem dd_X12_goes_22 : decode mb_X12_goes 22 = .ok (.bipush (-2), 2) := by decide +kernel
theorem dd_X12_goes_24 : decode mb_X12_goes 24 = .ok (.invokevirtual 152, 3) := by decide +kernel
theorem dd_X12_goes_27 : decode mb_X12_goes 27 = .ok (.ireturn, 1) := by decide +kernel
theorem dd_X12_goes_28 : decode mb_X12_goes 28 = .ok (.aload_n 0, 1) := by decide +kernel
theorem dd_X12_goes_29 : decode mb_X12_goes 29 = .ok (.getfield 44, 3) := by decide +kernel
theorem dd_X12_goes_32 : decode mb_X12_goes 32 = .ok (.iload_n 1, 1) := by decide +kernel
theorem dd_X12_goes_33 : decode mb_X12_goes 33 = .ok (.iaload, 1) := by decide +kernel
theorem dd_X12_goes_34 : decode mb_X12_goes 34 = .ok (.istore_n 3, 1) := by decide +kernel
theorem dd_X12_goes_35 : decode mb_X12_goes 35 = .ok (.aload_n 0, 1) := by decide +kernel
theorem dd_X12_goes_36 : decode mb_X12_goes 36 = .ok (.getfield 44, 3) := by decide +kernel
theorem dd_X12_goes_39 : decode mb_X12_goes 39 = .ok (.iload_n 1, 1) := by decide +kernel
theorem dd_X12_goes_40 : decode mb_X12_goes 40 = .ok (.iload_n 2, 1) := by decide +kernel
theorem dd_X12_goes_41 : decode mb_X12_goes 41 = .ok (.iastore, 1) := by decide +kernel
theorem dd_X12_goes_42 : decode mb_X12_goes 42 = .ok (.iload_n 3, 1) := by decide +kernel
theorem dd_X12_goes_43 : decode mb_X12_goes 43 = .ok (.ireturn, 1) := by decide +kernel
theorem dd_X12_hall_0 : decode mb_X12_hall 0 = .ok (.iload_n 1, 1) := by decide +kernel
theorem dd_X12_hall_1 : decode mb_X12_hall 1 = .ok (.ifCond .lt 16, 3) := by decide +kernel
theorem dd_X12_hall_4 : decode mb_X12_hall 4 = .ok (.iload_n 1, 1) := by decide +kernel
theorem dd_X12_hall_5 : decode mb_X12_hall 5 = .ok (.iconst 2, 1) := by decide +kernel
theorem dd_X12_hall_6 : decode mb_X12_hall 6 = .ok (.if_icmp .gt 11, 3) := by decide +kernel
theorem dd_X12_hall_9 : decode mb_X12_hall 9 = .ok (.aload_n 0, 1) := by decide +kernel
theorem dd_X12_hall_10 : decode mb_X12_hall 10 = .ok (.iload_n 2, 1) := by decide +kernel
theorem dd_X12_hall_11 : decode mb_X12_hall 11 = .ok (.invokevirtual 165, 3) := by decide +kernel
theorem dd_X12_hall_14 : decode mb_X12_hall 14 = .ok (.ifCond .ne 10, 3) := by decide +kernel
theorem dd_X12_hall_17 : decode mb_X12_hall 17 = .ok (.aload_n 0, 1) := by decide +kernel
theorem dd_X12_hall_18 : decode mb_X12_hall 18 = .ok (.bipush (-2), 2) := by decide +kernel
theorem dd_X12_hall_20 : decode mb_X12_hall 20 = .ok (.invokevirtual 152, 3) := by decide +kernel
theorem dd_X12_hall_23 : decode mb_X12_hall 23 = .ok (.ireturn, 1) := by decide +kernel
theorem dd_X12_hall_24 : decode mb_X12_hall 24 = .ok (.aload_n 0, 1) := by decide +kernel
theorem dd_X12_hall_25 : decode mb_X12_hall 25 = .ok (.invokevirtual 258, 3) := by decide +kernel
theorem dd_X12_hall_28 : decode mb_X12_hall 28 = .ok (.aload_n 0, 1) := by decide +kernel
theorem dd_X12_hall_29 : decode mb_X12_hall 29 = .ok (.getfield 104, 3) := by decide +kernel
theorem dd_X12_hall_32 : decode mb_X12_hall 32 = .ok (.iload_n 2, 1) := by decide +kernel
theorem dd_X12_hall_33 : decode mb_X12_hall 33 = .ok (.baload, 1) := by decide +kernel
theorem dd_X12_hall_34 : decode mb_X12_hall 34 = .ok (.ifCond .eq 5, 3) := by decide +kernel
theorem dd_X12_hall_37 : decode mb_X12_hall 37 = .ok (.iconst (-1), 1) := by decide +kernel
theorem dd_X12_hall_38 : decode mb_X12_hall 38 = .ok (.ireturn, 1) := by decide +kernel
theorem dd_X12_hall_39 : decode mb_X12_hall 39 = .ok (.iload_n 1, 1) := by decide +kernel
theorem dd_X12_hall_40 : decode mb_X12_hall 40 = .ok (.istore_n 3, 1) := by decide +kernel
theorem dd_X12_hall_41 : decode mb_X12_hall 41 = .ok (.iconst (-1), 1) := by decide +kernel
theorem dd_X12_hall_42 : decode mb_X12_hall 42 = .ok (.istore 4, 2) := by decide +kernel
theorem dd_X12_hall_44 : decode mb_X12_hall 44 = .ok (.iload_n 3, 1) := by decide +kernel
theorem dd_X12_hall_45 : decode mb_X12_hall 45 = .ok (.iconst 1, 1) := by decide +kernel
theorem dd_X12_hall_46 : decode mb_X12_hall 46 = .ok (.if_icmp .ne 11, 3) := by decide +kernel
theorem dd_X12_hall_49 : decode mb_X12_hall 49 = .ok (.aload_n 0, 1) := by decide +kernel
theorem dd_X12_hall_50 : decode mb_X12_hall 50 = .ok (.bipush 48, 2) := by decide +kernel
theorem dd_X12_hall_52 : decode mb_X12_hall 52 = .ok (.invokevirtual 299, 3) := by decide +kernel
theorem dd_X12_hall_55 : decode mb_X12_hall 55 = .ok (.istore 4, 2) := by decide +kernel
theorem dd_X12_hall_57 : decode mb_X12_hall 57 = .ok (.iload_n 3, 1) := by decide +kernel
theorem dd_X12_hall_58 : decode mb_X12_hall 58 = .ok (.iconst 2, 1) := by decide +kernel
theorem dd_X12_hall_59 : decode mb_X12_hall 59 = .ok (.if_icmp .ne 11, 3) := by decide +kernel
theorem dd_X12_hall_62 : decode mb_X12_hall 62 = .ok (.aload_n 0, 1) := by decide +kernel
theorem dd_X12_hall_63 : decode mb_X12_hall 63 = .ok (.bipush 14, 2) := by decide +kernel
theorem dd_X12_hall_65 : decode mb_X12_hall 65 = .ok (.invokevirtual 299, 3) := by decide +kernel
theorem dd_X12_hall_68 : decode mb_X12_hall 68 = .ok (.istore 4, 2) := by decide +kernel
theorem dd_X12_hall_70 : decode mb_X12_hall 70 = .ok (.iload 4, 2) := by decide +kernel
theorem dd_X12_hall_72 : decode mb_X12_hall 72 = .ok (.ifCond .ge 11, 3) := by decide +kernel
theorem dd_X12_hall_75 : decode mb_X12_hall 75 = .ok (.aload_n 0, 1) := by decide +kernel
theorem dd_X12_hall_76 : decode mb_X12_hall 76 = .ok (.bipush 63, 2) := by decide +kernel
theorem dd_X12_hall_78 : decode mb_X12_hall 78 = .ok (.invokevirtual 299, 3) := by decide +kernel
theorem dd_X12_hall_81 : decode mb_X12_hall 81 = .ok (.istore 4, 2) := by decide +kernel
theorem dd_X12_hall_83 : decode mb_X12_hall 83 = .ok (.iload 4, 2) := by decide +kernel
theorem dd_X12_hall_85 : decode mb_X12_hall 85 = .ok (.iload_n 2, 1) := by decide +kernel
theorem dd_X12_hall_86 : decode mb_X12_hall 86 = .ok (.if_icmp .ne 5, 3) := by decide +kernel
theorem dd_X12_hall_89 : decode mb_X12_hall 89 = .ok (.iload_n 3, 1) := by decide +kernel
theorem dd_X12_hall_90 : decode mb_X12_hall 90 = .ok (.ireturn, 1) := by decide +kernel
theorem dd_X12_hall_91 : decode mb_X12_hall 91 = .ok (.aload_n 0, 1) := by decide +kernel
theorem dd_X12_hall_92 : decode mb_X12_hall 92 = .ok (.getfield 104, 3) := by decide +kernel
theorem dd_X12_hall_95 : decode mb_X12_hall 95 = .ok (.iload 4, 2) := by decide +kernel
theorem dd_X12_hall_97 : decode mb_X12_hall 97 = .ok (.iconst 1, 1) := by decide +kernel
theorem dd_X12_hall_98 : decode mb_X12_hall 98 = .ok (.bastore, 1) := by decide +kernel
theorem dd_X12_hall_99 : decode mb_X12_hall 99 = .ok (.iload_n 3, 1) := by decide +kernel
theorem dd_X12_hall_100 : decode mb_X12_hall 100 = .ok (.iconst 1, 1) := by decide +kernel
theorem dd_X12_hall_101 : decode mb_X12_hall 101 = .ok (.iadd, 1) := by decide +kernel
theorem dd_X12_hall_102 : decode mb_X12_hall 102 = .ok (.iconst 3, 1) := by decide +kernel
theorem dd_X12_hall_103 : decode mb_X12_hall 103 = .ok (.irem, 1) := by decide +kernel
theorem dd_X12_hall_104 : decode mb_X12_hall 104 = .ok (.istore_n 3, 1) := by decide +kernel
theorem dd_X12_hall_105 : decode mb_X12_hall 105 = .ok (.goto (-64), 3) := by decide +kernel
theorem dd_X12_holds_0 : decode mb_X12_holds 0 = .ok (.aload_n 0, 1) := by decide +kernel
theorem dd_X12_holds_1 : decode mb_X12_holds 1 = .ok (.iload_n 1, 1) := by decide +kernel
theorem dd_X12_holds_2 : decode mb_X12_holds 2 = .ok (.invokevirtual 148, 3) := by decide +kernel
theorem dd_X12_holds_5 : decode mb_X12_holds 5 = .ok (.ifCond .eq 12, 3) := by decide +kernel
theorem dd_X12_holds_8 : decode mb_X12_holds 8 = .ok (.aload_n 0, 1) := by decide +kernel
theorem dd_X12_holds_9 : decode mb_X12_holds 9 = .ok (.getfield 7, 3) := by decide +kernel
theorem dd_X12_holds_12 : decode mb_X12_holds 12 = .ok (.iload_n 1, 1) := by decide +kernel
theorem dd_X12_holds_13 : decode mb_X12_holds 13 = .ok (.iaload, 1) := by decide +kernel
theorem dd_X12_holds_14 : decode mb_X12_holds 14 = .ok (.ifCond .ge 5, 3) := by decide +kernel
theorem dd_X12_holds_17 : decode mb_X12_holds 17 = .ok (.iconst (-1), 1) := by decide +kernel
theorem dd_X12_holds_18 : decode mb_X12_holds 18 = .ok (.ireturn, 1) := by decide +kernel
theorem dd_X12_holds_19 : decode mb_X12_holds 19 = .ok (.aload_n 0, 1) := by decide +kernel
theorem dd_X12_holds_20 : decode mb_X12_holds 20 = .ok (.iload_n 1, 1) := by decide +kernel
theorem dd_X12_holds_21 : decode mb_X12_holds 21 = .ok (.invokevirtual 162, 3) := by decide +kernel
theorem dd_X12_holds_24 : decode mb_X12_holds 24 = .ok (.ifCond .eq 15, 3) := by decide +kernel
theorem dd_X12_holds_27 : decode mb_X12_holds 27 = .ok (.aload_n 0, 1) := by decide +kernel
theorem dd_X12_holds_28 : decode mb_X12_holds 28 = .ok (.getfield 7, 3) := by decide +kernel
theorem dd_X12_holds_31 : decode mb_X12_holds 31 = .ok (.iload_n 1, 1) := by decide +kernel
theorem dd_X12_holds_32 : decode mb_X12_holds 32 = .ok (.iaload, 1) := by decide +kernel
theorem dd_X12_holds_33 : decode mb_X12_holds 33 = .ok (.bipush 100, 2) := by decide +kernel
theorem dd_X12_holds_35 : decode mb_X12_holds 35 = .ok (.isub, 1) := by decide +kernel
theorem dd_X12_holds_36 : decode mb_X12_holds 36 = .ok (.goto 12, 3) := by decide +kernel
theorem dd_X12_holds_39 : decode mb_X12_holds 39 = .ok (.bipush 10, 2) := by decide +kernel
theorem dd_X12_holds_41 : decode mb_X12_holds 41 = .ok (.aload_n 0, 1) := by decide +kernel
theorem dd_X12_holds_42 : decode mb_X12_holds 42 = .ok (.getfield 7, 3) := by decide +kernel
theorem dd_X12_holds_45 : decode mb_X12_holds 45 = .ok (.iload_n 1, 1) := by decide +kernel
theorem dd_X12_holds_46 : decode mb_X12_holds 46 = .ok (.iaload, 1) := by decide +kernel
theorem dd_X12_holds_47 : decode mb_X12_holds 47 = .ok (.iadd, 1) := by decide +kernel
theorem dd_X12_holds_48 : decode mb_X12_holds 48 = .ok (.ireturn, 1) := by decide +kernel
theorem dd_X12_holdsThing_0 : decode mb_X12_holdsThing 0 = .ok (.aload_n 0, 1) := by decide +kernel
theorem dd_X12_holdsThing_1 : decode mb_X12_holdsThing 1 = .ok (.getfield 7, 3) := by decide +kernel
theorem dd_X12_holdsThing_4 : decode mb_X12_holdsThing 4 = .ok (.iload_n 1, 1) := by decide +kernel
theorem dd_X12_holdsThing_5 : decode mb_X12_holdsThing 5 = .ok (.iaload, 1) := by decide +kernel
theorem dd_X12_holdsThing_6 : decode mb_X12_holdsThing 6 = .ok (.ifCond .lt 18, 3) := by decide +kernel
theorem dd_X12_holdsThing_9 : decode mb_X12_holdsThing 9 = .ok (.aload_n 0, 1) := by decide +kernel
theorem dd_X12_holdsThing_10 : decode mb_X12_holdsThing 10 = .ok (.getfield 7, 3) := by decide +kernel
theorem dd_X12_holdsThing_13 : decode mb_X12_holdsThing 13 = .ok (.iload_n 1, 1) := by decide +kernel
theorem dd_X12_holdsThing_14 : decode mb_X12_holdsThing 14 = .ok (.iaload, 1) := by decide +kernel
theorem dd_X12_holdsThing_15 : decode mb_X12_holdsThing 15 = .ok (.bipush 100, 2) := by decide +kernel
theorem dd_X12_holdsThing_17 : decode mb_X12_holdsThing 17 = .ok (.if_icmp .ge 7, 3) := by decide +kernel
theorem dd_X12_holdsThing_20 : decode mb_X12_holdsThing 20 = .ok (.iconst 1, 1) := by decide +kernel
theorem dd_X12_holdsThing_21 : decode mb_X12_holdsThing 21 = .ok (.goto 4, 3) := by decide +kernel
theorem dd_X12_holdsThing_24 : decode mb_X12_holdsThing 24 = .ok (.iconst 0, 1) := by decide +kernel
theorem dd_X12_holdsThing_25 : decode mb_X12_holdsThing 25 = .ok (.ireturn, 1) := by decide +kernel
theorem dd_X12_image_0 : decode mb_X12_image 0 = .ok (.aload_n 0, 1) := by decide +kernel
theorem dd_X12_image_1 : decode mb_X12_image 1 = .ok (.getfield 101, 3) := by decide +kernel
theorem dd_X12_image_4 : decode mb_X12_image 4 = .ok (.iconst 0, 1) := by decide +kernel
theorem dd_X12_image_5 : decode mb_X12_image 5 = .ok (.aload_n 0, 1) := by decide +kernel
theorem dd_X12_image_6 : decode mb_X12_image 6 = .ok (.getfield 135, 3) := by decide +kernel
theorem dd_X12_image_9 : decode mb_X12_image 9 = .ok (.iastore, 1) := by decide +kernel
theorem dd_X12_image_10 : decode mb_X12_image 10 = .ok (.aload_n 0, 1) := by decide +kernel
theorem dd_X12_image_11 : decode mb_X12_image 11 = .ok (.getfield 101, 3) := by decide +kernel
theorem dd_X12_image_14 : decode mb_X12_image 14 = .ok (.iconst 1, 1) := by decide +kernel
theorem dd_X12_image_15 : decode mb_X12_image 15 = .ok (.aload_n 0, 1) := by decide +kernel
theorem dd_X12_image_16 : decode mb_X12_image 16 = .ok (.getfield 139, 3) := by decide +kernel
theorem dd_X12_image_19 : decode mb_X12_image 19 = .ok (.iastore, 1) := by decide +kernel
theorem dd_X12_image_20 : decode mb_X12_image 20 = .ok (.aload_n 0, 1) := by decide +kernel
theorem dd_X12_image_21 : decode mb_X12_image 21 = .ok (.getfield 101, 3) := by decide +kernel
theorem dd_X12_image_24 : decode mb_X12_image 24 = .ok (.iconst 2, 1) := by decide +kernel
theorem dd_X12_image_25 : decode mb_X12_image 25 = .ok (.aload_n 0, 1) := by decide +kernel
theorem dd_X12_image_26 : decode mb_X12_image 26 = .ok (.getfield 142, 3) := by decide +kernel
theorem dd_X12_image_29 : decode mb_X12_image 29 = .ok (.iastore, 1) := by decide +kernel
theorem dd_X12_image_30 : decode mb_X12_image 30 = .ok (.aload_n 0, 1) := by decide +kernel
theorem dd_X12_image_31 : decode mb_X12_image 31 = .ok (.getfield 101, 3) := by decide +kernel
theorem dd_X12_image_34 : decode mb_X12_image 34 = .ok (.iconst 3, 1) := by decide +kernel
theorem dd_X12_image_35 : decode mb_X12_image 35 = .ok (.aload_n 0, 1) := by decide +kernel
theorem dd_X12_image_36 : decode mb_X12_image 36 = .ok (.getfield 145, 3) := by decide +kernel
theorem dd_X12_image_39 : decode mb_X12_image 39 = .ok (.iastore, 1) := by decide +kernel
theorem dd_X12_image_40 : decode mb_X12_image 40 = .ok (.aload_n 0, 1) := by decide +kernel
theorem dd_X12_image_41 : decode mb_X12_image 41 = .ok (.getfield 101, 3) := by decide +kernel
theorem dd_X12_image_44 : decode mb_X12_image 44 = .ok (.iconst 4, 1) := by decide +kernel
theorem dd_X12_image_45 : decode mb_X12_image 45 = .ok (.aload_n 0, 1) := by decide +kernel
theorem dd_X12_image_46 : decode mb_X12_image 46 = .ok (.getfield 273, 3) := by decide +kernel
theorem dd_X12_image_49 : decode mb_X12_image 49 = .ok (.iastore, 1) := by decide +kernel
theorem dd_X12_image_50 : decode mb_X12_image 50 = .ok (.aload_n 0, 1) := by decide +kernel
theorem dd_X12_image_51 : decode mb_X12_image 51 = .ok (.getfield 101, 3) := by decide +kernel
theorem dd_X12_image_54 : decode mb_X12_image 54 = .ok (.iconst 5, 1) := by decide +kernel
theorem dd_X12_image_55 : decode mb_X12_image 55 = .ok (.aload_n 0, 1) := by decide +kernel
theorem dd_X12_image_56 : decode mb_X12_image 56 = .ok (.getfield 279, 3) := by decide +kernel
theorem dd_X12_image_59 : decode mb_X12_image 59 = .ok (.iastore, 1) := by decide +kernel
theorem dd_X12_image_60 : decode mb_X12_image 60 = .ok (.aload_n 0, 1) := by decide +kernel
theorem dd_X12_image_61 : decode mb_X12_image 61 = .ok (.getfield 101, 3) := by decide +kernel
theorem dd_X12_image_64 : decode mb_X12_image 64 = .ok (.bipush 6, 2) := by decide +kernel
theorem dd_X12_image_66 : decode mb_X12_image 66 = .ok (.aload_n 0, 1) := by decide +kernel
theorem dd_X12_image_67 : decode mb_X12_image 67 = .ok (.getfield 288, 3) := by decide +kernel
theorem dd_X12_image_70 : decode mb_X12_image 70 = .ok (.iastore, 1) := by decide +kernel
theorem dd_X12_image_71 : decode mb_X12_image 71 = .ok (.aload_n 0, 1) := by decide +kernel
theorem dd_X12_image_72 : decode mb_X12_image 72 = .ok (.iconst 1, 1) := by decide +kernel
theorem dd_X12_image_73 : decode mb_X12_image 73 = .ok (.invokevirtual 306, 3) := by decide +kernel
theorem dd_X12_image_76 : decode mb_X12_image 76 = .ok (.aload_n 0, 1) := by decide +kernel
theorem dd_X12_image_77 : decode mb_X12_image 77 = .ok (.iconst 1, 1) := by decide +kernel
theorem dd_X12_image_78 : decode mb_X12_image 78 = .ok (.putfield 310, 3) := by decide +kernel
theorem dd_X12_image_81 : decode mb_X12_image 81 = .ok (.iconst 1, 1) := by decide +kernel
theorem dd_X12_image_82 : decode mb_X12_image 82 = .ok (.ireturn, 1) := by decide +kernel
theorem dd_X12_init_0 : decode mb_X12_init 0 = .ok (.aload_n 0, 1) := by decide +kernel
theorem dd_X12_init_1 : decode mb_X12_init 1 = .ok (.invokespecial 1, 3) := by decide +kernel
theorem dd_X12_init_4 : decode mb_X12_init 4 = .ok (.aload_n 0, 1) := by decide +kernel
theorem dd_X12_init_5 : decode mb_X12_init 5 = .ok (.bipush 8, 2) := by decide +kernel
theorem dd_X12_init_7 : decode mb_X12_init 7 = .ok (.newarray .int, 2) := by decide +kernel
theorem dd_X12_init_9 : decode mb_X12_init 9 = .ok (.putfield 7, 3) := by decide +kernel
theorem dd_X12_init_12 : decode mb_X12_init 12 = .ok (.aload_n 0, 1) := by decide +kernel
theorem dd_X12_init_13 : decode mb_X12_init 13 = .ok (.bipush 8, 2) := by decide +kernel
theorem dd_X12_init_15 : decode mb_X12_init 15 = .ok (.newarray .int, 2) := by decide +kernel
theorem dd_X12_init_17 : decode mb_X12_init 17 = .ok (.putfield 13, 3) := by decide +kernel
theorem dd_X12_init_20 : decode mb_X12_init 20 = .ok (.aload_n 0, 1) := by decide +kernel
theorem dd_X12_init_21 : decode mb_X12_init 21 = .ok (.sipush 320, 3) := by decide +kernel
theorem dd_X12_init_24 : decode mb_X12_init 24 = .ok (.newarray .long, 2) := by decide +kernel
theorem dd_X12_init_26 : decode mb_X12_init 26 = .ok (.putfield 16, 3) := by decide +kernel
theorem dd_X12_init_29 : decode mb_X12_init 29 = .ok (.aload_n 0, 1) := by decide +kernel
theorem dd_X12_init_30 : decode mb_X12_init 30 = .ok (.bipush 30, 2) := by decide +kernel
theorem dd_X12_init_32 : decode mb_X12_init 32 = .ok (.newarray .int, 2) := by decide +kernel
theorem dd_X12_init_34 : decode mb_X12_init 34 = .ok (.putfield 20, 3) := by decide +kernel
theorem dd_X12_init_37 : decode mb_X12_init 37 = .ok (.aload_n 0, 1) := by decide +kernel
theorem dd_X12_init_38 : decode mb_X12_init 38 = .ok (.bipush 30, 2) := by decide +kernel
theorem dd_X12_init_40 : decode mb_X12_init 40 = .ok (.newarray .int, 2) := by decide +kernel
theorem dd_X12_init_42 : decode mb_X12_init 42 = .ok (.putfield 23, 3) := by decide +kernel
theorem dd_X12_init_45 : decode mb_X12_init 45 = .ok (.aload_n 0, 1) := by decide +kernel
theorem dd_X12_init_46 : decode mb_X12_init 46 = .ok (.bipush 30, 2) := by decide +kernel
theorem dd_X12_init_48 : decode mb_X12_init 48 = .ok (.newarray .int, 2) := by decide +kernel
theorem dd_X12_init_50 : decode mb_X12_init 50 = .ok (.putfield 26, 3) := by decide +kernel
theorem dd_X12_init_53 : decode mb_X12_init 53 = .ok (.aload_n 0, 1) := by decide +kernel
theorem dd_X12_init_54 : decode mb_X12_init 54 = .ok (.bipush 30, 2) := by decide +kernel
theorem dd_X12_init_56 : decode mb_X12_init 56 = .ok (.newarray .int, 2) := by decide +kernel
theorem dd_X12_init_58 : decode mb_X12_init 58 = .ok (.putfield 29, 3) := by decide +kernel
theorem dd_X12_init_61 : decode mb_X12_init 61 = .ok (.aload_n 0, 1) := by decide +kernel
theorem dd_X12_init_62 : decode mb_X12_init 62 = .ok (.bipush 30, 2) := by decide +kernel
theorem dd_X12_init_64 : decode mb_X12_init 64 = .ok (.newarray .int, 2) := by decide +kernel
theorem dd_X12_init_66 : decode mb_X12_init 66 = .ok (.putfield 32, 3) := by decide +kernel
theorem dd_X12_init_69 : decode mb_X12_init 69 = .ok (.aload_n 0, 1) := by decide +kernel
theorem dd_X12_init_70 : decode mb_X12_init 70 = .ok (.bipush 30, 2) := by decide +kernel
theorem dd_X12_init_72 : decode mb_X12_init 72 = .ok (.newarray .int, 2) := by decide +kernel
theorem dd_X12_init_74 : decode mb_X12_init 74 = .ok (.putfield 35, 3) := by decide +kernel
theorem dd_X12_init_77 : decode mb_X12_init 77 = .ok (.aload_n 0, 1) := by decide +kernel
theorem dd_X12_init_78 : decode mb_X12_init 78 = .ok (.iconst 5, 1) := by decide +kernel
theorem dd_X12_init_79 : decode mb_X12_init 79 = .ok (.newarray .int, 2) := by decide +kernel
theorem dd_X12_init_81 : decode mb_X12_init 81 = .ok (.putfield 38, 3) := by decide +kernel
theorem dd_X12_init_84 : decode mb_X12_init 84 = .ok (.aload_n 0, 1) := by decide +kernel
theorem dd_X12_init_85 : decode mb_X12_init 85 = .ok (.iconst 5, 1) := by decide +kernel
theorem dd_X12_init_86 : decode mb_X12_init 86 = .ok (.newarray .int, 2) := by decide +kernel
theorem dd_X12_init_88 : decode mb_X12_init 88 = .ok (.putfield 41, 3) := by decide +kernel
theorem dd_X12_init_91 : decode mb_X12_init 91 = .ok (.aload_n 0, 1) := by decide +kernel
theorem dd_X12_init_92 : decode mb_X12_init 92 = .ok (.iconst 5, 1) := by decide +kernel
theorem dd_X12_init_93 : decode mb_X12_init 93 = .ok (.newarray .int, 2) := by decide +kernel
theorem dd_X12_init_95 : decode mb_X12_init 95 = .ok (.putfield 44, 3) := by decide +kernel
theorem dd_X12_init_98 : decode mb_X12_init 98 = .ok (.aload_n 0, 1) := by decide +kernel
theorem dd_X12_init_99 : decode mb_X12_init 99 = .ok (.bipush 30, 2) := by decide +kernel
theorem dd_X12_init_101 : decode mb_X12_init 101 = .ok (.newarray .int, 2) := by decide +kernel
theorem dd_X12_init_103 : decode mb_X12_init 103 = .ok (.putfield 47, 3) := by decide +kernel
theorem dd_X12_init_106 : decode mb_X12_init 106 = .ok (.aload_n 0, 1) := by decide +kernel
theorem dd_X12_init_107 : decode mb_X12_init 107 = .ok (.bipush 120, 2) := by decide +kernel
theorem dd_X12_init_109 : decode mb_X12_init 109 = .ok (.newarray .int, 2) := by decide +kernel
theorem dd_X12_init_111 : decode mb_X12_init 111 = .ok (.putfield 50, 3) := by decide +kernel
theorem dd_X12_init_114 : decode mb_X12_init 114 = .ok (.aload_n 0, 1) := by decide +kernel
theorem dd_X12_init_115 : decode mb_X12_init 115 = .ok (.bipush 12, 2) := by decide +kernel
theorem dd_X12_init_117 : decode mb_X12_init 117 = .ok (.newarray .int, 2) := by decide +kernel
theorem dd_X12_init_119 : decode mb_X12_init 119 = .ok (.putfield 53, 3) := by decide +kernel
theorem dd_X12_init_122 : decode mb_X12_init 122 = .ok (.aload_n 0, 1) := by decide +kernel
theorem dd_X12_init_123 : decode mb_X12_init 123 = .ok (.bipush 12, 2) := by decide +kernel
theorem dd_X12_init_125 : decode mb_X12_init 125 = .ok (.newarray .int, 2) := by decide +kernel
theorem dd_X12_init_127 : decode mb_X12_init 127 = .ok (.putfield 56, 3) := by decide +kernel
theorem dd_X12_init_130 : decode mb_X12_init 130 = .ok (.aload_n 0, 1) := by decide +kernel
theorem dd_X12_init_131 : decode mb_X12_init 131 = .ok (.bipush 12, 2) := by decide +kernel
theorem dd_X12_init_133 : decode mb_X12_init 133 = .ok (.newarray .int, 2) := by decide +kernel
theorem dd_X12_init_135 : decode mb_X12_init 135 = .ok (.putfield 59, 3) := by decide +kernel
theorem dd_X12_init_138 : decode mb_X12_init 138 = .ok (.aload_n 0, 1) := by decide +kernel
theorem dd_X12_init_139 : decode mb_X12_init 139 = .ok (.bipush 12, 2) := by decide +kernel
theorem dd_X12_init_141 : decode mb_X12_init 141 = .ok (.newarray .int, 2) := by decide +kernel
theorem dd_X12_init_143 : decode mb_X12_init 143 = .ok (.putfield 62, 3) := by decide +kernel
theorem dd_X12_init_146 : decode mb_X12_init 146 = .ok (.aload_n 0, 1) := by decide +kernel
theorem dd_X12_init_147 : decode mb_X12_init 147 = .ok (.bipush 12, 2) := by decide +kernel
theorem dd_X12_init_149 : decode mb_X12_init 149 = .ok (.newarray .int, 2) := by decide +kernel
theorem dd_X12_init_151 : decode mb_X12_init 151 = .ok (.putfield 65, 3) := by decide +kernel
theorem dd_X12_init_154 : decode mb_X12_init 154 = .ok (.aload_n 0, 1) := by decide +kernel
theorem dd_X12_init_155 : decode mb_X12_init 155 = .ok (.iconst 5, 1) := by decide +kernel
theorem dd_X12_init_156 : decode mb_X12_init 156 = .ok (.newarray .int, 2) := by decide +kernel
theorem dd_X12_init_158 : decode mb_X12_init 158 = .ok (.putfield 68, 3) := by decide +kernel
theorem dd_X12_init_161 : decode mb_X12_init 161 = .ok (.aload_n 0, 1) := by decide +kernel
theorem dd_X12_init_162 : decode mb_X12_init 162 = .ok (.bipush 20, 2) := by decide +kernel
theorem dd_X12_init_164 : decode mb_X12_init 164 = .ok (.newarray .int, 2) := by decide +kernel
theorem dd_X12_init_166 : decode mb_X12_init 166 = .ok (.putfield 71, 3) := by decide +kernel
theorem dd_X12_init_169 : decode mb_X12_init 169 = .ok (.aload_n 0, 1) := by decide +kernel
theorem dd_X12_init_170 : decode mb_X12_init 170 = .ok (.bipush 20, 2) := by decide +kernel
theorem dd_X12_init_172 : decode mb_X12_init 172 = .ok (.newarray .int, 2) := by decide +kernel
theorem dd_X12_init_174 : decode mb_X12_init 174 = .ok (.putfield 74, 3) := by decide +kernel
theorem dd_X12_init_177 : decode mb_X12_init 177 = .ok (.aload_n 0, 1) := by decide +kernel
theorem dd_X12_init_178 : decode mb_X12_init 178 = .ok (.bipush 20, 2) := by decide +kernel
theorem dd_X12_init_180 : decode mb_X12_init 180 = .ok (.newarray .int, 2) := by decide +kernel
theorem dd_X12_init_182 : decode mb_X12_init 182 = .ok (.putfield 77, 3) := by decide +kernel
theorem dd_X12_init_185 : decode mb_X12_init 185 = .ok (.aload_n 0, 1) := by decide +kernel
theorem dd_X12_init_186 : decode mb_X12_init 186 = .ok (.bipush 20, 2) := by decide +kernel
theorem dd_X12_init_188 : decode mb_X12_init 188 = .ok (.newarray .int, 2) := by decide +kernel
theorem dd_X12_init_190 : decode mb_X12_init 190 = .ok (.putfield 80, 3) := by decide +kernel
theorem dd_X12_init_193 : decode mb_X12_init 193 = .ok (.aload_n 0, 1) := by decide +kernel
theorem dd_X12_init_194 : decode mb_X12_init 194 = .ok (.bipush 10, 2) := by decide +kernel
theorem dd_X12_init_196 : decode mb_X12_init 196 = .ok (.newarray .int, 2) := by decide +kernel
theorem dd_X12_init_198 : decode mb_X12_init 198 = .ok (.putfield 83, 3) := by decide +kernel
theorem dd_X12_init_201 : decode mb_X12_init 201 = .ok (.aload_n 0, 1) := by decide +kernel
theorem dd_X12_init_202 : decode mb_X12_init 202 = .ok (.bipush 10, 2) := by decide +kernel
theorem dd_X12_init_204 : decode mb_X12_init 204 = .ok (.newarray .int, 2) := by decide +kernel
theorem dd_X12_init_206 : decode mb_X12_init 206 = .ok (.putfield 86, 3) := by decide +kernel
theorem dd_X12_init_209 : decode mb_X12_init 209 = .ok (.aload_n 0, 1) := by decide +kernel
theorem dd_X12_init_210 : decode mb_X12_init 210 = .ok (.bipush 16, 2) := by decide +kernel
theorem dd_X12_init_212 : decode mb_X12_init 212 = .ok (.newarray .int, 2) := by decide +kernel
theorem dd_X12_init_214 : decode mb_X12_init 214 = .ok (.putfield 89, 3) := by decide +kernel
theorem dd_X12_init_217 : decode mb_X12_init 217 = .ok (.aload_n 0, 1) := by decide +kernel
theorem dd_X12_init_218 : decode mb_X12_init 218 = .ok (.iconst 4, 1) := by decide +kernel
theorem dd_X12_init_219 : decode mb_X12_init 219 = .ok (.newarray .int, 2) := by decide +kernel
theorem dd_X12_init_221 : decode mb_X12_init 221 = .ok (.putfield 92, 3) := by decide +kernel
theorem dd_X12_init_224 : decode mb_X12_init 224 = .ok (.aload_n 0, 1) := by decide +kernel
theorem dd_X12_init_225 : decode mb_X12_init 225 = .ok (.bipush 7, 2) := by decide +kernel
theorem dd_X12_init_227 : decode mb_X12_init 227 = .ok (.newarray .int, 2) := by decide +kernel
theorem dd_X12_init_229 : decode mb_X12_init 229 = .ok (.putfield 95, 3) := by decide +kernel
theorem dd_X12_init_232 : decode mb_X12_init 232 = .ok (.aload_n 0, 1) := by decide +kernel
theorem dd_X12_init_233 : decode mb_X12_init 233 = .ok (.sipush 460, 3) := by decide +kernel
theorem dd_X12_init_236 : decode mb_X12_init 236 = .ok (.newarray .int, 2) := by decide +kernel
theorem dd_X12_init_238 : decode mb_X12_init 238 = .ok (.putfield 98, 3) := by decide +kernel
theorem dd_X12_init_241 : decode mb_X12_init 241 = .ok (.aload_n 0, 1) := by decide +kernel
theorem dd_X12_init_242 : decode mb_X12_init 242 = .ok (.bipush 7, 2) := by decide +kernel
theorem dd_X12_init_244 : decode mb_X12_init 244 = .ok (.newarray .int, 2) := by decide +kernel
theorem dd_X12_init_246 : decode mb_X12_init 246 = .ok (.putfield 101, 3) := by decide +kernel
theorem dd_X12_init_249 : decode mb_X12_init 249 = .ok (.aload_n 0, 1) := by decide +kernel
theorem dd_X12_init_250 : decode mb_X12_init 250 = .ok (.bipush 30, 2) := by decide +kernel
theorem dd_X12_init_252 : decode mb_X12_init 252 = .ok (.newarray .boolean, 2) := by decide +kernel
theorem dd_X12_init_254 : decode mb_X12_init 254 = .ok (.putfield 104, 3) := by decide +kernel
theorem dd_X12_init_257 : decode mb_X12_init 257 = .ok (.aload_n 0, 1) := by decide +kernel
theorem dd_X12_init_258 : decode mb_X12_init 258 = .ok (.bipush 12, 2) := by decide +kernel
theorem dd_X12_init_260 : decode mb_X12_init 260 = .ok (.newarray .int, 2) := by decide +kernel
theorem dd_X12_init_262 : decode mb_X12_init 262 = .ok (.putfield 108, 3) := by decide +kernel
theorem dd_X12_init_265 : decode mb_X12_init 265 = .ok (.aload_n 0, 1) := by decide +kernel
theorem dd_X12_init_266 : decode mb_X12_init 266 = .ok (.sipush 6231, 3) := by decide +kernel
theorem dd_X12_init_269 : decode mb_X12_init 269 = .ok (.newarray .int, 2) := by decide +kernel
theorem dd_X12_init_271 : decode mb_X12_init 271 = .ok (.putfield 111, 3) := by decide +kernel
theorem dd_X12_init_274 : decode mb_X12_init 274 = .ok (.aload_n 0, 1) := by decide +kernel
theorem dd_X12_init_275 : decode mb_X12_init 275 = .ok (.bipush 20, 2) := by decide +kernel
theorem dd_X12_init_277 : decode mb_X12_init 277 = .ok (.newarray .int, 2) := by decide +kernel
theorem dd_X12_init_279 : decode mb_X12_init 279 = .ok (.putfield 114, 3) := by decide +kernel
theorem dd_X12_init_282 : decode mb_X12_init 282 = .ok (.aload_n 0, 1) := by decide +kernel
theorem dd_X12_init_283 : decode mb_X12_init 283 = .ok (.bipush 20, 2) := by decide +kernel
theorem dd_X12_init_285 : decode mb_X12_init 285 = .ok (.newarray .int, 2) := by decide +kernel
theorem dd_X12_init_287 : decode mb_X12_init 287 = .ok (.putfield 117, 3) := by decide +kernel
theorem dd_X12_init_290 : decode mb_X12_init 290 = .ok (.aload_n 0, 1) := by decide +kernel
theorem dd_X12_init_291 : decode mb_X12_init 291 = .ok (.bipush 20, 2) := by decide +kernel
theorem dd_X12_init_293 : decode mb_X12_init 293 = .ok (.newarray .int, 2) := by decide +kernel
theorem dd_X12_init_295 : decode mb_X12_init 295 = .ok (.putfield 120, 3) := by decide +kernel
theorem dd_X12_init_298 : decode mb_X12_init 298 = .ok (.aload_n 0, 1) := by decide +kernel
theorem dd_X12_init_299 : decode mb_X12_init 299 = .ok (.bipush 20, 2) := by decide +kernel
theorem dd_X12_init_301 : decode mb_X12_init 301 = .ok (.newarray .int, 2) := by decide +kernel
theorem dd_X12_init_303 : decode mb_X12_init 303 = .ok (.putfield 123, 3) := by decide +kernel
theorem dd_X12_init_306 : decode mb_X12_init 306 = .ok (.aload_n 0, 1) := by decide +kernel
theorem dd_X12_init_307 : decode mb_X12_init 307 = .ok (.bipush 30, 2) := by decide +kernel
theorem dd_X12_init_309 : decode mb_X12_init 309 = .ok (.newarray .int, 2) := by decide +kernel
theorem dd_X12_init_311 : decode mb_X12_init 311 = .ok (.putfield 126, 3) := by decide +kernel
theorem dd_X12_init_314 : decode mb_X12_init 314 = .ok (.aload_n 0, 1) := by decide +kernel
theorem dd_X12_init_315 : decode mb_X12_init 315 = .ok (.iconst 5, 1) := by decide +kernel
theorem dd_X12_init_316 : decode mb_X12_init 316 = .ok (.newarray .int, 2) := by decide +kernel
theorem dd_X12_init_318 : decode mb_X12_init 318 = .ok (.putfield 129, 3) := by decide +kernel
theorem dd_X12_init_321 : decode mb_X12_init 321 = .ok (.aload_n 0, 1) := by decide +kernel
theorem dd_X12_init_322 : decode mb_X12_init 322 = .ok (.bipush 25, 2) := by decide +kernel
theorem dd_X12_init_324 : decode mb_X12_init 324 = .ok (.newarray .int, 2) := by decide +kernel
theorem dd_X12_init_326 : decode mb_X12_init 326 = .ok (.putfield 132, 3) := by decide +kernel
theorem dd_X12_init_329 : decode mb_X12_init 329 = .ok (.iconst 0, 1) := by decide +kernel
theorem dd_X12_init_330 : decode mb_X12_init 330 = .ok (.istore_n 1, 1) := by decide +kernel
theorem dd_X12_init_331 : decode mb_X12_init 331 = .ok (.iload_n 1, 1) := by decide +kernel
theorem dd_X12_init_332 : decode mb_X12_init 332 = .ok (.bipush 8, 2) := by decide +kernel
theorem dd_X12_init_334 : decode mb_X12_init 334 = .ok (.if_icmp .ge 16, 3) := by decide +kernel
theorem dd_X12_init_337 : decode mb_X12_init 337 = .ok (.aload_n 0, 1) := by decide +kernel
theorem dd_X12_init_338 : decode mb_X12_init 338 = .ok (.getfield 7, 3) := by decide +kernel
theorem dd_X12_init_341 : decode mb_X12_init 341 = .ok (.iload_n 1, 1) := by decide +kernel
theorem dd_X12_init_342 : decode mb_X12_init 342 = .ok (.iconst (-1), 1) := by decide +kernel
theorem dd_X12_init_343 : decode mb_X12_init 343 = .ok (.iastore, 1) := by decide +kernel
theorem dd_X12_init_344 : decode mb_X12_init 344 = .ok (.iinc 1 1, 3) := by decide +kernel
theorem dd_X12_init_347 : decode mb_X12_init 347 = .ok (.goto (-16), 3) := by decide +kernel
theorem dd_X12_init_350 : decode mb_X12_init 350 = .ok (.aload_n 0, 1) := by decide +kernel
theorem dd_X12_init_351 : decode mb_X12_init 351 = .ok (.getfield 92, 3) := by decide +kernel
theorem dd_X12_init_354 : decode mb_X12_init 354 = .ok (.iconst 0, 1) := by decide +kernel
theorem dd_X12_init_355 : decode mb_X12_init 355 = .ok (.bipush 12, 2) := by decide +kernel
theorem dd_X12_init_357 : decode mb_X12_init 357 = .ok (.iastore, 1) := by decide +kernel
theorem dd_X12_init_358 : decode mb_X12_init 358 = .ok (.aload_n 0, 1) := by decide +kernel
theorem dd_X12_init_359 : decode mb_X12_init 359 = .ok (.getfield 92, 3) := by decide +kernel
theorem dd_X12_init_362 : decode mb_X12_init 362 = .ok (.iconst 1, 1) := by decide +kernel
theorem dd_X12_init_363 : decode mb_X12_init 363 = .ok (.bipush 12, 2) := by decide +kernel
theorem dd_X12_init_365 : decode mb_X12_init 365 = .ok (.iastore, 1) := by decide +kernel
theorem dd_X12_init_366 : decode mb_X12_init 366 = .ok (.return_, 1) := by decide +kernel
theorem dd_X12_is_0 : decode mb_X12_is 0 = .ok (.iload_n 2, 1) := by decide +kernel
theorem dd_X12_is_1 : decode mb_X12_is 1 = .ok (.iload_n 1, 1) := by decide +kernel
theorem dd_X12_is_2 : decode mb_X12_is 2 = .ok (.isub, 1) := by decide +kernel
theorem dd_X12_is_3 : decode mb_X12_is 3 = .ok (.aload_n 3, 1) := by decide +kernel
theorem dd_X12_is_4 : decode mb_X12_is 4 = .ok (.invokevirtual 216, 3) := by decide +kernel
theorem dd_X12_is_7 : decode mb_X12_is 7 = .ok (.if_icmp .eq 5, 3) := by decide +kernel
theorem dd_X12_is_10 : decode mb_X12_is 10 = .ok (.iconst 0, 1) := by decide +kernel
theorem dd_X12_is_11 : decode mb_X12_is 11 = .ok (.ireturn, 1) := by decide +kernel
theorem dd_X12_is_12 : decode mb_X12_is 12 = .ok (.iconst 0, 1) := by decide +kernel
theorem dd_X12_is_13 : decode mb_X12_is 13 = .ok (.istore 4, 2) := by decide +kernel
theorem dd_X12_is_15 : decode mb_X12_is 15 = .ok (.iload 4, 2) := by decide +kernel
theorem dd_X12_is_17 : decode mb_X12_is 17 = .ok (.aload_n 3, 1) := by decide +kernel
theorem dd_X12_is_18 : decode mb_X12_is 18 = .ok (.invokevirtual 216, 3) := by decide +kernel
theorem dd_X12_is_21 : decode mb_X12_is 21 = .ok (.if_icmp .ge 29, 3) := by decide +kernel
theorem dd_X12_is_24 : decode mb_X12_is 24 = .ok (.aload_n 0, 1) := by decide +kernel
theorem dd_X12_is_25 : decode mb_X12_is 25 = .ok (.getfield 50, 3) := by decide +kernel
theorem dd_X12_is_28 : decode mb_X12_is 28 = .ok (.iload_n 1, 1) := by decide +kernel
theorem dd_X12_is_29 : decode mb_X12_is 29 = .ok (.iload 4, 2) := by decide +kernel
theorem dd_X12_is_31 : decode mb_X12_is 31 = .ok (.iadd, 1) := by decide +kernel
theorem dd_X12_is_32 : decode mb_X12_is 32 = .ok (.iaload, 1) := by decide +kernel
theorem dd_X12_is_33 : decode mb_X12_is 33 = .ok (.aload_n 3, 1) := by decide +kernel
theorem dd_X12_is_34 : decode mb_X12_is 34 = .ok (.iload 4, 2) := by decide +kernel
theorem dd_X12_is_36 : decode mb_X12_is 36 = .ok (.invokevirtual 222, 3) := by decide +kernel
theorem dd_X12_is_39 : decode mb_X12_is 39 = .ok (.if_icmp .eq 5, 3) := by decide +kernel
theorem dd_X12_is_42 : decode mb_X12_is 42 = .ok (.iconst 0, 1) := by decide +kernel
theorem dd_X12_is_43 : decode mb_X12_is 43 = .ok (.ireturn, 1) := by decide +kernel
theorem dd_X12_is_44 : decode mb_X12_is 44 = .ok (.iinc 4 1, 3) := by decide +kernel
theorem dd_X12_is_47 : decode mb_X12_is 47 = .ok (.goto (-32), 3) := by decide +kernel
theorem dd_X12_is_50 : decode mb_X12_is 50 = .ok (.iconst 1, 1) := by decide +kernel
theorem dd_X12_is_51 : decode mb_X12_is 51 = .ok (.ireturn, 1) := by decide +kernel
theorem dd_X12_isBuyer_0 : decode mb_X12_isBuyer 0 = .ok (.iload_n 1, 1) := by decide +kernel
theorem dd_X12_isBuyer_1 : decode mb_X12_isBuyer 1 = .ok (.ifCond .lt 15, 3) := by decide +kernel
theorem dd_X12_isBuyer_4 : decode mb_X12_isBuyer 4 = .ok (.iload_n 1, 1) := by decide +kernel
theorem dd_X12_isBuyer_5 : decode mb_X12_isBuyer 5 = .ok (.aload_n 0, 1) := by decide +kernel
theorem dd_X12_isBuyer_6 : decode mb_X12_isBuyer 6 = .ok (.getfield 145, 3) := by decide +kernel
theorem dd_X12_isBuyer_9 : decode mb_X12_isBuyer 9 = .ok (.if_icmp .ge 7, 3) := by decide +kernel
theorem dd_X12_isBuyer_12 : decode mb_X12_isBuyer 12 = .ok (.iconst 1, 1) := by decide +kernel
theorem dd_X12_isBuyer_13 : decode mb_X12_isBuyer 13 = .ok (.goto 4, 3) := by decide +kernel
theorem dd_X12_isBuyer_16 : decode mb_X12_isBuyer 16 = .ok (.iconst 0, 1) := by decide +kernel
theorem dd_X12_isBuyer_17 : decode mb_X12_isBuyer 17 = .ok (.ireturn, 1) := by decide +kernel
theorem dd_X12_isDigit_0 : decode mb_X12_isDigit 0 = .ok (.iload_n 1, 1) := by decide +kernel
theorem dd_X12_isDigit_1 : decode mb_X12_isDigit 1 = .ok (.bipush 48, 2) := by decide +kernel
theorem dd_X12_isDigit_3 : decode mb_X12_isDigit 3 = .ok (.if_icmp .lt 13, 3) := by decide +kernel
theorem dd_X12_isDigit_6 : decode mb_X12_isDigit 6 = .ok (.iload_n 1, 1) := by decide +kernel
theorem dd_X12_isDigit_7 : decode mb_X12_isDigit 7 = .ok (.bipush 57, 2) := by decide +kernel
theorem dd_X12_isDigit_9 : decode mb_X12_isDigit 9 = .ok (.if_icmp .gt 7, 3) := by decide +kernel
theorem dd_X12_isDigit_12 : decode mb_X12_isDigit 12 = .ok (.iconst 1, 1) := by decide +kernel
theorem dd_X12_isDigit_13 : decode mb_X12_isDigit 13 = .ok (.goto 4, 3) := by decide +kernel
theorem dd_X12_isDigit_16 : decode mb_X12_isDigit 16 = .ok (.iconst 0, 1) := by decide +kernel
theorem dd_X12_isDigit_17 : decode mb_X12_isDigit 17 = .ok (.ireturn, 1) := by decide +kernel
theorem dd_X12_isHour_0 : decode mb_X12_isHour 0 = .ok (.iload_n 1, 1) := by decide +kernel
theorem dd_X12_isHour_1 : decode mb_X12_isHour 1 = .ok (.ifCond .lt 13, 3) := by decide +kernel
theorem dd_X12_isHour_4 : decode mb_X12_isHour 4 = .ok (.iload_n 1, 1) := by decide +kernel
theorem dd_X12_isHour_5 : decode mb_X12_isHour 5 = .ok (.bipush 12, 2) := by decide +kernel
theorem dd_X12_isHour_7 : decode mb_X12_isHour 7 = .ok (.if_icmp .ge 7, 3) := by decide +kernel
theorem dd_X12_isHour_10 : decode mb_X12_isHour 10 = .ok (.iconst 1, 1) := by decide +kernel
theorem dd_X12_isHour_11 : decode mb_X12_isHour 11 = .ok (.goto 4, 3) := by decide +kernel
theorem dd_X12_isHour_14 : decode mb_X12_isHour 14 = .ok (.iconst 0, 1) := by decide +kernel
theorem dd_X12_isHour_15 : decode mb_X12_isHour 15 = .ok (.ireturn, 1) := by decide +kernel
theorem dd_X12_isKind_0 : decode mb_X12_isKind 0 = .ok (.iload_n 1, 1) := by decide +kernel
theorem dd_X12_isKind_1 : decode mb_X12_isKind 1 = .ok (.ifCond .lt 13, 3) := by decide +kernel
theorem dd_X12_isKind_4 : decode mb_X12_isKind 4 = .ok (.iload_n 1, 1) := by decide +kernel
theorem dd_X12_isKind_5 : decode mb_X12_isKind 5 = .ok (.bipush 6, 2) := by decide +kernel
theorem dd_X12_isKind_7 : decode mb_X12_isKind 7 = .ok (.if_icmp .ge 7, 3) := by decide +kernel
theorem dd_X12_isKind_10 : decode mb_X12_isKind 10 = .ok (.iconst 1, 1) := by decide +kernel
theorem dd_X12_isKind_11 : decode mb_X12_isKind 11 = .ok (.goto 4, 3) := by decide +kernel
theorem dd_X12_isKind_14 : decode mb_X12_isKind 14 = .ok (.iconst 0, 1) := by decide +kernel
theorem dd_X12_isKind_15 : decode mb_X12_isKind 15 = .ok (.ireturn, 1) := by decide +kernel
theorem dd_X12_isLady_0 : decode mb_X12_isLady 0 = .ok (.iload_n 1, 1) := by decide +kernel
theorem dd_X12_isLady_1 : decode mb_X12_isLady 1 = .ok (.ifCond .lt 15, 3) := by decide +kernel
theorem dd_X12_isLady_4 : decode mb_X12_isLady 4 = .ok (.iload_n 1, 1) := by decide +kernel
theorem dd_X12_isLady_5 : decode mb_X12_isLady 5 = .ok (.aload_n 0, 1) := by decide +kernel
theorem dd_X12_isLady_6 : decode mb_X12_isLady 6 = .ok (.getfield 139, 3) := by decide +kernel
theorem dd_X12_isLady_9 : decode mb_X12_isLady 9 = .ok (.if_icmp .ge 7, 3) := by decide +kernel
theorem dd_X12_isLady_12 : decode mb_X12_isLady 12 = .ok (.iconst 1, 1) := by decide +kernel
theorem dd_X12_isLady_13 : decode mb_X12_isLady 13 = .ok (.goto 4, 3) := by decide +kernel
theorem dd_X12_isLady_16 : decode mb_X12_isLady 16 = .ok (.iconst 0, 1) := by decide +kernel
theorem dd_X12_isLady_17 : decode mb_X12_isLady 17 = .ok (.ireturn, 1) := by decide +kernel
theorem dd_X12_isLaw_0 : decode mb_X12_isLaw 0 = .ok (.iload_n 1, 1) := by decide +kernel
theorem dd_X12_isLaw_1 : decode mb_X12_isLaw 1 = .ok (.ifCond .lt 15, 3) := by decide +kernel
theorem dd_X12_isLaw_4 : decode mb_X12_isLaw 4 = .ok (.iload_n 1, 1) := by decide +kernel
theorem dd_X12_isLaw_5 : decode mb_X12_isLaw 5 = .ok (.aload_n 0, 1) := by decide +kernel
theorem dd_X12_isLaw_6 : decode mb_X12_isLaw 6 = .ok (.getfield 142, 3) := by decide +kernel
theorem dd_X12_isLaw_9 : decode mb_X12_isLaw 9 = .ok (.if_icmp .ge 7, 3) := by decide +kernel
theorem dd_X12_isLaw_12 : decode mb_X12_isLaw 12 = .ok (.iconst 1, 1) := by decide +kernel
theorem dd_X12_isLaw_13 : decode mb_X12_isLaw 13 = .ok (.goto 4, 3) := by decide +kernel
theorem dd_X12_isLaw_16 : decode mb_X12_isLaw 16 = .ok (.iconst 0, 1) := by decide +kernel
theorem dd_X12_isLaw_17 : decode mb_X12_isLaw 17 = .ok (.ireturn, 1) := by decide +kernel
theorem dd_X12_isLetter_0 : decode mb_X12_isLetter 0 = .ok (.iload_n 1, 1) := by decide +kernel
theorem dd_X12_isLetter_1 : decode mb_X12_isLetter 1 = .ok (.bipush 97, 2) := by decide +kernel
theorem dd_X12_isLetter_3 : decode mb_X12_isLetter 3 = .ok (.if_icmp .lt 13, 3) := by decide +kernel
theorem dd_X12_isLetter_6 : decode mb_X12_isLetter 6 = .ok (.iload_n 1, 1) := by decide +kernel
theorem dd_X12_isLetter_7 : decode mb_X12_isLetter 7 = .ok (.bipush 122, 2) := by decide +kernel
theorem dd_X12_isLetter_9 : decode mb_X12_isLetter 9 = .ok (.if_icmp .gt 7, 3) := by decide +kernel
theorem dd_X12_isLetter_12 : decode mb_X12_isLetter 12 = .ok (.iconst 1, 1) := by decide +kernel
theorem dd_X12_isLetter_13 : decode mb_X12_isLetter 13 = .ok (.goto 4, 3) := by decide +kernel
theorem dd_X12_isLetter_16 : decode mb_X12_isLetter 16 = .ok (.iconst 0, 1) := by decide +kernel
theorem dd_X12_isLetter_17 : decode mb_X12_isLetter 17 = .ok (.ireturn, 1) := by decide +kernel
theorem dd_X12_isOf_0 : decode mb_X12_isOf 0 = .ok (.iload_n 1, 1) := by decide +kernel
theorem dd_X12_isOf_1 : decode mb_X12_isOf 1 = .ok (.iload_n 2, 1) := by decide +kernel
theorem dd_X12_isOf_2 : decode mb_X12_isOf 2 = .ok (.ishr, 1) := by decide +kernel
theorem dd_X12_isOf_3 : decode mb_X12_isOf 3 = .ok (.iconst 1, 1) := by decide +kernel
theorem dd_X12_isOf_4 : decode mb_X12_isOf 4 = .ok (.iand, 1) := by decide +kernel
theorem dd_X12_isOf_5 : decode mb_X12_isOf 5 = .ok (.iconst 1, 1) := by decide +kernel
theorem dd_X12_isOf_6 : decode mb_X12_isOf 6 = .ok (.if_icmp .ne 7, 3) := by decide +kernel
theorem dd_X12_isOf_9 : decode mb_X12_isOf 9 = .ok (.iconst 1, 1) := by decide +kernel
theorem dd_X12_isOf_10 : decode mb_X12_isOf 10 = .ok (.goto 4, 3) := by decide +kernel
theorem dd_X12_isOf_13 : decode mb_X12_isOf 13 = .ok (.iconst 0, 1) := by decide +kernel
theorem dd_X12_isOf_14 : decode mb_X12_isOf 14 = .ok (.ireturn, 1) := by decide +kernel
theorem dd_X12_isPerson_0 : decode mb_X12_isPerson 0 = .ok (.iload_n 1, 1) := by decide +kernel
theorem dd_X12_isPerson_1 : decode mb_X12_isPerson 1 = .ok (.ifCond .lt 13, 3) := by decide +kernel
theorem dd_X12_isPerson_4 : decode mb_X12_isPerson 4 = .ok (.iload_n 1, 1) := by decide +kernel
theorem dd_X12_isPerson_5 : decode mb_X12_isPerson 5 = .ok (.bipush 16, 2) := by decide +kernel
theorem dd_X12_isPerson_7 : decode mb_X12_isPerson 7 = .ok (.if_icmp .ge 7, 3) := by decide +kernel
theorem dd_X12_isPerson_10 : decode mb_X12_isPerson 10 = .ok (.iconst 1, 1) := by decide +kernel
theorem dd_X12_isPerson_11 : decode mb_X12_isPerson 11 = .ok (.goto 4, 3) := by decide +kernel
theorem dd_X12_isPerson_14 : decode mb_X12_isPerson 14 = .ok (.iconst 0, 1) := by decide +kernel
theorem dd_X12_isPerson_15 : decode mb_X12_isPerson 15 = .ok (.ireturn, 1) := by decide +kernel
theorem dd_X12_isRow_0 : decode mb_X12_isRow 0 = .ok (.aload_n 0, 1) := by decide +kernel
theorem dd_X12_isRow_1 : decode mb_X12_isRow 1 = .ok (.getfield 7, 3) := by decide +kernel
theorem dd_X12_isRow_4 : decode mb_X12_isRow 4 = .ok (.iload_n 1, 1) := by decide +kernel
theorem dd_X12_isRow_5 : decode mb_X12_isRow 5 = .ok (.iaload, 1) := by decide +kernel
theorem dd_X12_isRow_6 : decode mb_X12_isRow 6 = .ok (.bipush 100, 2) := by decide +kernel
theorem dd_X12_isRow_8 : decode mb_X12_isRow 8 = .ok (.if_icmp .lt 7, 3) := by decide +kernel
theorem dd_X12_isRow_11 : decode mb_X12_isRow 11 = .ok (.iconst 1, 1) := by decide +kernel
theorem dd_X12_isRow_12 : decode mb_X12_isRow 12 = .ok (.goto 4, 3) := by decide +kernel
theorem dd_X12_isRow_15 : decode mb_X12_isRow 15 = .ok (.iconst 0, 1) := by decide +kernel
theorem dd_X12_isRow_16 : decode mb_X12_isRow 16 = .ok (.ireturn, 1) := by decide +kernel
theorem dd_X12_isShelf_0 : decode mb_X12_isShelf 0 = .ok (.iload_n 1, 1) := by decide +kernel
theorem dd_X12_isShelf_1 : decode mb_X12_isShelf 1 = .ok (.ifCond .lt 13, 3) := by decide +kernel
theorem dd_X12_isShelf_4 : decode mb_X12_isShelf 4 = .ok (.iload_n 1, 1) := by decide +kernel
theorem dd_X12_isShelf_5 : decode mb_X12_isShelf 5 = .ok (.bipush 8, 2) := by decide +kernel
theorem dd_X12_isShelf_7 : decode mb_X12_isShelf 7 = .ok (.if_icmp .ge 7, 3) := by decide +kernel
theorem dd_X12_isShelf_10 : decode mb_X12_isShelf 10 = .ok (.iconst 1, 1) := by decide +kernel
theorem dd_X12_isShelf_11 : decode mb_X12_isShelf 11 = .ok (.goto 4, 3) := by decide +kernel
theorem dd_X12_isShelf_14 : decode mb_X12_isShelf 14 = .ok (.iconst 0, 1) := by decide +kernel
theorem dd_X12_isShelf_15 : decode mb_X12_isShelf 15 = .ok (.ireturn, 1) := by decide +kernel
theorem dd_X12_isThing_0 : decode mb_X12_isThing 0 = .ok (.iload_n 1, 1) := by decide +kernel
theorem dd_X12_isThing_1 : decode mb_X12_isThing 1 = .ok (.ifCond .lt 15, 3) := by decide +kernel
theorem dd_X12_isThing_4 : decode mb_X12_isThing 4 = .ok (.iload_n 1, 1) := by decide +kernel
theorem dd_X12_isThing_5 : decode mb_X12_isThing 5 = .ok (.aload_n 0, 1) := by decide +kernel
theorem dd_X12_isThing_6 : decode mb_X12_isThing 6 = .ok (.getfield 135, 3) := by decide +kernel
theorem dd_X12_isThing_9 : decode mb_X12_isThing 9 = .ok (.if_icmp .ge 7, 3) := by decide +kernel
theorem dd_X12_isThing_12 : decode mb_X12_isThing 12 = .ok (.iconst 1, 1) := by decide +kernel
theorem dd_X12_isThing_13 : decode mb_X12_isThing 13 = .ok (.goto 4, 3) := by decide +kernel
theorem dd_X12_isThing_16 : decode mb_X12_isThing 16 = .ok (.iconst 0, 1) := by decide +kernel
theorem dd_X12_isThing_17 : decode mb_X12_isThing 17 = .ok (.ireturn, 1) := by decide +kernel
theorem dd_X12_isUnder_0 : decode mb_X12_isUnder 0 = .ok (.iload_n 2, 1) := by decide +kernel
theorem dd_X12_isUnder_1 : decode mb_X12_isUnder 1 = .ok (.ifCond .eq 8, 3) := by decide +kernel
theorem dd_X12_isUnder_4 : decode mb_X12_isUnder 4 = .ok (.iload_n 1, 1) := by decide +kernel
theorem dd_X12_isUnder_5 : decode mb_X12_isUnder 5 = .ok (.iload_n 2, 1) := by decide +kernel
theorem dd_X12_isUnder_6 : decode mb_X12_isUnder 6 = .ok (.if_icmp .ne 5, 3) := by decide +kernel
theorem dd_X12_isUnder_9 : decode mb_X12_isUnder 9 = .ok (.iconst 1, 1) := by decide +kernel
theorem dd_X12_isUnder_10 : decode mb_X12_isUnder 10 = .ok (.ireturn, 1) := by decide +kernel
theorem dd_X12_isUnder_11 : decode mb_X12_isUnder 11 = .ok (.iload_n 2, 1) := by decide +kernel
theorem dd_X12_isUnder_12 : decode mb_X12_isUnder 12 = .ok (.iconst 1, 1) := by decide +kernel
theorem dd_X12_isUnder_13 : decode mb_X12_isUnder 13 = .ok (.if_icmp .ne 19, 3) := by decide +kernel
theorem dd_X12_isUnder_16 : decode mb_X12_isUnder 16 = .ok (.iload_n 1, 1) := by decide +kernel
theorem dd_X12_isUnder_17 : decode mb_X12_isUnder 17 = .ok (.iconst 2, 1) := by decide +kernel
theorem dd_X12_isUnder_18 : decode mb_X12_isUnder 18 = .ok (.if_icmp .eq 8, 3) := by decide +kernel
theorem dd_X12_isUnder_21 : decode mb_X12_isUnder 21 = .ok (.iload_n 1, 1) := by decide +kernel
theorem dd_X12_isUnder_22 : decode mb_X12_isUnder 22 = .ok (.iconst 3, 1) := by decide +kernel
theorem dd_X12_isUnder_23 : decode mb_X12_isUnder 23 = .ok (.if_icmp .ne 7, 3) := by decide +kernel
theorem dd_X12_isUnder_26 : decode mb_X12_isUnder 26 = .ok (.iconst 1, 1) := by decide +kernel
theorem dd_X12_isUnder_27 : decode mb_X12_isUnder 27 = .ok (.goto 4, 3) := by decide +kernel
theorem dd_X12_isUnder_30 : decode mb_X12_isUnder 30 = .ok (.iconst 0, 1) := by decide +kernel
theorem dd_X12_isUnder_31 : decode mb_X12_isUnder 31 = .ok (.ireturn, 1) := by decide +kernel
theorem dd_X12_isUnder_32 : decode mb_X12_isUnder 32 = .ok (.iload_n 2, 1) := by decide +kernel
theorem dd_X12_isUnder_33 : decode mb_X12_isUnder 33 = .ok (.iconst 2, 1) := by decide +kernel
theorem dd_X12_isUnder_34 : decode mb_X12_isUnder 34 = .ok (.if_icmp .ne 12, 3) := by decide +kernel
theorem dd_X12_isUnder_37 : decode mb_X12_isUnder 37 = .ok (.iload_n 1, 1) := by decide +kernel
theorem dd_X12_isUnder_38 : decode mb_X12_isUnder 38 = .ok (.iconst 3, 1) := by decide +kernel
theorem dd_X12_isUnder_39 : decode mb_X12_isUnder 39 = .ok (.if_icmp .ne 7, 3) := by decide +kernel
theorem dd_X12_isUnder_42 : decode mb_X12_isUnder 42 = .ok (.iconst 1, 1) := by decide +kernel
theorem dd_X12_isUnder_43 : decode mb_X12_isUnder 43 = .ok (.goto 4, 3) := by decide +kernel
theorem dd_X12_isUnder_46 : decode mb_X12_isUnder 46 = .ok (.iconst 0, 1) := by decide +kernel
theorem dd_X12_isUnder_47 : decode mb_X12_isUnder 47 = .ok (.ireturn, 1) := by decide +kernel
theorem dd_X12_judge_0 : decode mb_X12_judge 0 = .ok (.aload_n 0, 1) := by decide +kernel
theorem dd_X12_judge_1 : decode mb_X12_judge 1 = .ok (.iload_n 1, 1) := by decide +kernel
theorem dd_X12_judge_2 : decode mb_X12_judge 2 = .ok (.invokevirtual 159, 3) := by decide +kernel
theorem dd_X12_judge_5 : decode mb_X12_judge 5 = .ok (.istore_n 2, 1) := by decide +kernel
theorem dd_X12_judge_6 : decode mb_X12_judge 6 = .ok (.iload_n 2, 1) := by decide +kernel
theorem dd_X12_judge_7 : decode mb_X12_judge 7 = .ok (.ifCond .ge 9, 3) := by decide +kernel
theorem dd_X12_judge_10 : decode mb_X12_judge 10 = .ok (.aload_n 0, 1) := by decide +kernel
theorem dd_X12_judge_11 : decode mb_X12_judge 11 = .ok (.iload_n 2, 1) := by decide +kernel
theorem dd_X12_judge_12 : decode mb_X12_judge 12 = .ok (.invokevirtual 152, 3) := by decide +kernel
theorem dd_X12_judge_15 : decode mb_X12_judge 15 = .ok (.ireturn, 1) := by decide +kernel
theorem dd_X12_judge_16 : decode mb_X12_judge 16 = .ok (.aload_n 0, 1) := by decide +kernel
theorem dd_X12_judge_17 : decode mb_X12_judge 17 = .ok (.invokevirtual 258, 3) := by decide +kernel
theorem dd_X12_judge_20 : decode mb_X12_judge 20 = .ok (.iconst 0, 1) := by decide +kernel
theorem dd_X12_judge_21 : decode mb_X12_judge 21 = .ok (.istore_n 3, 1) := by decide +kernel
theorem dd_X12_judge_22 : decode mb_X12_judge 22 = .ok (.iload_n 3, 1) := by decide +kernel
theorem dd_X12_judge_23 : decode mb_X12_judge 23 = .ok (.bipush 12, 2) := by decide +kernel
theorem dd_X12_judge_25 : decode mb_X12_judge 25 = .ok (.if_icmp .ge 141, 3) := by decide +kernel
theorem dd_X12_judge_28 : decode mb_X12_judge 28 = .ok (.lconst 0, 1) := by decide +kernel
theorem dd_X12_judge_29 : decode mb_X12_judge 29 = .ok (.lstore 4, 2) := by decide +kernel
theorem dd_X12_judge_31 : decode mb_X12_judge 31 = .ok (.iconst 0, 1) := by decide +kernel
theorem dd_X12_judge_32 : decode mb_X12_judge 32 = .ok (.istore 6, 2) := by decide +kernel
theorem dd_X12_judge_34 : decode mb_X12_judge 34 = .ok (.iload 6, 2) := by decide +kernel
theorem dd_X12_judge_36 : decode mb_X12_judge 36 = .ok (.aload_n 0, 1) := by decide +kernel
theorem dd_X12_judge_37 : decode mb_X12_judge 37 = .ok (.getfield 145, 3) := by decide +kernel
theorem dd_X12_judge_40 : decode mb_X12_judge 40 = .ok (.if_icmp .ge 87, 3) := by decide +kernel
theorem dd_X12_judge_43 : decode mb_X12_judge 43 = .ok (.aload_n 0, 1) := by decide +kernel
theorem dd_X12_judge_44 : decode mb_X12_judge 44 = .ok (.iload 6, 2) := by decide +kernel
theorem dd_X12_judge_46 : decode mb_X12_judge 46 = .ok (.iload_n 3, 1) := by decide +kernel
theorem dd_X12_judge_47 : decode mb_X12_judge 47 = .ok (.aload_n 0, 1) := by decide +kernel
theorem dd_X12_judge_48 : decode mb_X12_judge 48 = .ok (.getfield 92, 3) := by decide +kernel
theorem dd_X12_judge_51 : decode mb_X12_judge 51 = .ok (.iconst 0, 1) := by decide +kernel
theorem dd_X12_judge_52 : decode mb_X12_judge 52 = .ok (.iaload, 1) := by decide +kernel
theorem dd_X12_judge_53 : decode mb_X12_judge 53 = .ok (.aload_n 0, 1) := by decide +kernel
theorem dd_X12_judge_54 : decode mb_X12_judge 54 = .ok (.getfield 92, 3) := by decide +kernel
theorem dd_X12_judge_57 : decode mb_X12_judge 57 = .ok (.iconst 1, 1) := by decide +kernel
theorem dd_X12_judge_58 : decode mb_X12_judge 58 = .ok (.iaload, 1) := by decide +kernel
theorem dd_X12_judge_59 : decode mb_X12_judge 59 = .ok (.invokevirtual 261, 3) := by decide +kernel
theorem dd_X12_judge_62 : decode mb_X12_judge 62 = .ok (.istore 7, 2) := by decide +kernel
theorem dd_X12_judge_64 : decode mb_X12_judge 64 = .ok (.iload 7, 2) := by decide +kernel
theorem dd_X12_judge_66 : decode mb_X12_judge 66 = .ok (.ifCond .ge 6, 3) := by decide +kernel
theorem dd_X12_judge_69 : decode mb_X12_judge 69 = .ok (.goto 52, 3) := by decide +kernel
theorem dd_X12_judge_72 : decode mb_X12_judge 72 = .ok (.aload_n 0, 1) := by decide +kernel
theorem dd_X12_judge_73 : decode mb_X12_judge 73 = .ok (.iload 7, 2) := by decide +kernel
theorem dd_X12_judge_75 : decode mb_X12_judge 75 = .ok (.iload_n 3, 1) := by decide +kernel
theorem dd_X12_judge_76 : decode mb_X12_judge 76 = .ok (.aload_n 0, 1) := by decide +kernel
theorem dd_X12_judge_77 : decode mb_X12_judge 77 = .ok (.getfield 92, 3) := by decide +kernel
theorem dd_X12_judge_80 : decode mb_X12_judge 80 = .ok (.iconst 0, 1) := by decide +kernel
theorem dd_X12_judge_81 : decode mb_X12_judge 81 = .ok (.iaload, 1) := by decide +kernel
theorem dd_X12_judge_82 : decode mb_X12_judge 82 = .ok (.aload_n 0, 1) := by decide +kernel
theorem dd_X12_judge_83 : decode mb_X12_judge 83 = .ok (.getfield 92, 3) := by decide +kernel
theorem dd_X12_judge_86 : decode mb_X12_judge 86 = .ok (.iconst 1, 1) := by decide +kernel
theorem dd_X12_judge_87 : decode mb_X12_judge 87 = .ok (.iaload, 1) := by decide +kernel
theorem dd_X12_judge_88 : decode mb_X12_judge 88 = .ok (.invokevirtual 254, 3) := by decide +kernel
theorem dd_X12_judge_91 : decode mb_X12_judge 91 = .ok (.istore 8, 2) := by decide +kernel
theorem dd_X12_judge_93 : decode mb_X12_judge 93 = .ok (.aload_n 0, 1) := by decide +kernel
theorem dd_X12_judge_94 : decode mb_X12_judge 94 = .ok (.getfield 104, 3) := by decide +kernel
theorem dd_X12_judge_97 : decode mb_X12_judge 97 = .ok (.iload 7, 2) := by decide +kernel
theorem dd_X12_judge_99 : decode mb_X12_judge 99 = .ok (.iconst 1, 1) := by decide +kernel
theorem dd_X12_judge_100 : decode mb_X12_judge 100 = .ok (.bastore, 1) := by decide +kernel
theorem dd_X12_judge_101 : decode mb_X12_judge 101 = .ok (.aload_n 0, 1) := by decide +kernel
theorem dd_X12_judge_102 : decode mb_X12_judge 102 = .ok (.getfield 108, 3) := by decide +kernel
theorem dd_X12_judge_105 : decode mb_X12_judge 105 = .ok (.iload 6, 2) := by decide +kernel
theorem dd_X12_judge_107 : decode mb_X12_judge 107 = .ok (.dup2, 1) := by decide +kernel
theorem dd_X12_judge_108 : decode mb_X12_judge 108 = .ok (.iaload, 1) := by decide +kernel
theorem dd_X12_judge_109 : decode mb_X12_judge 109 = .ok (.iload 8, 2) := by decide +kernel
theorem dd_X12_judge_111 : decode mb_X12_judge 111 = .ok (.isub, 1) := by decide +kernel
theorem dd_X12_judge_112 : decode mb_X12_judge 112 = .ok (.iastore, 1) := by decide +kernel
theorem dd_X12_judge_113 : decode mb_X12_judge 113 = .ok (.lload 4, 2) := by decide +kernel
theorem dd_X12_judge_115 : decode mb_X12_judge 115 = .ok (.iload 8, 2) := by decide +kernel
theorem dd_X12_judge_117 : decode mb_X12_judge 117 = .ok (.i2l, 1) := by decide +kernel
theorem dd_X12_judge_118 : decode mb_X12_judge 118 = .ok (.ladd, 1) := by decide +kernel
theorem dd_X12_judge_119 : decode mb_X12_judge 119 = .ok (.lstore 4, 2) := by decide +kernel
theorem dd_X12_judge_121 : decode mb_X12_judge 121 = .ok (.iinc 6 1, 3) := by decide +kernel
theorem dd_X12_judge_124 : decode mb_X12_judge 124 = .ok (.goto (-90), 3) := by decide +kernel
theorem dd_X12_judge_127 : decode mb_X12_judge 127 = .ok (.lload 4, 2) := by decide +kernel
theorem dd_X12_judge_129 : decode mb_X12_judge 129 = .ok (.iload_n 3, 1) := by decide +kernel
theorem dd_X12_judge_130 : decode mb_X12_judge 130 = .ok (.aload_n 0, 1) := by decide +kernel
theorem dd_X12_judge_131 : decode mb_X12_judge 131 = .ok (.getfield 13, 3) := by decide +kernel
theorem dd_X12_judge_134 : decode mb_X12_judge 134 = .ok (.iload_n 1, 1) := by decide +kernel
theorem dd_X12_judge_135 : decode mb_X12_judge 135 = .ok (.iaload, 1) := by decide +kernel
theorem dd_X12_judge_136 : decode mb_X12_judge 136 = .ok (.if_icmp .ge 17, 3) := by decide +kernel
theorem dd_X12_judge_139 : decode mb_X12_judge 139 = .ok (.aload_n 0, 1) := by decide +kernel
theorem dd_X12_judge_140 : decode mb_X12_judge 140 = .ok (.getfield 16, 3) := by decide +kernel
theorem dd_X12_judge_143 : decode mb_X12_judge 143 = .ok (.bipush 40, 2) := by decide +kernel
theorem dd_X12_judge_145 : decode mb_X12_judge 145 = .ok (.iload_n 1, 1) := by decide +kernel
theorem dd_X12_judge_146 : decode mb_X12_judge 146 = .ok (.imul, 1) := by decide +kernel
theorem dd_X12_judge_147 : decode mb_X12_judge 147 = .ok (.iload_n 3, 1) := by decide +kernel
theorem dd_X12_judge_148 : decode mb_X12_judge 148 = .ok (.iadd, 1) := by decide +kernel
theorem dd_X12_judge_149 : decode mb_X12_judge 149 = .ok (.laload, 1) := by decide +kernel
theorem dd_X12_judge_150 : decode mb_X12_judge 150 = .ok (.goto 4, 3) := by decide +kernel
theorem dd_X12_judge_153 : decode mb_X12_judge 153 = .ok (.lconst 0, 1) := by decide +kernel
theorem dd_X12_judge_154 : decode mb_X12_judge 154 = .ok (.lcmp, 1) := by decide +kernel
theorem dd_X12_judge_155 : decode mb_X12_judge 155 = .ok (.ifCond .eq 5, 3) := by decide +kernel
theorem dd_X12_judge_158 : decode mb_X12_judge 158 = .ok (.iload_n 3, 1) := by decide +kernel
theorem dd_X12_judge_159 : decode mb_X12_judge 159 = .ok (.ireturn, 1) := by decide +kernel
theorem dd_X12_judge_160 : decode mb_X12_judge 160 = .ok (.iinc 3 1, 3) := by decide +kernel
theorem dd_X12_judge_163 : decode mb_X12_judge 163 = .ok (.goto (-141), 3) := by decide +kernel
theorem dd_X12_judge_166 : decode mb_X12_judge 166 = .ok (.iconst (-1), 1) := by decide +kernel
theorem dd_X12_judge_167 : decode mb_X12_judge 167 = .ok (.ireturn, 1) := by decide +kernel
theorem dd_X12_lady_0 : decode mb_X12_lady 0 = .ok (.aload_n 0, 1) := by decide +kernel
theorem dd_X12_lady_1 : decode mb_X12_lady 1 = .ok (.iload_n 1, 1) := by decide +kernel
theorem dd_X12_lady_2 : decode mb_X12_lady 2 = .ok (.invokevirtual 190, 3) := by decide +kernel
theorem dd_X12_lady_5 : decode mb_X12_lady 5 = .ok (.ifCond .eq 14, 3) := by decide +kernel
theorem dd_X12_lady_8 : decode mb_X12_lady 8 = .ok (.iload_n 2, 1) := by decide +kernel
theorem dd_X12_lady_9 : decode mb_X12_lady 9 = .ok (.ifCond .lt 10, 3) := by decide +kernel
theorem dd_X12_lady_12 : decode mb_X12_lady 12 = .ok (.iload_n 2, 1) := by decide +kernel
theorem dd_X12_lady_13 : decode mb_X12_lady 13 = .ok (.sipush 999, 3) := by decide +kernel
theorem dd_X12_lady_16 : decode mb_X12_lady 16 = .ok (.if_icmp .le 10, 3) := by decide +kernel
theorem dd_X12_lady_19 : decode mb_X12_lady 19 = .ok (.aload_n 0, 1) := by decide +kernel
theorem dd_X12_lady_20 : decode mb_X12_lady 20 = .ok (.bipush (-2), 2) := by decide +kernel
theorem dd_X12_lady_22 : decode mb_X12_lady 22 = .ok (.invokevirtual 152, 3) := by decide +kernel
theorem dd_X12_lady_25 : decode mb_X12_lady 25 = .ok (.ireturn, 1) := by decide +kernel
theorem dd_X12_lady_26 : decode mb_X12_lady 26 = .ok (.aload_n 0, 1) := by decide +kernel
theorem dd_X12_lady_27 : decode mb_X12_lady 27 = .ok (.getfield 139, 3) := by decide +kernel
theorem dd_X12_lady_30 : decode mb_X12_lady 30 = .ok (.iconst 5, 1) := by decide +kernel
theorem dd_X12_lady_31 : decode mb_X12_lady 31 = .ok (.if_icmp .ne 10, 3) := by decide +kernel
theorem dd_X12_lady_34 : decode mb_X12_lady 34 = .ok (.aload_n 0, 1) := by decide +kernel
theorem dd_X12_lady_35 : decode mb_X12_lady 35 = .ok (.bipush (-6), 2) := by decide +kernel
theorem dd_X12_lady_37 : decode mb_X12_lady 37 = .ok (.invokevirtual 152, 3) := by decide +kernel
theorem dd_X12_lady_40 : decode mb_X12_lady 40 = .ok (.ireturn, 1) := by decide +kernel
theorem dd_X12_lady_41 : decode mb_X12_lady 41 = .ok (.aload_n 0, 1) := by decide +kernel
theorem dd_X12_lady_42 : decode mb_X12_lady 42 = .ok (.getfield 38, 3) := by decide +kernel
theorem dd_X12_lady_45 : decode mb_X12_lady 45 = .ok (.aload_n 0, 1) := by decide +kernel
theorem dd_X12_lady_46 : decode mb_X12_lady 46 = .ok (.getfield 139, 3) := by decide +kernel
theorem dd_X12_lady_49 : decode mb_X12_lady 49 = .ok (.iload_n 1, 1) := by decide +kernel
theorem dd_X12_lady_50 : decode mb_X12_lady 50 = .ok (.iastore, 1) := by decide +kernel
theorem dd_X12_lady_51 : decode mb_X12_lady 51 = .ok (.aload_n 0, 1) := by decide +kernel
theorem dd_X12_lady_52 : decode mb_X12_lady 52 = .ok (.getfield 41, 3) := by decide +kernel
theorem dd_X12_lady_55 : decode mb_X12_lady 55 = .ok (.aload_n 0, 1) := by decide +kernel
theorem dd_X12_lady_56 : decode mb_X12_lady 56 = .ok (.getfield 139, 3) := by decide +kernel
theorem dd_X12_lady_59 : decode mb_X12_lady 59 = .ok (.iload_n 2, 1) := by decide +kernel
theorem dd_X12_lady_60 : decode mb_X12_lady 60 = .ok (.iastore, 1) := by decide +kernel
theorem dd_X12_lady_61 : decode mb_X12_lady 61 = .ok (.aload_n 0, 1) := by decide +kernel
theorem dd_X12_lady_62 : decode mb_X12_lady 62 = .ok (.getfield 44, 3) := by decide +kernel
theorem dd_X12_lady_65 : decode mb_X12_lady 65 = .ok (.aload_n 0, 1) := by decide +kernel
theorem dd_X12_lady_66 : decode mb_X12_lady 66 = .ok (.getfield 139, 3) := by decide +kernel
theorem dd_X12_lady_69 : decode mb_X12_lady 69 = .ok (.iconst (-1), 1) := by decide +kernel
theorem dd_X12_lady_70 : decode mb_X12_lady 70 = .ok (.iastore, 1) := by decide +kernel
theorem dd_X12_lady_71 : decode mb_X12_lady 71 = .ok (.aload_n 0, 1) := by decide +kernel
theorem dd_X12_lady_72 : decode mb_X12_lady 72 = .ok (.dup, 1) := by decide +kernel
theorem dd_X12_lady_73 : decode mb_X12_lady 73 = .ok (.getfield 139, 3) := by decide +kernel
theorem dd_X12_lady_76 : decode mb_X12_lady 76 = .ok (.dup_x1, 1) := by decide +kernel
theorem dd_X12_lady_77 : decode mb_X12_lady 77 = .ok (.iconst 1, 1) := by decide +kernel
theorem dd_X12_lady_78 : decode mb_X12_lady 78 = .ok (.iadd, 1) := by decide +kernel
theorem dd_X12_lady_79 : decode mb_X12_lady 79 = .ok (.putfield 139, 3) := by decide +kernel
theorem dd_X12_lady_82 : decode mb_X12_lady 82 = .ok (.ireturn, 1) := by decide +kernel
theorem dd_X12_laid_0 : decode mb_X12_laid 0 = .ok (.iload_n 1, 1) := by decide +kernel
theorem dd_X12_laid_1 : decode mb_X12_laid 1 = .ok (.iconst 1, 1) := by decide +kernel
theorem dd_X12_laid_2 : decode mb_X12_laid 2 = .ok (.if_icmp .lt 17, 3) := by decide +kernel
theorem dd_X12_laid_5 : decode mb_X12_laid 5 = .ok (.iload_n 1, 1) := by decide +kernel
theorem dd_X12_laid_6 : decode mb_X12_laid 6 = .ok (.bipush 10, 2) := by decide +kernel
theorem dd_X12_laid_8 : decode mb_X12_laid 8 = .ok (.if_icmp .gt 11, 3) := by decide +kernel
theorem dd_X12_laid_11 : decode mb_X12_laid 11 = .ok (.aload_n 0, 1) := by decide +kernel
theorem dd_X12_laid_12 : decode mb_X12_laid 12 = .ok (.iload_n 2, 1) := by decide +kernel
theorem dd_X12_laid_13 : decode mb_X12_laid 13 = .ok (.invokevirtual 165, 3) := by decide +kernel
theorem dd_X12_laid_16 : decode mb_X12_laid 16 = .ok (.ifCond .ne 10, 3) := by decide +kernel
theorem dd_X12_laid_19 : decode mb_X12_laid 19 = .ok (.aload_n 0, 1) := by decide +kernel
theorem dd_X12_laid_20 : decode mb_X12_laid 20 = .ok (.bipush (-2), 2) := by decide +kernel
theorem dd_X12_laid_22 : decode mb_X12_laid 22 = .ok (.invokevirtual 152, 3) := by decide +kernel
theorem dd_X12_laid_25 : decode mb_X12_laid 25 = .ok (.ireturn, 1) := by decide +kernel
theorem dd_X12_laid_26 : decode mb_X12_laid 26 = .ok (.iconst 0, 1) := by decide +kernel
theorem dd_X12_laid_27 : decode mb_X12_laid 27 = .ok (.istore_n 3, 1) := by decide +kernel
theorem dd_X12_laid_28 : decode mb_X12_laid 28 = .ok (.iload_n 3, 1) := by decide +kernel
theorem dd_X12_laid_29 : decode mb_X12_laid 29 = .ok (.aload_n 0, 1) := by decide +kernel
theorem dd_X12_laid_30 : decode mb_X12_laid 30 = .ok (.getfield 135, 3) := by decide +kernel
theorem dd_X12_laid_33 : decode mb_X12_laid 33 = .ok (.if_icmp .ge 16, 3) := by decide +kernel
theorem dd_X12_laid_36 : decode mb_X12_laid 36 = .ok (.aload_n 0, 1) := by decide +kernel
theorem dd_X12_laid_37 : decode mb_X12_laid 37 = .ok (.getfield 126, 3) := by decide +kernel
theorem dd_X12_laid_40 : decode mb_X12_laid 40 = .ok (.iload_n 3, 1) := by decide +kernel
theorem dd_X12_laid_41 : decode mb_X12_laid 41 = .ok (.iconst (-1), 1) := by decide +kernel
theorem dd_X12_laid_42 : decode mb_X12_laid 42 = .ok (.iastore, 1) := by decide +kernel
theorem dd_X12_laid_43 : decode mb_X12_laid 43 = .ok (.iinc 3 1, 3) := by decide +kernel
theorem dd_X12_laid_46 : decode mb_X12_laid 46 = .ok (.goto (-18), 3) := by decide +kernel
theorem dd_X12_laid_49 : decode mb_X12_laid 49 = .ok (.iconst 0, 1) := by decide +kernel
theorem dd_X12_laid_50 : decode mb_X12_laid 50 = .ok (.istore_n 3, 1) := by decide +kernel
theorem dd_X12_laid_51 : decode mb_X12_laid 51 = .ok (.iload_n 3, 1) := by decide +kernel
theorem dd_X12_laid_52 : decode mb_X12_laid 52 = .ok (.aload_n 0, 1) := by decide +kernel
theorem dd_X12_laid_53 : decode mb_X12_laid 53 = .ok (.getfield 288, 3) := by decide +kernel
theorem dd_X12_laid_56 : decode mb_X12_laid 56 = .ok (.if_icmp .ge 59, 3) := by decide +kernel
theorem dd_X12_laid_59 : decode mb_X12_laid 59 = .ok (.aload_n 0, 1) := by decide +kernel
theorem dd_X12_laid_60 : decode mb_X12_laid 60 = .ok (.getfield 83, 3) := by decide +kernel
theorem dd_X12_laid_63 : decode mb_X12_laid 63 = .ok (.iload_n 3, 1) := by decide +kernel
theorem dd_X12_laid_64 : decode mb_X12_laid 64 = .ok (.iaload, 1) := by decide +kernel
theorem dd_X12_laid_65 : decode mb_X12_laid 65 = .ok (.istore 4, 2) := by decide +kernel
theorem dd_X12_laid_67 : decode mb_X12_laid 67 = .ok (.aload_n 0, 1) := by decide +kernel
theorem dd_X12_laid_68 : decode mb_X12_laid 68 = .ok (.getfield 126, 3) := by decide +kernel
theorem dd_X12_laid_71 : decode mb_X12_laid 71 = .ok (.iload 4, 2) := by decide +kernel
theorem dd_X12_laid_73 : decode mb_X12_laid 73 = .ok (.iaload, 1) := by decide +kernel
theorem dd_X12_laid_74 : decode mb_X12_laid 74 = .ok (.ifCond .ge 12, 3) := by decide +kernel
theorem dd_X12_laid_77 : decode mb_X12_laid 77 = .ok (.aload_n 0, 1) := by decide +kernel
theorem dd_X12_laid_78 : decode mb_X12_laid 78 = .ok (.getfield 126, 3) := by decide +kernel
theorem dd_X12_laid_81 : decode mb_X12_laid 81 = .ok (.iload 4, 2) := by decide +kernel
theorem dd_X12_laid_83 : decode mb_X12_laid 83 = .ok (.bipush 31, 2) := by decide +kernel
theorem dd_X12_laid_85 : decode mb_X12_laid 85 = .ok (.iastore, 1) := by decide +kernel
theorem dd_X12_laid_86 : decode mb_X12_laid 86 = .ok (.aload_n 0, 1) := by decide +kernel
theorem dd_X12_laid_87 : decode mb_X12_laid 87 = .ok (.getfield 126, 3) := by decide +kernel
theorem dd_X12_laid_90 : decode mb_X12_laid 90 = .ok (.iload 4, 2) := by decide +kernel
theorem dd_X12_laid_92 : decode mb_X12_laid 92 = .ok (.dup2, 1) := by decide +kernel
theorem dd_X12_laid_93 : decode mb_X12_laid 93 = .ok (.iaload, 1) := by decide +kernel
theorem dd_X12_laid_94 : decode mb_X12_laid 94 = .ok (.aload_n 0, 1) := by decide +kernel
theorem dd_X12_laid_95 : decode mb_X12_laid 95 = .ok (.getfield 89, 3) := by decide +kernel
theorem dd_X12_laid_98 : decode mb_X12_laid 98 = .ok (.aload_n 0, 1) := by decide +kernel
theorem dd_X12_laid_99 : decode mb_X12_laid 99 = .ok (.getfield 86, 3) := by decide +kernel
theorem dd_X12_laid_102 : decode mb_X12_laid 102 = .ok (.iload_n 3, 1) := by decide +kernel
theorem dd_X12_laid_103 : decode mb_X12_laid 103 = .ok (.iaload, 1) := by decide +kernel
theorem dd_X12_laid_104 : decode mb_X12_laid 104 = .ok (.iaload, 1) := by decide +kernel
theorem dd_X12_laid_105 : decode mb_X12_laid 105 = .ok (.iconst (-1), 1) := by decide +kernel
theorem dd_X12_laid_106 : decode mb_X12_laid 106 = .ok (.ixor, 1) := by decide +kernel
theorem dd_X12_laid_107 : decode mb_X12_laid 107 = .ok (.iand, 1) := by decide +kernel
theorem dd_X12_laid_108 : decode mb_X12_laid 108 = .ok (.iastore, 1) := by decide +kernel
theorem dd_X12_laid_109 : decode mb_X12_laid 109 = .ok (.iinc 3 1, 3) := by decide +kernel
theorem dd_X12_laid_112 : decode mb_X12_laid 112 = .ok (.goto (-61), 3) := by decide +kernel
theorem dd_X12_laid_115 : decode mb_X12_laid 115 = .ok (.iconst 0, 1) := by decide +kernel
theorem dd_X12_laid_116 : decode mb_X12_laid 116 = .ok (.istore_n 3, 1) := by decide +kernel
theorem dd_X12_laid_117 : decode mb_X12_laid 117 = .ok (.iload_n 3, 1) := by decide +kernel
theorem dd_X12_laid_118 : decode mb_X12_laid 118 = .ok (.iconst 5, 1) := by decide +kernel
theorem dd_X12_laid_119 : decode mb_X12_laid 119 = .ok (.if_icmp .ge 16, 3) := by decide +kernel
theorem dd_X12_laid_122 : decode mb_X12_laid 122 = .ok (.aload_n 0, 1) := by decide +kernel
theorem dd_X12_laid_123 : decode mb_X12_laid 123 = .ok (.getfield 129, 3) := by decide +kernel
theorem dd_X12_laid_126 : decode mb_X12_laid 126 = .ok (.iload_n 3, 1) := by decide +kernel
theorem dd_X12_laid_127 : decode mb_X12_laid 127 = .ok (.iload_n 1, 1) := by decide +kernel
theorem dd_X12_laid_128 : decode mb_X12_laid 128 = .ok (.iastore, 1) := by decide +kernel
theorem dd_X12_laid_129 : decode mb_X12_laid 129 = .ok (.iinc 3 1, 3) := by decide +kernel
theorem dd_X12_laid_132 : decode mb_X12_laid 132 = .ok (.goto (-15), 3) := by decide +kernel
theorem dd_X12_laid_135 : decode mb_X12_laid 135 = .ok (.aload_n 0, 1) := by decide +kernel
theorem dd_X12_laid_136 : decode mb_X12_laid 136 = .ok (.iconst 0, 1) := by decide +kernel
theorem dd_X12_laid_137 : decode mb_X12_laid 137 = .ok (.invokevirtual 291, 3) := by decide +kernel
theorem dd_X12_laid_140 : decode mb_X12_laid 140 = .ok (.ifCond .ne 10, 3) := by decide +kernel
theorem dd_X12_laid_143 : decode mb_X12_laid 143 = .ok (.aload_n 0, 1) := by decide +kernel
theorem dd_X12_laid_144 : decode mb_X12_laid 144 = .ok (.bipush (-5), 2) := by decide +kernel
theorem dd_X12_laid_146 : decode mb_X12_laid 146 = .ok (.invokevirtual 152, 3) := by decide +kernel
theorem dd_X12_laid_149 : decode mb_X12_laid 149 = .ok (.ireturn, 1) := by decide +kernel
theorem dd_X12_laid_150 : decode mb_X12_laid 150 = .ok (.iconst 0, 1) := by decide +kernel
theorem dd_X12_laid_151 : decode mb_X12_laid 151 = .ok (.istore_n 3, 1) := by decide +kernel
theorem dd_X12_laid_152 : decode mb_X12_laid 152 = .ok (.iload_n 3, 1) := by decide +kernel
theorem dd_X12_laid_153 : decode mb_X12_laid 153 = .ok (.aload_n 0, 1) := by decide +kernel
theorem dd_X12_laid_154 : decode mb_X12_laid 154 = .ok (.getfield 135, 3) := by decide +kernel
theorem dd_X12_laid_157 : decode mb_X12_laid 157 = .ok (.if_icmp .ge 119, 3) := by decide +kernel
theorem dd_X12_laid_160 : decode mb_X12_laid 160 = .ok (.aload_n 0, 1) := by decide +kernel
theorem dd_X12_laid_161 : decode mb_X12_laid 161 = .ok (.getfield 126, 3) := by decide +kernel
theorem dd_X12_laid_164 : decode mb_X12_laid 164 = .ok (.iload_n 3, 1) := by decide +kernel
theorem dd_X12_laid_165 : decode mb_X12_laid 165 = .ok (.iaload, 1) := by decide +kernel
theorem dd_X12_laid_166 : decode mb_X12_laid 166 = .ok (.ifCond .ge 6, 3) := by decide +kernel
theorem dd_X12_laid_169 : decode mb_X12_laid 169 = .ok (.goto 101, 3) := by decide +kernel
theorem dd_X12_laid_172 : decode mb_X12_laid 172 = .ok (.iconst (-1), 1) := by decide +kernel
theorem dd_X12_laid_173 : decode mb_X12_laid 173 = .ok (.istore 4, 2) := by decide +kernel
theorem dd_X12_laid_175 : decode mb_X12_laid 175 = .ok (.iconst 0, 1) := by decide +kernel
theorem dd_X12_laid_176 : decode mb_X12_laid 176 = .ok (.istore 5, 2) := by decide +kernel
theorem dd_X12_laid_178 : decode mb_X12_laid 178 = .ok (.iload 5, 2) := by decide +kernel
theorem dd_X12_laid_180 : decode mb_X12_laid 180 = .ok (.iconst 5, 1) := by decide +kernel
theorem dd_X12_laid_181 : decode mb_X12_laid 181 = .ok (.if_icmp .ge 81, 3) := by decide +kernel
theorem dd_X12_laid_184 : decode mb_X12_laid 184 = .ok (.iload 4, 2) := by decide +kernel
theorem dd_X12_laid_186 : decode mb_X12_laid 186 = .ok (.ifCond .ge 76, 3) := by decide +kernel
theorem dd_X12_laid_189 : decode mb_X12_laid 189 = .ok (.aload_n 0, 1) := by decide +kernel
theorem dd_X12_laid_190 : decode mb_X12_laid 190 = .ok (.aload_n 0, 1) := by decide +kernel
theorem dd_X12_laid_191 : decode mb_X12_laid 191 = .ok (.getfield 126, 3) := by decide +kernel
theorem dd_X12_laid_194 : decode mb_X12_laid 194 = .ok (.iload_n 3, 1) := by decide +kernel
theorem dd_X12_laid_195 : decode mb_X12_laid 195 = .ok (.iaload, 1) := by decide +kernel
theorem dd_X12_laid_196 : decode mb_X12_laid 196 = .ok (.iload 5, 2) := by decide +kernel
theorem dd_X12_laid_198 : decode mb_X12_laid 198 = .ok (.invokevirtual 181, 3) := by decide +kernel
theorem dd_X12_laid_201 : decode mb_X12_laid 201 = .ok (.ifCond .eq 55, 3) := by decide +kernel
theorem dd_X12_laid_204 : decode mb_X12_laid 204 = .ok (.aload_n 0, 1) := by decide +kernel
theorem dd_X12_laid_205 : decode mb_X12_laid 205 = .ok (.getfield 129, 3) := by decide +kernel
theorem dd_X12_laid_208 : decode mb_X12_laid 208 = .ok (.iload 5, 2) := by decide +kernel
theorem dd_X12_laid_210 : decode mb_X12_laid 210 = .ok (.iaload, 1) := by decide +kernel
theorem dd_X12_laid_211 : decode mb_X12_laid 211 = .ok (.ifCond .ne 6, 3) := by decide +kernel
theorem dd_X12_laid_214 : decode mb_X12_laid 214 = .ok (.goto 42, 3) := by decide +kernel
theorem dd_X12_laid_217 : decode mb_X12_laid 217 = .ok (.aload_n 0, 1) := by decide +kernel
theorem dd_X12_laid_218 : decode mb_X12_laid 218 = .ok (.getfield 129, 3) := by decide +kernel
theorem dd_X12_laid_221 : decode mb_X12_laid 221 = .ok (.iload 5, 2) := by decide +kernel
theorem dd_X12_laid_223 : decode mb_X12_laid 223 = .ok (.dup2, 1) := by decide +kernel
theorem dd_X12_laid_224 : decode mb_X12_laid 224 = .ok (.iaload, 1) := by decide +kernel
theorem dd_X12_laid_225 : decode mb_X12_laid 225 = .ok (.iconst 1, 1) := by decide +kernel
theorem dd_X12_laid_226 : decode mb_X12_laid 226 = .ok (.isub, 1) := by decide +kernel
theorem dd_X12_laid_227 : decode mb_X12_laid 227 = .ok (.iastore, 1) := by decide +kernel
theorem dd_X12_laid_228 : decode mb_X12_laid 228 = .ok (.aload_n 0, 1) := by decide +kernel
theorem dd_X12_laid_229 : decode mb_X12_laid 229 = .ok (.iload_n 3, 1) := by decide +kernel
theorem dd_X12_laid_230 : decode mb_X12_laid 230 = .ok (.iconst 1, 1) := by decide +kernel
theorem dd_X12_laid_231 : decode mb_X12_laid 231 = .ok (.iadd, 1) := by decide +kernel
theorem dd_X12_laid_232 : decode mb_X12_laid 232 = .ok (.invokevirtual 291, 3) := by decide +kernel
theorem dd_X12_laid_235 : decode mb_X12_laid 235 = .ok (.ifCond .eq 10, 3) := by decide +kernel
theorem dd_X12_laid_238 : decode mb_X12_laid 238 = .ok (.iload 5, 2) := by decide +kernel
theorem dd_X12_laid_240 : decode mb_X12_laid 240 = .ok (.istore 4, 2) := by decide +kernel
theorem dd_X12_laid_242 : decode mb_X12_laid 242 = .ok (.goto 14, 3) := by decide +kernel
theorem dd_X12_laid_245 : decode mb_X12_laid 245 = .ok (.aload_n 0, 1) := by decide +kernel
theorem dd_X12_laid_246 : decode mb_X12_laid 246 = .ok (.getfield 129, 3) := by decide +kernel
theorem dd_X12_laid_249 : decode mb_X12_laid 249 = .ok (.iload 5, 2) := by decide +kernel
theorem dd_X12_laid_251 : decode mb_X12_laid 251 = .ok (.dup2, 1) := by decide +kernel
theorem dd_X12_laid_252 : decode mb_X12_laid 252 = .ok (.iaload, 1) := by decide +kernel
theorem dd_X12_laid_253 : decode mb_X12_laid 253 = .ok (.iconst 1, 1) := by decide +kernel
theorem dd_X12_laid_254 : decode mb_X12_laid 254 = .ok (.iadd, 1) := by decide +kernel
theorem dd_X12_laid_255 : decode mb_X12_laid 255 = .ok (.iastore, 1) := by decide +kernel
theorem dd_X12_laid_256 : decode mb_X12_laid 256 = .ok (.iinc 5 1, 3) := by decide +kernel
theorem dd_X12_laid_259 : decode mb_X12_laid 259 = .ok (.goto (-81), 3) := by decide +kernel
theorem dd_X12_laid_262 : decode mb_X12_laid 262 = .ok (.iload_n 3, 1) := by decide +kernel
theorem dd_X12_laid_263 : decode mb_X12_laid 263 = .ok (.iload_n 2, 1) := by decide +kernel
theorem dd_X12_laid_264 : decode mb_X12_laid 264 = .ok (.if_icmp .ne 6, 3) := by decide +kernel
theorem dd_X12_laid_267 : decode mb_X12_laid 267 = .ok (.iload 4, 2) := by decide +kernel
theorem dd_X12_laid_269 : decode mb_X12_laid 269 = .ok (.ireturn, 1) := by decide +kernel
theorem dd_X12_laid_270 : decode mb_X12_laid 270 = .ok (.iinc 3 1, 3) := by decide +kernel
theorem dd_X12_laid_273 : decode mb_X12_laid 273 = .ok (.goto (-121), 3) := by decide +kernel
theorem dd_X12_laid_276 : decode mb_X12_laid 276 = .ok (.iconst (-1), 1) := by decide +kernel
theorem dd_X12_laid_277 : decode mb_X12_laid 277 = .ok (.ireturn, 1) := by decide +kernel
theorem dd_X12_law_0 : decode mb_X12_law 0 = .ok (.aload_n 0, 1) := by decide +kernel
theorem dd_X12_law_1 : decode mb_X12_law 1 = .ok (.getfield 142, 3) := by decide +kernel
theorem dd_X12_law_4 : decode mb_X12_law 4 = .ok (.bipush 6, 2) := by decide +kernel
theorem dd_X12_law_6 : decode mb_X12_law 6 = .ok (.if_icmp .ne 10, 3) := by decide +kernel
theorem dd_X12_law_9 : decode mb_X12_law 9 = .ok (.aload_n 0, 1) := by decide +kernel
theorem dd_X12_law_10 : decode mb_X12_law 10 = .ok (.bipush (-6), 2) := by decide +kernel
theorem dd_X12_law_12 : decode mb_X12_law 12 = .ok (.invokevirtual 152, 3) := by decide +kernel
theorem dd_X12_law_15 : decode mb_X12_law 15 = .ok (.ireturn, 1) := by decide +kernel
theorem dd_X12_law_16 : decode mb_X12_law 16 = .ok (.aload_n 0, 1) := by decide +kernel
theorem dd_X12_law_17 : decode mb_X12_law 17 = .ok (.iconst 5, 1) := by decide +kernel
theorem dd_X12_law_18 : decode mb_X12_law 18 = .ok (.aload_n 0, 1) := by decide +kernel
theorem dd_X12_law_19 : decode mb_X12_law 19 = .ok (.getfield 142, 3) := by decide +kernel
theorem dd_X12_law_22 : decode mb_X12_law 22 = .ok (.imul, 1) := by decide +kernel
theorem dd_X12_law_23 : decode mb_X12_law 23 = .ok (.invokevirtual 239, 3) := by decide +kernel
theorem dd_X12_law_26 : decode mb_X12_law 26 = .ok (.istore_n 1, 1) := by decide +kernel
theorem dd_X12_law_27 : decode mb_X12_law 27 = .ok (.aload_n 0, 1) := by decide +kernel
theorem dd_X12_law_28 : decode mb_X12_law 28 = .ok (.iconst 0, 1) := by decide +kernel
theorem dd_X12_law_29 : decode mb_X12_law 29 = .ok (.putfield 199, 3) := by decide +kernel
theorem dd_X12_law_32 : decode mb_X12_law 32 = .ok (.iload_n 1, 1) := by decide +kernel
theorem dd_X12_law_33 : decode mb_X12_law 33 = .ok (.ifCond .lt 15, 3) := by decide +kernel
theorem dd_X12_law_36 : decode mb_X12_law 36 = .ok (.aload_n 0, 1) := by decide +kernel
theorem dd_X12_law_37 : decode mb_X12_law 37 = .ok (.bipush (-2), 2) := by decide +kernel
theorem dd_X12_law_39 : decode mb_X12_law 39 = .ok (.invokevirtual 152, 3) := by decide +kernel
theorem dd_X12_law_42 : decode mb_X12_law 42 = .ok (.pop, 1) := by decide +kernel
theorem dd_X12_law_43 : decode mb_X12_law 43 = .ok (.bipush (-20), 2) := by decide +kernel
theorem dd_X12_law_45 : decode mb_X12_law 45 = .ok (.iload_n 1, 1) := by decide +kernel
theorem dd_X12_law_46 : decode mb_X12_law 46 = .ok (.isub, 1) := by decide +kernel
theorem dd_X12_law_47 : decode mb_X12_law 47 = .ok (.ireturn, 1) := by decide +kernel
theorem dd_X12_law_48 : decode mb_X12_law 48 = .ok (.aload_n 0, 1) := by decide +kernel
theorem dd_X12_law_49 : decode mb_X12_law 49 = .ok (.dup, 1) := by decide +kernel
theorem dd_X12_law_50 : decode mb_X12_law 50 = .ok (.getfield 142, 3) := by decide +kernel
theorem dd_X12_law_53 : decode mb_X12_law 53 = .ok (.dup_x1, 1) := by decide +kernel
theorem dd_X12_law_54 : decode mb_X12_law 54 = .ok (.iconst 1, 1) := by decide +kernel
theorem dd_X12_law_55 : decode mb_X12_law 55 = .ok (.iadd, 1) := by decide +kernel
theorem dd_X12_law_56 : decode mb_X12_law 56 = .ok (.putfield 142, 3) := by decide +kernel
theorem dd_X12_law_59 : decode mb_X12_law 59 = .ok (.ireturn, 1) := by decide +kernel
theorem dd_X12_lawOf_0 : decode mb_X12_lawOf 0 = .ok (.aload_n 0, 1) := by decide +kernel
theorem dd_X12_lawOf_1 : decode mb_X12_lawOf 1 = .ok (.iload_n 1, 1) := by decide +kernel
theorem dd_X12_lawOf_2 : decode mb_X12_lawOf 2 = .ok (.invokevirtual 196, 3) := by decide +kernel
theorem dd_X12_lawOf_5 : decode mb_X12_lawOf 5 = .ok (.ifCond .eq 12, 3) := by decide +kernel
theorem dd_X12_lawOf_8 : decode mb_X12_lawOf 8 = .ok (.iload_n 2, 1) := by decide +kernel
theorem dd_X12_lawOf_9 : decode mb_X12_lawOf 9 = .ok (.ifCond .lt 8, 3) := by decide +kernel
theorem dd_X12_lawOf_12 : decode mb_X12_lawOf 12 = .ok (.iload_n 2, 1) := by decide +kernel
theorem dd_X12_lawOf_13 : decode mb_X12_lawOf 13 = .ok (.iconst 4, 1) := by decide +kernel
theorem dd_X12_lawOf_14 : decode mb_X12_lawOf 14 = .ok (.if_icmp .le 10, 3) := by decide +kernel
theorem dd_X12_lawOf_17 : decode mb_X12_lawOf 17 = .ok (.aload_n 0, 1) := by decide +kernel
theorem dd_X12_lawOf_18 : decode mb_X12_lawOf 18 = .ok (.bipush (-2), 2) := by decide +kernel
theorem dd_X12_lawOf_20 : decode mb_X12_lawOf 20 = .ok (.invokevirtual 152, 3) := by decide +kernel
theorem dd_X12_lawOf_23 : decode mb_X12_lawOf 23 = .ok (.ireturn, 1) := by decide +kernel
theorem dd_X12_lawOf_24 : decode mb_X12_lawOf 24 = .ok (.aload_n 0, 1) := by decide +kernel
theorem dd_X12_lawOf_25 : decode mb_X12_lawOf 25 = .ok (.getfield 47, 3) := by decide +kernel
theorem dd_X12_lawOf_28 : decode mb_X12_lawOf 28 = .ok (.iconst 5, 1) := by decide +kernel
theorem dd_X12_lawOf_29 : decode mb_X12_lawOf 29 = .ok (.iload_n 1, 1) := by decide +kernel
theorem dd_X12_lawOf_30 : decode mb_X12_lawOf 30 = .ok (.imul, 1) := by decide +kernel
theorem dd_X12_lawOf_31 : decode mb_X12_lawOf 31 = .ok (.iload_n 2, 1) := by decide +kernel
theorem dd_X12_lawOf_32 : decode mb_X12_lawOf 32 = .ok (.iadd, 1) := by decide +kernel
theorem dd_X12_lawOf_33 : decode mb_X12_lawOf 33 = .ok (.iaload, 1) := by decide +kernel
theorem dd_X12_lawOf_34 : decode mb_X12_lawOf 34 = .ok (.ireturn, 1) := by decide +kernel
theorem dd_X12_longest_0 : decode mb_X12_longest 0 = .ok (.iconst 0, 1) := by decide +kernel
theorem dd_X12_longest_1 : decode mb_X12_longest 1 = .ok (.istore_n 1, 1) := by decide +kernel
theorem dd_X12_longest_2 : decode mb_X12_longest 2 = .ok (.iconst 0, 1) := by decide +kernel
theorem dd_X12_longest_3 : decode mb_X12_longest 3 = .ok (.istore_n 2, 1) := by decide +kernel
theorem dd_X12_longest_4 : decode mb_X12_longest 4 = .ok (.iload_n 2, 1) := by decide +kernel
theorem dd_X12_longest_5 : decode mb_X12_longest 5 = .ok (.aload_n 0, 1) := by decide +kernel
theorem dd_X12_longest_6 : decode mb_X12_longest 6 = .ok (.getfield 279, 3) := by decide +kernel
theorem dd_X12_longest_9 : decode mb_X12_longest 9 = .ok (.if_icmp .ge 16, 3) := by decide +kernel
theorem dd_X12_longest_12 : decode mb_X12_longest 12 = .ok (.aload_n 0, 1) := by decide +kernel
theorem dd_X12_longest_13 : decode mb_X12_longest 13 = .ok (.getfield 123, 3) := by decide +kernel
theorem dd_X12_longest_16 : decode mb_X12_longest 16 = .ok (.iload_n 2, 1) := by decide +kernel
theorem dd_X12_longest_17 : decode mb_X12_longest 17 = .ok (.iconst 1, 1) := by decide +kernel
theorem dd_X12_longest_18 : decode mb_X12_longest 18 = .ok (.iastore, 1) := by decide +kernel
theorem dd_X12_longest_19 : decode mb_X12_longest 19 = .ok (.iinc 2 1, 3) := by decide +kernel
theorem dd_X12_longest_22 : decode mb_X12_longest 22 = .ok (.goto (-18), 3) := by decide +kernel
theorem dd_X12_longest_25 : decode mb_X12_longest 25 = .ok (.iconst 0, 1) := by decide +kernel
theorem dd_X12_longest_26 : decode mb_X12_longest 26 = .ok (.istore_n 2, 1) := by decide +kernel
theorem dd_X12_longest_27 : decode mb_X12_longest 27 = .ok (.iload_n 2, 1) := by decide +kernel
theorem dd_X12_longest_28 : decode mb_X12_longest 28 = .ok (.bipush 100, 2) := by decide +kernel
theorem dd_X12_longest_30 : decode mb_X12_longest 30 = .ok (.if_icmp .ge 116, 3) := by decide +kernel
theorem dd_X12_longest_33 : decode mb_X12_longest 33 = .ok (.iconst 0, 1) := by decide +kernel
theorem dd_X12_longest_34 : decode mb_X12_longest 34 = .ok (.istore_n 3, 1) := by decide +kernel
theorem dd_X12_longest_35 : decode mb_X12_longest 35 = .ok (.iload_n 3, 1) := by decide +kernel
theorem dd_X12_longest_36 : decode mb_X12_longest 36 = .ok (.aload_n 0, 1) := by decide +kernel
theorem dd_X12_longest_37 : decode mb_X12_longest 37 = .ok (.getfield 279, 3) := by decide +kernel
theorem dd_X12_longest_40 : decode mb_X12_longest 40 = .ok (.if_icmp .ge 100, 3) := by decide +kernel
theorem dd_X12_longest_43 : decode mb_X12_longest 43 = .ok (.aload_n 0, 1) := by decide +kernel
theorem dd_X12_longest_44 : decode mb_X12_longest 44 = .ok (.getfield 71, 3) := by decide +kernel
theorem dd_X12_longest_47 : decode mb_X12_longest 47 = .ok (.iload_n 3, 1) := by decide +kernel
theorem dd_X12_longest_48 : decode mb_X12_longest 48 = .ok (.iaload, 1) := by decide +kernel
theorem dd_X12_longest_49 : decode mb_X12_longest 49 = .ok (.iload_n 2, 1) := by decide +kernel
theorem dd_X12_longest_50 : decode mb_X12_longest 50 = .ok (.if_icmp .eq 6, 3) := by decide +kernel
theorem dd_X12_longest_53 : decode mb_X12_longest 53 = .ok (.goto 81, 3) := by decide +kernel
theorem dd_X12_longest_56 : decode mb_X12_longest 56 = .ok (.iconst 0, 1) := by decide +kernel
theorem dd_X12_longest_57 : decode mb_X12_longest 57 = .ok (.istore 4, 2) := by decide +kernel
theorem dd_X12_longest_59 : decode mb_X12_longest 59 = .ok (.iload 4, 2) := by decide +kernel
theorem dd_X12_longest_61 : decode mb_X12_longest 61 = .ok (.aload_n 0, 1) := by decide +kernel
theorem dd_X12_longest_62 : decode mb_X12_longest 62 = .ok (.getfield 279, 3) := by decide +kernel
theorem dd_X12_longest_65 : decode mb_X12_longest 65 = .ok (.if_icmp .ge 52, 3) := by decide +kernel
theorem dd_X12_longest_68 : decode mb_X12_longest 68 = .ok (.aload_n 0, 1) := by decide +kernel
theorem dd_X12_longest_69 : decode mb_X12_longest 69 = .ok (.iload 4, 2) := by decide +kernel
theorem dd_X12_longest_71 : decode mb_X12_longest 71 = .ok (.iload_n 3, 1) := by decide +kernel
theorem dd_X12_longest_72 : decode mb_X12_longest 72 = .ok (.invokevirtual 282, 3) := by decide +kernel
theorem dd_X12_longest_75 : decode mb_X12_longest 75 = .ok (.ifCond .eq 36, 3) := by decide +kernel
theorem dd_X12_longest_78 : decode mb_X12_longest 78 = .ok (.aload_n 0, 1) := by decide +kernel
theorem dd_X12_longest_79 : decode mb_X12_longest 79 = .ok (.getfield 123, 3) := by decide +kernel
theorem dd_X12_longest_82 : decode mb_X12_longest 82 = .ok (.iload 4, 2) := by decide +kernel
theorem dd_X12_longest_84 : decode mb_X12_longest 84 = .ok (.iaload, 1) := by decide +kernel
theorem dd_X12_longest_85 : decode mb_X12_longest 85 = .ok (.iconst 1, 1) := by decide +kernel
theorem dd_X12_longest_86 : decode mb_X12_longest 86 = .ok (.iadd, 1) := by decide +kernel
theorem dd_X12_longest_87 : decode mb_X12_longest 87 = .ok (.aload_n 0, 1) := by decide +kernel
theorem dd_X12_longest_88 : decode mb_X12_longest 88 = .ok (.getfield 123, 3) := by decide +kernel
theorem dd_X12_longest_91 : decode mb_X12_longest 91 = .ok (.iload_n 3, 1) := by decide +kernel
theorem dd_X12_longest_92 : decode mb_X12_longest 92 = .ok (.iaload, 1) := by decide +kernel
theorem dd_X12_longest_93 : decode mb_X12_longest 93 = .ok (.if_icmp .le 18, 3) := by decide +kernel
theorem dd_X12_longest_96 : decode mb_X12_longest 96 = .ok (.aload_n 0, 1) := by decide +kernel
theorem dd_X12_longest_97 : decode mb_X12_longest 97 = .ok (.getfield 123, 3) := by decide +kernel
theorem dd_X12_longest_100 : decode mb_X12_longest 100 = .ok (.iload_n 3, 1) := by decide +kernel
theorem dd_X12_longest_101 : decode mb_X12_longest 101 = .ok (.aload_n 0, 1) := by decide +kernel
theorem dd_X12_longest_102 : decode mb_X12_longest 102 = .ok (.getfield 123, 3) := by decide +kernel
theorem dd_X12_longest_105 : decode mb_X12_longest 105 = .ok (.iload 4, 2) := by decide +kernel
theorem dd_X12_longest_107 : decode mb_X12_longest 107 = .ok (.iaload, 1) := by decide +kernel
theorem dd_X12_longest_108 : decode mb_X12_longest 108 = .ok (.iconst 1, 1) := by decide +kernel
theorem dd_X12_longest_109 : decode mb_X12_longest 109 = .ok (.iadd, 1) := by decide +kernel
theorem dd_X12_longest_110 : decode mb_X12_longest 110 = .ok (.iastore, 1) := by decide +kernel
theorem dd_X12_longest_111 : decode mb_X12_longest 111 = .ok (.iinc 4 1, 3) := by decide +kernel
theorem dd_X12_longest_114 : decode mb_X12_longest 114 = .ok (.goto (-55), 3) := by decide +kernel
theorem dd_X12_longest_117 : decode mb_X12_longest 117 = .ok (.aload_n 0, 1) := by decide +kernel
theorem dd_X12_longest_118 : decode mb_X12_longest 118 = .ok (.getfield 123, 3) := by decide +kernel
theorem dd_X12_longest_121 : decode mb_X12_longest 121 = .ok (.iload_n 3, 1) := by decide +kernel
theorem dd_X12_longest_122 : decode mb_X12_longest 122 = .ok (.iaload, 1) := by decide +kernel
theorem dd_X12_longest_123 : decode mb_X12_longest 123 = .ok (.iload_n 1, 1) := by decide +kernel
theorem dd_X12_longest_124 : decode mb_X12_longest 124 = .ok (.if_icmp .le 10, 3) := by decide +kernel
theorem dd_X12_longest_127 : decode mb_X12_longest 127 = .ok (.aload_n 0, 1) := by decide +kernel
theorem dd_X12_longest_128 : decode mb_X12_longest 128 = .ok (.getfield 123, 3) := by decide +kernel
theorem dd_X12_longest_131 : decode mb_X12_longest 131 = .ok (.iload_n 3, 1) := by decide +kernel
theorem dd_X12_longest_132 : decode mb_X12_longest 132 = .ok (.iaload, 1) := by decide +kernel
theorem dd_X12_longest_133 : decode mb_X12_longest 133 = .ok (.istore_n 1, 1) := by decide +kernel
theorem dd_X12_longest_134 : decode mb_X12_longest 134 = .ok (.iinc 3 1, 3) := by decide +kernel
theorem dd_X12_longest_137 : decode mb_X12_longest 137 = .ok (.goto (-102), 3) := by decide +kernel
theorem dd_X12_longest_140 : decode mb_X12_longest 140 = .ok (.iinc 2 1, 3) := by decide +kernel
theorem dd_X12_longest_143 : decode mb_X12_longest 143 = .ok (.goto (-116), 3) := by decide +kernel
theorem dd_X12_longest_146 : decode mb_X12_longest 146 = .ok (.iload_n 1, 1) := by decide +kernel
theorem dd_X12_longest_147 : decode mb_X12_longest 147 = .ok (.ireturn, 1) := by decide +kernel
theorem dd_X12_looks_0 : decode mb_X12_looks 0 = .ok (.aload_n 0, 1) := by decide +kernel
theorem dd_X12_looks_1 : decode mb_X12_looks 1 = .ok (.iload_n 1, 1) := by decide +kernel
theorem dd_X12_looks_2 : decode mb_X12_looks 2 = .ok (.invokevirtual 276, 3) := by decide +kernel
theorem dd_X12_looks_5 : decode mb_X12_looks 5 = .ok (.ifCond .eq 13, 3) := by decide +kernel
theorem dd_X12_looks_8 : decode mb_X12_looks 8 = .ok (.iload_n 2, 1) := by decide +kernel
theorem dd_X12_looks_9 : decode mb_X12_looks 9 = .ok (.ifCond .lt 9, 3) := by decide +kernel
theorem dd_X12_looks_12 : decode mb_X12_looks 12 = .ok (.iload_n 2, 1) := by decide +kernel
theorem dd_X12_looks_13 : decode mb_X12_looks 13 = .ok (.bipush 31, 2) := by decide +kernel
theorem dd_X12_looks_15 : decode mb_X12_looks 15 = .ok (.if_icmp .le 10, 3) := by decide +kernel
theorem dd_X12_looks_18 : decode mb_X12_looks 18 = .ok (.aload_n 0, 1) := by decide +kernel
theorem dd_X12_looks_19 : decode mb_X12_looks 19 = .ok (.bipush (-2), 2) := by decide +kernel
theorem dd_X12_looks_21 : decode mb_X12_looks 21 = .ok (.invokevirtual 152, 3) := by decide +kernel
theorem dd_X12_looks_24 : decode mb_X12_looks 24 = .ok (.ireturn, 1) := by decide +kernel
theorem dd_X12_looks_25 : decode mb_X12_looks 25 = .ok (.aload_n 0, 1) := by decide +kernel
theorem dd_X12_looks_26 : decode mb_X12_looks 26 = .ok (.getfield 89, 3) := by decide +kernel
theorem dd_X12_looks_29 : decode mb_X12_looks 29 = .ok (.iload_n 1, 1) := by decide +kernel
theorem dd_X12_looks_30 : decode mb_X12_looks 30 = .ok (.iaload, 1) := by decide +kernel
theorem dd_X12_looks_31 : decode mb_X12_looks 31 = .ok (.istore_n 3, 1) := by decide +kernel
theorem dd_X12_looks_32 : decode mb_X12_looks 32 = .ok (.aload_n 0, 1) := by decide +kernel
theorem dd_X12_looks_33 : decode mb_X12_looks 33 = .ok (.getfield 89, 3) := by decide +kernel
theorem dd_X12_looks_36 : decode mb_X12_looks 36 = .ok (.iload_n 1, 1) := by decide +kernel
theorem dd_X12_looks_37 : decode mb_X12_looks 37 = .ok (.iload_n 2, 1) := by decide +kernel
theorem dd_X12_looks_38 : decode mb_X12_looks 38 = .ok (.iastore, 1) := by decide +kernel
theorem dd_X12_looks_39 : decode mb_X12_looks 39 = .ok (.iload_n 3, 1) := by decide +kernel
theorem dd_X12_looks_40 : decode mb_X12_looks 40 = .ok (.ireturn, 1) := by decide +kernel
theorem dd_X12_loses_0 : decode mb_X12_loses 0 = .ok (.aload_n 0, 1) := by decide +kernel
theorem dd_X12_loses_1 : decode mb_X12_loses 1 = .ok (.iload_n 1, 1) := by decide +kernel
theorem dd_X12_loses_2 : decode mb_X12_loses 2 = .ok (.invokevirtual 193, 3) := by decide +kernel
theorem dd_X12_loses_5 : decode mb_X12_loses 5 = .ok (.ifCond .eq 11, 3) := by decide +kernel
theorem dd_X12_loses_8 : decode mb_X12_loses 8 = .ok (.aload_n 0, 1) := by decide +kernel
theorem dd_X12_loses_9 : decode mb_X12_loses 9 = .ok (.iload_n 2, 1) := by decide +kernel
theorem dd_X12_loses_10 : decode mb_X12_loses 10 = .ok (.invokevirtual 190, 3) := by decide +kernel
theorem dd_X12_loses_13 : decode mb_X12_loses 13 = .ok (.ifCond .ne 10, 3) := by decide +kernel
theorem dd_X12_loses_16 : decode mb_X12_loses 16 = .ok (.aload_n 0, 1) := by decide +kernel
theorem dd_X12_loses_17 : decode mb_X12_loses 17 = .ok (.bipush (-2), 2) := by decide +kernel
theorem dd_X12_loses_19 : decode mb_X12_loses 19 = .ok (.invokevirtual 152, 3) := by decide +kernel
theorem dd_X12_loses_22 : decode mb_X12_loses 22 = .ok (.ireturn, 1) := by decide +kernel
theorem dd_X12_loses_23 : decode mb_X12_loses 23 = .ok (.aload_n 0, 1) := by decide +kernel
theorem dd_X12_loses_24 : decode mb_X12_loses 24 = .ok (.iload_n 1, 1) := by decide +kernel
theorem dd_X12_loses_25 : decode mb_X12_loses 25 = .ok (.iload_n 2, 1) := by decide +kernel
theorem dd_X12_loses_26 : decode mb_X12_loses 26 = .ok (.invokevirtual 267, 3) := by decide +kernel
theorem dd_X12_loses_29 : decode mb_X12_loses 29 = .ok (.ireturn, 1) := by decide +kernel
theorem dd_X12_lostBy_0 : decode mb_X12_lostBy 0 = .ok (.aload_n 0, 1) := by decide +kernel
theorem dd_X12_lostBy_1 : decode mb_X12_lostBy 1 = .ok (.iload_n 2, 1) := by decide +kernel
theorem dd_X12_lostBy_2 : decode mb_X12_lostBy 2 = .ok (.invokevirtual 175, 3) := by decide +kernel
theorem dd_X12_lostBy_5 : decode mb_X12_lostBy 5 = .ok (.aload_n 0, 1) := by decide +kernel
theorem dd_X12_lostBy_6 : decode mb_X12_lostBy 6 = .ok (.iload_n 1, 1) := by decide +kernel
theorem dd_X12_lostBy_7 : decode mb_X12_lostBy 7 = .ok (.iload_n 2, 1) := by decide +kernel
theorem dd_X12_lostBy_8 : decode mb_X12_lostBy 8 = .ok (.invokevirtual 242, 3) := by decide +kernel
theorem dd_X12_lostBy_11 : decode mb_X12_lostBy 11 = .ok (.isub, 1) := by decide +kernel
theorem dd_X12_lostBy_12 : decode mb_X12_lostBy 12 = .ok (.istore_n 3, 1) := by decide +kernel
theorem dd_X12_lostBy_13 : decode mb_X12_lostBy 13 = .ok (.iload_n 3, 1) := by decide +kernel
theorem dd_X12_lostBy_14 : decode mb_X12_lostBy 14 = .ok (.ifCond .ge 7, 3) := by decide +kernel
theorem dd_X12_lostBy_17 : decode mb_X12_lostBy 17 = .ok (.iconst 0, 1) := by decide +kernel
theorem dd_X12_lostBy_18 : decode mb_X12_lostBy 18 = .ok (.goto 4, 3) := by decide +kernel
theorem dd_X12_lostBy_21 : decode mb_X12_lostBy 21 = .ok (.iload_n 3, 1) := by decide +kernel
theorem dd_X12_lostBy_22 : decode mb_X12_lostBy 22 = .ok (.ireturn, 1) := by decide +kernel
theorem dd_X12_lostOver_0 : decode mb_X12_lostOver 0 = .ok (.iconst 0, 1) := by decide +kernel
theorem dd_X12_lostOver_1 : decode mb_X12_lostOver 1 = .ok (.istore_n 3, 1) := by decide +kernel
theorem dd_X12_lostOver_2 : decode mb_X12_lostOver 2 = .ok (.iconst 0, 1) := by decide +kernel
theorem dd_X12_lostOver_3 : decode mb_X12_lostOver 3 = .ok (.istore 4, 2) := by decide +kernel
theorem dd_X12_lostOver_5 : decode mb_X12_lostOver 5 = .ok (.iload 4, 2) := by decide +kernel
theorem dd_X12_lostOver_7 : decode mb_X12_lostOver 7 = .ok (.aload_n 0, 1) := by decide +kernel
theorem dd_X12_lostOver_8 : decode mb_X12_lostOver 8 = .ok (.getfield 135, 3) := by decide +kernel
theorem dd_X12_lostOver_11 : decode mb_X12_lostOver 11 = .ok (.if_icmp .ge 34, 3) := by decide +kernel
theorem dd_X12_lostOver_14 : decode mb_X12_lostOver 14 = .ok (.aload_n 0, 1) := by decide +kernel
theorem dd_X12_lostOver_15 : decode mb_X12_lostOver 15 = .ok (.iload_n 2, 1) := by decide +kernel
theorem dd_X12_lostOver_16 : decode mb_X12_lostOver 16 = .ok (.aload_n 0, 1) := by decide +kernel
theorem dd_X12_lostOver_17 : decode mb_X12_lostOver 17 = .ok (.getfield 20, 3) := by decide +kernel
theorem dd_X12_lostOver_20 : decode mb_X12_lostOver 20 = .ok (.iload 4, 2) := by decide +kernel
theorem dd_X12_lostOver_22 : decode mb_X12_lostOver 22 = .ok (.iaload, 1) := by decide +kernel
theorem dd_X12_lostOver_23 : decode mb_X12_lostOver 23 = .ok (.invokevirtual 181, 3) := by decide +kernel
theorem dd_X12_lostOver_26 : decode mb_X12_lostOver 26 = .ok (.ifCond .eq 13, 3) := by decide +kernel
theorem dd_X12_lostOver_29 : decode mb_X12_lostOver 29 = .ok (.iload_n 3, 1) := by decide +kernel
theorem dd_X12_lostOver_30 : decode mb_X12_lostOver 30 = .ok (.aload_n 0, 1) := by decide +kernel
theorem dd_X12_lostOver_31 : decode mb_X12_lostOver 31 = .ok (.iload_n 1, 1) := by decide +kernel
theorem dd_X12_lostOver_32 : decode mb_X12_lostOver 32 = .ok (.iload 4, 2) := by decide +kernel
theorem dd_X12_lostOver_34 : decode mb_X12_lostOver 34 = .ok (.invokevirtual 245, 3) := by decide +kernel
theorem dd_X12_lostOver_37 : decode mb_X12_lostOver 37 = .ok (.iadd, 1) := by decide +kernel
theorem dd_X12_lostOver_38 : decode mb_X12_lostOver 38 = .ok (.istore_n 3, 1) := by decide +kernel
theorem dd_X12_lostOver_39 : decode mb_X12_lostOver 39 = .ok (.iinc 4 1, 3) := by decide +kernel
theorem dd_X12_lostOver_42 : decode mb_X12_lostOver 42 = .ok (.goto (-37), 3) := by decide +kernel
theorem dd_X12_lostOver_45 : decode mb_X12_lostOver 45 = .ok (.iload_n 3, 1) := by decide +kernel
theorem dd_X12_lostOver_46 : decode mb_X12_lostOver 46 = .ok (.ireturn, 1) := by decide +kernel
theorem dd_X12_mark_0 : decode mb_X12_mark 0 = .ok (.aload_n 0, 1) := by decide +kernel
theorem dd_X12_mark_1 : decode mb_X12_mark 1 = .ok (.iload_n 1, 1) := by decide +kernel
theorem dd_X12_mark_2 : decode mb_X12_mark 2 = .ok (.invokevirtual 165, 3) := by decide +kernel
theorem dd_X12_mark_5 : decode mb_X12_mark 5 = .ok (.ifCond .eq 15, 3) := by decide +kernel
theorem dd_X12_mark_8 : decode mb_X12_mark 8 = .ok (.iload_n 2, 1) := by decide +kernel
theorem dd_X12_mark_9 : decode mb_X12_mark 9 = .ok (.iconst (-1), 1) := by decide +kernel
theorem dd_X12_mark_10 : decode mb_X12_mark 10 = .ok (.if_icmp .lt 10, 3) := by decide +kernel
theorem dd_X12_mark_13 : decode mb_X12_mark 13 = .ok (.iload_n 2, 1) := by decide +kernel
theorem dd_X12_mark_14 : decode mb_X12_mark 14 = .ok (.sipush 999, 3) := by decide +kernel
theorem dd_X12_mark_17 : decode mb_X12_mark 17 = .ok (.if_icmp .le 10, 3) := by decide +kernel
theorem dd_X12_mark_20 : decode mb_X12_mark 20 = .ok (.aload_n 0, 1) := by decide +kernel
theorem dd_X12_mark_21 : decode mb_X12_mark 21 = .ok (.bipush (-2), 2) := by decide +kernel
theorem dd_X12_mark_23 : decode mb_X12_mark 23 = .ok (.invokevirtual 152, 3) := by decide +kernel
theorem dd_X12_mark_26 : decode mb_X12_mark 26 = .ok (.ireturn, 1) := by decide +kernel
theorem dd_X12_mark_27 : decode mb_X12_mark 27 = .ok (.aload_n 0, 1) := by decide +kernel
theorem dd_X12_mark_28 : decode mb_X12_mark 28 = .ok (.getfield 32, 3) := by decide +kernel
theorem dd_X12_mark_31 : decode mb_X12_mark 31 = .ok (.iload_n 1, 1) := by decide +kernel
theorem dd_X12_mark_32 : decode mb_X12_mark 32 = .ok (.iaload, 1) := by decide +kernel
theorem dd_X12_mark_33 : decode mb_X12_mark 33 = .ok (.ifCond .lt 10, 3) := by decide +kernel
theorem dd_X12_mark_36 : decode mb_X12_mark 36 = .ok (.aload_n 0, 1) := by decide +kernel
theorem dd_X12_mark_37 : decode mb_X12_mark 37 = .ok (.bipush (-5), 2) := by decide +kernel
theorem dd_X12_mark_39 : decode mb_X12_mark 39 = .ok (.invokevirtual 152, 3) := by decide +kernel
theorem dd_X12_mark_42 : decode mb_X12_mark 42 = .ok (.ireturn, 1) := by decide +kernel
theorem dd_X12_mark_43 : decode mb_X12_mark 43 = .ok (.aload_n 0, 1) := by decide +kernel
theorem dd_X12_mark_44 : decode mb_X12_mark 44 = .ok (.getfield 29, 3) := by decide +kernel
theorem dd_X12_mark_47 : decode mb_X12_mark 47 = .ok (.iload_n 1, 1) := by decide +kernel
theorem dd_X12_mark_48 : decode mb_X12_mark 48 = .ok (.iaload, 1) := by decide +kernel
theorem dd_X12_mark_49 : decode mb_X12_mark 49 = .ok (.istore_n 3, 1) := by decide +kernel
theorem dd_X12_mark_50 : decode mb_X12_mark 50 = .ok (.aload_n 0, 1) := by decide +kernel
theorem dd_X12_mark_51 : decode mb_X12_mark 51 = .ok (.getfield 29, 3) := by decide +kernel
theorem dd_X12_mark_54 : decode mb_X12_mark 54 = .ok (.iload_n 1, 1) := by decide +kernel
theorem dd_X12_mark_55 : decode mb_X12_mark 55 = .ok (.iload_n 2, 1) := by decide +kernel
theorem dd_X12_mark_56 : decode mb_X12_mark 56 = .ok (.iastore, 1) := by decide +kernel
theorem dd_X12_mark_57 : decode mb_X12_mark 57 = .ok (.iload_n 3, 1) := by decide +kernel
theorem dd_X12_mark_58 : decode mb_X12_mark 58 = .ok (.ireturn, 1) := by decide +kernel
theorem dd_X12_mayBe_0 : decode mb_X12_mayBe 0 = .ok (.iload_n 1, 1) := by decide +kernel
theorem dd_X12_mayBe_1 : decode mb_X12_mayBe 1 = .ok (.iconst 2, 1) := by decide +kernel
theorem dd_X12_mayBe_2 : decode mb_X12_mayBe 2 = .ok (.if_icmp .ge 16, 3) := by decide +kernel
theorem dd_X12_mayBe_5 : decode mb_X12_mayBe 5 = .ok (.iload_n 2, 1) := by decide +kernel
theorem dd_X12_mayBe_6 : decode mb_X12_mayBe 6 = .ok (.sipush 200, 3) := by decide +kernel
theorem dd_X12_mayBe_9 : decode mb_X12_mayBe 9 = .ok (.if_icmp .gt 7, 3) := by decide +kernel
theorem dd_X12_mayBe_12 : decode mb_X12_mayBe 12 = .ok (.iconst 1, 1) := by decide +kernel
theorem dd_X12_mayBe_13 : decode mb_X12_mayBe 13 = .ok (.goto 4, 3) := by decide +kernel
theorem dd_X12_mayBe_16 : decode mb_X12_mayBe 16 = .ok (.iconst 0, 1) := by decide +kernel
theorem dd_X12_mayBe_17 : decode mb_X12_mayBe 17 = .ok (.ireturn, 1) := by decide +kernel
theorem dd_X12_mayBe_18 : decode mb_X12_mayBe 18 = .ok (.iload_n 1, 1) := by decide +kernel
theorem dd_X12_mayBe_19 : decode mb_X12_mayBe 19 = .ok (.iconst 2, 1) := by decide +kernel
theorem dd_X12_mayBe_20 : decode mb_X12_mayBe 20 = .ok (.if_icmp .ne 14, 3) := by decide +kernel
theorem dd_X12_mayBe_23 : decode mb_X12_mayBe 23 = .ok (.iload_n 2, 1) := by decide +kernel
theorem dd_X12_mayBe_24 : decode mb_X12_mayBe 24 = .ok (.iconst 1, 1) := by decide +kernel
theorem dd_X12_mayBe_25 : decode mb_X12_mayBe 25 = .ok (.if_icmp .lt 13, 3) := by decide +kernel
theorem dd_X12_mayBe_28 : decode mb_X12_mayBe 28 = .ok (.iload_n 2, 1) := by decide +kernel
theorem dd_X12_mayBe_29 : decode mb_X12_mayBe 29 = .ok (.bipush 50, 2) := by decide +kernel
theorem dd_X12_mayBe_31 : decode mb_X12_mayBe 31 = .ok (.if_icmp .gt 7, 3) := by decide +kernel
theorem dd_X12_mayBe_34 : decode mb_X12_mayBe 34 = .ok (.iconst 1, 1) := by decide +kernel
theorem dd_X12_mayBe_35 : decode mb_X12_mayBe 35 = .ok (.goto 4, 3) := by decide +kernel
theorem dd_X12_mayBe_38 : decode mb_X12_mayBe 38 = .ok (.iconst 0, 1) := by decide +kernel
theorem dd_X12_mayBe_39 : decode mb_X12_mayBe 39 = .ok (.ireturn, 1) := by decide +kernel
theorem dd_X12_mayBecome_0 : decode mb_X12_mayBecome 0 = .ok (.aload_n 0, 1) := by decide +kernel
theorem dd_X12_mayBecome_1 : decode mb_X12_mayBecome 1 = .ok (.getfield 71, 3) := by decide +kernel
theorem dd_X12_mayBecome_4 : decode mb_X12_mayBecome 4 = .ok (.iload_n 1, 1) := by decide +kernel
theorem dd_X12_mayBecome_5 : decode mb_X12_mayBecome 5 = .ok (.iaload, 1) := by decide +kernel
theorem dd_X12_mayBecome_6 : decode mb_X12_mayBecome 6 = .ok (.aload_n 0, 1) := by decide +kernel
theorem dd_X12_mayBecome_7 : decode mb_X12_mayBecome 7 = .ok (.getfield 71, 3) := by decide +kernel
theorem dd_X12_mayBecome_10 : decode mb_X12_mayBecome 10 = .ok (.iload_n 2, 1) := by decide +kernel
theorem dd_X12_mayBecome_11 : decode mb_X12_mayBecome 11 = .ok (.iaload, 1) := by decide +kernel
theorem dd_X12_mayBecome_12 : decode mb_X12_mayBecome 12 = .ok (.if_icmp .ge 21, 3) := by decide +kernel
theorem dd_X12_mayBecome_15 : decode mb_X12_mayBecome 15 = .ok (.aload_n 0, 1) := by decide +kernel
theorem dd_X12_mayBecome_16 : decode mb_X12_mayBecome 16 = .ok (.getfield 74, 3) := by decide +kernel
theorem dd_X12_mayBecome_19 : decode mb_X12_mayBecome 19 = .ok (.iload_n 1, 1) := by decide +kernel
theorem dd_X12_mayBecome_20 : decode mb_X12_mayBecome 20 = .ok (.iaload, 1) := by decide +kernel
theorem dd_X12_mayBecome_21 : decode mb_X12_mayBecome 21 = .ok (.aload_n 0, 1) := by decide +kernel
theorem dd_X12_mayBecome_22 : decode mb_X12_mayBecome 22 = .ok (.getfield 74, 3) := by decide +kernel
theorem dd_X12_mayBecome_25 : decode mb_X12_mayBecome 25 = .ok (.iload_n 2, 1) := by decide +kernel
theorem dd_X12_mayBecome_26 : decode mb_X12_mayBecome 26 = .ok (.iaload, 1) := by decide +kernel
theorem dd_X12_mayBecome_27 : decode mb_X12_mayBecome 27 = .ok (.iconst (-1), 1) := by decide +kernel
theorem dd_X12_mayBecome_28 : decode mb_X12_mayBecome 28 = .ok (.ixor, 1) := by decide +kernel
theorem dd_X12_mayBecome_29 : decode mb_X12_mayBecome 29 = .ok (.iand, 1) := by decide +kernel
theorem dd_X12_mayBecome_30 : decode mb_X12_mayBecome 30 = .ok (.ifCond .eq 5, 3) := by decide +kernel
theorem dd_X12_mayBecome_33 : decode mb_X12_mayBecome 33 = .ok (.iconst 0, 1) := by decide +kernel
theorem dd_X12_mayBecome_34 : decode mb_X12_mayBecome 34 = .ok (.ireturn, 1) := by decide +kernel
theorem dd_X12_mayBecome_35 : decode mb_X12_mayBecome 35 = .ok (.aload_n 0, 1) := by decide +kernel
theorem dd_X12_mayBecome_36 : decode mb_X12_mayBecome 36 = .ok (.getfield 80, 3) := by decide +kernel
theorem dd_X12_mayBecome_39 : decode mb_X12_mayBecome 39 = .ok (.iload_n 1, 1) := by decide +kernel
theorem dd_X12_mayBecome_40 : decode mb_X12_mayBecome 40 = .ok (.iaload, 1) := by decide +kernel
theorem dd_X12_mayBecome_41 : decode mb_X12_mayBecome 41 = .ok (.iconst (-1), 1) := by decide +kernel
theorem dd_X12_mayBecome_42 : decode mb_X12_mayBecome 42 = .ok (.if_icmp .eq 28, 3) := by decide +kernel
theorem dd_X12_mayBecome_45 : decode mb_X12_mayBecome 45 = .ok (.aload_n 0, 1) := by decide +kernel
theorem dd_X12_mayBecome_46 : decode mb_X12_mayBecome 46 = .ok (.getfield 77, 3) := by decide +kernel
theorem dd_X12_mayBecome_49 : decode mb_X12_mayBecome 49 = .ok (.iload_n 2, 1) := by decide +kernel
theorem dd_X12_mayBecome_50 : decode mb_X12_mayBecome 50 = .ok (.iaload, 1) := by decide +kernel
theorem dd_X12_mayBecome_51 : decode mb_X12_mayBecome 51 = .ok (.iconst (-1), 1) := by decide +kernel
theorem dd_X12_mayBecome_52 : decode mb_X12_mayBecome 52 = .ok (.if_icmp .eq 18, 3) := by decide +kernel
theorem dd_X12_mayBecome_55 : decode mb_X12_mayBecome 55 = .ok (.aload_n 0, 1) := by decide +kernel
theorem dd_X12_mayBecome_56 : decode mb_X12_mayBecome 56 = .ok (.getfield 80, 3) := by decide +kernel
theorem dd_X12_mayBecome_59 : decode mb_X12_mayBecome 59 = .ok (.iload_n 1, 1) := by decide +kernel
theorem dd_X12_mayBecome_60 : decode mb_X12_mayBecome 60 = .ok (.iaload, 1) := by decide +kernel
theorem dd_X12_mayBecome_61 : decode mb_X12_mayBecome 61 = .ok (.aload_n 0, 1) := by decide +kernel
theorem dd_X12_mayBecome_62 : decode mb_X12_mayBecome 62 = .ok (.getfield 77, 3) := by decide +kernel
theorem dd_X12_mayBecome_65 : decode mb_X12_mayBecome 65 = .ok (.iload_n 2, 1) := by decide +kernel
theorem dd_X12_mayBecome_66 : decode mb_X12_mayBecome 66 = .ok (.iaload, 1) := by decide +kernel
theorem dd_X12_mayBecome_67 : decode mb_X12_mayBecome 67 = .ok (.if_icmp .ne 7, 3) := by decide +kernel
theorem dd_X12_mayBecome_70 : decode mb_X12_mayBecome 70 = .ok (.iconst 1, 1) := by decide +kernel
theorem dd_X12_mayBecome_71 : decode mb_X12_mayBecome 71 = .ok (.goto 4, 3) := by decide +kernel
theorem dd_X12_mayBecome_74 : decode mb_X12_mayBecome 74 = .ok (.iconst 0, 1) := by decide +kernel
theorem dd_X12_mayBecome_75 : decode mb_X12_mayBecome 75 = .ok (.ireturn, 1) := by decide +kernel
theorem dd_X12_morning_0 : decode mb_X12_morning 0 = .ok (.aload_n 0, 1) := by decide +kernel
theorem dd_X12_morning_1 : decode mb_X12_morning 1 = .ok (.getfield 92, 3) := by decide +kernel
theorem dd_X12_morning_4 : decode mb_X12_morning 4 = .ok (.iconst 2, 1) := by decide +kernel
theorem dd_X12_morning_5 : decode mb_X12_morning 5 = .ok (.iaload, 1) := by decide +kernel
theorem dd_X12_morning_6 : decode mb_X12_morning 6 = .ok (.istore_n 1, 1) := by decide +kernel
theorem dd_X12_morning_7 : decode mb_X12_morning 7 = .ok (.aload_n 0, 1) := by decide +kernel
theorem dd_X12_morning_8 : decode mb_X12_morning 8 = .ok (.getfield 92, 3) := by decide +kernel
theorem dd_X12_morning_11 : decode mb_X12_morning 11 = .ok (.iconst 2, 1) := by decide +kernel
theorem dd_X12_morning_12 : decode mb_X12_morning 12 = .ok (.iconst 0, 1) := by decide +kernel
theorem dd_X12_morning_13 : decode mb_X12_morning 13 = .ok (.iastore, 1) := by decide +kernel
theorem dd_X12_morning_14 : decode mb_X12_morning 14 = .ok (.aload_n 0, 1) := by decide +kernel
theorem dd_X12_morning_15 : decode mb_X12_morning 15 = .ok (.getfield 92, 3) := by decide +kernel
theorem dd_X12_morning_18 : decode mb_X12_morning 18 = .ok (.iconst 3, 1) := by decide +kernel
theorem dd_X12_morning_19 : decode mb_X12_morning 19 = .ok (.iconst 0, 1) := by decide +kernel
theorem dd_X12_morning_20 : decode mb_X12_morning 20 = .ok (.iastore, 1) := by decide +kernel
theorem dd_X12_morning_21 : decode mb_X12_morning 21 = .ok (.iload_n 1, 1) := by decide +kernel
theorem dd_X12_morning_22 : decode mb_X12_morning 22 = .ok (.ireturn, 1) := by decide +kernel
theorem dd_X12_move_0 : decode mb_X12_move 0 = .ok (.iconst 0, 1) := by decide +kernel
theorem dd_X12_move_1 : decode mb_X12_move 1 = .ok (.istore 4, 2) := by decide +kernel
theorem dd_X12_move_3 : decode mb_X12_move 3 = .ok (.iload 4, 2) := by decide +kernel
theorem dd_X12_move_5 : decode mb_X12_move 5 = .ok (.aload_n 1, 1) := by decide +kernel
theorem dd_X12_move_6 : decode mb_X12_move 6 = .ok (.arraylength, 1) := by decide +kernel
theorem dd_X12_move_7 : decode mb_X12_move 7 = .ok (.if_icmp .ge 42, 3) := by decide +kernel
theorem dd_X12_move_10 : decode mb_X12_move 10 = .ok (.iload_n 3, 1) := by decide +kernel
theorem dd_X12_move_11 : decode mb_X12_move 11 = .ok (.ifCond .eq 19, 3) := by decide +kernel
theorem dd_X12_move_14 : decode mb_X12_move 14 = .ok (.aload_n 0, 1) := by decide +kernel
theorem dd_X12_move_15 : decode mb_X12_move 15 = .ok (.getfield 98, 3) := by decide +kernel
theorem dd_X12_move_18 : decode mb_X12_move 18 = .ok (.iload_n 2, 1) := by decide +kernel
theorem dd_X12_move_19 : decode mb_X12_move 19 = .ok (.iload 4, 2) := by decide +kernel
theorem dd_X12_move_21 : decode mb_X12_move 21 = .ok (.iadd, 1) := by decide +kernel
theorem dd_X12_move_22 : decode mb_X12_move 22 = .ok (.aload_n 1, 1) := by decide +kernel
theorem dd_X12_move_23 : decode mb_X12_move 23 = .ok (.iload 4, 2) := by decide +kernel
theorem dd_X12_move_25 : decode mb_X12_move 25 = .ok (.iaload, 1) := by decide +kernel
theorem dd_X12_move_26 : decode mb_X12_move 26 = .ok (.iastore, 1) := by decide +kernel
theorem dd_X12_move_27 : decode mb_X12_move 27 = .ok (.goto 16, 3) := by decide +kernel
theorem dd_X12_move_30 : decode mb_X12_move 30 = .ok (.aload_n 1, 1) := by decide +kernel
theorem dd_X12_move_31 : decode mb_X12_move 31 = .ok (.iload 4, 2) := by decide +kernel
theorem dd_X12_move_33 : decode mb_X12_move 33 = .ok (.aload_n 0, 1) := by decide +kernel
theorem dd_X12_move_34 : decode mb_X12_move 34 = .ok (.getfield 98, 3) := by decide +kernel
theorem dd_X12_move_37 : decode mb_X12_move 37 = .ok (.iload_n 2, 1) := by decide +kernel
theorem dd_X12_move_38 : decode mb_X12_move 38 = .ok (.iload 4, 2) := by decide +kernel
theorem dd_X12_move_40 : decode mb_X12_move 40 = .ok (.iadd, 1) := by decide +kernel
theorem dd_X12_move_41 : decode mb_X12_move 41 = .ok (.iaload, 1) := by decide +kernel
theorem dd_X12_move_42 : decode mb_X12_move 42 = .ok (.iastore, 1) := by decide +kernel
theorem dd_X12_move_43 : decode mb_X12_move 43 = .ok (.iinc 4 1, 3) := by decide +kernel
theorem dd_X12_move_46 : decode mb_X12_move 46 = .ok (.goto (-43), 3) := by decide +kernel
theorem dd_X12_move_49 : decode mb_X12_move 49 = .ok (.iload_n 2, 1) := by decide +kernel
theorem dd_X12_move_50 : decode mb_X12_move 50 = .ok (.aload_n 1, 1) := by decide +kernel
theorem dd_X12_move_51 : decode mb_X12_move 51 = .ok (.arraylength, 1) := by decide +kernel
theorem dd_X12_move_52 : decode mb_X12_move 52 = .ok (.iadd, 1) := by decide +kernel
theorem dd_X12_move_53 : decode mb_X12_move 53 = .ok (.ireturn, 1) := by decide +kernel
theorem dd_X12_moveAll_0 : decode mb_X12_moveAll 0 = .ok (.aload_n 0, 1) := by decide +kernel
theorem dd_X12_moveAll_1 : decode mb_X12_moveAll 1 = .ok (.aload_n 0, 1) := by decide +kernel
theorem dd_X12_moveAll_2 : decode mb_X12_moveAll 2 = .ok (.getfield 101, 3) := by decide +kernel
theorem dd_X12_moveAll_5 : decode mb_X12_moveAll 5 = .ok (.iconst 0, 1) := by decide +kernel
theorem dd_X12_moveAll_6 : decode mb_X12_moveAll 6 = .ok (.iload_n 1, 1) := by decide +kernel
theorem dd_X12_moveAll_7 : decode mb_X12_moveAll 7 = .ok (.invokevirtual 302, 3) := by decide +kernel
theorem dd_X12_moveAll_10 : decode mb_X12_moveAll 10 = .ok (.istore_n 2, 1) := by decide +kernel
theorem dd_X12_moveAll_11 : decode mb_X12_moveAll 11 = .ok (.aload_n 0, 1) := by decide +kernel
theorem dd_X12_moveAll_12 : decode mb_X12_moveAll 12 = .ok (.aload_n 0, 1) := by decide +kernel
theorem dd_X12_moveAll_13 : decode mb_X12_moveAll 13 = .ok (.getfield 20, 3) := by decide +kernel
theorem dd_X12_moveAll_16 : decode mb_X12_moveAll 16 = .ok (.iload_n 2, 1) := by decide +kernel
theorem dd_X12_moveAll_17 : decode mb_X12_moveAll 17 = .ok (.iload_n 1, 1) := by decide +kernel
theorem dd_X12_moveAll_18 : decode mb_X12_moveAll 18 = .ok (.invokevirtual 302, 3) := by decide +kernel
theorem dd_X12_moveAll_21 : decode mb_X12_moveAll 21 = .ok (.istore_n 2, 1) := by decide +kernel
theorem dd_X12_moveAll_22 : decode mb_X12_moveAll 22 = .ok (.aload_n 0, 1) := by decide +kernel
theorem dd_X12_moveAll_23 : decode mb_X12_moveAll 23 = .ok (.aload_n 0, 1) := by decide +kernel
theorem dd_X12_moveAll_24 : decode mb_X12_moveAll 24 = .ok (.getfield 23, 3) := by decide +kernel
theorem dd_X12_moveAll_27 : decode mb_X12_moveAll 27 = .ok (.iload_n 2, 1) := by decide +kernel
theorem dd_X12_moveAll_28 : decode mb_X12_moveAll 28 = .ok (.iload_n 1, 1) := by decide +kernel
theorem dd_X12_moveAll_29 : decode mb_X12_moveAll 29 = .ok (.invokevirtual 302, 3) := by decide +kernel
theorem dd_X12_moveAll_32 : decode mb_X12_moveAll 32 = .ok (.istore_n 2, 1) := by decide +kernel
theorem dd_X12_moveAll_33 : decode mb_X12_moveAll 33 = .ok (.aload_n 0, 1) := by decide +kernel
theorem dd_X12_moveAll_34 : decode mb_X12_moveAll 34 = .ok (.aload_n 0, 1) := by decide +kernel
theorem dd_X12_moveAll_35 : decode mb_X12_moveAll 35 = .ok (.getfield 26, 3) := by decide +kernel
theorem dd_X12_moveAll_38 : decode mb_X12_moveAll 38 = .ok (.iload_n 2, 1) := by decide +kernel
theorem dd_X12_moveAll_39 : decode mb_X12_moveAll 39 = .ok (.iload_n 1, 1) := by decide +kernel
theorem dd_X12_moveAll_40 : decode mb_X12_moveAll 40 = .ok (.invokevirtual 302, 3) := by decide +kernel
theorem dd_X12_moveAll_43 : decode mb_X12_moveAll 43 = .ok (.istore_n 2, 1) := by decide +kernel
theorem dd_X12_moveAll_44 : decode mb_X12_moveAll 44 = .ok (.aload_n 0, 1) := by decide +kernel
theorem dd_X12_moveAll_45 : decode mb_X12_moveAll 45 = .ok (.aload_n 0, 1) := by decide +kernel
theorem dd_X12_moveAll_46 : decode mb_X12_moveAll 46 = .ok (.getfield 29, 3) := by decide +kernel
theorem dd_X12_moveAll_49 : decode mb_X12_moveAll 49 = .ok (.iload_n 2, 1) := by decide +kernel
theorem dd_X12_moveAll_50 : decode mb_X12_moveAll 50 = .ok (.iload_n 1, 1) := by decide +kernel
theorem dd_X12_moveAll_51 : decode mb_X12_moveAll 51 = .ok (.invokevirtual 302, 3) := by decide +kernel
theorem dd_X12_moveAll_54 : decode mb_X12_moveAll 54 = .ok (.istore_n 2, 1) := by decide +kernel
theorem dd_X12_moveAll_55 : decode mb_X12_moveAll 55 = .ok (.aload_n 0, 1) := by decide +kernel
theorem dd_X12_moveAll_56 : decode mb_X12_moveAll 56 = .ok (.aload_n 0, 1) := by decide +kernel
theorem dd_X12_moveAll_57 : decode mb_X12_moveAll 57 = .ok (.getfield 32, 3) := by decide +kernel
theorem dd_X12_moveAll_60 : decode mb_X12_moveAll 60 = .ok (.iload_n 2, 1) := by decide +kernel
theorem dd_X12_moveAll_61 : decode mb_X12_moveAll 61 = .ok (.iload_n 1, 1) := by decide +kernel
theorem dd_X12_moveAll_62 : decode mb_X12_moveAll 62 = .ok (.invokevirtual 302, 3) := by decide +kernel
theorem dd_X12_moveAll_65 : decode mb_X12_moveAll 65 = .ok (.istore_n 2, 1) := by decide +kernel
theorem dd_X12_moveAll_66 : decode mb_X12_moveAll 66 = .ok (.aload_n 0, 1) := by decide +kernel
theorem dd_X12_moveAll_67 : decode mb_X12_moveAll 67 = .ok (.aload_n 0, 1) := by decide +kernel
theorem dd_X12_moveAll_68 : decode mb_X12_moveAll 68 = .ok (.getfield 35, 3) := by decide +kernel
theorem dd_X12_moveAll_71 : decode mb_X12_moveAll 71 = .ok (.iload_n 2, 1) := by decide +kernel
theorem dd_X12_moveAll_72 : decode mb_X12_moveAll 72 = .ok (.iload_n 1, 1) := by decide +kernel
theorem dd_X12_moveAll_73 : decode mb_X12_moveAll 73 = .ok (.invokevirtual 302, 3) := by decide +kernel
theorem dd_X12_moveAll_76 : decode mb_X12_moveAll 76 = .ok (.istore_n 2, 1) := by decide +kernel
theorem dd_X12_moveAll_77 : decode mb_X12_moveAll 77 = .ok (.aload_n 0, 1) := by decide +kernel
theorem dd_X12_moveAll_78 : decode mb_X12_moveAll 78 = .ok (.aload_n 0, 1) := by decide +kernel
theorem dd_X12_moveAll_79 : decode mb_X12_moveAll 79 = .ok (.getfield 38, 3) := by decide +kernel
theorem dd_X12_moveAll_82 : decode mb_X12_moveAll 82 = .ok (.iload_n 2, 1) := by decide +kernel
theorem dd_X12_moveAll_83 : decode mb_X12_moveAll 83 = .ok (.iload_n 1, 1) := by decide +kernel
theorem dd_X12_moveAll_84 : decode mb_X12_moveAll 84 = .ok (.invokevirtual 302, 3) := by decide +kernel
theorem dd_X12_moveAll_87 : decode mb_X12_moveAll 87 = .ok (.istore_n 2, 1) := by decide +kernel
theorem dd_X12_moveAll_88 : decode mb_X12_moveAll 88 = .ok (.aload_n 0, 1) := by decide +kernel
theorem dd_X12_moveAll_89 : decode mb_X12_moveAll 89 = .ok (.aload_n 0, 1) := by decide +kernel
theorem dd_X12_moveAll_90 : decode mb_X12_moveAll 90 = .ok (.getfield 41, 3) := by decide +kernel
theorem dd_X12_moveAll_93 : decode mb_X12_moveAll 93 = .ok (.iload_n 2, 1) := by decide +kernel
theorem dd_X12_moveAll_94 : decode mb_X12_moveAll 94 = .ok (.iload_n 1, 1) := by decide +kernel
theorem dd_X12_moveAll_95 : decode mb_X12_moveAll 95 = .ok (.invokevirtual 302, 3) := by decide +kernel
theorem dd_X12_moveAll_98 : decode mb_X12_moveAll 98 = .ok (.istore_n 2, 1) := by decide +kernel
theorem dd_X12_moveAll_99 : decode mb_X12_moveAll 99 = .ok (.aload_n 0, 1) := by decide +kernel
theorem dd_X12_moveAll_100 : decode mb_X12_moveAll 100 = .ok (.aload_n 0, 1) := by decide +kernel
theorem dd_X12_moveAll_101 : decode mb_X12_moveAll 101 = .ok (.getfield 44, 3) := by decide +kernel
theorem dd_X12_moveAll_104 : decode mb_X12_moveAll 104 = .ok (.iload_n 2, 1) := by decide +kernel
theorem dd_X12_moveAll_105 : decode mb_X12_moveAll 105 = .ok (.iload_n 1, 1) := by decide +kernel
theorem dd_X12_moveAll_106 : decode mb_X12_moveAll 106 = .ok (.invokevirtual 302, 3) := by decide +kernel
theorem dd_X12_moveAll_109 : decode mb_X12_moveAll 109 = .ok (.istore_n 2, 1) := by decide +kernel
theorem dd_X12_moveAll_110 : decode mb_X12_moveAll 110 = .ok (.aload_n 0, 1) := by decide +kernel
theorem dd_X12_moveAll_111 : decode mb_X12_moveAll 111 = .ok (.aload_n 0, 1) := by decide +kernel
theorem dd_X12_moveAll_112 : decode mb_X12_moveAll 112 = .ok (.getfield 47, 3) := by decide +kernel
theorem dd_X12_moveAll_115 : decode mb_X12_moveAll 115 = .ok (.iload_n 2, 1) := by decide +kernel
theorem dd_X12_moveAll_116 : decode mb_X12_moveAll 116 = .ok (.iload_n 1, 1) := by decide +kernel
theorem dd_X12_moveAll_117 : decode mb_X12_moveAll 117 = .ok (.invokevirtual 302, 3) := by decide +kernel
theorem dd_X12_moveAll_120 : decode mb_X12_moveAll 120 = .ok (.istore_n 2, 1) := by decide +kernel
theorem dd_X12_moveAll_121 : decode mb_X12_moveAll 121 = .ok (.aload_n 0, 1) := by decide +kernel
theorem dd_X12_moveAll_122 : decode mb_X12_moveAll 122 = .ok (.aload_n 0, 1) := by decide +kernel
theorem dd_X12_moveAll_123 : decode mb_X12_moveAll 123 = .ok (.getfield 53, 3) := by decide +kernel
theorem dd_X12_moveAll_126 : decode mb_X12_moveAll 126 = .ok (.iload_n 2, 1) := by decide +kernel
theorem dd_X12_moveAll_127 : decode mb_X12_moveAll 127 = .ok (.iload_n 1, 1) := by decide +kernel
theorem dd_X12_moveAll_128 : decode mb_X12_moveAll 128 = .ok (.invokevirtual 302, 3) := by decide +kernel
theorem dd_X12_moveAll_131 : decode mb_X12_moveAll 131 = .ok (.istore_n 2, 1) := by decide +kernel
theorem dd_X12_moveAll_132 : decode mb_X12_moveAll 132 = .ok (.aload_n 0, 1) := by decide +kernel
theorem dd_X12_moveAll_133 : decode mb_X12_moveAll 133 = .ok (.aload_n 0, 1) := by decide +kernel
theorem dd_X12_moveAll_134 : decode mb_X12_moveAll 134 = .ok (.getfield 56, 3) := by decide +kernel
theorem dd_X12_moveAll_137 : decode mb_X12_moveAll 137 = .ok (.iload_n 2, 1) := by decide +kernel
theorem dd_X12_moveAll_138 : decode mb_X12_moveAll 138 = .ok (.iload_n 1, 1) := by decide +kernel
theorem dd_X12_moveAll_139 : decode mb_X12_moveAll 139 = .ok (.invokevirtual 302, 3) := by decide +kernel
theorem dd_X12_moveAll_142 : decode mb_X12_moveAll 142 = .ok (.istore_n 2, 1) := by decide +kernel
theorem dd_X12_moveAll_143 : decode mb_X12_moveAll 143 = .ok (.aload_n 0, 1) := by decide +kernel
theorem dd_X12_moveAll_144 : decode mb_X12_moveAll 144 = .ok (.aload_n 0, 1) := by decide +kernel
theorem dd_X12_moveAll_145 : decode mb_X12_moveAll 145 = .ok (.getfield 59, 3) := by decide +kernel
theorem dd_X12_moveAll_148 : decode mb_X12_moveAll 148 = .ok (.iload_n 2, 1) := by decide +kernel
theorem dd_X12_moveAll_149 : decode mb_X12_moveAll 149 = .ok (.iload_n 1, 1) := by decide +kernel
theorem dd_X12_moveAll_150 : decode mb_X12_moveAll 150 = .ok (.invokevirtual 302, 3) := by decide +kernel
theorem dd_X12_moveAll_153 : decode mb_X12_moveAll 153 = .ok (.istore_n 2, 1) := by decide +kernel
theorem dd_X12_moveAll_154 : decode mb_X12_moveAll 154 = .ok (.aload_n 0, 1) := by decide +kernel
theorem dd_X12_moveAll_155 : decode mb_X12_moveAll 155 = .ok (.aload_n 0, 1) := by decide +kernel
theorem dd_X12_moveAll_156 : decode mb_X12_moveAll 156 = .ok (.getfield 62, 3) := by decide +kernel
theorem dd_X12_moveAll_159 : decode mb_X12_moveAll 159 = .ok (.iload_n 2, 1) := by decide +kernel
theorem dd_X12_moveAll_160 : decode mb_X12_moveAll 160 = .ok (.iload_n 1, 1) := by decide +kernel
theorem dd_X12_moveAll_161 : decode mb_X12_moveAll 161 = .ok (.invokevirtual 302, 3) := by decide +kernel
theorem dd_X12_moveAll_164 : decode mb_X12_moveAll 164 = .ok (.istore_n 2, 1) := by decide +kernel
theorem dd_X12_moveAll_165 : decode mb_X12_moveAll 165 = .ok (.aload_n 0, 1) := by decide +kernel
theorem dd_X12_moveAll_166 : decode mb_X12_moveAll 166 = .ok (.aload_n 0, 1) := by decide +kernel
theorem dd_X12_moveAll_167 : decode mb_X12_moveAll 167 = .ok (.getfield 65, 3) := by decide +kernel
theorem dd_X12_moveAll_170 : decode mb_X12_moveAll 170 = .ok (.iload_n 2, 1) := by decide +kernel
theorem dd_X12_moveAll_171 : decode mb_X12_moveAll 171 = .ok (.iload_n 1, 1) := by decide +kernel
theorem dd_X12_moveAll_172 : decode mb_X12_moveAll 172 = .ok (.invokevirtual 302, 3) := by decide +kernel
theorem dd_X12_moveAll_175 : decode mb_X12_moveAll 175 = .ok (.istore_n 2, 1) := by decide +kernel
theorem dd_X12_moveAll_176 : decode mb_X12_moveAll 176 = .ok (.aload_n 0, 1) := by decide +kernel
theorem dd_X12_moveAll_177 : decode mb_X12_moveAll 177 = .ok (.aload_n 0, 1) := by decide +kernel
theorem dd_X12_moveAll_178 : decode mb_X12_moveAll 178 = .ok (.getfield 68, 3) := by decide +kernel
theorem dd_X12_moveAll_181 : decode mb_X12_moveAll 181 = .ok (.iload_n 2, 1) := by decide +kernel
theorem dd_X12_moveAll_182 : decode mb_X12_moveAll 182 = .ok (.iload_n 1, 1) := by decide +kernel
theorem dd_X12_moveAll_183 : decode mb_X12_moveAll 183 = .ok (.invokevirtual 302, 3) := by decide +kernel
theorem dd_X12_moveAll_186 : decode mb_X12_moveAll 186 = .ok (.istore_n 2, 1) := by decide +kernel
theorem dd_X12_moveAll_187 : decode mb_X12_moveAll 187 = .ok (.aload_n 0, 1) := by decide +kernel
theorem dd_X12_moveAll_188 : decode mb_X12_moveAll 188 = .ok (.aload_n 0, 1) := by decide +kernel
theorem dd_X12_moveAll_189 : decode mb_X12_moveAll 189 = .ok (.getfield 71, 3) := by decide +kernel
theorem dd_X12_moveAll_192 : decode mb_X12_moveAll 192 = .ok (.iload_n 2, 1) := by decide +kernel
theorem dd_X12_moveAll_193 : decode mb_X12_moveAll 193 = .ok (.iload_n 1, 1) := by decide +kernel
theorem dd_X12_moveAll_194 : decode mb_X12_moveAll 194 = .ok (.invokevirtual 302, 3) := by decide +kernel
theorem dd_X12_moveAll_197 : decode mb_X12_moveAll 197 = .ok (.istore_n 2, 1) := by decide +kernel
theorem dd_X12_moveAll_198 : decode mb_X12_moveAll 198 = .ok (.aload_n 0, 1) := by decide +kernel
theorem dd_X12_moveAll_199 : decode mb_X12_moveAll 199 = .ok (.aload_n 0, 1) := by decide +kernel
theorem dd_X12_moveAll_200 : decode mb_X12_moveAll 200 = .ok (.getfield 74, 3) := by decide +kernel
theorem dd_X12_moveAll_203 : decode mb_X12_moveAll 203 = .ok (.iload_n 2, 1) := by decide +kernel
theorem dd_X12_moveAll_204 : decode mb_X12_moveAll 204 = .ok (.iload_n 1, 1) := by decide +kernel
theorem dd_X12_moveAll_205 : decode mb_X12_moveAll 205 = .ok (.invokevirtual 302, 3) := by decide +kernel
theorem dd_X12_moveAll_208 : decode mb_X12_moveAll 208 = .ok (.istore_n 2, 1) := by decide +kernel
theorem dd_X12_moveAll_209 : decode mb_X12_moveAll 209 = .ok (.aload_n 0, 1) := by decide +kernel
theorem dd_X12_moveAll_210 : decode mb_X12_moveAll 210 = .ok (.aload_n 0, 1) := by decide +kernel
theorem dd_X12_moveAll_211 : decode mb_X12_moveAll 211 = .ok (.getfield 77, 3) := by decide +kernel
theorem dd_X12_moveAll_214 : decode mb_X12_moveAll 214 = .ok (.iload_n 2, 1) := by decide +kernel
theorem dd_X12_moveAll_215 : decode mb_X12_moveAll 215 = .ok (.iload_n 1, 1) := by decide +kernel
theorem dd_X12_moveAll_216 : decode mb_X12_moveAll 216 = .ok (.invokevirtual 302, 3) := by decide +kernel
theorem dd_X12_moveAll_219 : decode mb_X12_moveAll 219 = .ok (.istore_n 2, 1) := by decide +kernel
theorem dd_X12_moveAll_220 : decode mb_X12_moveAll 220 = .ok (.aload_n 0, 1) := by decide +kernel
theorem dd_X12_moveAll_221 : decode mb_X12_moveAll 221 = .ok (.aload_n 0, 1) := by decide +kernel
theorem dd_X12_moveAll_222 : decode mb_X12_moveAll 222 = .ok (.getfield 80, 3) := by decide +kernel
theorem dd_X12_moveAll_225 : decode mb_X12_moveAll 225 = .ok (.iload_n 2, 1) := by decide +kernel
theorem dd_X12_moveAll_226 : decode mb_X12_moveAll 226 = .ok (.iload_n 1, 1) := by decide +kernel
theorem dd_X12_moveAll_227 : decode mb_X12_moveAll 227 = .ok (.invokevirtual 302, 3) := by decide +kernel
theorem dd_X12_moveAll_230 : decode mb_X12_moveAll 230 = .ok (.istore_n 2, 1) := by decide +kernel
theorem dd_X12_moveAll_231 : decode mb_X12_moveAll 231 = .ok (.aload_n 0, 1) := by decide +kernel
theorem dd_X12_moveAll_232 : decode mb_X12_moveAll 232 = .ok (.aload_n 0, 1) := by decide +kernel
theorem dd_X12_moveAll_233 : decode mb_X12_moveAll 233 = .ok (.getfield 83, 3) := by decide +kernel
theorem dd_X12_moveAll_236 : decode mb_X12_moveAll 236 = .ok (.iload_n 2, 1) := by decide +kernel
theorem dd_X12_moveAll_237 : decode mb_X12_moveAll 237 = .ok (.iload_n 1, 1) := by decide +kernel
theorem dd_X12_moveAll_238 : decode mb_X12_moveAll 238 = .ok (.invokevirtual 302, 3) := by decide +kernel
theorem dd_X12_moveAll_241 : decode mb_X12_moveAll 241 = .ok (.istore_n 2, 1) := by decide +kernel
theorem dd_X12_moveAll_242 : decode mb_X12_moveAll 242 = .ok (.aload_n 0, 1) := by decide +kernel
theorem dd_X12_moveAll_243 : decode mb_X12_moveAll 243 = .ok (.aload_n 0, 1) := by decide +kernel
theorem dd_X12_moveAll_244 : decode mb_X12_moveAll 244 = .ok (.getfield 86, 3) := by decide +kernel
theorem dd_X12_moveAll_247 : decode mb_X12_moveAll 247 = .ok (.iload_n 2, 1) := by decide +kernel
theorem dd_X12_moveAll_248 : decode mb_X12_moveAll 248 = .ok (.iload_n 1, 1) := by decide +kernel
theorem dd_X12_moveAll_249 : decode mb_X12_moveAll 249 = .ok (.invokevirtual 302, 3) := by decide +kernel
theorem dd_X12_moveAll_252 : decode mb_X12_moveAll 252 = .ok (.istore_n 2, 1) := by decide +kernel
theorem dd_X12_moveAll_253 : decode mb_X12_moveAll 253 = .ok (.aload_n 0, 1) := by decide +kernel
theorem dd_X12_moveAll_254 : decode mb_X12_moveAll 254 = .ok (.aload_n 0, 1) := by decide +kernel
theorem dd_X12_moveAll_255 : decode mb_X12_moveAll 255 = .ok (.getfield 89, 3) := by decide +kernel
theorem dd_X12_moveAll_258 : decode mb_X12_moveAll 258 = .ok (.iload_n 2, 1) := by decide +kernel
theorem dd_X12_moveAll_259 : decode mb_X12_moveAll 259 = .ok (.iload_n 1, 1) := by decide +kernel
theorem dd_X12_moveAll_260 : decode mb_X12_moveAll 260 = .ok (.invokevirtual 302, 3) := by decide +kernel
theorem dd_X12_moveAll_263 : decode mb_X12_moveAll 263 = .ok (.istore_n 2, 1) := by decide +kernel
theorem dd_X12_moveAll_264 : decode mb_X12_moveAll 264 = .ok (.aload_n 0, 1) := by decide +kernel
theorem dd_X12_moveAll_265 : decode mb_X12_moveAll 265 = .ok (.aload_n 0, 1) := by decide +kernel
theorem dd_X12_moveAll_266 : decode mb_X12_moveAll 266 = .ok (.getfield 92, 3) := by decide +kernel
theorem dd_X12_moveAll_269 : decode mb_X12_moveAll 269 = .ok (.iload_n 2, 1) := by decide +kernel
theorem dd_X12_moveAll_270 : decode mb_X12_moveAll 270 = .ok (.iload_n 1, 1) := by decide +kernel
theorem dd_X12_moveAll_271 : decode mb_X12_moveAll 271 = .ok (.invokevirtual 302, 3) := by decide +kernel
theorem dd_X12_moveAll_274 : decode mb_X12_moveAll 274 = .ok (.pop, 1) := by decide +kernel
theorem dd_X12_moveAll_275 : decode mb_X12_moveAll 275 = .ok (.return_, 1) := by decide +kernel
theorem dd_X12_no_0 : decode mb_X12_no 0 = .ok (.aload_n 0, 1) := by decide +kernel
theorem dd_X12_no_1 : decode mb_X12_no 1 = .ok (.getfield 95, 3) := by decide +kernel
theorem dd_X12_no_4 : decode mb_X12_no 4 = .ok (.iload_n 1, 1) := by decide +kernel
theorem dd_X12_no_5 : decode mb_X12_no 5 = .ok (.ineg, 1) := by decide +kernel
theorem dd_X12_no_6 : decode mb_X12_no 6 = .ok (.dup2, 1) := by decide +kernel
theorem dd_X12_no_7 : decode mb_X12_no 7 = .ok (.iaload, 1) := by decide +kernel
theorem dd_X12_no_8 : decode mb_X12_no 8 = .ok (.iconst 1, 1) := by decide +kernel
theorem dd_X12_no_9 : decode mb_X12_no 9 = .ok (.iadd, 1) := by decide +kernel
theorem dd_X12_no_10 : decode mb_X12_no 10 = .ok (.iastore, 1) := by decide +kernel
theorem dd_X12_no_11 : decode mb_X12_no 11 = .ok (.iload_n 1, 1) := by decide +kernel
theorem dd_X12_no_12 : decode mb_X12_no 12 = .ok (.ireturn, 1) := by decide +kernel
theorem dd_X12_noRow_0 : decode mb_X12_noRow 0 = .ok (.aload_n 0, 1) := by decide +kernel
theorem dd_X12_noRow_1 : decode mb_X12_noRow 1 = .ok (.iload_n 1, 1) := by decide +kernel
theorem dd_X12_noRow_2 : decode mb_X12_noRow 2 = .ok (.invokevirtual 148, 3) := by decide +kernel
theorem dd_X12_noRow_5 : decode mb_X12_noRow 5 = .ok (.ifCond .ne 6, 3) := by decide +kernel
theorem dd_X12_noRow_8 : decode mb_X12_noRow 8 = .ok (.bipush (-2), 2) := by decide +kernel
theorem dd_X12_noRow_10 : decode mb_X12_noRow 10 = .ok (.ireturn, 1) := by decide +kernel
theorem dd_X12_noRow_11 : decode mb_X12_noRow 11 = .ok (.aload_n 0, 1) := by decide +kernel
theorem dd_X12_noRow_12 : decode mb_X12_noRow 12 = .ok (.iload_n 1, 1) := by decide +kernel
theorem dd_X12_noRow_13 : decode mb_X12_noRow 13 = .ok (.invokevirtual 156, 3) := by decide +kernel
theorem dd_X12_noRow_16 : decode mb_X12_noRow 16 = .ok (.ifCond .eq 6, 3) := by decide +kernel
theorem dd_X12_noRow_19 : decode mb_X12_noRow 19 = .ok (.bipush (-3), 2) := by decide +kernel
theorem dd_X12_noRow_21 : decode mb_X12_noRow 21 = .ok (.ireturn, 1) := by decide +kernel
theorem dd_X12_noRow_22 : decode mb_X12_noRow 22 = .ok (.aload_n 0, 1) := by decide +kernel
theorem dd_X12_noRow_23 : decode mb_X12_noRow 23 = .ok (.getfield 7, 3) := by decide +kernel
theorem dd_X12_noRow_26 : decode mb_X12_noRow 26 = .ok (.iload_n 1, 1) := by decide +kernel
theorem dd_X12_noRow_27 : decode mb_X12_noRow 27 = .ok (.iaload, 1) := by decide +kernel
theorem dd_X12_noRow_28 : decode mb_X12_noRow 28 = .ok (.ifCond .ge 8, 3) := by decide +kernel
theorem dd_X12_noRow_31 : decode mb_X12_noRow 31 = .ok (.bipush (-4), 2) := by decide +kernel
theorem dd_X12_noRow_33 : decode mb_X12_noRow 33 = .ok (.goto 4, 3) := by decide +kernel
theorem dd_X12_noRow_36 : decode mb_X12_noRow 36 = .ok (.iconst 0, 1) := by decide +kernel
theorem dd_X12_noRow_37 : decode mb_X12_noRow 37 = .ok (.ireturn, 1) := by decide +kernel
theorem dd_X12_price_0 : decode mb_X12_price 0 = .ok (.aload_n 0, 1) := by decide +kernel
theorem dd_X12_price_1 : decode mb_X12_price 1 = .ok (.iload_n 1, 1) := by decide +kernel
theorem dd_X12_price_2 : decode mb_X12_price 2 = .ok (.invokevirtual 193, 3) := by decide +kernel
theorem dd_X12_price_5 : decode mb_X12_price 5 = .ok (.ifCond .eq 11, 3) := by decide +kernel
theorem dd_X12_price_8 : decode mb_X12_price 8 = .ok (.aload_n 0, 1) := by decide +kernel
theorem dd_X12_price_9 : decode mb_X12_price 9 = .ok (.iload_n 2, 1) := by decide +kernel
theorem dd_X12_price_10 : decode mb_X12_price 10 = .ok (.invokevirtual 190, 3) := by decide +kernel
theorem dd_X12_price_13 : decode mb_X12_price 13 = .ok (.ifCond .ne 10, 3) := by decide +kernel
theorem dd_X12_price_16 : decode mb_X12_price 16 = .ok (.aload_n 0, 1) := by decide +kernel
theorem dd_X12_price_17 : decode mb_X12_price 17 = .ok (.bipush (-2), 2) := by decide +kernel
theorem dd_X12_price_19 : decode mb_X12_price 19 = .ok (.invokevirtual 152, 3) := by decide +kernel
theorem dd_X12_price_22 : decode mb_X12_price 22 = .ok (.ireturn, 1) := by decide +kernel
theorem dd_X12_price_23 : decode mb_X12_price 23 = .ok (.iconst 0, 1) := by decide +kernel
theorem dd_X12_price_24 : decode mb_X12_price 24 = .ok (.istore_n 3, 1) := by decide +kernel
theorem dd_X12_price_25 : decode mb_X12_price 25 = .ok (.iconst 0, 1) := by decide +kernel
theorem dd_X12_price_26 : decode mb_X12_price 26 = .ok (.istore 4, 2) := by decide +kernel
theorem dd_X12_price_28 : decode mb_X12_price 28 = .ok (.iload 4, 2) := by decide +kernel
theorem dd_X12_price_30 : decode mb_X12_price 30 = .ok (.aload_n 0, 1) := by decide +kernel
theorem dd_X12_price_31 : decode mb_X12_price 31 = .ok (.getfield 135, 3) := by decide +kernel
theorem dd_X12_price_34 : decode mb_X12_price 34 = .ok (.if_icmp .ge 54, 3) := by decide +kernel
theorem dd_X12_price_37 : decode mb_X12_price 37 = .ok (.aload_n 0, 1) := by decide +kernel
theorem dd_X12_price_38 : decode mb_X12_price 38 = .ok (.getfield 29, 3) := by decide +kernel
theorem dd_X12_price_41 : decode mb_X12_price 41 = .ok (.iload 4, 2) := by decide +kernel
theorem dd_X12_price_43 : decode mb_X12_price 43 = .ok (.iaload, 1) := by decide +kernel
theorem dd_X12_price_44 : decode mb_X12_price 44 = .ok (.ifCond .ge 38, 3) := by decide +kernel
theorem dd_X12_price_47 : decode mb_X12_price 47 = .ok (.aload_n 0, 1) := by decide +kernel
theorem dd_X12_price_48 : decode mb_X12_price 48 = .ok (.iload_n 2, 1) := by decide +kernel
theorem dd_X12_price_49 : decode mb_X12_price 49 = .ok (.aload_n 0, 1) := by decide +kernel
theorem dd_X12_price_50 : decode mb_X12_price 50 = .ok (.getfield 20, 3) := by decide +kernel
theorem dd_X12_price_53 : decode mb_X12_price 53 = .ok (.iload 4, 2) := by decide +kernel
theorem dd_X12_price_55 : decode mb_X12_price 55 = .ok (.iaload, 1) := by decide +kernel
theorem dd_X12_price_56 : decode mb_X12_price 56 = .ok (.invokevirtual 181, 3) := by decide +kernel
theorem dd_X12_price_59 : decode mb_X12_price 59 = .ok (.ifCond .ne 6, 3) := by decide +kernel
theorem dd_X12_price_62 : decode mb_X12_price 62 = .ok (.goto 20, 3) := by decide +kernel
theorem dd_X12_price_65 : decode mb_X12_price 65 = .ok (.aload_n 0, 1) := by decide +kernel
theorem dd_X12_price_66 : decode mb_X12_price 66 = .ok (.getfield 29, 3) := by decide +kernel
theorem dd_X12_price_69 : decode mb_X12_price 69 = .ok (.iload 4, 2) := by decide +kernel
theorem dd_X12_price_71 : decode mb_X12_price 71 = .ok (.aload_n 0, 1) := by decide +kernel
theorem dd_X12_price_72 : decode mb_X12_price 72 = .ok (.iload_n 1, 1) := by decide +kernel
theorem dd_X12_price_73 : decode mb_X12_price 73 = .ok (.iload 4, 2) := by decide +kernel
theorem dd_X12_price_75 : decode mb_X12_price 75 = .ok (.invokevirtual 242, 3) := by decide +kernel
theorem dd_X12_price_78 : decode mb_X12_price 78 = .ok (.iastore, 1) := by decide +kernel
theorem dd_X12_price_79 : decode mb_X12_price 79 = .ok (.iinc 3 1, 3) := by decide +kernel
theorem dd_X12_price_82 : decode mb_X12_price 82 = .ok (.iinc 4 1, 3) := by decide +kernel
theorem dd_X12_price_85 : decode mb_X12_price 85 = .ok (.goto (-57), 3) := by decide +kernel
theorem dd_X12_price_88 : decode mb_X12_price 88 = .ok (.iload_n 3, 1) := by decide +kernel
theorem dd_X12_price_89 : decode mb_X12_price 89 = .ok (.ireturn, 1) := by decide +kernel
theorem dd_X12_priceBy_0 : decode mb_X12_priceBy 0 = .ok (.aload_n 0, 1) := by decide +kernel
theorem dd_X12_priceBy_1 : decode mb_X12_priceBy 1 = .ok (.getfield 44, 3) := by decide +kernel
theorem dd_X12_priceBy_4 : decode mb_X12_priceBy 4 = .ok (.iload_n 1, 1) := by decide +kernel
theorem dd_X12_priceBy_5 : decode mb_X12_priceBy 5 = .ok (.iaload, 1) := by decide +kernel
theorem dd_X12_priceBy_6 : decode mb_X12_priceBy 6 = .ok (.istore_n 3, 1) := by decide +kernel
theorem dd_X12_priceBy_7 : decode mb_X12_priceBy 7 = .ok (.iload_n 3, 1) := by decide +kernel
theorem dd_X12_priceBy_8 : decode mb_X12_priceBy 8 = .ok (.ifCond .ge 8, 3) := by decide +kernel
theorem dd_X12_priceBy_11 : decode mb_X12_priceBy 11 = .ok (.bipush 100, 2) := by decide +kernel
theorem dd_X12_priceBy_13 : decode mb_X12_priceBy 13 = .ok (.goto 11, 3) := by decide +kernel
theorem dd_X12_priceBy_16 : decode mb_X12_priceBy 16 = .ok (.aload_n 0, 1) := by decide +kernel
theorem dd_X12_priceBy_17 : decode mb_X12_priceBy 17 = .ok (.getfield 47, 3) := by decide +kernel
theorem dd_X12_priceBy_20 : decode mb_X12_priceBy 20 = .ok (.iconst 5, 1) := by decide +kernel
theorem dd_X12_priceBy_21 : decode mb_X12_priceBy 21 = .ok (.iload_n 3, 1) := by decide +kernel
theorem dd_X12_priceBy_22 : decode mb_X12_priceBy 22 = .ok (.imul, 1) := by decide +kernel
theorem dd_X12_priceBy_23 : decode mb_X12_priceBy 23 = .ok (.iaload, 1) := by decide +kernel
theorem dd_X12_priceBy_24 : decode mb_X12_priceBy 24 = .ok (.istore 4, 2) := by decide +kernel
theorem dd_X12_priceBy_26 : decode mb_X12_priceBy 26 = .ok (.iload_n 3, 1) := by decide +kernel
theorem dd_X12_priceBy_27 : decode mb_X12_priceBy 27 = .ok (.ifCond .ge 8, 3) := by decide +kernel
theorem dd_X12_priceBy_30 : decode mb_X12_priceBy 30 = .ok (.bipush 50, 2) := by decide +kernel
theorem dd_X12_priceBy_32 : decode mb_X12_priceBy 32 = .ok (.goto 13, 3) := by decide +kernel
theorem dd_X12_priceBy_35 : decode mb_X12_priceBy 35 = .ok (.aload_n 0, 1) := by decide +kernel
theorem dd_X12_priceBy_36 : decode mb_X12_priceBy 36 = .ok (.getfield 47, 3) := by decide +kernel
theorem dd_X12_priceBy_39 : decode mb_X12_priceBy 39 = .ok (.iconst 5, 1) := by decide +kernel
theorem dd_X12_priceBy_40 : decode mb_X12_priceBy 40 = .ok (.iload_n 3, 1) := by decide +kernel
theorem dd_X12_priceBy_41 : decode mb_X12_priceBy 41 = .ok (.imul, 1) := by decide +kernel
theorem dd_X12_priceBy_42 : decode mb_X12_priceBy 42 = .ok (.iconst 1, 1) := by decide +kernel
theorem dd_X12_priceBy_43 : decode mb_X12_priceBy 43 = .ok (.iadd, 1) := by decide +kernel
theorem dd_X12_priceBy_44 : decode mb_X12_priceBy 44 = .ok (.iaload, 1) := by decide +kernel
theorem dd_X12_priceBy_45 : decode mb_X12_priceBy 45 = .ok (.istore 5, 2) := by decide +kernel
theorem dd_X12_priceBy_47 : decode mb_X12_priceBy 47 = .ok (.iload_n 3, 1) := by decide +kernel
theorem dd_X12_priceBy_48 : decode mb_X12_priceBy 48 = .ok (.ifCond .ge 7, 3) := by decide +kernel
theorem dd_X12_priceBy_51 : decode mb_X12_priceBy 51 = .ok (.iconst 1, 1) := by decide +kernel
theorem dd_X12_priceBy_52 : decode mb_X12_priceBy 52 = .ok (.goto 13, 3) := by decide +kernel
