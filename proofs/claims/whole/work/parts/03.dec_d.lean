theorem dX11_arePartsTold_42 : decode cX11_arePartsTold 42 = .ok (.imul, 1) := by decide +kernel
theorem dX11_arePartsTold_43 : decode cX11_arePartsTold 43 = .ok (.iaload, 1) := by decide +kernel
theorem dX11_arePartsTold_44 : decode cX11_arePartsTold 44 = .ok (.invokevirtual 245, 3) := by decide +kernel
theorem dX11_arePartsTold_47 : decode cX11_arePartsTold 47 = .ok (.ifCond .eq 28, 3) := by decide +kernel
theorem dX11_arePartsTold_50 : decode cX11_arePartsTold 50 = .ok (.iload_n 2, 1) := by decide +kernel
theorem dX11_arePartsTold_51 : decode cX11_arePartsTold 51 = .ok (.ifCond .eq 20, 3) := by decide +kernel
theorem dX11_arePartsTold_54 : decode cX11_arePartsTold 54 = .ok (.aload_n 0, 1) := by decide +kernel
theorem dX11_arePartsTold_55 : decode cX11_arePartsTold 55 = .ok (.aload_n 0, 1) := by decide +kernel
theorem dX11_arePartsTold_56 : decode cX11_arePartsTold 56 = .ok (.getfield 13, 3) := by decide +kernel
theorem dX11_arePartsTold_59 : decode cX11_arePartsTold 59 = .ok (.iconst 4, 1) := by decide +kernel
theorem dX11_arePartsTold_60 : decode cX11_arePartsTold 60 = .ok (.iload_n 1, 1) := by decide +kernel
theorem dX11_arePartsTold_61 : decode cX11_arePartsTold 61 = .ok (.imul, 1) := by decide +kernel
theorem dX11_arePartsTold_62 : decode cX11_arePartsTold 62 = .ok (.iconst 1, 1) := by decide +kernel
theorem dX11_arePartsTold_63 : decode cX11_arePartsTold 63 = .ok (.iadd, 1) := by decide +kernel
theorem dX11_arePartsTold_64 : decode cX11_arePartsTold 64 = .ok (.iaload, 1) := by decide +kernel
theorem dX11_arePartsTold_65 : decode cX11_arePartsTold 65 = .ok (.invokevirtual 245, 3) := by decide +kernel
theorem dX11_arePartsTold_68 : decode cX11_arePartsTold 68 = .ok (.ifCond .eq 7, 3) := by decide +kernel
theorem dX11_arePartsTold_71 : decode cX11_arePartsTold 71 = .ok (.iconst 1, 1) := by decide +kernel
theorem dX11_arePartsTold_72 : decode cX11_arePartsTold 72 = .ok (.goto 4, 3) := by decide +kernel
theorem dX11_arePartsTold_75 : decode cX11_arePartsTold 75 = .ok (.iconst 0, 1) := by decide +kernel
theorem dX11_arePartsTold_76 : decode cX11_arePartsTold 76 = .ok (.ireturn, 1) := by decide +kernel
theorem dX11_powers_0 : decode cX11_powers 0 = .ok (.iconst 2, 1) := by decide +kernel
theorem dX11_powers_1 : decode cX11_powers 1 = .ok (.istore_n 3, 1) := by decide +kernel
theorem dX11_powers_2 : decode cX11_powers 2 = .ok (.iload_n 0, 1) := by decide +kernel
theorem dX11_powers_3 : decode cX11_powers 3 = .ok (.istore 4, 2) := by decide +kernel
theorem dX11_powers_5 : decode cX11_powers 5 = .ok (.iconst 0, 1) := by decide +kernel
theorem dX11_powers_6 : decode cX11_powers 6 = .ok (.istore 5, 2) := by decide +kernel
theorem dX11_powers_8 : decode cX11_powers 8 = .ok (.iload 5, 2) := by decide +kernel
theorem dX11_powers_10 : decode cX11_powers 10 = .ok (.iload_n 2, 1) := by decide +kernel
theorem dX11_powers_11 : decode cX11_powers 11 = .ok (.if_icmp .ge 26, 3) := by decide +kernel
theorem dX11_powers_14 : decode cX11_powers 14 = .ok (.iload_n 0, 1) := by decide +kernel
theorem dX11_powers_15 : decode cX11_powers 15 = .ok (.iload 4, 2) := by decide +kernel
theorem dX11_powers_17 : decode cX11_powers 17 = .ok (.imul, 1) := by decide +kernel
theorem dX11_powers_18 : decode cX11_powers 18 = .ok (.iload_n 1, 1) := by decide +kernel
theorem dX11_powers_19 : decode cX11_powers 19 = .ok (.iload_n 3, 1) := by decide +kernel
theorem dX11_powers_20 : decode cX11_powers 20 = .ok (.imul, 1) := by decide +kernel
theorem dX11_powers_21 : decode cX11_powers 21 = .ok (.iadd, 1) := by decide +kernel
theorem dX11_powers_22 : decode cX11_powers 22 = .ok (.istore 6, 2) := by decide +kernel
theorem dX11_powers_24 : decode cX11_powers 24 = .ok (.iload 4, 2) := by decide +kernel
theorem dX11_powers_26 : decode cX11_powers 26 = .ok (.istore_n 3, 1) := by decide +kernel
theorem dX11_powers_27 : decode cX11_powers 27 = .ok (.iload 6, 2) := by decide +kernel
theorem dX11_powers_29 : decode cX11_powers 29 = .ok (.istore 4, 2) := by decide +kernel
theorem dX11_powers_31 : decode cX11_powers 31 = .ok (.iinc 5 1, 3) := by decide +kernel
theorem dX11_powers_34 : decode cX11_powers 34 = .ok (.goto (-26), 3) := by decide +kernel
theorem dX11_powers_37 : decode cX11_powers 37 = .ok (.iload_n 3, 1) := by decide +kernel
theorem dX11_powers_38 : decode cX11_powers 38 = .ok (.ireturn, 1) := by decide +kernel
theorem dX11_power_0 : decode cX11_power 0 = .ok (.iconst 1, 1) := by decide +kernel
theorem dX11_power_1 : decode cX11_power 1 = .ok (.istore_n 2, 1) := by decide +kernel
theorem dX11_power_2 : decode cX11_power 2 = .ok (.iconst 0, 1) := by decide +kernel
theorem dX11_power_3 : decode cX11_power 3 = .ok (.istore_n 3, 1) := by decide +kernel
theorem dX11_power_4 : decode cX11_power 4 = .ok (.iload_n 3, 1) := by decide +kernel
theorem dX11_power_5 : decode cX11_power 5 = .ok (.iload_n 1, 1) := by decide +kernel
theorem dX11_power_6 : decode cX11_power 6 = .ok (.if_icmp .ge 13, 3) := by decide +kernel
theorem dX11_power_9 : decode cX11_power 9 = .ok (.iload_n 2, 1) := by decide +kernel
theorem dX11_power_10 : decode cX11_power 10 = .ok (.iload_n 0, 1) := by decide +kernel
theorem dX11_power_11 : decode cX11_power 11 = .ok (.imul, 1) := by decide +kernel
theorem dX11_power_12 : decode cX11_power 12 = .ok (.istore_n 2, 1) := by decide +kernel
theorem dX11_power_13 : decode cX11_power 13 = .ok (.iinc 3 1, 3) := by decide +kernel
theorem dX11_power_16 : decode cX11_power 16 = .ok (.goto (-12), 3) := by decide +kernel
theorem dX11_power_19 : decode cX11_power 19 = .ok (.iload_n 2, 1) := by decide +kernel
theorem dX11_power_20 : decode cX11_power 20 = .ok (.ireturn, 1) := by decide +kernel
theorem dX11_bothRule_0 : decode cX11_bothRule 0 = .ok (.aload_n 0, 1) := by decide +kernel
theorem dX11_bothRule_1 : decode cX11_bothRule 1 = .ok (.getfield 13, 3) := by decide +kernel
theorem dX11_bothRule_4 : decode cX11_bothRule 4 = .ok (.iconst 4, 1) := by decide +kernel
theorem dX11_bothRule_5 : decode cX11_bothRule 5 = .ok (.iload_n 1, 1) := by decide +kernel
theorem dX11_bothRule_6 : decode cX11_bothRule 6 = .ok (.imul, 1) := by decide +kernel
theorem dX11_bothRule_7 : decode cX11_bothRule 7 = .ok (.iaload, 1) := by decide +kernel
theorem dX11_bothRule_8 : decode cX11_bothRule 8 = .ok (.istore_n 3, 1) := by decide +kernel
theorem dX11_bothRule_9 : decode cX11_bothRule 9 = .ok (.aload_n 0, 1) := by decide +kernel
theorem dX11_bothRule_10 : decode cX11_bothRule 10 = .ok (.getfield 13, 3) := by decide +kernel
theorem dX11_bothRule_13 : decode cX11_bothRule 13 = .ok (.iconst 4, 1) := by decide +kernel
theorem dX11_bothRule_14 : decode cX11_bothRule 14 = .ok (.iload_n 1, 1) := by decide +kernel
theorem dX11_bothRule_15 : decode cX11_bothRule 15 = .ok (.imul, 1) := by decide +kernel
theorem dX11_bothRule_16 : decode cX11_bothRule 16 = .ok (.iconst 1, 1) := by decide +kernel
theorem dX11_bothRule_17 : decode cX11_bothRule 17 = .ok (.iadd, 1) := by decide +kernel
theorem dX11_bothRule_18 : decode cX11_bothRule 18 = .ok (.iaload, 1) := by decide +kernel
theorem dX11_bothRule_19 : decode cX11_bothRule 19 = .ok (.istore 4, 2) := by decide +kernel
theorem dX11_bothRule_21 : decode cX11_bothRule 21 = .ok (.aload_n 0, 1) := by decide +kernel
theorem dX11_bothRule_22 : decode cX11_bothRule 22 = .ok (.getfield 13, 3) := by decide +kernel
theorem dX11_bothRule_25 : decode cX11_bothRule 25 = .ok (.iconst 4, 1) := by decide +kernel
theorem dX11_bothRule_26 : decode cX11_bothRule 26 = .ok (.iload_n 3, 1) := by decide +kernel
theorem dX11_bothRule_27 : decode cX11_bothRule 27 = .ok (.imul, 1) := by decide +kernel
theorem dX11_bothRule_28 : decode cX11_bothRule 28 = .ok (.iaload, 1) := by decide +kernel
theorem dX11_bothRule_29 : decode cX11_bothRule 29 = .ok (.istore 5, 2) := by decide +kernel
theorem dX11_bothRule_31 : decode cX11_bothRule 31 = .ok (.aload_n 0, 1) := by decide +kernel
theorem dX11_bothRule_32 : decode cX11_bothRule 32 = .ok (.getfield 13, 3) := by decide +kernel
theorem dX11_bothRule_35 : decode cX11_bothRule 35 = .ok (.iconst 4, 1) := by decide +kernel
theorem dX11_bothRule_36 : decode cX11_bothRule 36 = .ok (.iload_n 3, 1) := by decide +kernel
theorem dX11_bothRule_37 : decode cX11_bothRule 37 = .ok (.imul, 1) := by decide +kernel
theorem dX11_bothRule_38 : decode cX11_bothRule 38 = .ok (.iconst 1, 1) := by decide +kernel
theorem dX11_bothRule_39 : decode cX11_bothRule 39 = .ok (.iadd, 1) := by decide +kernel
theorem dX11_bothRule_40 : decode cX11_bothRule 40 = .ok (.iaload, 1) := by decide +kernel
theorem dX11_bothRule_41 : decode cX11_bothRule 41 = .ok (.istore 6, 2) := by decide +kernel
theorem dX11_bothRule_43 : decode cX11_bothRule 43 = .ok (.aload_n 0, 1) := by decide +kernel
theorem dX11_bothRule_44 : decode cX11_bothRule 44 = .ok (.getfield 13, 3) := by decide +kernel
theorem dX11_bothRule_47 : decode cX11_bothRule 47 = .ok (.iconst 4, 1) := by decide +kernel
theorem dX11_bothRule_48 : decode cX11_bothRule 48 = .ok (.iload 4, 2) := by decide +kernel
theorem dX11_bothRule_50 : decode cX11_bothRule 50 = .ok (.imul, 1) := by decide +kernel
theorem dX11_bothRule_51 : decode cX11_bothRule 51 = .ok (.iaload, 1) := by decide +kernel
theorem dX11_bothRule_52 : decode cX11_bothRule 52 = .ok (.istore 7, 2) := by decide +kernel
theorem dX11_bothRule_54 : decode cX11_bothRule 54 = .ok (.aload_n 0, 1) := by decide +kernel
theorem dX11_bothRule_55 : decode cX11_bothRule 55 = .ok (.getfield 13, 3) := by decide +kernel
theorem dX11_bothRule_58 : decode cX11_bothRule 58 = .ok (.iconst 4, 1) := by decide +kernel
theorem dX11_bothRule_59 : decode cX11_bothRule 59 = .ok (.iload 4, 2) := by decide +kernel
theorem dX11_bothRule_61 : decode cX11_bothRule 61 = .ok (.imul, 1) := by decide +kernel
theorem dX11_bothRule_62 : decode cX11_bothRule 62 = .ok (.iconst 1, 1) := by decide +kernel
theorem dX11_bothRule_63 : decode cX11_bothRule 63 = .ok (.iadd, 1) := by decide +kernel
theorem dX11_bothRule_64 : decode cX11_bothRule 64 = .ok (.iaload, 1) := by decide +kernel
theorem dX11_bothRule_65 : decode cX11_bothRule 65 = .ok (.istore 8, 2) := by decide +kernel
theorem dX11_bothRule_67 : decode cX11_bothRule 67 = .ok (.aload_n 0, 1) := by decide +kernel
theorem dX11_bothRule_68 : decode cX11_bothRule 68 = .ok (.getfield 7, 3) := by decide +kernel
theorem dX11_bothRule_71 : decode cX11_bothRule 71 = .ok (.iload_n 1, 1) := by decide +kernel
theorem dX11_bothRule_72 : decode cX11_bothRule 72 = .ok (.iaload, 1) := by decide +kernel
theorem dX11_bothRule_73 : decode cX11_bothRule 73 = .ok (.iconst 1, 1) := by decide +kernel
theorem dX11_bothRule_74 : decode cX11_bothRule 74 = .ok (.if_icmp .ne 7, 3) := by decide +kernel
theorem dX11_bothRule_77 : decode cX11_bothRule 77 = .ok (.iconst 1, 1) := by decide +kernel
theorem dX11_bothRule_78 : decode cX11_bothRule 78 = .ok (.goto 4, 3) := by decide +kernel
theorem dX11_bothRule_81 : decode cX11_bothRule 81 = .ok (.iconst 0, 1) := by decide +kernel
theorem dX11_bothRule_82 : decode cX11_bothRule 82 = .ok (.istore 9, 2) := by decide +kernel
theorem dX11_bothRule_84 : decode cX11_bothRule 84 = .ok (.iload_n 2, 1) := by decide +kernel
theorem dX11_bothRule_85 : decode cX11_bothRule 85 = .ok (.tableswitch 123 1 3 #[27, 46, 91], 27) := by decide +kernel
theorem dX11_bothRule_112 : decode cX11_bothRule 112 = .ok (.iload 9, 2) := by decide +kernel
theorem dX11_bothRule_114 : decode cX11_bothRule 114 = .ok (.ifCond .eq 11, 3) := by decide +kernel
theorem dX11_bothRule_117 : decode cX11_bothRule 117 = .ok (.iload 5, 2) := by decide +kernel
theorem dX11_bothRule_119 : decode cX11_bothRule 119 = .ok (.iload 7, 2) := by decide +kernel
theorem dX11_bothRule_121 : decode cX11_bothRule 121 = .ok (.iadd, 1) := by decide +kernel
theorem dX11_bothRule_122 : decode cX11_bothRule 122 = .ok (.goto 8, 3) := by decide +kernel
theorem dX11_bothRule_125 : decode cX11_bothRule 125 = .ok (.iload 5, 2) := by decide +kernel
theorem dX11_bothRule_127 : decode cX11_bothRule 127 = .ok (.iload 7, 2) := by decide +kernel
theorem dX11_bothRule_129 : decode cX11_bothRule 129 = .ok (.imul, 1) := by decide +kernel
theorem dX11_bothRule_130 : decode cX11_bothRule 130 = .ok (.ireturn, 1) := by decide +kernel
theorem dX11_bothRule_131 : decode cX11_bothRule 131 = .ok (.iload 9, 2) := by decide +kernel
theorem dX11_bothRule_133 : decode cX11_bothRule 133 = .ok (.ifCond .eq 17, 3) := by decide +kernel
theorem dX11_bothRule_136 : decode cX11_bothRule 136 = .ok (.iload 6, 2) := by decide +kernel
theorem dX11_bothRule_138 : decode cX11_bothRule 138 = .ok (.iload 8, 2) := by decide +kernel
theorem dX11_bothRule_140 : decode cX11_bothRule 140 = .ok (.iadd, 1) := by decide +kernel
theorem dX11_bothRule_141 : decode cX11_bothRule 141 = .ok (.iload 5, 2) := by decide +kernel
theorem dX11_bothRule_143 : decode cX11_bothRule 143 = .ok (.iload 7, 2) := by decide +kernel
theorem dX11_bothRule_145 : decode cX11_bothRule 145 = .ok (.imul, 1) := by decide +kernel
theorem dX11_bothRule_146 : decode cX11_bothRule 146 = .ok (.isub, 1) := by decide +kernel
theorem dX11_bothRule_147 : decode cX11_bothRule 147 = .ok (.goto 28, 3) := by decide +kernel
theorem dX11_bothRule_150 : decode cX11_bothRule 150 = .ok (.iload 5, 2) := by decide +kernel
theorem dX11_bothRule_152 : decode cX11_bothRule 152 = .ok (.iload 5, 2) := by decide +kernel
theorem dX11_bothRule_154 : decode cX11_bothRule 154 = .ok (.imul, 1) := by decide +kernel
theorem dX11_bothRule_155 : decode cX11_bothRule 155 = .ok (.iload 8, 2) := by decide +kernel
theorem dX11_bothRule_157 : decode cX11_bothRule 157 = .ok (.imul, 1) := by decide +kernel
theorem dX11_bothRule_158 : decode cX11_bothRule 158 = .ok (.iload 7, 2) := by decide +kernel
theorem dX11_bothRule_160 : decode cX11_bothRule 160 = .ok (.iload 7, 2) := by decide +kernel
theorem dX11_bothRule_162 : decode cX11_bothRule 162 = .ok (.imul, 1) := by decide +kernel
theorem dX11_bothRule_163 : decode cX11_bothRule 163 = .ok (.iload 6, 2) := by decide +kernel
theorem dX11_bothRule_165 : decode cX11_bothRule 165 = .ok (.imul, 1) := by decide +kernel
theorem dX11_bothRule_166 : decode cX11_bothRule 166 = .ok (.iadd, 1) := by decide +kernel
theorem dX11_bothRule_167 : decode cX11_bothRule 167 = .ok (.iconst 2, 1) := by decide +kernel
theorem dX11_bothRule_168 : decode cX11_bothRule 168 = .ok (.iload 6, 2) := by decide +kernel
theorem dX11_bothRule_170 : decode cX11_bothRule 170 = .ok (.imul, 1) := by decide +kernel
theorem dX11_bothRule_171 : decode cX11_bothRule 171 = .ok (.iload 8, 2) := by decide +kernel
theorem dX11_bothRule_173 : decode cX11_bothRule 173 = .ok (.imul, 1) := by decide +kernel
theorem dX11_bothRule_174 : decode cX11_bothRule 174 = .ok (.iadd, 1) := by decide +kernel
theorem dX11_bothRule_175 : decode cX11_bothRule 175 = .ok (.ireturn, 1) := by decide +kernel
theorem dX11_bothRule_176 : decode cX11_bothRule 176 = .ok (.iload 9, 2) := by decide +kernel
theorem dX11_bothRule_178 : decode cX11_bothRule 178 = .ok (.ifCond .eq 18, 3) := by decide +kernel
theorem dX11_bothRule_181 : decode cX11_bothRule 181 = .ok (.iload 5, 2) := by decide +kernel
theorem dX11_bothRule_183 : decode cX11_bothRule 183 = .ok (.ineg, 1) := by decide +kernel
theorem dX11_bothRule_184 : decode cX11_bothRule 184 = .ok (.iload 8, 2) := by decide +kernel
theorem dX11_bothRule_186 : decode cX11_bothRule 186 = .ok (.imul, 1) := by decide +kernel
theorem dX11_bothRule_187 : decode cX11_bothRule 187 = .ok (.iload 7, 2) := by decide +kernel
theorem dX11_bothRule_189 : decode cX11_bothRule 189 = .ok (.iload 6, 2) := by decide +kernel
theorem dX11_bothRule_191 : decode cX11_bothRule 191 = .ok (.imul, 1) := by decide +kernel
theorem dX11_bothRule_192 : decode cX11_bothRule 192 = .ok (.isub, 1) := by decide +kernel
theorem dX11_bothRule_193 : decode cX11_bothRule 193 = .ok (.goto 14, 3) := by decide +kernel
theorem dX11_bothRule_196 : decode cX11_bothRule 196 = .ok (.iload 5, 2) := by decide +kernel
theorem dX11_bothRule_198 : decode cX11_bothRule 198 = .ok (.iload 7, 2) := by decide +kernel
theorem dX11_bothRule_200 : decode cX11_bothRule 200 = .ok (.imul, 1) := by decide +kernel
theorem dX11_bothRule_201 : decode cX11_bothRule 201 = .ok (.iload 6, 2) := by decide +kernel
theorem dX11_bothRule_203 : decode cX11_bothRule 203 = .ok (.imul, 1) := by decide +kernel
theorem dX11_bothRule_204 : decode cX11_bothRule 204 = .ok (.iload 8, 2) := by decide +kernel
theorem dX11_bothRule_206 : decode cX11_bothRule 206 = .ok (.imul, 1) := by decide +kernel
theorem dX11_bothRule_207 : decode cX11_bothRule 207 = .ok (.ireturn, 1) := by decide +kernel
theorem dX11_bothRule_208 : decode cX11_bothRule 208 = .ok (.iload 9, 2) := by decide +kernel
theorem dX11_bothRule_210 : decode cX11_bothRule 210 = .ok (.ifCond .eq 12, 3) := by decide +kernel
theorem dX11_bothRule_213 : decode cX11_bothRule 213 = .ok (.iload 6, 2) := by decide +kernel
theorem dX11_bothRule_215 : decode cX11_bothRule 215 = .ok (.ineg, 1) := by decide +kernel
theorem dX11_bothRule_216 : decode cX11_bothRule 216 = .ok (.iload 8, 2) := by decide +kernel
theorem dX11_bothRule_218 : decode cX11_bothRule 218 = .ok (.imul, 1) := by decide +kernel
theorem dX11_bothRule_219 : decode cX11_bothRule 219 = .ok (.goto 15, 3) := by decide +kernel
theorem dX11_bothRule_222 : decode cX11_bothRule 222 = .ok (.iload 6, 2) := by decide +kernel
theorem dX11_bothRule_224 : decode cX11_bothRule 224 = .ok (.ineg, 1) := by decide +kernel
theorem dX11_bothRule_225 : decode cX11_bothRule 225 = .ok (.iload 6, 2) := by decide +kernel
theorem dX11_bothRule_227 : decode cX11_bothRule 227 = .ok (.imul, 1) := by decide +kernel
theorem dX11_bothRule_228 : decode cX11_bothRule 228 = .ok (.iload 8, 2) := by decide +kernel
theorem dX11_bothRule_230 : decode cX11_bothRule 230 = .ok (.imul, 1) := by decide +kernel
theorem dX11_bothRule_231 : decode cX11_bothRule 231 = .ok (.iload 8, 2) := by decide +kernel
theorem dX11_bothRule_233 : decode cX11_bothRule 233 = .ok (.imul, 1) := by decide +kernel
theorem dX11_bothRule_234 : decode cX11_bothRule 234 = .ok (.ireturn, 1) := by decide +kernel
theorem dX11_twoRule_0 : decode cX11_twoRule 0 = .ok (.iload_n 2, 1) := by decide +kernel
theorem dX11_twoRule_1 : decode cX11_twoRule 1 = .ok (.iconst 2, 1) := by decide +kernel
theorem dX11_twoRule_2 : decode cX11_twoRule 2 = .ok (.if_icmp .le 5, 3) := by decide +kernel
theorem dX11_twoRule_5 : decode cX11_twoRule 5 = .ok (.iconst 0, 1) := by decide +kernel
theorem dX11_twoRule_6 : decode cX11_twoRule 6 = .ok (.ireturn, 1) := by decide +kernel
theorem dX11_twoRule_7 : decode cX11_twoRule 7 = .ok (.aload_n 0, 1) := by decide +kernel
theorem dX11_twoRule_8 : decode cX11_twoRule 8 = .ok (.getfield 7, 3) := by decide +kernel
theorem dX11_twoRule_11 : decode cX11_twoRule 11 = .ok (.iload_n 1, 1) := by decide +kernel
theorem dX11_twoRule_12 : decode cX11_twoRule 12 = .ok (.iaload, 1) := by decide +kernel
theorem dX11_twoRule_13 : decode cX11_twoRule 13 = .ok (.ifCond .ne 7, 3) := by decide +kernel
theorem dX11_twoRule_16 : decode cX11_twoRule 16 = .ok (.iload_n 1, 1) := by decide +kernel
theorem dX11_twoRule_17 : decode cX11_twoRule 17 = .ok (.goto 11, 3) := by decide +kernel
theorem dX11_twoRule_20 : decode cX11_twoRule 20 = .ok (.aload_n 0, 1) := by decide +kernel
theorem dX11_twoRule_21 : decode cX11_twoRule 21 = .ok (.getfield 13, 3) := by decide +kernel
theorem dX11_twoRule_24 : decode cX11_twoRule 24 = .ok (.iconst 4, 1) := by decide +kernel
theorem dX11_twoRule_25 : decode cX11_twoRule 25 = .ok (.iload_n 1, 1) := by decide +kernel
theorem dX11_twoRule_26 : decode cX11_twoRule 26 = .ok (.imul, 1) := by decide +kernel
theorem dX11_twoRule_27 : decode cX11_twoRule 27 = .ok (.iaload, 1) := by decide +kernel
theorem dX11_twoRule_28 : decode cX11_twoRule 28 = .ok (.istore_n 3, 1) := by decide +kernel
theorem dX11_twoRule_29 : decode cX11_twoRule 29 = .ok (.aload_n 0, 1) := by decide +kernel
theorem dX11_twoRule_30 : decode cX11_twoRule 30 = .ok (.getfield 13, 3) := by decide +kernel
theorem dX11_twoRule_33 : decode cX11_twoRule 33 = .ok (.iconst 4, 1) := by decide +kernel
theorem dX11_twoRule_34 : decode cX11_twoRule 34 = .ok (.iload_n 3, 1) := by decide +kernel
theorem dX11_twoRule_35 : decode cX11_twoRule 35 = .ok (.imul, 1) := by decide +kernel
theorem dX11_twoRule_36 : decode cX11_twoRule 36 = .ok (.iaload, 1) := by decide +kernel
theorem dX11_twoRule_37 : decode cX11_twoRule 37 = .ok (.istore 4, 2) := by decide +kernel
theorem dX11_twoRule_39 : decode cX11_twoRule 39 = .ok (.aload_n 0, 1) := by decide +kernel
theorem dX11_twoRule_40 : decode cX11_twoRule 40 = .ok (.getfield 13, 3) := by decide +kernel
theorem dX11_twoRule_43 : decode cX11_twoRule 43 = .ok (.iconst 4, 1) := by decide +kernel
theorem dX11_twoRule_44 : decode cX11_twoRule 44 = .ok (.iload_n 3, 1) := by decide +kernel
theorem dX11_twoRule_45 : decode cX11_twoRule 45 = .ok (.imul, 1) := by decide +kernel
theorem dX11_twoRule_46 : decode cX11_twoRule 46 = .ok (.iconst 1, 1) := by decide +kernel
theorem dX11_twoRule_47 : decode cX11_twoRule 47 = .ok (.iadd, 1) := by decide +kernel
theorem dX11_twoRule_48 : decode cX11_twoRule 48 = .ok (.iaload, 1) := by decide +kernel
theorem dX11_twoRule_49 : decode cX11_twoRule 49 = .ok (.istore 5, 2) := by decide +kernel
theorem dX11_twoRule_51 : decode cX11_twoRule 51 = .ok (.aload_n 0, 1) := by decide +kernel
theorem dX11_twoRule_52 : decode cX11_twoRule 52 = .ok (.getfield 7, 3) := by decide +kernel
theorem dX11_twoRule_55 : decode cX11_twoRule 55 = .ok (.iload_n 1, 1) := by decide +kernel
theorem dX11_twoRule_56 : decode cX11_twoRule 56 = .ok (.iaload, 1) := by decide +kernel
theorem dX11_twoRule_57 : decode cX11_twoRule 57 = .ok (.iconst 3, 1) := by decide +kernel
theorem dX11_twoRule_58 : decode cX11_twoRule 58 = .ok (.if_icmp .ne 16, 3) := by decide +kernel
theorem dX11_twoRule_61 : decode cX11_twoRule 61 = .ok (.aload_n 0, 1) := by decide +kernel
theorem dX11_twoRule_62 : decode cX11_twoRule 62 = .ok (.getfield 13, 3) := by decide +kernel
theorem dX11_twoRule_65 : decode cX11_twoRule 65 = .ok (.iconst 4, 1) := by decide +kernel
theorem dX11_twoRule_66 : decode cX11_twoRule 66 = .ok (.iload_n 1, 1) := by decide +kernel
theorem dX11_twoRule_67 : decode cX11_twoRule 67 = .ok (.imul, 1) := by decide +kernel
theorem dX11_twoRule_68 : decode cX11_twoRule 68 = .ok (.iconst 1, 1) := by decide +kernel
theorem dX11_twoRule_69 : decode cX11_twoRule 69 = .ok (.iadd, 1) := by decide +kernel
theorem dX11_twoRule_70 : decode cX11_twoRule 70 = .ok (.iaload, 1) := by decide +kernel
theorem dX11_twoRule_71 : decode cX11_twoRule 71 = .ok (.goto 4, 3) := by decide +kernel
theorem dX11_twoRule_74 : decode cX11_twoRule 74 = .ok (.iconst 1, 1) := by decide +kernel
theorem dX11_twoRule_75 : decode cX11_twoRule 75 = .ok (.istore 6, 2) := by decide +kernel
theorem dX11_twoRule_77 : decode cX11_twoRule 77 = .ok (.iload_n 2, 1) := by decide +kernel
theorem dX11_twoRule_78 : decode cX11_twoRule 78 = .ok (.iconst 1, 1) := by decide +kernel
theorem dX11_twoRule_79 : decode cX11_twoRule 79 = .ok (.if_icmp .ne 15, 3) := by decide +kernel
theorem dX11_twoRule_82 : decode cX11_twoRule 82 = .ok (.iload 4, 2) := by decide +kernel
theorem dX11_twoRule_84 : decode cX11_twoRule 84 = .ok (.iload 5, 2) := by decide +kernel
theorem dX11_twoRule_86 : decode cX11_twoRule 86 = .ok (.iload 6, 2) := by decide +kernel
theorem dX11_twoRule_88 : decode cX11_twoRule 88 = .ok (.invokestatic 248, 3) := by decide +kernel
theorem dX11_twoRule_91 : decode cX11_twoRule 91 = .ok (.goto 12, 3) := by decide +kernel
theorem dX11_twoRule_94 : decode cX11_twoRule 94 = .ok (.iload 5, 2) := by decide +kernel
theorem dX11_twoRule_96 : decode cX11_twoRule 96 = .ok (.ineg, 1) := by decide +kernel
theorem dX11_twoRule_97 : decode cX11_twoRule 97 = .ok (.iload 6, 2) := by decide +kernel
theorem dX11_twoRule_99 : decode cX11_twoRule 99 = .ok (.invokestatic 251, 3) := by decide +kernel
theorem dX11_twoRule_102 : decode cX11_twoRule 102 = .ok (.ineg, 1) := by decide +kernel
theorem dX11_twoRule_103 : decode cX11_twoRule 103 = .ok (.ireturn, 1) := by decide +kernel
theorem dX11_ruleNow_0 : decode cX11_ruleNow 0 = .ok (.aload_n 0, 1) := by decide +kernel
theorem dX11_ruleNow_1 : decode cX11_ruleNow 1 = .ok (.getfield 7, 3) := by decide +kernel
theorem dX11_ruleNow_4 : decode cX11_ruleNow 4 = .ok (.iload_n 1, 1) := by decide +kernel
theorem dX11_ruleNow_5 : decode cX11_ruleNow 5 = .ok (.iaload, 1) := by decide +kernel
theorem dX11_ruleNow_6 : decode cX11_ruleNow 6 = .ok (.iconst 1, 1) := by decide +kernel
theorem dX11_ruleNow_7 : decode cX11_ruleNow 7 = .ok (.if_icmp .eq 13, 3) := by decide +kernel
theorem dX11_ruleNow_10 : decode cX11_ruleNow 10 = .ok (.aload_n 0, 1) := by decide +kernel
theorem dX11_ruleNow_11 : decode cX11_ruleNow 11 = .ok (.getfield 7, 3) := by decide +kernel
theorem dX11_ruleNow_14 : decode cX11_ruleNow 14 = .ok (.iload_n 1, 1) := by decide +kernel
theorem dX11_ruleNow_15 : decode cX11_ruleNow 15 = .ok (.iaload, 1) := by decide +kernel
theorem dX11_ruleNow_16 : decode cX11_ruleNow 16 = .ok (.iconst 2, 1) := by decide +kernel
theorem dX11_ruleNow_17 : decode cX11_ruleNow 17 = .ok (.if_icmp .ne 7, 3) := by decide +kernel
theorem dX11_ruleNow_20 : decode cX11_ruleNow 20 = .ok (.iconst 1, 1) := by decide +kernel
theorem dX11_ruleNow_21 : decode cX11_ruleNow 21 = .ok (.goto 4, 3) := by decide +kernel
theorem dX11_ruleNow_24 : decode cX11_ruleNow 24 = .ok (.iconst 0, 1) := by decide +kernel
theorem dX11_ruleNow_25 : decode cX11_ruleNow 25 = .ok (.istore_n 3, 1) := by decide +kernel
theorem dX11_ruleNow_26 : decode cX11_ruleNow 26 = .ok (.iload_n 2, 1) := by decide +kernel
theorem dX11_ruleNow_27 : decode cX11_ruleNow 27 = .ok (.ifCond .ne 13, 3) := by decide +kernel
theorem dX11_ruleNow_30 : decode cX11_ruleNow 30 = .ok (.iload_n 3, 1) := by decide +kernel
theorem dX11_ruleNow_31 : decode cX11_ruleNow 31 = .ok (.ifCond .eq 7, 3) := by decide +kernel
theorem dX11_ruleNow_34 : decode cX11_ruleNow 34 = .ok (.iconst 4, 1) := by decide +kernel
theorem dX11_ruleNow_35 : decode cX11_ruleNow 35 = .ok (.goto 4, 3) := by decide +kernel
theorem dX11_ruleNow_38 : decode cX11_ruleNow 38 = .ok (.iconst 2, 1) := by decide +kernel
theorem dX11_ruleNow_39 : decode cX11_ruleNow 39 = .ok (.ireturn, 1) := by decide +kernel
theorem dX11_ruleNow_40 : decode cX11_ruleNow 40 = .ok (.iload_n 3, 1) := by decide +kernel
theorem dX11_ruleNow_41 : decode cX11_ruleNow 41 = .ok (.ifCond .eq 12, 3) := by decide +kernel
theorem dX11_ruleNow_44 : decode cX11_ruleNow 44 = .ok (.aload_n 0, 1) := by decide +kernel
theorem dX11_ruleNow_45 : decode cX11_ruleNow 45 = .ok (.iload_n 1, 1) := by decide +kernel
theorem dX11_ruleNow_46 : decode cX11_ruleNow 46 = .ok (.iload_n 2, 1) := by decide +kernel
theorem dX11_ruleNow_47 : decode cX11_ruleNow 47 = .ok (.invokevirtual 254, 3) := by decide +kernel
theorem dX11_ruleNow_50 : decode cX11_ruleNow 50 = .ok (.goto 9, 3) := by decide +kernel
theorem dX11_ruleNow_53 : decode cX11_ruleNow 53 = .ok (.aload_n 0, 1) := by decide +kernel
theorem dX11_ruleNow_54 : decode cX11_ruleNow 54 = .ok (.iload_n 1, 1) := by decide +kernel
theorem dX11_ruleNow_55 : decode cX11_ruleNow 55 = .ok (.iload_n 2, 1) := by decide +kernel
theorem dX11_ruleNow_56 : decode cX11_ruleNow 56 = .ok (.invokevirtual 257, 3) := by decide +kernel
theorem dX11_ruleNow_59 : decode cX11_ruleNow 59 = .ok (.ireturn, 1) := by decide +kernel
theorem dX11_rule_0 : decode cX11_rule 0 = .ok (.aload_n 0, 1) := by decide +kernel
theorem dX11_rule_1 : decode cX11_rule 1 = .ok (.iload_n 1, 1) := by decide +kernel
theorem dX11_rule_2 : decode cX11_rule 2 = .ok (.invokevirtual 193, 3) := by decide +kernel
theorem dX11_rule_5 : decode cX11_rule 5 = .ok (.ifCond .ne 6, 3) := by decide +kernel
theorem dX11_rule_8 : decode cX11_rule 8 = .ok (.ldc 196, 2) := by decide +kernel
theorem dX11_rule_10 : decode cX11_rule 10 = .ok (.ireturn, 1) := by decide +kernel
theorem dX11_rule_11 : decode cX11_rule 11 = .ok (.iload_n 2, 1) := by decide +kernel
theorem dX11_rule_12 : decode cX11_rule 12 = .ok (.iconst 0, 1) := by decide +kernel
theorem dX11_rule_13 : decode cX11_rule 13 = .ok (.iconst 4, 1) := by decide +kernel
theorem dX11_rule_14 : decode cX11_rule 14 = .ok (.invokestatic 68, 3) := by decide +kernel
theorem dX11_rule_17 : decode cX11_rule 17 = .ok (.ifCond .ne 6, 3) := by decide +kernel
theorem dX11_rule_20 : decode cX11_rule 20 = .ok (.ldc 72, 2) := by decide +kernel
theorem dX11_rule_22 : decode cX11_rule 22 = .ok (.ireturn, 1) := by decide +kernel
theorem dX11_rule_23 : decode cX11_rule 23 = .ok (.aload_n 0, 1) := by decide +kernel
theorem dX11_rule_24 : decode cX11_rule 24 = .ok (.iload_n 1, 1) := by decide +kernel
theorem dX11_rule_25 : decode cX11_rule 25 = .ok (.invokevirtual 245, 3) := by decide +kernel
theorem dX11_rule_28 : decode cX11_rule 28 = .ok (.ifCond .ne 11, 3) := by decide +kernel
theorem dX11_rule_31 : decode cX11_rule 31 = .ok (.aload_n 0, 1) := by decide +kernel
theorem dX11_rule_32 : decode cX11_rule 32 = .ok (.iload_n 1, 1) := by decide +kernel
theorem dX11_rule_33 : decode cX11_rule 33 = .ok (.invokevirtual 260, 3) := by decide +kernel
theorem dX11_rule_36 : decode cX11_rule 36 = .ok (.ifCond .eq 12, 3) := by decide +kernel
theorem dX11_rule_39 : decode cX11_rule 39 = .ok (.aload_n 0, 1) := by decide +kernel
theorem dX11_rule_40 : decode cX11_rule 40 = .ok (.iload_n 1, 1) := by decide +kernel
theorem dX11_rule_41 : decode cX11_rule 41 = .ok (.iload_n 2, 1) := by decide +kernel
theorem dX11_rule_42 : decode cX11_rule 42 = .ok (.invokevirtual 263, 3) := by decide +kernel
theorem dX11_rule_45 : decode cX11_rule 45 = .ok (.goto 5, 3) := by decide +kernel
theorem dX11_rule_48 : decode cX11_rule 48 = .ok (.ldc 115, 2) := by decide +kernel
theorem dX11_rule_50 : decode cX11_rule 50 = .ok (.ireturn, 1) := by decide +kernel
theorem dX11_spread_0 : decode cX11_spread 0 = .ok (.iload_n 0, 1) := by decide +kernel
theorem dX11_spread_1 : decode cX11_spread 1 = .ok (.iload_n 0, 1) := by decide +kernel
theorem dX11_spread_2 : decode cX11_spread 2 = .ok (.imul, 1) := by decide +kernel
theorem dX11_spread_3 : decode cX11_spread 3 = .ok (.iconst 4, 1) := by decide +kernel
theorem dX11_spread_4 : decode cX11_spread 4 = .ok (.iload_n 1, 1) := by decide +kernel
theorem dX11_spread_5 : decode cX11_spread 5 = .ok (.imul, 1) := by decide +kernel
theorem dX11_spread_6 : decode cX11_spread 6 = .ok (.iadd, 1) := by decide +kernel
theorem dX11_spread_7 : decode cX11_spread 7 = .ok (.ireturn, 1) := by decide +kernel
theorem dX11_wholeRoot_0 : decode cX11_wholeRoot 0 = .ok (.iconst 0, 1) := by decide +kernel
theorem dX11_wholeRoot_1 : decode cX11_wholeRoot 1 = .ok (.istore_n 1, 1) := by decide +kernel
theorem dX11_wholeRoot_2 : decode cX11_wholeRoot 2 = .ok (.iload_n 1, 1) := by decide +kernel
theorem dX11_wholeRoot_3 : decode cX11_wholeRoot 3 = .ok (.iload_n 1, 1) := by decide +kernel
theorem dX11_wholeRoot_4 : decode cX11_wholeRoot 4 = .ok (.imul, 1) := by decide +kernel
theorem dX11_wholeRoot_5 : decode cX11_wholeRoot 5 = .ok (.iload_n 0, 1) := by decide +kernel
theorem dX11_wholeRoot_6 : decode cX11_wholeRoot 6 = .ok (.if_icmp .ge 9, 3) := by decide +kernel
theorem dX11_wholeRoot_9 : decode cX11_wholeRoot 9 = .ok (.iinc 1 1, 3) := by decide +kernel
theorem dX11_wholeRoot_12 : decode cX11_wholeRoot 12 = .ok (.goto (-10), 3) := by decide +kernel
theorem dX11_wholeRoot_15 : decode cX11_wholeRoot 15 = .ok (.iload_n 1, 1) := by decide +kernel
theorem dX11_wholeRoot_16 : decode cX11_wholeRoot 16 = .ok (.iload_n 1, 1) := by decide +kernel
theorem dX11_wholeRoot_17 : decode cX11_wholeRoot 17 = .ok (.imul, 1) := by decide +kernel
theorem dX11_wholeRoot_18 : decode cX11_wholeRoot 18 = .ok (.iload_n 0, 1) := by decide +kernel
theorem dX11_wholeRoot_19 : decode cX11_wholeRoot 19 = .ok (.if_icmp .ne 7, 3) := by decide +kernel
theorem dX11_wholeRoot_22 : decode cX11_wholeRoot 22 = .ok (.iload_n 1, 1) := by decide +kernel
theorem dX11_wholeRoot_23 : decode cX11_wholeRoot 23 = .ok (.goto 5, 3) := by decide +kernel
theorem dX11_wholeRoot_26 : decode cX11_wholeRoot 26 = .ok (.ldc 54, 2) := by decide +kernel
theorem dX11_wholeRoot_28 : decode cX11_wholeRoot 28 = .ok (.ireturn, 1) := by decide +kernel
theorem dX11_degenerate_0 : decode cX11_degenerate 0 = .ok (.iload_n 1, 1) := by decide +kernel
theorem dX11_degenerate_1 : decode cX11_degenerate 1 = .ok (.ifCond .eq 11, 3) := by decide +kernel
theorem dX11_degenerate_4 : decode cX11_degenerate 4 = .ok (.iload_n 0, 1) := by decide +kernel
theorem dX11_degenerate_5 : decode cX11_degenerate 5 = .ok (.iload_n 1, 1) := by decide +kernel
theorem dX11_degenerate_6 : decode cX11_degenerate 6 = .ok (.invokestatic 266, 3) := by decide +kernel
theorem dX11_degenerate_9 : decode cX11_degenerate 9 = .ok (.ifCond .ne 5, 3) := by decide +kernel
theorem dX11_degenerate_12 : decode cX11_degenerate 12 = .ok (.iconst 0, 1) := by decide +kernel
theorem dX11_degenerate_13 : decode cX11_degenerate 13 = .ok (.ireturn, 1) := by decide +kernel
theorem dX11_degenerate_14 : decode cX11_degenerate 14 = .ok (.lconst 0, 1) := by decide +kernel
theorem dX11_degenerate_15 : decode cX11_degenerate 15 = .ok (.lstore_n 2, 1) := by decide +kernel
theorem dX11_degenerate_16 : decode cX11_degenerate 16 = .ok (.lconst 1, 1) := by decide +kernel
theorem dX11_degenerate_17 : decode cX11_degenerate 17 = .ok (.lstore 4, 2) := by decide +kernel
theorem dX11_degenerate_19 : decode cX11_degenerate 19 = .ok (.iconst 1, 1) := by decide +kernel
theorem dX11_degenerate_20 : decode cX11_degenerate 20 = .ok (.istore 6, 2) := by decide +kernel
theorem dX11_degenerate_22 : decode cX11_degenerate 22 = .ok (.iload 6, 2) := by decide +kernel
theorem dX11_degenerate_24 : decode cX11_degenerate 24 = .ok (.bipush 12, 2) := by decide +kernel
theorem dX11_degenerate_26 : decode cX11_degenerate 26 = .ok (.if_icmp .gt 44, 3) := by decide +kernel
theorem dX11_degenerate_29 : decode cX11_degenerate 29 = .ok (.iload 6, 2) := by decide +kernel
theorem dX11_degenerate_31 : decode cX11_degenerate 31 = .ok (.iconst 1, 1) := by decide +kernel
theorem dX11_degenerate_32 : decode cX11_degenerate 32 = .ok (.if_icmp .le 13, 3) := by decide +kernel
theorem dX11_degenerate_35 : decode cX11_degenerate 35 = .ok (.lload 4, 2) := by decide +kernel
theorem dX11_degenerate_37 : decode cX11_degenerate 37 = .ok (.lconst 0, 1) := by decide +kernel
theorem dX11_degenerate_38 : decode cX11_degenerate 38 = .ok (.lcmp, 1) := by decide +kernel
theorem dX11_degenerate_39 : decode cX11_degenerate 39 = .ok (.ifCond .ne 6, 3) := by decide +kernel
theorem dX11_degenerate_42 : decode cX11_degenerate 42 = .ok (.iload 6, 2) := by decide +kernel
theorem dX11_degenerate_44 : decode cX11_degenerate 44 = .ok (.ireturn, 1) := by decide +kernel
theorem dX11_degenerate_45 : decode cX11_degenerate 45 = .ok (.iload_n 0, 1) := by decide +kernel
theorem dX11_degenerate_46 : decode cX11_degenerate 46 = .ok (.i2l, 1) := by decide +kernel
theorem dX11_degenerate_47 : decode cX11_degenerate 47 = .ok (.lload 4, 2) := by decide +kernel
theorem dX11_degenerate_49 : decode cX11_degenerate 49 = .ok (.lmul, 1) := by decide +kernel
theorem dX11_degenerate_50 : decode cX11_degenerate 50 = .ok (.iload_n 1, 1) := by decide +kernel
theorem dX11_degenerate_51 : decode cX11_degenerate 51 = .ok (.i2l, 1) := by decide +kernel
theorem dX11_degenerate_52 : decode cX11_degenerate 52 = .ok (.lload_n 2, 1) := by decide +kernel
theorem dX11_degenerate_53 : decode cX11_degenerate 53 = .ok (.lmul, 1) := by decide +kernel
theorem dX11_degenerate_54 : decode cX11_degenerate 54 = .ok (.ladd, 1) := by decide +kernel
theorem dX11_degenerate_55 : decode cX11_degenerate 55 = .ok (.lstore 7, 2) := by decide +kernel
theorem dX11_degenerate_57 : decode cX11_degenerate 57 = .ok (.lload 4, 2) := by decide +kernel
theorem dX11_degenerate_59 : decode cX11_degenerate 59 = .ok (.lstore_n 2, 1) := by decide +kernel
theorem dX11_degenerate_60 : decode cX11_degenerate 60 = .ok (.lload 7, 2) := by decide +kernel
theorem dX11_degenerate_62 : decode cX11_degenerate 62 = .ok (.lstore 4, 2) := by decide +kernel
theorem dX11_degenerate_64 : decode cX11_degenerate 64 = .ok (.iinc 6 1, 3) := by decide +kernel
theorem dX11_degenerate_67 : decode cX11_degenerate 67 = .ok (.goto (-45), 3) := by decide +kernel
theorem dX11_degenerate_70 : decode cX11_degenerate 70 = .ok (.iconst 0, 1) := by decide +kernel
theorem dX11_degenerate_71 : decode cX11_degenerate 71 = .ok (.ireturn, 1) := by decide +kernel
theorem dX11_rootsNow_0 : decode cX11_rootsNow 0 = .ok (.iload_n 0, 1) := by decide +kernel
theorem dX11_rootsNow_1 : decode cX11_rootsNow 1 = .ok (.iload_n 1, 1) := by decide +kernel
theorem dX11_rootsNow_2 : decode cX11_rootsNow 2 = .ok (.invokestatic 266, 3) := by decide +kernel
theorem dX11_rootsNow_5 : decode cX11_rootsNow 5 = .ok (.istore_n 3, 1) := by decide +kernel
theorem dX11_rootsNow_6 : decode cX11_rootsNow 6 = .ok (.iload_n 3, 1) := by decide +kernel
theorem dX11_rootsNow_7 : decode cX11_rootsNow 7 = .ok (.invokestatic 269, 3) := by decide +kernel
theorem dX11_rootsNow_10 : decode cX11_rootsNow 10 = .ok (.istore 4, 2) := by decide +kernel
theorem dX11_rootsNow_12 : decode cX11_rootsNow 12 = .ok (.iload_n 2, 1) := by decide +kernel
theorem dX11_rootsNow_13 : decode cX11_rootsNow 13 = .ok (.tableswitch 93 0 3 #[31, 49, 68, 87], 31) := by decide +kernel
theorem dX11_rootsNow_44 : decode cX11_rootsNow 44 = .ok (.iload_n 3, 1) := by decide +kernel
theorem dX11_rootsNow_45 : decode cX11_rootsNow 45 = .ok (.ifCond .le 7, 3) := by decide +kernel
theorem dX11_rootsNow_48 : decode cX11_rootsNow 48 = .ok (.iconst 2, 1) := by decide +kernel
theorem dX11_rootsNow_49 : decode cX11_rootsNow 49 = .ok (.goto 12, 3) := by decide +kernel
theorem dX11_rootsNow_52 : decode cX11_rootsNow 52 = .ok (.iload_n 3, 1) := by decide +kernel
theorem dX11_rootsNow_53 : decode cX11_rootsNow 53 = .ok (.ifCond .ne 7, 3) := by decide +kernel
theorem dX11_rootsNow_56 : decode cX11_rootsNow 56 = .ok (.iconst 1, 1) := by decide +kernel
theorem dX11_rootsNow_57 : decode cX11_rootsNow 57 = .ok (.goto 4, 3) := by decide +kernel
theorem dX11_rootsNow_60 : decode cX11_rootsNow 60 = .ok (.iconst 0, 1) := by decide +kernel
theorem dX11_rootsNow_61 : decode cX11_rootsNow 61 = .ok (.ireturn, 1) := by decide +kernel
theorem dX11_rootsNow_62 : decode cX11_rootsNow 62 = .ok (.iload 4, 2) := by decide +kernel
theorem dX11_rootsNow_64 : decode cX11_rootsNow 64 = .ok (.ldc 54, 2) := by decide +kernel
theorem dX11_rootsNow_66 : decode cX11_rootsNow 66 = .ok (.if_icmp .ne 8, 3) := by decide +kernel
theorem dX11_rootsNow_69 : decode cX11_rootsNow 69 = .ok (.ldc 54, 2) := by decide +kernel
theorem dX11_rootsNow_71 : decode cX11_rootsNow 71 = .ok (.goto 9, 3) := by decide +kernel
theorem dX11_rootsNow_74 : decode cX11_rootsNow 74 = .ok (.iload_n 0, 1) := by decide +kernel
theorem dX11_rootsNow_75 : decode cX11_rootsNow 75 = .ok (.iload 4, 2) := by decide +kernel
theorem dX11_rootsNow_77 : decode cX11_rootsNow 77 = .ok (.iadd, 1) := by decide +kernel
theorem dX11_rootsNow_78 : decode cX11_rootsNow 78 = .ok (.iconst 2, 1) := by decide +kernel
theorem dX11_rootsNow_79 : decode cX11_rootsNow 79 = .ok (.idiv, 1) := by decide +kernel
theorem dX11_rootsNow_80 : decode cX11_rootsNow 80 = .ok (.ireturn, 1) := by decide +kernel
theorem dX11_rootsNow_81 : decode cX11_rootsNow 81 = .ok (.iload 4, 2) := by decide +kernel
theorem dX11_rootsNow_83 : decode cX11_rootsNow 83 = .ok (.ldc 54, 2) := by decide +kernel
theorem dX11_rootsNow_85 : decode cX11_rootsNow 85 = .ok (.if_icmp .ne 8, 3) := by decide +kernel
theorem dX11_rootsNow_88 : decode cX11_rootsNow 88 = .ok (.ldc 54, 2) := by decide +kernel
theorem dX11_rootsNow_90 : decode cX11_rootsNow 90 = .ok (.goto 9, 3) := by decide +kernel
theorem dX11_rootsNow_93 : decode cX11_rootsNow 93 = .ok (.iload_n 0, 1) := by decide +kernel
theorem dX11_rootsNow_94 : decode cX11_rootsNow 94 = .ok (.iload 4, 2) := by decide +kernel
theorem dX11_rootsNow_96 : decode cX11_rootsNow 96 = .ok (.isub, 1) := by decide +kernel
theorem dX11_rootsNow_97 : decode cX11_rootsNow 97 = .ok (.iconst 2, 1) := by decide +kernel
theorem dX11_rootsNow_98 : decode cX11_rootsNow 98 = .ok (.idiv, 1) := by decide +kernel
theorem dX11_rootsNow_99 : decode cX11_rootsNow 99 = .ok (.ireturn, 1) := by decide +kernel
theorem dX11_rootsNow_100 : decode cX11_rootsNow 100 = .ok (.iload_n 0, 1) := by decide +kernel
theorem dX11_rootsNow_101 : decode cX11_rootsNow 101 = .ok (.iload_n 1, 1) := by decide +kernel
theorem dX11_rootsNow_102 : decode cX11_rootsNow 102 = .ok (.invokestatic 272, 3) := by decide +kernel
theorem dX11_rootsNow_105 : decode cX11_rootsNow 105 = .ok (.ireturn, 1) := by decide +kernel
theorem dX11_rootsNow_106 : decode cX11_rootsNow 106 = .ok (.iload_n 3, 1) := by decide +kernel
theorem dX11_rootsNow_107 : decode cX11_rootsNow 107 = .ok (.ifCond .le 7, 3) := by decide +kernel
theorem dX11_rootsNow_110 : decode cX11_rootsNow 110 = .ok (.iload_n 0, 1) := by decide +kernel
theorem dX11_rootsNow_111 : decode cX11_rootsNow 111 = .ok (.ifCond .ne 7, 3) := by decide +kernel
theorem dX11_rootsNow_114 : decode cX11_rootsNow 114 = .ok (.iconst 0, 1) := by decide +kernel
theorem dX11_rootsNow_115 : decode cX11_rootsNow 115 = .ok (.goto 12, 3) := by decide +kernel
theorem dX11_rootsNow_118 : decode cX11_rootsNow 118 = .ok (.iload_n 0, 1) := by decide +kernel
theorem dX11_rootsNow_119 : decode cX11_rootsNow 119 = .ok (.ifCond .le 7, 3) := by decide +kernel
theorem dX11_rootsNow_122 : decode cX11_rootsNow 122 = .ok (.iconst 1, 1) := by decide +kernel
theorem dX11_rootsNow_123 : decode cX11_rootsNow 123 = .ok (.goto 4, 3) := by decide +kernel
theorem dX11_rootsNow_126 : decode cX11_rootsNow 126 = .ok (.iconst (-1), 1) := by decide +kernel
theorem dX11_rootsNow_127 : decode cX11_rootsNow 127 = .ok (.ireturn, 1) := by decide +kernel
theorem dX11_roots_0 : decode cX11_roots 0 = .ok (.aload_n 0, 1) := by decide +kernel
theorem dX11_roots_1 : decode cX11_roots 1 = .ok (.iload_n 1, 1) := by decide +kernel
theorem dX11_roots_2 : decode cX11_roots 2 = .ok (.invokevirtual 193, 3) := by decide +kernel
theorem dX11_roots_5 : decode cX11_roots 5 = .ok (.ifCond .ne 6, 3) := by decide +kernel
theorem dX11_roots_8 : decode cX11_roots 8 = .ok (.ldc 196, 2) := by decide +kernel
theorem dX11_roots_10 : decode cX11_roots 10 = .ok (.ireturn, 1) := by decide +kernel
theorem dX11_roots_11 : decode cX11_roots 11 = .ok (.iload_n 2, 1) := by decide +kernel
theorem dX11_roots_12 : decode cX11_roots 12 = .ok (.iconst 0, 1) := by decide +kernel
theorem dX11_roots_13 : decode cX11_roots 13 = .ok (.iconst 4, 1) := by decide +kernel
theorem dX11_roots_14 : decode cX11_roots 14 = .ok (.invokestatic 68, 3) := by decide +kernel
theorem dX11_roots_17 : decode cX11_roots 17 = .ok (.ifCond .ne 6, 3) := by decide +kernel
theorem dX11_roots_20 : decode cX11_roots 20 = .ok (.ldc 72, 2) := by decide +kernel
theorem dX11_roots_22 : decode cX11_roots 22 = .ok (.ireturn, 1) := by decide +kernel
theorem dX11_roots_23 : decode cX11_roots 23 = .ok (.aload_n 0, 1) := by decide +kernel
theorem dX11_roots_24 : decode cX11_roots 24 = .ok (.iload_n 1, 1) := by decide +kernel
theorem dX11_roots_25 : decode cX11_roots 25 = .ok (.invokevirtual 245, 3) := by decide +kernel
theorem dX11_roots_28 : decode cX11_roots 28 = .ok (.ifCond .eq 28, 3) := by decide +kernel
theorem dX11_roots_31 : decode cX11_roots 31 = .ok (.aload_n 0, 1) := by decide +kernel
theorem dX11_roots_32 : decode cX11_roots 32 = .ok (.getfield 13, 3) := by decide +kernel
theorem dX11_roots_35 : decode cX11_roots 35 = .ok (.iconst 4, 1) := by decide +kernel
theorem dX11_roots_36 : decode cX11_roots 36 = .ok (.iload_n 1, 1) := by decide +kernel
theorem dX11_roots_37 : decode cX11_roots 37 = .ok (.imul, 1) := by decide +kernel
theorem dX11_roots_38 : decode cX11_roots 38 = .ok (.iaload, 1) := by decide +kernel
theorem dX11_roots_39 : decode cX11_roots 39 = .ok (.aload_n 0, 1) := by decide +kernel
theorem dX11_roots_40 : decode cX11_roots 40 = .ok (.getfield 13, 3) := by decide +kernel
theorem dX11_roots_43 : decode cX11_roots 43 = .ok (.iconst 4, 1) := by decide +kernel
theorem dX11_roots_44 : decode cX11_roots 44 = .ok (.iload_n 1, 1) := by decide +kernel
theorem dX11_roots_45 : decode cX11_roots 45 = .ok (.imul, 1) := by decide +kernel
theorem dX11_roots_46 : decode cX11_roots 46 = .ok (.iconst 1, 1) := by decide +kernel
theorem dX11_roots_47 : decode cX11_roots 47 = .ok (.iadd, 1) := by decide +kernel
theorem dX11_roots_48 : decode cX11_roots 48 = .ok (.iaload, 1) := by decide +kernel
theorem dX11_roots_49 : decode cX11_roots 49 = .ok (.iload_n 2, 1) := by decide +kernel
theorem dX11_roots_50 : decode cX11_roots 50 = .ok (.invokestatic 275, 3) := by decide +kernel
theorem dX11_roots_53 : decode cX11_roots 53 = .ok (.goto 5, 3) := by decide +kernel
theorem dX11_roots_56 : decode cX11_roots 56 = .ok (.ldc 115, 2) := by decide +kernel
theorem dX11_roots_58 : decode cX11_roots 58 = .ok (.ireturn, 1) := by decide +kernel
theorem dX11_noughtsOf_0 : decode cX11_noughtsOf 0 = .ok (.iconst 0, 1) := by decide +kernel
theorem dX11_noughtsOf_1 : decode cX11_noughtsOf 1 = .ok (.istore_n 2, 1) := by decide +kernel
theorem dX11_noughtsOf_2 : decode cX11_noughtsOf 2 = .ok (.iconst 0, 1) := by decide +kernel
theorem dX11_noughtsOf_3 : decode cX11_noughtsOf 3 = .ok (.istore_n 3, 1) := by decide +kernel
theorem dX11_noughtsOf_4 : decode cX11_noughtsOf 4 = .ok (.iload_n 3, 1) := by decide +kernel
theorem dX11_noughtsOf_5 : decode cX11_noughtsOf 5 = .ok (.bipush 24, 2) := by decide +kernel
theorem dX11_noughtsOf_7 : decode cX11_noughtsOf 7 = .ok (.if_icmp .ge 28, 3) := by decide +kernel
theorem dX11_noughtsOf_10 : decode cX11_noughtsOf 10 = .ok (.iload_n 2, 1) := by decide +kernel
theorem dX11_noughtsOf_11 : decode cX11_noughtsOf 11 = .ok (.aload_n 0, 1) := by decide +kernel
theorem dX11_noughtsOf_12 : decode cX11_noughtsOf 12 = .ok (.iload_n 1, 1) := by decide +kernel
theorem dX11_noughtsOf_13 : decode cX11_noughtsOf 13 = .ok (.iload_n 3, 1) := by decide +kernel
theorem dX11_noughtsOf_14 : decode cX11_noughtsOf 14 = .ok (.invokevirtual 201, 3) := by decide +kernel
theorem dX11_noughtsOf_17 : decode cX11_noughtsOf 17 = .ok (.ifCond .ne 9, 3) := by decide +kernel
theorem dX11_noughtsOf_20 : decode cX11_noughtsOf 20 = .ok (.iconst 1, 1) := by decide +kernel
theorem dX11_noughtsOf_21 : decode cX11_noughtsOf 21 = .ok (.iload_n 3, 1) := by decide +kernel
theorem dX11_noughtsOf_22 : decode cX11_noughtsOf 22 = .ok (.ishl, 1) := by decide +kernel
theorem dX11_noughtsOf_23 : decode cX11_noughtsOf 23 = .ok (.goto 4, 3) := by decide +kernel
theorem dX11_noughtsOf_26 : decode cX11_noughtsOf 26 = .ok (.iconst 0, 1) := by decide +kernel
theorem dX11_noughtsOf_27 : decode cX11_noughtsOf 27 = .ok (.ior, 1) := by decide +kernel
theorem dX11_noughtsOf_28 : decode cX11_noughtsOf 28 = .ok (.istore_n 2, 1) := by decide +kernel
theorem dX11_noughtsOf_29 : decode cX11_noughtsOf 29 = .ok (.iinc 3 1, 3) := by decide +kernel
theorem dX11_noughtsOf_32 : decode cX11_noughtsOf 32 = .ok (.goto (-28), 3) := by decide +kernel
theorem dX11_noughtsOf_35 : decode cX11_noughtsOf 35 = .ok (.iload_n 2, 1) := by decide +kernel
theorem dX11_noughtsOf_36 : decode cX11_noughtsOf 36 = .ok (.ireturn, 1) := by decide +kernel
theorem dX11_noughts_0 : decode cX11_noughts 0 = .ok (.aload_n 0, 1) := by decide +kernel
theorem dX11_noughts_1 : decode cX11_noughts 1 = .ok (.iload_n 1, 1) := by decide +kernel
theorem dX11_noughts_2 : decode cX11_noughts 2 = .ok (.invokevirtual 193, 3) := by decide +kernel
theorem dX11_noughts_5 : decode cX11_noughts 5 = .ok (.ifCond .eq 11, 3) := by decide +kernel
theorem dX11_noughts_8 : decode cX11_noughts 8 = .ok (.aload_n 0, 1) := by decide +kernel
theorem dX11_noughts_9 : decode cX11_noughts 9 = .ok (.iload_n 1, 1) := by decide +kernel
theorem dX11_noughts_10 : decode cX11_noughts 10 = .ok (.invokevirtual 278, 3) := by decide +kernel
theorem dX11_noughts_13 : decode cX11_noughts 13 = .ok (.goto 5, 3) := by decide +kernel
theorem dX11_noughts_16 : decode cX11_noughts 16 = .ok (.ldc 196, 2) := by decide +kernel
theorem dX11_noughts_18 : decode cX11_noughts 18 = .ok (.ireturn, 1) := by decide +kernel
theorem dX11_ends_0 : decode cX11_ends 0 = .ok (.aload_n 0, 1) := by decide +kernel
theorem dX11_ends_1 : decode cX11_ends 1 = .ok (.iload_n 1, 1) := by decide +kernel
theorem dX11_ends_2 : decode cX11_ends 2 = .ok (.invokevirtual 193, 3) := by decide +kernel
theorem dX11_ends_5 : decode cX11_ends 5 = .ok (.ifCond .ne 6, 3) := by decide +kernel
theorem dX11_ends_8 : decode cX11_ends 8 = .ok (.ldc 196, 2) := by decide +kernel
theorem dX11_ends_10 : decode cX11_ends 10 = .ok (.ireturn, 1) := by decide +kernel
theorem dX11_ends_11 : decode cX11_ends 11 = .ok (.iconst 2, 1) := by decide +kernel
theorem dX11_ends_12 : decode cX11_ends 12 = .ok (.istore_n 2, 1) := by decide +kernel
theorem dX11_ends_13 : decode cX11_ends 13 = .ok (.iload_n 2, 1) := by decide +kernel
theorem dX11_ends_14 : decode cX11_ends 14 = .ok (.bipush 10, 2) := by decide +kernel
theorem dX11_ends_16 : decode cX11_ends 16 = .ok (.if_icmp .gt 24, 3) := by decide +kernel
theorem dX11_ends_19 : decode cX11_ends 19 = .ok (.aload_n 0, 1) := by decide +kernel
theorem dX11_ends_20 : decode cX11_ends 20 = .ok (.iload_n 2, 1) := by decide +kernel
theorem dX11_ends_21 : decode cX11_ends 21 = .ok (.invokevirtual 204, 3) := by decide +kernel
theorem dX11_ends_24 : decode cX11_ends 24 = .ok (.aload_n 0, 1) := by decide +kernel
theorem dX11_ends_25 : decode cX11_ends 25 = .ok (.iload_n 1, 1) := by decide +kernel
theorem dX11_ends_26 : decode cX11_ends 26 = .ok (.invokevirtual 210, 3) := by decide +kernel
theorem dX11_ends_29 : decode cX11_ends 29 = .ok (.ifCond .ne 5, 3) := by decide +kernel
theorem dX11_ends_32 : decode cX11_ends 32 = .ok (.iload_n 2, 1) := by decide +kernel
theorem dX11_ends_33 : decode cX11_ends 33 = .ok (.ireturn, 1) := by decide +kernel
theorem dX11_ends_34 : decode cX11_ends 34 = .ok (.iinc 2 1, 3) := by decide +kernel
theorem dX11_ends_37 : decode cX11_ends 37 = .ok (.goto (-24), 3) := by decide +kernel
theorem dX11_ends_40 : decode cX11_ends 40 = .ok (.ldc 54, 2) := by decide +kernel
theorem dX11_ends_42 : decode cX11_ends 42 = .ok (.ireturn, 1) := by decide +kernel
theorem dX11_layOpen_0 : decode cX11_layOpen 0 = .ok (.iconst 0, 1) := by decide +kernel
theorem dX11_layOpen_1 : decode cX11_layOpen 1 = .ok (.istore_n 2, 1) := by decide +kernel
theorem dX11_layOpen_2 : decode cX11_layOpen 2 = .ok (.iload_n 2, 1) := by decide +kernel
theorem dX11_layOpen_3 : decode cX11_layOpen 3 = .ok (.sipush 1000, 3) := by decide +kernel
theorem dX11_layOpen_6 : decode cX11_layOpen 6 = .ok (.if_icmp .ge 16, 3) := by decide +kernel
theorem dX11_layOpen_9 : decode cX11_layOpen 9 = .ok (.aload_n 0, 1) := by decide +kernel
theorem dX11_layOpen_10 : decode cX11_layOpen 10 = .ok (.getfield 50, 3) := by decide +kernel
theorem dX11_layOpen_13 : decode cX11_layOpen 13 = .ok (.iload_n 2, 1) := by decide +kernel
theorem dX11_layOpen_14 : decode cX11_layOpen 14 = .ok (.iconst 1, 1) := by decide +kernel
theorem dX11_layOpen_15 : decode cX11_layOpen 15 = .ok (.bastore, 1) := by decide +kernel
theorem dX11_layOpen_16 : decode cX11_layOpen 16 = .ok (.iinc 2 1, 3) := by decide +kernel
theorem dX11_layOpen_19 : decode cX11_layOpen 19 = .ok (.goto (-17), 3) := by decide +kernel
theorem dX11_layOpen_22 : decode cX11_layOpen 22 = .ok (.iconst 2, 1) := by decide +kernel
theorem dX11_layOpen_23 : decode cX11_layOpen 23 = .ok (.istore_n 2, 1) := by decide +kernel
theorem dX11_layOpen_24 : decode cX11_layOpen 24 = .ok (.iload_n 2, 1) := by decide +kernel
theorem dX11_layOpen_25 : decode cX11_layOpen 25 = .ok (.bipush 10, 2) := by decide +kernel
theorem dX11_layOpen_27 : decode cX11_layOpen 27 = .ok (.if_icmp .gt 59, 3) := by decide +kernel
theorem dX11_layOpen_30 : decode cX11_layOpen 30 = .ok (.aload_n 0, 1) := by decide +kernel
theorem dX11_layOpen_31 : decode cX11_layOpen 31 = .ok (.iload_n 2, 1) := by decide +kernel
theorem dX11_layOpen_32 : decode cX11_layOpen 32 = .ok (.invokevirtual 204, 3) := by decide +kernel
theorem dX11_layOpen_35 : decode cX11_layOpen 35 = .ok (.iconst 0, 1) := by decide +kernel
theorem dX11_layOpen_36 : decode cX11_layOpen 36 = .ok (.istore_n 3, 1) := by decide +kernel
theorem dX11_layOpen_37 : decode cX11_layOpen 37 = .ok (.iload_n 3, 1) := by decide +kernel
theorem dX11_layOpen_38 : decode cX11_layOpen 38 = .ok (.sipush 1000, 3) := by decide +kernel
theorem dX11_layOpen_41 : decode cX11_layOpen 41 = .ok (.if_icmp .ge 39, 3) := by decide +kernel
theorem dX11_layOpen_44 : decode cX11_layOpen 44 = .ok (.aload_n 0, 1) := by decide +kernel
theorem dX11_layOpen_45 : decode cX11_layOpen 45 = .ok (.getfield 50, 3) := by decide +kernel
theorem dX11_layOpen_48 : decode cX11_layOpen 48 = .ok (.iload_n 3, 1) := by decide +kernel
theorem dX11_layOpen_49 : decode cX11_layOpen 49 = .ok (.aload_n 0, 1) := by decide +kernel
theorem dX11_layOpen_50 : decode cX11_layOpen 50 = .ok (.getfield 50, 3) := by decide +kernel
theorem dX11_layOpen_53 : decode cX11_layOpen 53 = .ok (.iload_n 3, 1) := by decide +kernel
theorem dX11_layOpen_54 : decode cX11_layOpen 54 = .ok (.baload, 1) := by decide +kernel
theorem dX11_layOpen_55 : decode cX11_layOpen 55 = .ok (.ifCond .eq 17, 3) := by decide +kernel
theorem dX11_layOpen_58 : decode cX11_layOpen 58 = .ok (.aload_n 0, 1) := by decide +kernel
theorem dX11_layOpen_59 : decode cX11_layOpen 59 = .ok (.iload_n 1, 1) := by decide +kernel
theorem dX11_layOpen_60 : decode cX11_layOpen 60 = .ok (.iload_n 3, 1) := by decide +kernel
theorem dX11_layOpen_61 : decode cX11_layOpen 61 = .ok (.i2l, 1) := by decide +kernel
theorem dX11_layOpen_62 : decode cX11_layOpen 62 = .ok (.invokevirtual 162, 3) := by decide +kernel
theorem dX11_layOpen_65 : decode cX11_layOpen 65 = .ok (.ifCond .ne 7, 3) := by decide +kernel
theorem dX11_layOpen_68 : decode cX11_layOpen 68 = .ok (.iconst 1, 1) := by decide +kernel
theorem dX11_layOpen_69 : decode cX11_layOpen 69 = .ok (.goto 4, 3) := by decide +kernel
theorem dX11_layOpen_72 : decode cX11_layOpen 72 = .ok (.iconst 0, 1) := by decide +kernel
theorem dX11_layOpen_73 : decode cX11_layOpen 73 = .ok (.bastore, 1) := by decide +kernel
theorem dX11_layOpen_74 : decode cX11_layOpen 74 = .ok (.iinc 3 1, 3) := by decide +kernel
theorem dX11_layOpen_77 : decode cX11_layOpen 77 = .ok (.goto (-40), 3) := by decide +kernel
theorem dX11_layOpen_80 : decode cX11_layOpen 80 = .ok (.iinc 2 1, 3) := by decide +kernel
theorem dX11_layOpen_83 : decode cX11_layOpen 83 = .ok (.goto (-59), 3) := by decide +kernel
theorem dX11_layOpen_86 : decode cX11_layOpen 86 = .ok (.return_, 1) := by decide +kernel
theorem dX11_openNow_0 : decode cX11_openNow 0 = .ok (.aload_n 0, 1) := by decide +kernel
theorem dX11_openNow_1 : decode cX11_openNow 1 = .ok (.iload_n 1, 1) := by decide +kernel
theorem dX11_openNow_2 : decode cX11_openNow 2 = .ok (.invokevirtual 281, 3) := by decide +kernel
theorem dX11_openNow_5 : decode cX11_openNow 5 = .ok (.iconst 0, 1) := by decide +kernel
theorem dX11_openNow_6 : decode cX11_openNow 6 = .ok (.istore_n 3, 1) := by decide +kernel
theorem dX11_openNow_7 : decode cX11_openNow 7 = .ok (.ldc 54, 2) := by decide +kernel
theorem dX11_openNow_9 : decode cX11_openNow 9 = .ok (.istore 4, 2) := by decide +kernel
theorem dX11_openNow_11 : decode cX11_openNow 11 = .ok (.iconst 0, 1) := by decide +kernel
theorem dX11_openNow_12 : decode cX11_openNow 12 = .ok (.istore 5, 2) := by decide +kernel
theorem dX11_openNow_14 : decode cX11_openNow 14 = .ok (.iload 5, 2) := by decide +kernel
theorem dX11_openNow_16 : decode cX11_openNow 16 = .ok (.sipush 1000, 3) := by decide +kernel
theorem dX11_openNow_19 : decode cX11_openNow 19 = .ok (.if_icmp .ge 46, 3) := by decide +kernel
theorem dX11_openNow_22 : decode cX11_openNow 22 = .ok (.iload_n 3, 1) := by decide +kernel
theorem dX11_openNow_23 : decode cX11_openNow 23 = .ok (.aload_n 0, 1) := by decide +kernel
theorem dX11_openNow_24 : decode cX11_openNow 24 = .ok (.getfield 50, 3) := by decide +kernel
theorem dX11_openNow_27 : decode cX11_openNow 27 = .ok (.iload 5, 2) := by decide +kernel
theorem dX11_openNow_29 : decode cX11_openNow 29 = .ok (.baload, 1) := by decide +kernel
theorem dX11_openNow_30 : decode cX11_openNow 30 = .ok (.ifCond .eq 7, 3) := by decide +kernel
theorem dX11_openNow_33 : decode cX11_openNow 33 = .ok (.iconst 1, 1) := by decide +kernel
theorem dX11_openNow_34 : decode cX11_openNow 34 = .ok (.goto 4, 3) := by decide +kernel
theorem dX11_openNow_37 : decode cX11_openNow 37 = .ok (.iconst 0, 1) := by decide +kernel
theorem dX11_openNow_38 : decode cX11_openNow 38 = .ok (.iadd, 1) := by decide +kernel
theorem dX11_openNow_39 : decode cX11_openNow 39 = .ok (.istore_n 3, 1) := by decide +kernel
theorem dX11_openNow_40 : decode cX11_openNow 40 = .ok (.aload_n 0, 1) := by decide +kernel
theorem dX11_openNow_41 : decode cX11_openNow 41 = .ok (.getfield 50, 3) := by decide +kernel
theorem dX11_openNow_44 : decode cX11_openNow 44 = .ok (.iload 5, 2) := by decide +kernel
theorem dX11_openNow_46 : decode cX11_openNow 46 = .ok (.baload, 1) := by decide +kernel
theorem dX11_openNow_47 : decode cX11_openNow 47 = .ok (.ifCond .eq 8, 3) := by decide +kernel
theorem dX11_openNow_50 : decode cX11_openNow 50 = .ok (.iload 5, 2) := by decide +kernel
theorem dX11_openNow_52 : decode cX11_openNow 52 = .ok (.goto 5, 3) := by decide +kernel
theorem dX11_openNow_55 : decode cX11_openNow 55 = .ok (.iload 4, 2) := by decide +kernel
theorem dX11_openNow_57 : decode cX11_openNow 57 = .ok (.istore 4, 2) := by decide +kernel
theorem dX11_openNow_59 : decode cX11_openNow 59 = .ok (.iinc 5 1, 3) := by decide +kernel
theorem dX11_openNow_62 : decode cX11_openNow 62 = .ok (.goto (-48), 3) := by decide +kernel
theorem dX11_openNow_65 : decode cX11_openNow 65 = .ok (.iload_n 2, 1) := by decide +kernel
theorem dX11_openNow_66 : decode cX11_openNow 66 = .ok (.ifCond .ne 7, 3) := by decide +kernel
theorem dX11_openNow_69 : decode cX11_openNow 69 = .ok (.iload_n 3, 1) := by decide +kernel
theorem dX11_openNow_70 : decode cX11_openNow 70 = .ok (.goto 5, 3) := by decide +kernel
theorem dX11_openNow_73 : decode cX11_openNow 73 = .ok (.iload 4, 2) := by decide +kernel
theorem dX11_openNow_75 : decode cX11_openNow 75 = .ok (.ireturn, 1) := by decide +kernel
theorem dX11_open_0 : decode cX11_open 0 = .ok (.aload_n 0, 1) := by decide +kernel
theorem dX11_open_1 : decode cX11_open 1 = .ok (.iload_n 1, 1) := by decide +kernel
theorem dX11_open_2 : decode cX11_open 2 = .ok (.invokevirtual 193, 3) := by decide +kernel
theorem dX11_open_5 : decode cX11_open 5 = .ok (.ifCond .ne 6, 3) := by decide +kernel
theorem dX11_open_8 : decode cX11_open 8 = .ok (.ldc 196, 2) := by decide +kernel
theorem dX11_open_10 : decode cX11_open 10 = .ok (.ireturn, 1) := by decide +kernel
theorem dX11_open_11 : decode cX11_open 11 = .ok (.iload_n 2, 1) := by decide +kernel
theorem dX11_open_12 : decode cX11_open 12 = .ok (.iconst 0, 1) := by decide +kernel
theorem dX11_open_13 : decode cX11_open 13 = .ok (.iconst 1, 1) := by decide +kernel
theorem dX11_open_14 : decode cX11_open 14 = .ok (.invokestatic 68, 3) := by decide +kernel
theorem dX11_open_17 : decode cX11_open 17 = .ok (.ifCond .eq 12, 3) := by decide +kernel
theorem dX11_open_20 : decode cX11_open 20 = .ok (.aload_n 0, 1) := by decide +kernel
theorem dX11_open_21 : decode cX11_open 21 = .ok (.iload_n 1, 1) := by decide +kernel
theorem dX11_open_22 : decode cX11_open 22 = .ok (.iload_n 2, 1) := by decide +kernel
theorem dX11_open_23 : decode cX11_open 23 = .ok (.invokevirtual 284, 3) := by decide +kernel
theorem dX11_open_26 : decode cX11_open 26 = .ok (.goto 5, 3) := by decide +kernel
theorem dX11_open_29 : decode cX11_open 29 = .ok (.ldc 72, 2) := by decide +kernel
theorem dX11_open_31 : decode cX11_open 31 = .ok (.ireturn, 1) := by decide +kernel
theorem dX11_meetsNow_0 : decode cX11_meetsNow 0 = .ok (.aload_n 0, 1) := by decide +kernel
theorem dX11_meetsNow_1 : decode cX11_meetsNow 1 = .ok (.iload_n 3, 1) := by decide +kernel
theorem dX11_meetsNow_2 : decode cX11_meetsNow 2 = .ok (.invokevirtual 204, 3) := by decide +kernel
theorem dX11_meetsNow_5 : decode cX11_meetsNow 5 = .ok (.aload_n 0, 1) := by decide +kernel
theorem dX11_meetsNow_6 : decode cX11_meetsNow 6 = .ok (.getfield 32, 3) := by decide +kernel
theorem dX11_meetsNow_9 : decode cX11_meetsNow 9 = .ok (.iload_n 1, 1) := by decide +kernel
theorem dX11_meetsNow_10 : decode cX11_meetsNow 10 = .ok (.iaload, 1) := by decide +kernel
theorem dX11_meetsNow_11 : decode cX11_meetsNow 11 = .ok (.aload_n 0, 1) := by decide +kernel
theorem dX11_meetsNow_12 : decode cX11_meetsNow 12 = .ok (.getfield 32, 3) := by decide +kernel
theorem dX11_meetsNow_15 : decode cX11_meetsNow 15 = .ok (.iload_n 2, 1) := by decide +kernel
theorem dX11_meetsNow_16 : decode cX11_meetsNow 16 = .ok (.iaload, 1) := by decide +kernel
theorem dX11_meetsNow_17 : decode cX11_meetsNow 17 = .ok (.iadd, 1) := by decide +kernel
theorem dX11_meetsNow_18 : decode cX11_meetsNow 18 = .ok (.aload_n 0, 1) := by decide +kernel
theorem dX11_meetsNow_19 : decode cX11_meetsNow 19 = .ok (.getfield 35, 3) := by decide +kernel
theorem dX11_meetsNow_22 : decode cX11_meetsNow 22 = .ok (.iload_n 1, 1) := by decide +kernel
theorem dX11_meetsNow_23 : decode cX11_meetsNow 23 = .ok (.iaload, 1) := by decide +kernel
theorem dX11_meetsNow_24 : decode cX11_meetsNow 24 = .ok (.aload_n 0, 1) := by decide +kernel
theorem dX11_meetsNow_25 : decode cX11_meetsNow 25 = .ok (.getfield 35, 3) := by decide +kernel
theorem dX11_meetsNow_28 : decode cX11_meetsNow 28 = .ok (.iload_n 2, 1) := by decide +kernel
theorem dX11_meetsNow_29 : decode cX11_meetsNow 29 = .ok (.iaload, 1) := by decide +kernel
theorem dX11_meetsNow_30 : decode cX11_meetsNow 30 = .ok (.imul, 1) := by decide +kernel
theorem dX11_meetsNow_31 : decode cX11_meetsNow 31 = .ok (.iadd, 1) := by decide +kernel
theorem dX11_meetsNow_32 : decode cX11_meetsNow 32 = .ok (.istore 4, 2) := by decide +kernel
theorem dX11_meetsNow_34 : decode cX11_meetsNow 34 = .ok (.iconst 0, 1) := by decide +kernel
theorem dX11_meetsNow_35 : decode cX11_meetsNow 35 = .ok (.istore 5, 2) := by decide +kernel
theorem dX11_meetsNow_37 : decode cX11_meetsNow 37 = .ok (.iload 5, 2) := by decide +kernel
theorem dX11_meetsNow_39 : decode cX11_meetsNow 39 = .ok (.iload 4, 2) := by decide +kernel
theorem dX11_meetsNow_41 : decode cX11_meetsNow 41 = .ok (.if_icmp .ge 31, 3) := by decide +kernel
theorem dX11_meetsNow_44 : decode cX11_meetsNow 44 = .ok (.aload_n 0, 1) := by decide +kernel
theorem dX11_meetsNow_45 : decode cX11_meetsNow 45 = .ok (.iload_n 1, 1) := by decide +kernel
theorem dX11_meetsNow_46 : decode cX11_meetsNow 46 = .ok (.iload 5, 2) := by decide +kernel
theorem dX11_meetsNow_48 : decode cX11_meetsNow 48 = .ok (.i2l, 1) := by decide +kernel
theorem dX11_meetsNow_49 : decode cX11_meetsNow 49 = .ok (.invokevirtual 162, 3) := by decide +kernel
theorem dX11_meetsNow_52 : decode cX11_meetsNow 52 = .ok (.aload_n 0, 1) := by decide +kernel
theorem dX11_meetsNow_53 : decode cX11_meetsNow 53 = .ok (.iload_n 2, 1) := by decide +kernel
theorem dX11_meetsNow_54 : decode cX11_meetsNow 54 = .ok (.iload 5, 2) := by decide +kernel
theorem dX11_meetsNow_56 : decode cX11_meetsNow 56 = .ok (.i2l, 1) := by decide +kernel
theorem dX11_meetsNow_57 : decode cX11_meetsNow 57 = .ok (.invokevirtual 162, 3) := by decide +kernel
theorem dX11_meetsNow_60 : decode cX11_meetsNow 60 = .ok (.if_icmp .ne 6, 3) := by decide +kernel
theorem dX11_meetsNow_63 : decode cX11_meetsNow 63 = .ok (.iload 5, 2) := by decide +kernel
theorem dX11_meetsNow_65 : decode cX11_meetsNow 65 = .ok (.ireturn, 1) := by decide +kernel
theorem dX11_meetsNow_66 : decode cX11_meetsNow 66 = .ok (.iinc 5 1, 3) := by decide +kernel
theorem dX11_meetsNow_69 : decode cX11_meetsNow 69 = .ok (.goto (-32), 3) := by decide +kernel
theorem dX11_meetsNow_72 : decode cX11_meetsNow 72 = .ok (.ldc 54, 2) := by decide +kernel
theorem dX11_meetsNow_74 : decode cX11_meetsNow 74 = .ok (.ireturn, 1) := by decide +kernel
theorem dX11_meets_0 : decode cX11_meets 0 = .ok (.aload_n 0, 1) := by decide +kernel
theorem dX11_meets_1 : decode cX11_meets 1 = .ok (.iload_n 1, 1) := by decide +kernel
theorem dX11_meets_2 : decode cX11_meets 2 = .ok (.invokevirtual 193, 3) := by decide +kernel
theorem dX11_meets_5 : decode cX11_meets 5 = .ok (.ifCond .eq 11, 3) := by decide +kernel
theorem dX11_meets_8 : decode cX11_meets 8 = .ok (.aload_n 0, 1) := by decide +kernel
theorem dX11_meets_9 : decode cX11_meets 9 = .ok (.iload_n 2, 1) := by decide +kernel
theorem dX11_meets_10 : decode cX11_meets 10 = .ok (.invokevirtual 193, 3) := by decide +kernel
theorem dX11_meets_13 : decode cX11_meets 13 = .ok (.ifCond .ne 6, 3) := by decide +kernel
theorem dX11_meets_16 : decode cX11_meets 16 = .ok (.ldc 196, 2) := by decide +kernel
theorem dX11_meets_18 : decode cX11_meets 18 = .ok (.ireturn, 1) := by decide +kernel
theorem dX11_meets_19 : decode cX11_meets 19 = .ok (.iload_n 3, 1) := by decide +kernel
theorem dX11_meets_20 : decode cX11_meets 20 = .ok (.iconst 2, 1) := by decide +kernel
theorem dX11_meets_21 : decode cX11_meets 21 = .ok (.bipush 10, 2) := by decide +kernel
theorem dX11_meets_23 : decode cX11_meets 23 = .ok (.invokestatic 68, 3) := by decide +kernel
theorem dX11_meets_26 : decode cX11_meets 26 = .ok (.ifCond .eq 13, 3) := by decide +kernel
theorem dX11_meets_29 : decode cX11_meets 29 = .ok (.aload_n 0, 1) := by decide +kernel
theorem dX11_meets_30 : decode cX11_meets 30 = .ok (.iload_n 1, 1) := by decide +kernel
theorem dX11_meets_31 : decode cX11_meets 31 = .ok (.iload_n 2, 1) := by decide +kernel
theorem dX11_meets_32 : decode cX11_meets 32 = .ok (.iload_n 3, 1) := by decide +kernel
theorem dX11_meets_33 : decode cX11_meets 33 = .ok (.invokevirtual 287, 3) := by decide +kernel
theorem dX11_meets_36 : decode cX11_meets 36 = .ok (.goto 5, 3) := by decide +kernel
theorem dX11_meets_39 : decode cX11_meets 39 = .ok (.ldc 72, 2) := by decide +kernel
theorem dX11_meets_41 : decode cX11_meets 41 = .ok (.ireturn, 1) := by decide +kernel
theorem dX11_lay_0 : decode cX11_lay 0 = .ok (.aload_n 0, 1) := by decide +kernel
theorem dX11_lay_1 : decode cX11_lay 1 = .ok (.getfield 7, 3) := by decide +kernel
theorem dX11_lay_4 : decode cX11_lay 4 = .ok (.iload_n 1, 1) := by decide +kernel
theorem dX11_lay_5 : decode cX11_lay 5 = .ok (.iload_n 2, 1) := by decide +kernel
theorem dX11_lay_6 : decode cX11_lay 6 = .ok (.iastore, 1) := by decide +kernel
theorem dX11_lay_7 : decode cX11_lay 7 = .ok (.aload_n 0, 1) := by decide +kernel
theorem dX11_lay_8 : decode cX11_lay 8 = .ok (.getfield 13, 3) := by decide +kernel
theorem dX11_lay_11 : decode cX11_lay 11 = .ok (.iconst 4, 1) := by decide +kernel
theorem dX11_lay_12 : decode cX11_lay 12 = .ok (.iload_n 1, 1) := by decide +kernel
theorem dX11_lay_13 : decode cX11_lay 13 = .ok (.imul, 1) := by decide +kernel
theorem dX11_lay_14 : decode cX11_lay 14 = .ok (.iload_n 3, 1) := by decide +kernel
theorem dX11_lay_15 : decode cX11_lay 15 = .ok (.iastore, 1) := by decide +kernel
theorem dX11_lay_16 : decode cX11_lay 16 = .ok (.aload_n 0, 1) := by decide +kernel
theorem dX11_lay_17 : decode cX11_lay 17 = .ok (.getfield 13, 3) := by decide +kernel
theorem dX11_lay_20 : decode cX11_lay 20 = .ok (.iconst 4, 1) := by decide +kernel
theorem dX11_lay_21 : decode cX11_lay 21 = .ok (.iload_n 1, 1) := by decide +kernel
theorem dX11_lay_22 : decode cX11_lay 22 = .ok (.imul, 1) := by decide +kernel
theorem dX11_lay_23 : decode cX11_lay 23 = .ok (.iconst 1, 1) := by decide +kernel
theorem dX11_lay_24 : decode cX11_lay 24 = .ok (.iadd, 1) := by decide +kernel
theorem dX11_lay_25 : decode cX11_lay 25 = .ok (.iload 4, 2) := by decide +kernel
theorem dX11_lay_27 : decode cX11_lay 27 = .ok (.iastore, 1) := by decide +kernel
theorem dX11_lay_28 : decode cX11_lay 28 = .ok (.aload_n 0, 1) := by decide +kernel
theorem dX11_lay_29 : decode cX11_lay 29 = .ok (.getfield 13, 3) := by decide +kernel
theorem dX11_lay_32 : decode cX11_lay 32 = .ok (.iconst 4, 1) := by decide +kernel
theorem dX11_lay_33 : decode cX11_lay 33 = .ok (.iload_n 1, 1) := by decide +kernel
theorem dX11_lay_34 : decode cX11_lay 34 = .ok (.imul, 1) := by decide +kernel
theorem dX11_lay_35 : decode cX11_lay 35 = .ok (.iconst 2, 1) := by decide +kernel
theorem dX11_lay_36 : decode cX11_lay 36 = .ok (.iadd, 1) := by decide +kernel
theorem dX11_lay_37 : decode cX11_lay 37 = .ok (.iload 5, 2) := by decide +kernel
theorem dX11_lay_39 : decode cX11_lay 39 = .ok (.iastore, 1) := by decide +kernel
theorem dX11_lay_40 : decode cX11_lay 40 = .ok (.aload_n 0, 1) := by decide +kernel
theorem dX11_lay_41 : decode cX11_lay 41 = .ok (.getfield 13, 3) := by decide +kernel
theorem dX11_lay_44 : decode cX11_lay 44 = .ok (.iconst 4, 1) := by decide +kernel
theorem dX11_lay_45 : decode cX11_lay 45 = .ok (.iload_n 1, 1) := by decide +kernel
theorem dX11_lay_46 : decode cX11_lay 46 = .ok (.imul, 1) := by decide +kernel
theorem dX11_lay_47 : decode cX11_lay 47 = .ok (.iconst 3, 1) := by decide +kernel
theorem dX11_lay_48 : decode cX11_lay 48 = .ok (.iadd, 1) := by decide +kernel
theorem dX11_lay_49 : decode cX11_lay 49 = .ok (.iload 6, 2) := by decide +kernel
theorem dX11_lay_51 : decode cX11_lay 51 = .ok (.iastore, 1) := by decide +kernel
theorem dX11_lay_52 : decode cX11_lay 52 = .ok (.aload_n 0, 1) := by decide +kernel
theorem dX11_lay_53 : decode cX11_lay 53 = .ok (.invokevirtual 122, 3) := by decide +kernel
theorem dX11_lay_56 : decode cX11_lay 56 = .ok (.return_, 1) := by decide +kernel
theorem dX11_comes_0 : decode cX11_comes 0 = .ok (.aload_n 0, 1) := by decide +kernel
theorem dX11_comes_1 : decode cX11_comes 1 = .ok (.getfield 116, 3) := by decide +kernel
theorem dX11_comes_4 : decode cX11_comes 4 = .ok (.bipush 8, 2) := by decide +kernel
theorem dX11_comes_6 : decode cX11_comes 6 = .ok (.if_icmp .ne 6, 3) := by decide +kernel
theorem dX11_comes_9 : decode cX11_comes 9 = .ok (.ldc 76, 2) := by decide +kernel
theorem dX11_comes_11 : decode cX11_comes 11 = .ok (.ireturn, 1) := by decide +kernel
theorem dX11_comes_12 : decode cX11_comes 12 = .ok (.aload_n 0, 1) := by decide +kernel
theorem dX11_comes_13 : decode cX11_comes 13 = .ok (.aload_n 0, 1) := by decide +kernel
theorem dX11_comes_14 : decode cX11_comes 14 = .ok (.getfield 116, 3) := by decide +kernel
theorem dX11_comes_17 : decode cX11_comes 17 = .ok (.iload_n 1, 1) := by decide +kernel
theorem dX11_comes_18 : decode cX11_comes 18 = .ok (.iload_n 2, 1) := by decide +kernel
theorem dX11_comes_19 : decode cX11_comes 19 = .ok (.iload_n 3, 1) := by decide +kernel
theorem dX11_comes_20 : decode cX11_comes 20 = .ok (.iload 4, 2) := by decide +kernel
theorem dX11_comes_22 : decode cX11_comes 22 = .ok (.iload 5, 2) := by decide +kernel
theorem dX11_comes_24 : decode cX11_comes 24 = .ok (.invokevirtual 290, 3) := by decide +kernel
theorem dX11_comes_27 : decode cX11_comes 27 = .ok (.aload_n 0, 1) := by decide +kernel
theorem dX11_comes_28 : decode cX11_comes 28 = .ok (.dup, 1) := by decide +kernel
theorem dX11_comes_29 : decode cX11_comes 29 = .ok (.getfield 116, 3) := by decide +kernel
theorem dX11_comes_32 : decode cX11_comes 32 = .ok (.iconst 1, 1) := by decide +kernel
theorem dX11_comes_33 : decode cX11_comes 33 = .ok (.iadd, 1) := by decide +kernel
theorem dX11_comes_34 : decode cX11_comes 34 = .ok (.putfield 116, 3) := by decide +kernel
theorem dX11_comes_37 : decode cX11_comes 37 = .ok (.aload_n 0, 1) := by decide +kernel
theorem dX11_comes_38 : decode cX11_comes 38 = .ok (.getfield 116, 3) := by decide +kernel
theorem dX11_comes_41 : decode cX11_comes 41 = .ok (.iconst 1, 1) := by decide +kernel
theorem dX11_comes_42 : decode cX11_comes 42 = .ok (.isub, 1) := by decide +kernel
theorem dX11_comes_43 : decode cX11_comes 43 = .ok (.ireturn, 1) := by decide +kernel
theorem dX11_isFew_0 : decode cX11_isFew 0 = .ok (.iload_n 0, 1) := by decide +kernel
theorem dX11_isFew_1 : decode cX11_isFew 1 = .ok (.bipush (-9), 2) := by decide +kernel
theorem dX11_isFew_3 : decode cX11_isFew 3 = .ok (.bipush 9, 2) := by decide +kernel
theorem dX11_isFew_5 : decode cX11_isFew 5 = .ok (.invokestatic 68, 3) := by decide +kernel
theorem dX11_isFew_8 : decode cX11_isFew 8 = .ok (.ireturn, 1) := by decide +kernel
theorem dX11_isMany_0 : decode cX11_isMany 0 = .ok (.iload_n 0, 1) := by decide +kernel
theorem dX11_isMany_1 : decode cX11_isMany 1 = .ok (.sipush (-999), 3) := by decide +kernel
theorem dX11_isMany_4 : decode cX11_isMany 4 = .ok (.sipush 999, 3) := by decide +kernel
theorem dX11_isMany_7 : decode cX11_isMany 7 = .ok (.invokestatic 68, 3) := by decide +kernel
theorem dX11_isMany_10 : decode cX11_isMany 10 = .ok (.ireturn, 1) := by decide +kernel
theorem dX11_told_0 : decode cX11_told 0 = .ok (.iload_n 1, 1) := by decide +kernel
theorem dX11_told_1 : decode cX11_told 1 = .ok (.invokestatic 294, 3) := by decide +kernel
theorem dX11_told_4 : decode cX11_told 4 = .ok (.ifCond .eq 38, 3) := by decide +kernel
theorem dX11_told_7 : decode cX11_told 7 = .ok (.iload_n 2, 1) := by decide +kernel
theorem dX11_told_8 : decode cX11_told 8 = .ok (.invokestatic 294, 3) := by decide +kernel
theorem dX11_told_11 : decode cX11_told 11 = .ok (.ifCond .eq 31, 3) := by decide +kernel
theorem dX11_told_14 : decode cX11_told 14 = .ok (.iload_n 3, 1) := by decide +kernel
theorem dX11_told_15 : decode cX11_told 15 = .ok (.invokestatic 297, 3) := by decide +kernel
theorem dX11_told_18 : decode cX11_told 18 = .ok (.ifCond .eq 24, 3) := by decide +kernel
theorem dX11_told_21 : decode cX11_told 21 = .ok (.iload 4, 2) := by decide +kernel
theorem dX11_told_23 : decode cX11_told 23 = .ok (.invokestatic 297, 3) := by decide +kernel
theorem dX11_told_26 : decode cX11_told 26 = .ok (.ifCond .eq 16, 3) := by decide +kernel
theorem dX11_told_29 : decode cX11_told 29 = .ok (.aload_n 0, 1) := by decide +kernel
theorem dX11_told_30 : decode cX11_told 30 = .ok (.iconst 0, 1) := by decide +kernel
theorem dX11_told_31 : decode cX11_told 31 = .ok (.iload_n 1, 1) := by decide +kernel
theorem dX11_told_32 : decode cX11_told 32 = .ok (.iload_n 2, 1) := by decide +kernel
theorem dX11_told_33 : decode cX11_told 33 = .ok (.iload_n 3, 1) := by decide +kernel
theorem dX11_told_34 : decode cX11_told 34 = .ok (.iload 4, 2) := by decide +kernel
theorem dX11_told_36 : decode cX11_told 36 = .ok (.invokevirtual 300, 3) := by decide +kernel
theorem dX11_told_39 : decode cX11_told 39 = .ok (.goto 5, 3) := by decide +kernel
theorem dX11_told_42 : decode cX11_told 42 = .ok (.ldc 72, 2) := by decide +kernel
theorem dX11_told_44 : decode cX11_told 44 = .ok (.ireturn, 1) := by decide +kernel
theorem dX11_sum_0 : decode cX11_sum 0 = .ok (.aload_n 0, 1) := by decide +kernel
theorem dX11_sum_1 : decode cX11_sum 1 = .ok (.iload_n 1, 1) := by decide +kernel
theorem dX11_sum_2 : decode cX11_sum 2 = .ok (.invokevirtual 193, 3) := by decide +kernel
theorem dX11_sum_5 : decode cX11_sum 5 = .ok (.ifCond .eq 25, 3) := by decide +kernel
theorem dX11_sum_8 : decode cX11_sum 8 = .ok (.aload_n 0, 1) := by decide +kernel
theorem dX11_sum_9 : decode cX11_sum 9 = .ok (.iload_n 2, 1) := by decide +kernel
theorem dX11_sum_10 : decode cX11_sum 10 = .ok (.invokevirtual 193, 3) := by decide +kernel
theorem dX11_sum_13 : decode cX11_sum 13 = .ok (.ifCond .eq 17, 3) := by decide +kernel
theorem dX11_sum_16 : decode cX11_sum 16 = .ok (.aload_n 0, 1) := by decide +kernel
theorem dX11_sum_17 : decode cX11_sum 17 = .ok (.iconst 1, 1) := by decide +kernel
theorem dX11_sum_18 : decode cX11_sum 18 = .ok (.iload_n 1, 1) := by decide +kernel
theorem dX11_sum_19 : decode cX11_sum 19 = .ok (.iload_n 2, 1) := by decide +kernel
theorem dX11_sum_20 : decode cX11_sum 20 = .ok (.ldc 54, 2) := by decide +kernel
theorem dX11_sum_22 : decode cX11_sum 22 = .ok (.ldc 54, 2) := by decide +kernel
theorem dX11_sum_24 : decode cX11_sum 24 = .ok (.invokevirtual 300, 3) := by decide +kernel
theorem dX11_sum_27 : decode cX11_sum 27 = .ok (.goto 5, 3) := by decide +kernel
theorem dX11_sum_30 : decode cX11_sum 30 = .ok (.ldc 196, 2) := by decide +kernel
theorem dX11_sum_32 : decode cX11_sum 32 = .ok (.ireturn, 1) := by decide +kernel
theorem dX11_product_0 : decode cX11_product 0 = .ok (.aload_n 0, 1) := by decide +kernel
theorem dX11_product_1 : decode cX11_product 1 = .ok (.iload_n 1, 1) := by decide +kernel
theorem dX11_product_2 : decode cX11_product 2 = .ok (.invokevirtual 193, 3) := by decide +kernel
theorem dX11_product_5 : decode cX11_product 5 = .ok (.ifCond .eq 25, 3) := by decide +kernel
theorem dX11_product_8 : decode cX11_product 8 = .ok (.aload_n 0, 1) := by decide +kernel
theorem dX11_product_9 : decode cX11_product 9 = .ok (.iload_n 2, 1) := by decide +kernel
theorem dX11_product_10 : decode cX11_product 10 = .ok (.invokevirtual 193, 3) := by decide +kernel
theorem dX11_product_13 : decode cX11_product 13 = .ok (.ifCond .eq 17, 3) := by decide +kernel
theorem dX11_product_16 : decode cX11_product 16 = .ok (.aload_n 0, 1) := by decide +kernel
theorem dX11_product_17 : decode cX11_product 17 = .ok (.iconst 2, 1) := by decide +kernel
theorem dX11_product_18 : decode cX11_product 18 = .ok (.iload_n 1, 1) := by decide +kernel
theorem dX11_product_19 : decode cX11_product 19 = .ok (.iload_n 2, 1) := by decide +kernel
theorem dX11_product_20 : decode cX11_product 20 = .ok (.ldc 54, 2) := by decide +kernel
theorem dX11_product_22 : decode cX11_product 22 = .ok (.ldc 54, 2) := by decide +kernel
theorem dX11_product_24 : decode cX11_product 24 = .ok (.invokevirtual 300, 3) := by decide +kernel
theorem dX11_product_27 : decode cX11_product 27 = .ok (.goto 5, 3) := by decide +kernel
theorem dX11_product_30 : decode cX11_product 30 = .ok (.ldc 196, 2) := by decide +kernel
theorem dX11_product_32 : decode cX11_product 32 = .ok (.ireturn, 1) := by decide +kernel
theorem dX11_each_0 : decode cX11_each 0 = .ok (.aload_n 0, 1) := by decide +kernel
theorem dX11_each_1 : decode cX11_each 1 = .ok (.iload_n 1, 1) := by decide +kernel
theorem dX11_each_2 : decode cX11_each 2 = .ok (.invokevirtual 193, 3) := by decide +kernel
theorem dX11_each_5 : decode cX11_each 5 = .ok (.ifCond .ne 6, 3) := by decide +kernel
theorem dX11_each_8 : decode cX11_each 8 = .ok (.ldc 196, 2) := by decide +kernel
theorem dX11_each_10 : decode cX11_each 10 = .ok (.ireturn, 1) := by decide +kernel
theorem dX11_each_11 : decode cX11_each 11 = .ok (.iload_n 2, 1) := by decide +kernel
theorem dX11_each_12 : decode cX11_each 12 = .ok (.iconst 1, 1) := by decide +kernel
theorem dX11_each_13 : decode cX11_each 13 = .ok (.iconst 5, 1) := by decide +kernel
theorem dX11_each_14 : decode cX11_each 14 = .ok (.invokestatic 68, 3) := by decide +kernel
theorem dX11_each_17 : decode cX11_each 17 = .ok (.ifCond .eq 26, 3) := by decide +kernel
theorem dX11_each_20 : decode cX11_each 20 = .ok (.iload_n 3, 1) := by decide +kernel
theorem dX11_each_21 : decode cX11_each 21 = .ok (.iconst 0, 1) := by decide +kernel
theorem dX11_each_22 : decode cX11_each 22 = .ok (.bipush 9, 2) := by decide +kernel
theorem dX11_each_24 : decode cX11_each 24 = .ok (.invokestatic 68, 3) := by decide +kernel
theorem dX11_each_27 : decode cX11_each 27 = .ok (.ifCond .eq 16, 3) := by decide +kernel
theorem dX11_each_30 : decode cX11_each 30 = .ok (.aload_n 0, 1) := by decide +kernel
theorem dX11_each_31 : decode cX11_each 31 = .ok (.iconst 3, 1) := by decide +kernel
theorem dX11_each_32 : decode cX11_each 32 = .ok (.iload_n 1, 1) := by decide +kernel
theorem dX11_each_33 : decode cX11_each 33 = .ok (.iload_n 2, 1) := by decide +kernel
theorem dX11_each_34 : decode cX11_each 34 = .ok (.iload_n 3, 1) := by decide +kernel
theorem dX11_each_35 : decode cX11_each 35 = .ok (.ldc 54, 2) := by decide +kernel
theorem dX11_each_37 : decode cX11_each 37 = .ok (.invokevirtual 300, 3) := by decide +kernel
theorem dX11_each_40 : decode cX11_each 40 = .ok (.goto 5, 3) := by decide +kernel
theorem dX11_each_43 : decode cX11_each 43 = .ok (.ldc 72, 2) := by decide +kernel
theorem dX11_each_45 : decode cX11_each 45 = .ok (.ireturn, 1) := by decide +kernel
theorem dX11_step_0 : decode cX11_step 0 = .ok (.aload_n 0, 1) := by decide +kernel
theorem dX11_step_1 : decode cX11_step 1 = .ok (.iload_n 1, 1) := by decide +kernel
theorem dX11_step_2 : decode cX11_step 2 = .ok (.invokevirtual 193, 3) := by decide +kernel
theorem dX11_step_5 : decode cX11_step 5 = .ok (.ifCond .eq 18, 3) := by decide +kernel
theorem dX11_step_8 : decode cX11_step 8 = .ok (.aload_n 0, 1) := by decide +kernel
theorem dX11_step_9 : decode cX11_step 9 = .ok (.iconst 4, 1) := by decide +kernel
theorem dX11_step_10 : decode cX11_step 10 = .ok (.iload_n 1, 1) := by decide +kernel
theorem dX11_step_11 : decode cX11_step 11 = .ok (.ldc 54, 2) := by decide +kernel
theorem dX11_step_13 : decode cX11_step 13 = .ok (.ldc 54, 2) := by decide +kernel
theorem dX11_step_15 : decode cX11_step 15 = .ok (.ldc 54, 2) := by decide +kernel
theorem dX11_step_17 : decode cX11_step 17 = .ok (.invokevirtual 300, 3) := by decide +kernel
theorem dX11_step_20 : decode cX11_step 20 = .ok (.goto 5, 3) := by decide +kernel
theorem dX11_step_23 : decode cX11_step 23 = .ok (.ldc 196, 2) := by decide +kernel
theorem dX11_step_25 : decode cX11_step 25 = .ok (.ireturn, 1) := by decide +kernel
theorem dX11_put_0 : decode cX11_put 0 = .ok (.aload_n 0, 1) := by decide +kernel
theorem dX11_put_1 : decode cX11_put 1 = .ok (.iload_n 1, 1) := by decide +kernel
theorem dX11_put_2 : decode cX11_put 2 = .ok (.invokevirtual 193, 3) := by decide +kernel
theorem dX11_put_5 : decode cX11_put 5 = .ok (.ifCond .ne 6, 3) := by decide +kernel
theorem dX11_put_8 : decode cX11_put 8 = .ok (.ldc 196, 2) := by decide +kernel
theorem dX11_put_10 : decode cX11_put 10 = .ok (.ireturn, 1) := by decide +kernel
theorem dX11_put_11 : decode cX11_put 11 = .ok (.iload_n 2, 1) := by decide +kernel
theorem dX11_put_12 : decode cX11_put 12 = .ok (.iconst 0, 1) := by decide +kernel
theorem dX11_put_13 : decode cX11_put 13 = .ok (.iconst 3, 1) := by decide +kernel
theorem dX11_put_14 : decode cX11_put 14 = .ok (.invokestatic 68, 3) := by decide +kernel
theorem dX11_put_17 : decode cX11_put 17 = .ok (.ifCond .ne 6, 3) := by decide +kernel
theorem dX11_put_20 : decode cX11_put 20 = .ok (.ldc 72, 2) := by decide +kernel
theorem dX11_put_22 : decode cX11_put 22 = .ok (.ireturn, 1) := by decide +kernel
theorem dX11_put_23 : decode cX11_put 23 = .ok (.aload_n 0, 1) := by decide +kernel
theorem dX11_put_24 : decode cX11_put 24 = .ok (.iload_n 1, 1) := by decide +kernel
theorem dX11_put_25 : decode cX11_put 25 = .ok (.invokevirtual 245, 3) := by decide +kernel
theorem dX11_put_28 : decode cX11_put 28 = .ok (.ifCond .ne 6, 3) := by decide +kernel
theorem dX11_put_31 : decode cX11_put 31 = .ok (.ldc 115, 2) := by decide +kernel
theorem dX11_put_33 : decode cX11_put 33 = .ok (.ireturn, 1) := by decide +kernel
theorem dX11_put_34 : decode cX11_put 34 = .ok (.iload_n 2, 1) := by decide +kernel
theorem dX11_put_35 : decode cX11_put 35 = .ok (.iconst 2, 1) := by decide +kernel
theorem dX11_put_36 : decode cX11_put 36 = .ok (.if_icmp .ge 13, 3) := by decide +kernel
theorem dX11_put_39 : decode cX11_put 39 = .ok (.iload_n 3, 1) := by decide +kernel
theorem dX11_put_40 : decode cX11_put 40 = .ok (.invokestatic 294, 3) := by decide +kernel
theorem dX11_put_43 : decode cX11_put 43 = .ok (.ifCond .ne 16, 3) := by decide +kernel
theorem dX11_put_46 : decode cX11_put 46 = .ok (.goto 10, 3) := by decide +kernel
theorem dX11_put_49 : decode cX11_put 49 = .ok (.iload_n 3, 1) := by decide +kernel
theorem dX11_put_50 : decode cX11_put 50 = .ok (.invokestatic 297, 3) := by decide +kernel
theorem dX11_put_53 : decode cX11_put 53 = .ok (.ifCond .ne 6, 3) := by decide +kernel
theorem dX11_put_56 : decode cX11_put 56 = .ok (.ldc 72, 2) := by decide +kernel
theorem dX11_put_58 : decode cX11_put 58 = .ok (.ireturn, 1) := by decide +kernel
theorem dX11_put_59 : decode cX11_put 59 = .ok (.aload_n 0, 1) := by decide +kernel
theorem dX11_put_60 : decode cX11_put 60 = .ok (.getfield 13, 3) := by decide +kernel
theorem dX11_put_63 : decode cX11_put 63 = .ok (.iconst 4, 1) := by decide +kernel
theorem dX11_put_64 : decode cX11_put 64 = .ok (.iload_n 1, 1) := by decide +kernel
theorem dX11_put_65 : decode cX11_put 65 = .ok (.imul, 1) := by decide +kernel
theorem dX11_put_66 : decode cX11_put 66 = .ok (.iload_n 2, 1) := by decide +kernel
theorem dX11_put_67 : decode cX11_put 67 = .ok (.iadd, 1) := by decide +kernel
theorem dX11_put_68 : decode cX11_put 68 = .ok (.iaload, 1) := by decide +kernel
theorem dX11_put_69 : decode cX11_put 69 = .ok (.istore 4, 2) := by decide +kernel
theorem dX11_put_71 : decode cX11_put 71 = .ok (.aload_n 0, 1) := by decide +kernel
theorem dX11_put_72 : decode cX11_put 72 = .ok (.getfield 13, 3) := by decide +kernel
theorem dX11_put_75 : decode cX11_put 75 = .ok (.iconst 4, 1) := by decide +kernel
theorem dX11_put_76 : decode cX11_put 76 = .ok (.iload_n 1, 1) := by decide +kernel
theorem dX11_put_77 : decode cX11_put 77 = .ok (.imul, 1) := by decide +kernel
theorem dX11_put_78 : decode cX11_put 78 = .ok (.iload_n 2, 1) := by decide +kernel
theorem dX11_put_79 : decode cX11_put 79 = .ok (.iadd, 1) := by decide +kernel
theorem dX11_put_80 : decode cX11_put 80 = .ok (.iload_n 3, 1) := by decide +kernel
theorem dX11_put_81 : decode cX11_put 81 = .ok (.iastore, 1) := by decide +kernel
theorem dX11_put_82 : decode cX11_put 82 = .ok (.aload_n 0, 1) := by decide +kernel
theorem dX11_put_83 : decode cX11_put 83 = .ok (.invokevirtual 122, 3) := by decide +kernel
theorem dX11_put_86 : decode cX11_put 86 = .ok (.iload 4, 2) := by decide +kernel
theorem dX11_put_88 : decode cX11_put 88 = .ok (.ireturn, 1) := by decide +kernel
theorem dX11_drop_0 : decode cX11_drop 0 = .ok (.aload_n 0, 1) := by decide +kernel
theorem dX11_drop_1 : decode cX11_drop 1 = .ok (.getfield 116, 3) := by decide +kernel
theorem dX11_drop_4 : decode cX11_drop 4 = .ok (.ifCond .ne 6, 3) := by decide +kernel
theorem dX11_drop_7 : decode cX11_drop 7 = .ok (.ldc 115, 2) := by decide +kernel
theorem dX11_drop_9 : decode cX11_drop 9 = .ok (.ireturn, 1) := by decide +kernel
theorem dX11_drop_10 : decode cX11_drop 10 = .ok (.aload_n 0, 1) := by decide +kernel
theorem dX11_drop_11 : decode cX11_drop 11 = .ok (.dup, 1) := by decide +kernel
theorem dX11_drop_12 : decode cX11_drop 12 = .ok (.getfield 116, 3) := by decide +kernel
theorem dX11_drop_15 : decode cX11_drop 15 = .ok (.iconst 1, 1) := by decide +kernel
theorem dX11_drop_16 : decode cX11_drop 16 = .ok (.isub, 1) := by decide +kernel
theorem dX11_drop_17 : decode cX11_drop 17 = .ok (.putfield 116, 3) := by decide +kernel
theorem dX11_drop_20 : decode cX11_drop 20 = .ok (.aload_n 0, 1) := by decide +kernel
theorem dX11_drop_21 : decode cX11_drop 21 = .ok (.getfield 116, 3) := by decide +kernel
theorem dX11_drop_24 : decode cX11_drop 24 = .ok (.ireturn, 1) := by decide +kernel
theorem dX11_isPower_0 : decode cX11_isPower 0 = .ok (.aload_n 0, 1) := by decide +kernel
theorem dX11_isPower_1 : decode cX11_isPower 1 = .ok (.getfield 13, 3) := by decide +kernel
theorem dX11_isPower_4 : decode cX11_isPower 4 = .ok (.iconst 4, 1) := by decide +kernel
theorem dX11_isPower_5 : decode cX11_isPower 5 = .ok (.iload_n 1, 1) := by decide +kernel
theorem dX11_isPower_6 : decode cX11_isPower 6 = .ok (.imul, 1) := by decide +kernel
theorem dX11_isPower_7 : decode cX11_isPower 7 = .ok (.iconst 1, 1) := by decide +kernel
theorem dX11_isPower_8 : decode cX11_isPower 8 = .ok (.iadd, 1) := by decide +kernel
theorem dX11_isPower_9 : decode cX11_isPower 9 = .ok (.iaload, 1) := by decide +kernel
theorem dX11_isPower_10 : decode cX11_isPower 10 = .ok (.ifCond .ne 39, 3) := by decide +kernel
theorem dX11_isPower_13 : decode cX11_isPower 13 = .ok (.aload_n 0, 1) := by decide +kernel
theorem dX11_isPower_14 : decode cX11_isPower 14 = .ok (.getfield 13, 3) := by decide +kernel
theorem dX11_isPower_17 : decode cX11_isPower 17 = .ok (.iconst 4, 1) := by decide +kernel
theorem dX11_isPower_18 : decode cX11_isPower 18 = .ok (.iload_n 1, 1) := by decide +kernel
theorem dX11_isPower_19 : decode cX11_isPower 19 = .ok (.imul, 1) := by decide +kernel
theorem dX11_isPower_20 : decode cX11_isPower 20 = .ok (.iconst 3, 1) := by decide +kernel
theorem dX11_isPower_21 : decode cX11_isPower 21 = .ok (.iadd, 1) := by decide +kernel
theorem dX11_isPower_22 : decode cX11_isPower 22 = .ok (.iaload, 1) := by decide +kernel
theorem dX11_isPower_23 : decode cX11_isPower 23 = .ok (.aload_n 0, 1) := by decide +kernel
theorem dX11_isPower_24 : decode cX11_isPower 24 = .ok (.getfield 13, 3) := by decide +kernel
theorem dX11_isPower_27 : decode cX11_isPower 27 = .ok (.iconst 4, 1) := by decide +kernel
theorem dX11_isPower_28 : decode cX11_isPower 28 = .ok (.iload_n 1, 1) := by decide +kernel
theorem dX11_isPower_29 : decode cX11_isPower 29 = .ok (.imul, 1) := by decide +kernel
theorem dX11_isPower_30 : decode cX11_isPower 30 = .ok (.iaload, 1) := by decide +kernel
theorem dX11_isPower_31 : decode cX11_isPower 31 = .ok (.aload_n 0, 1) := by decide +kernel
theorem dX11_isPower_32 : decode cX11_isPower 32 = .ok (.getfield 13, 3) := by decide +kernel
theorem dX11_isPower_35 : decode cX11_isPower 35 = .ok (.iconst 4, 1) := by decide +kernel
theorem dX11_isPower_36 : decode cX11_isPower 36 = .ok (.iload_n 1, 1) := by decide +kernel
theorem dX11_isPower_37 : decode cX11_isPower 37 = .ok (.imul, 1) := by decide +kernel
theorem dX11_isPower_38 : decode cX11_isPower 38 = .ok (.iconst 2, 1) := by decide +kernel
theorem dX11_isPower_39 : decode cX11_isPower 39 = .ok (.iadd, 1) := by decide +kernel
theorem dX11_isPower_40 : decode cX11_isPower 40 = .ok (.iaload, 1) := by decide +kernel
theorem dX11_isPower_41 : decode cX11_isPower 41 = .ok (.imul, 1) := by decide +kernel
theorem dX11_isPower_42 : decode cX11_isPower 42 = .ok (.if_icmp .ne 7, 3) := by decide +kernel
theorem dX11_isPower_45 : decode cX11_isPower 45 = .ok (.iconst 1, 1) := by decide +kernel
theorem dX11_isPower_46 : decode cX11_isPower 46 = .ok (.goto 4, 3) := by decide +kernel
theorem dX11_isPower_49 : decode cX11_isPower 49 = .ok (.iconst 0, 1) := by decide +kernel
theorem dX11_isPower_50 : decode cX11_isPower 50 = .ok (.ireturn, 1) := by decide +kernel
theorem dX11_powersIn_0 : decode cX11_powersIn 0 = .ok (.aload_n 0, 1) := by decide +kernel
theorem dX11_powersIn_1 : decode cX11_powersIn 1 = .ok (.getfield 13, 3) := by decide +kernel
theorem dX11_powersIn_4 : decode cX11_powersIn 4 = .ok (.iconst 4, 1) := by decide +kernel
theorem dX11_powersIn_5 : decode cX11_powersIn 5 = .ok (.iload_n 1, 1) := by decide +kernel
theorem dX11_powersIn_6 : decode cX11_powersIn 6 = .ok (.imul, 1) := by decide +kernel
theorem dX11_powersIn_7 : decode cX11_powersIn 7 = .ok (.iaload, 1) := by decide +kernel
theorem dX11_powersIn_8 : decode cX11_powersIn 8 = .ok (.istore_n 2, 1) := by decide +kernel
theorem dX11_powersIn_9 : decode cX11_powersIn 9 = .ok (.aload_n 0, 1) := by decide +kernel
theorem dX11_powersIn_10 : decode cX11_powersIn 10 = .ok (.getfield 13, 3) := by decide +kernel
theorem dX11_powersIn_13 : decode cX11_powersIn 13 = .ok (.iconst 4, 1) := by decide +kernel
theorem dX11_powersIn_14 : decode cX11_powersIn 14 = .ok (.iload_n 1, 1) := by decide +kernel
theorem dX11_powersIn_15 : decode cX11_powersIn 15 = .ok (.imul, 1) := by decide +kernel
theorem dX11_powersIn_16 : decode cX11_powersIn 16 = .ok (.iconst 1, 1) := by decide +kernel
theorem dX11_powersIn_17 : decode cX11_powersIn 17 = .ok (.iadd, 1) := by decide +kernel
theorem dX11_powersIn_18 : decode cX11_powersIn 18 = .ok (.iaload, 1) := by decide +kernel
theorem dX11_powersIn_19 : decode cX11_powersIn 19 = .ok (.istore_n 3, 1) := by decide +kernel
theorem dX11_powersIn_20 : decode cX11_powersIn 20 = .ok (.aload_n 0, 1) := by decide +kernel
theorem dX11_powersIn_21 : decode cX11_powersIn 21 = .ok (.iload_n 2, 1) := by decide +kernel
theorem dX11_powersIn_22 : decode cX11_powersIn 22 = .ok (.invokevirtual 304, 3) := by decide +kernel
theorem dX11_powersIn_25 : decode cX11_powersIn 25 = .ok (.ifCond .eq 7, 3) := by decide +kernel
theorem dX11_powersIn_28 : decode cX11_powersIn 28 = .ok (.iload_n 2, 1) := by decide +kernel
theorem dX11_powersIn_29 : decode cX11_powersIn 29 = .ok (.goto 17, 3) := by decide +kernel
theorem dX11_powersIn_32 : decode cX11_powersIn 32 = .ok (.aload_n 0, 1) := by decide +kernel
theorem dX11_powersIn_33 : decode cX11_powersIn 33 = .ok (.iload_n 3, 1) := by decide +kernel
theorem dX11_powersIn_34 : decode cX11_powersIn 34 = .ok (.invokevirtual 304, 3) := by decide +kernel
theorem dX11_powersIn_37 : decode cX11_powersIn 37 = .ok (.ifCond .eq 7, 3) := by decide +kernel
theorem dX11_powersIn_40 : decode cX11_powersIn 40 = .ok (.iload_n 3, 1) := by decide +kernel
theorem dX11_powersIn_41 : decode cX11_powersIn 41 = .ok (.goto 5, 3) := by decide +kernel
theorem dX11_powersIn_44 : decode cX11_powersIn 44 = .ok (.ldc 54, 2) := by decide +kernel
theorem dX11_powersIn_46 : decode cX11_powersIn 46 = .ok (.ireturn, 1) := by decide +kernel
theorem dX11_canBe_0 : decode cX11_canBe 0 = .ok (.aload_n 0, 1) := by decide +kernel
theorem dX11_canBe_1 : decode cX11_canBe 1 = .ok (.iload_n 1, 1) := by decide +kernel
theorem dX11_canBe_2 : decode cX11_canBe 2 = .ok (.invokevirtual 260, 3) := by decide +kernel
theorem dX11_canBe_5 : decode cX11_canBe 5 = .ok (.ifCond .ne 5, 3) := by decide +kernel
theorem dX11_canBe_8 : decode cX11_canBe 8 = .ok (.iconst 0, 1) := by decide +kernel
theorem dX11_canBe_9 : decode cX11_canBe 9 = .ok (.ireturn, 1) := by decide +kernel
theorem dX11_canBe_10 : decode cX11_canBe 10 = .ok (.aload_n 0, 1) := by decide +kernel
theorem dX11_canBe_11 : decode cX11_canBe 11 = .ok (.getfield 13, 3) := by decide +kernel
theorem dX11_canBe_14 : decode cX11_canBe 14 = .ok (.iconst 4, 1) := by decide +kernel
theorem dX11_canBe_15 : decode cX11_canBe 15 = .ok (.iload_n 1, 1) := by decide +kernel
theorem dX11_canBe_16 : decode cX11_canBe 16 = .ok (.imul, 1) := by decide +kernel
theorem dX11_canBe_17 : decode cX11_canBe 17 = .ok (.iaload, 1) := by decide +kernel
theorem dX11_canBe_18 : decode cX11_canBe 18 = .ok (.istore_n 2, 1) := by decide +kernel
theorem dX11_canBe_19 : decode cX11_canBe 19 = .ok (.aload_n 0, 1) := by decide +kernel
theorem dX11_canBe_20 : decode cX11_canBe 20 = .ok (.getfield 13, 3) := by decide +kernel
theorem dX11_canBe_23 : decode cX11_canBe 23 = .ok (.iconst 4, 1) := by decide +kernel
theorem dX11_canBe_24 : decode cX11_canBe 24 = .ok (.iload_n 1, 1) := by decide +kernel
theorem dX11_canBe_25 : decode cX11_canBe 25 = .ok (.imul, 1) := by decide +kernel
theorem dX11_canBe_26 : decode cX11_canBe 26 = .ok (.iconst 1, 1) := by decide +kernel
theorem dX11_canBe_27 : decode cX11_canBe 27 = .ok (.iadd, 1) := by decide +kernel
theorem dX11_canBe_28 : decode cX11_canBe 28 = .ok (.iaload, 1) := by decide +kernel
theorem dX11_canBe_29 : decode cX11_canBe 29 = .ok (.istore_n 3, 1) := by decide +kernel
theorem dX11_canBe_30 : decode cX11_canBe 30 = .ok (.aload_n 0, 1) := by decide +kernel
theorem dX11_canBe_31 : decode cX11_canBe 31 = .ok (.getfield 7, 3) := by decide +kernel
theorem dX11_canBe_34 : decode cX11_canBe 34 = .ok (.iload_n 1, 1) := by decide +kernel
theorem dX11_canBe_35 : decode cX11_canBe 35 = .ok (.iaload, 1) := by decide +kernel
theorem dX11_canBe_36 : decode cX11_canBe 36 = .ok (.lookupswitch 92 #[(1, 28), (2, 76)], 28) := by decide +kernel
theorem dX11_canBe_64 : decode cX11_canBe 64 = .ok (.aload_n 0, 1) := by decide +kernel
theorem dX11_canBe_65 : decode cX11_canBe 65 = .ok (.getfield 13, 3) := by decide +kernel
theorem dX11_canBe_68 : decode cX11_canBe 68 = .ok (.iconst 4, 1) := by decide +kernel
theorem dX11_canBe_69 : decode cX11_canBe 69 = .ok (.iload_n 2, 1) := by decide +kernel
theorem dX11_canBe_70 : decode cX11_canBe 70 = .ok (.imul, 1) := by decide +kernel
theorem dX11_canBe_71 : decode cX11_canBe 71 = .ok (.iaload, 1) := by decide +kernel
theorem dX11_canBe_72 : decode cX11_canBe 72 = .ok (.aload_n 0, 1) := by decide +kernel
theorem dX11_canBe_73 : decode cX11_canBe 73 = .ok (.getfield 13, 3) := by decide +kernel
theorem dX11_canBe_76 : decode cX11_canBe 76 = .ok (.iconst 4, 1) := by decide +kernel
theorem dX11_canBe_77 : decode cX11_canBe 77 = .ok (.iload_n 3, 1) := by decide +kernel
theorem dX11_canBe_78 : decode cX11_canBe 78 = .ok (.imul, 1) := by decide +kernel
theorem dX11_canBe_79 : decode cX11_canBe 79 = .ok (.iaload, 1) := by decide +kernel
theorem dX11_canBe_80 : decode cX11_canBe 80 = .ok (.if_icmp .ne 30, 3) := by decide +kernel
theorem dX11_canBe_83 : decode cX11_canBe 83 = .ok (.aload_n 0, 1) := by decide +kernel
theorem dX11_canBe_84 : decode cX11_canBe 84 = .ok (.getfield 13, 3) := by decide +kernel
theorem dX11_canBe_87 : decode cX11_canBe 87 = .ok (.iconst 4, 1) := by decide +kernel
theorem dX11_canBe_88 : decode cX11_canBe 88 = .ok (.iload_n 2, 1) := by decide +kernel
theorem dX11_canBe_89 : decode cX11_canBe 89 = .ok (.imul, 1) := by decide +kernel
theorem dX11_canBe_90 : decode cX11_canBe 90 = .ok (.iconst 1, 1) := by decide +kernel
theorem dX11_canBe_91 : decode cX11_canBe 91 = .ok (.iadd, 1) := by decide +kernel
theorem dX11_canBe_92 : decode cX11_canBe 92 = .ok (.iaload, 1) := by decide +kernel
theorem dX11_canBe_93 : decode cX11_canBe 93 = .ok (.aload_n 0, 1) := by decide +kernel
theorem dX11_canBe_94 : decode cX11_canBe 94 = .ok (.getfield 13, 3) := by decide +kernel
theorem dX11_canBe_97 : decode cX11_canBe 97 = .ok (.iconst 4, 1) := by decide +kernel
theorem dX11_canBe_98 : decode cX11_canBe 98 = .ok (.iload_n 3, 1) := by decide +kernel
theorem dX11_canBe_99 : decode cX11_canBe 99 = .ok (.imul, 1) := by decide +kernel
theorem dX11_canBe_100 : decode cX11_canBe 100 = .ok (.iconst 1, 1) := by decide +kernel
theorem dX11_canBe_101 : decode cX11_canBe 101 = .ok (.iadd, 1) := by decide +kernel
theorem dX11_canBe_102 : decode cX11_canBe 102 = .ok (.iaload, 1) := by decide +kernel
theorem dX11_canBe_103 : decode cX11_canBe 103 = .ok (.if_icmp .ne 7, 3) := by decide +kernel
theorem dX11_canBe_106 : decode cX11_canBe 106 = .ok (.iconst 1, 1) := by decide +kernel
theorem dX11_canBe_107 : decode cX11_canBe 107 = .ok (.goto 4, 3) := by decide +kernel
theorem dX11_canBe_110 : decode cX11_canBe 110 = .ok (.iconst 0, 1) := by decide +kernel
theorem dX11_canBe_111 : decode cX11_canBe 111 = .ok (.ireturn, 1) := by decide +kernel
theorem dX11_canBe_112 : decode cX11_canBe 112 = .ok (.aload_n 0, 1) := by decide +kernel
theorem dX11_canBe_113 : decode cX11_canBe 113 = .ok (.iload_n 1, 1) := by decide +kernel
theorem dX11_canBe_114 : decode cX11_canBe 114 = .ok (.invokevirtual 307, 3) := by decide +kernel
theorem dX11_canBe_117 : decode cX11_canBe 117 = .ok (.ldc 54, 2) := by decide +kernel
theorem dX11_canBe_119 : decode cX11_canBe 119 = .ok (.if_icmp .eq 7, 3) := by decide +kernel
theorem dX11_canBe_122 : decode cX11_canBe 122 = .ok (.iconst 1, 1) := by decide +kernel
theorem dX11_canBe_123 : decode cX11_canBe 123 = .ok (.goto 4, 3) := by decide +kernel
theorem dX11_canBe_126 : decode cX11_canBe 126 = .ok (.iconst 0, 1) := by decide +kernel
theorem dX11_canBe_127 : decode cX11_canBe 127 = .ok (.ireturn, 1) := by decide +kernel
theorem dX11_canBe_128 : decode cX11_canBe 128 = .ok (.iconst 1, 1) := by decide +kernel
theorem dX11_canBe_129 : decode cX11_canBe 129 = .ok (.ireturn, 1) := by decide +kernel
theorem dX11_easedC_0 : decode cX11_easedC 0 = .ok (.aload_n 0, 1) := by decide +kernel
theorem dX11_easedC_1 : decode cX11_easedC 1 = .ok (.getfield 13, 3) := by decide +kernel
theorem dX11_easedC_4 : decode cX11_easedC 4 = .ok (.iconst 4, 1) := by decide +kernel
theorem dX11_easedC_5 : decode cX11_easedC 5 = .ok (.iload_n 1, 1) := by decide +kernel
theorem dX11_easedC_6 : decode cX11_easedC 6 = .ok (.imul, 1) := by decide +kernel
theorem dX11_easedC_7 : decode cX11_easedC 7 = .ok (.iaload, 1) := by decide +kernel
theorem dX11_easedC_8 : decode cX11_easedC 8 = .ok (.istore_n 2, 1) := by decide +kernel
theorem dX11_easedC_9 : decode cX11_easedC 9 = .ok (.aload_n 0, 1) := by decide +kernel
theorem dX11_easedC_10 : decode cX11_easedC 10 = .ok (.getfield 7, 3) := by decide +kernel
theorem dX11_easedC_13 : decode cX11_easedC 13 = .ok (.iload_n 1, 1) := by decide +kernel
theorem dX11_easedC_14 : decode cX11_easedC 14 = .ok (.iaload, 1) := by decide +kernel
theorem dX11_easedC_15 : decode cX11_easedC 15 = .ok (.lookupswitch 59 #[(2, 25), (3, 52)], 25) := by decide +kernel
theorem dX11_easedC_40 : decode cX11_easedC 40 = .ok (.aload_n 0, 1) := by decide +kernel
theorem dX11_easedC_41 : decode cX11_easedC 41 = .ok (.getfield 13, 3) := by decide +kernel
theorem dX11_easedC_44 : decode cX11_easedC 44 = .ok (.iconst 4, 1) := by decide +kernel
theorem dX11_easedC_45 : decode cX11_easedC 45 = .ok (.iload_n 2, 1) := by decide +kernel
theorem dX11_easedC_46 : decode cX11_easedC 46 = .ok (.imul, 1) := by decide +kernel
theorem dX11_easedC_47 : decode cX11_easedC 47 = .ok (.iaload, 1) := by decide +kernel
theorem dX11_easedC_48 : decode cX11_easedC 48 = .ok (.aload_n 0, 1) := by decide +kernel
theorem dX11_easedC_49 : decode cX11_easedC 49 = .ok (.getfield 13, 3) := by decide +kernel
theorem dX11_easedC_52 : decode cX11_easedC 52 = .ok (.iconst 4, 1) := by decide +kernel
theorem dX11_easedC_53 : decode cX11_easedC 53 = .ok (.aload_n 0, 1) := by decide +kernel
theorem dX11_easedC_54 : decode cX11_easedC 54 = .ok (.getfield 13, 3) := by decide +kernel
theorem dX11_easedC_57 : decode cX11_easedC 57 = .ok (.iconst 4, 1) := by decide +kernel
theorem dX11_easedC_58 : decode cX11_easedC 58 = .ok (.iload_n 1, 1) := by decide +kernel
theorem dX11_easedC_59 : decode cX11_easedC 59 = .ok (.imul, 1) := by decide +kernel
theorem dX11_easedC_60 : decode cX11_easedC 60 = .ok (.iconst 1, 1) := by decide +kernel
theorem dX11_easedC_61 : decode cX11_easedC 61 = .ok (.iadd, 1) := by decide +kernel
theorem dX11_easedC_62 : decode cX11_easedC 62 = .ok (.iaload, 1) := by decide +kernel
theorem dX11_easedC_63 : decode cX11_easedC 63 = .ok (.imul, 1) := by decide +kernel
theorem dX11_easedC_64 : decode cX11_easedC 64 = .ok (.iaload, 1) := by decide +kernel
theorem dX11_easedC_65 : decode cX11_easedC 65 = .ok (.imul, 1) := by decide +kernel
theorem dX11_easedC_66 : decode cX11_easedC 66 = .ok (.ireturn, 1) := by decide +kernel
theorem dX11_easedC_67 : decode cX11_easedC 67 = .ok (.aload_n 0, 1) := by decide +kernel
theorem dX11_easedC_68 : decode cX11_easedC 68 = .ok (.iload_n 1, 1) := by decide +kernel
theorem dX11_easedC_69 : decode cX11_easedC 69 = .ok (.iconst 1, 1) := by decide +kernel
theorem dX11_easedC_70 : decode cX11_easedC 70 = .ok (.invokevirtual 257, 3) := by decide +kernel
theorem dX11_easedC_73 : decode cX11_easedC 73 = .ok (.ireturn, 1) := by decide +kernel
theorem dX11_easedC_74 : decode cX11_easedC 74 = .ok (.aload_n 0, 1) := by decide +kernel
theorem dX11_easedC_75 : decode cX11_easedC 75 = .ok (.getfield 13, 3) := by decide +kernel
theorem dX11_easedC_78 : decode cX11_easedC 78 = .ok (.iconst 4, 1) := by decide +kernel
theorem dX11_easedC_79 : decode cX11_easedC 79 = .ok (.iload_n 2, 1) := by decide +kernel
theorem dX11_easedC_80 : decode cX11_easedC 80 = .ok (.imul, 1) := by decide +kernel
theorem dX11_easedC_81 : decode cX11_easedC 81 = .ok (.iaload, 1) := by decide +kernel
theorem dX11_easedC_82 : decode cX11_easedC 82 = .ok (.ireturn, 1) := by decide +kernel
theorem dX11_easedD_0 : decode cX11_easedD 0 = .ok (.aload_n 0, 1) := by decide +kernel
theorem dX11_easedD_1 : decode cX11_easedD 1 = .ok (.getfield 13, 3) := by decide +kernel
theorem dX11_easedD_4 : decode cX11_easedD 4 = .ok (.iconst 4, 1) := by decide +kernel
theorem dX11_easedD_5 : decode cX11_easedD 5 = .ok (.iload_n 1, 1) := by decide +kernel
theorem dX11_easedD_6 : decode cX11_easedD 6 = .ok (.imul, 1) := by decide +kernel
theorem dX11_easedD_7 : decode cX11_easedD 7 = .ok (.iaload, 1) := by decide +kernel
theorem dX11_easedD_8 : decode cX11_easedD 8 = .ok (.istore_n 2, 1) := by decide +kernel
theorem dX11_easedD_9 : decode cX11_easedD 9 = .ok (.aload_n 0, 1) := by decide +kernel
theorem dX11_easedD_10 : decode cX11_easedD 10 = .ok (.getfield 7, 3) := by decide +kernel
theorem dX11_easedD_13 : decode cX11_easedD 13 = .ok (.iload_n 1, 1) := by decide +kernel
theorem dX11_easedD_14 : decode cX11_easedD 14 = .ok (.iaload, 1) := by decide +kernel
theorem dX11_easedD_15 : decode cX11_easedD 15 = .ok (.lookupswitch 84 #[(2, 25), (3, 77)], 25) := by decide +kernel
theorem dX11_easedD_40 : decode cX11_easedD 40 = .ok (.aload_n 0, 1) := by decide +kernel
theorem dX11_easedD_41 : decode cX11_easedD 41 = .ok (.iload_n 1, 1) := by decide +kernel
theorem dX11_easedD_42 : decode cX11_easedD 42 = .ok (.invokevirtual 307, 3) := by decide +kernel
theorem dX11_easedD_45 : decode cX11_easedD 45 = .ok (.istore_n 3, 1) := by decide +kernel
theorem dX11_easedD_46 : decode cX11_easedD 46 = .ok (.iload_n 2, 1) := by decide +kernel
theorem dX11_easedD_47 : decode cX11_easedD 47 = .ok (.aload_n 0, 1) := by decide +kernel
theorem dX11_easedD_48 : decode cX11_easedD 48 = .ok (.getfield 13, 3) := by decide +kernel
theorem dX11_easedD_51 : decode cX11_easedD 51 = .ok (.iconst 4, 1) := by decide +kernel
theorem dX11_easedD_52 : decode cX11_easedD 52 = .ok (.iload_n 1, 1) := by decide +kernel
theorem dX11_easedD_53 : decode cX11_easedD 53 = .ok (.imul, 1) := by decide +kernel
theorem dX11_easedD_54 : decode cX11_easedD 54 = .ok (.iconst 1, 1) := by decide +kernel
theorem dX11_easedD_55 : decode cX11_easedD 55 = .ok (.iadd, 1) := by decide +kernel
theorem dX11_easedD_56 : decode cX11_easedD 56 = .ok (.iaload, 1) := by decide +kernel
theorem dX11_easedD_57 : decode cX11_easedD 57 = .ok (.iadd, 1) := by decide +kernel
theorem dX11_easedD_58 : decode cX11_easedD 58 = .ok (.iload_n 3, 1) := by decide +kernel
theorem dX11_easedD_59 : decode cX11_easedD 59 = .ok (.isub, 1) := by decide +kernel
theorem dX11_easedD_60 : decode cX11_easedD 60 = .ok (.istore 4, 2) := by decide +kernel
theorem dX11_easedD_62 : decode cX11_easedD 62 = .ok (.aload_n 0, 1) := by decide +kernel
theorem dX11_easedD_63 : decode cX11_easedD 63 = .ok (.getfield 13, 3) := by decide +kernel
theorem dX11_easedD_66 : decode cX11_easedD 66 = .ok (.iconst 4, 1) := by decide +kernel
theorem dX11_easedD_67 : decode cX11_easedD 67 = .ok (.iload_n 3, 1) := by decide +kernel
theorem dX11_easedD_68 : decode cX11_easedD 68 = .ok (.imul, 1) := by decide +kernel
theorem dX11_easedD_69 : decode cX11_easedD 69 = .ok (.iaload, 1) := by decide +kernel
theorem dX11_easedD_70 : decode cX11_easedD 70 = .ok (.aload_n 0, 1) := by decide +kernel
theorem dX11_easedD_71 : decode cX11_easedD 71 = .ok (.getfield 13, 3) := by decide +kernel
theorem dX11_easedD_74 : decode cX11_easedD 74 = .ok (.iconst 4, 1) := by decide +kernel
theorem dX11_easedD_75 : decode cX11_easedD 75 = .ok (.iload_n 3, 1) := by decide +kernel
theorem dX11_easedD_76 : decode cX11_easedD 76 = .ok (.imul, 1) := by decide +kernel
theorem dX11_easedD_77 : decode cX11_easedD 77 = .ok (.iaload, 1) := by decide +kernel
theorem dX11_easedD_78 : decode cX11_easedD 78 = .ok (.imul, 1) := by decide +kernel
theorem dX11_easedD_79 : decode cX11_easedD 79 = .ok (.aload_n 0, 1) := by decide +kernel
theorem dX11_easedD_80 : decode cX11_easedD 80 = .ok (.getfield 13, 3) := by decide +kernel
theorem dX11_easedD_83 : decode cX11_easedD 83 = .ok (.iconst 4, 1) := by decide +kernel
theorem dX11_easedD_84 : decode cX11_easedD 84 = .ok (.iload 4, 2) := by decide +kernel
theorem dX11_easedD_86 : decode cX11_easedD 86 = .ok (.imul, 1) := by decide +kernel
theorem dX11_easedD_87 : decode cX11_easedD 87 = .ok (.iconst 1, 1) := by decide +kernel
theorem dX11_easedD_88 : decode cX11_easedD 88 = .ok (.iadd, 1) := by decide +kernel
theorem dX11_easedD_89 : decode cX11_easedD 89 = .ok (.iaload, 1) := by decide +kernel
theorem dX11_easedD_90 : decode cX11_easedD 90 = .ok (.imul, 1) := by decide +kernel
theorem dX11_easedD_91 : decode cX11_easedD 91 = .ok (.ireturn, 1) := by decide +kernel
theorem dX11_easedD_92 : decode cX11_easedD 92 = .ok (.aload_n 0, 1) := by decide +kernel
theorem dX11_easedD_93 : decode cX11_easedD 93 = .ok (.iload_n 1, 1) := by decide +kernel
theorem dX11_easedD_94 : decode cX11_easedD 94 = .ok (.iconst 2, 1) := by decide +kernel
theorem dX11_easedD_95 : decode cX11_easedD 95 = .ok (.invokevirtual 257, 3) := by decide +kernel
theorem dX11_easedD_98 : decode cX11_easedD 98 = .ok (.ireturn, 1) := by decide +kernel
theorem dX11_easedD_99 : decode cX11_easedD 99 = .ok (.aload_n 0, 1) := by decide +kernel
theorem dX11_easedD_100 : decode cX11_easedD 100 = .ok (.getfield 13, 3) := by decide +kernel
theorem dX11_easedD_103 : decode cX11_easedD 103 = .ok (.iconst 4, 1) := by decide +kernel
theorem dX11_easedD_104 : decode cX11_easedD 104 = .ok (.iload_n 2, 1) := by decide +kernel
theorem dX11_easedD_105 : decode cX11_easedD 105 = .ok (.imul, 1) := by decide +kernel
theorem dX11_easedD_106 : decode cX11_easedD 106 = .ok (.iconst 1, 1) := by decide +kernel
theorem dX11_easedD_107 : decode cX11_easedD 107 = .ok (.iadd, 1) := by decide +kernel
theorem dX11_easedD_108 : decode cX11_easedD 108 = .ok (.iaload, 1) := by decide +kernel
theorem dX11_easedD_109 : decode cX11_easedD 109 = .ok (.ireturn, 1) := by decide +kernel
theorem dX11_ease_0 : decode cX11_ease 0 = .ok (.aload_n 0, 1) := by decide +kernel
theorem dX11_ease_1 : decode cX11_ease 1 = .ok (.iload_n 1, 1) := by decide +kernel
theorem dX11_ease_2 : decode cX11_ease 2 = .ok (.invokevirtual 193, 3) := by decide +kernel
theorem dX11_ease_5 : decode cX11_ease 5 = .ok (.ifCond .ne 6, 3) := by decide +kernel
theorem dX11_ease_8 : decode cX11_ease 8 = .ok (.ldc 196, 2) := by decide +kernel
theorem dX11_ease_10 : decode cX11_ease 10 = .ok (.ireturn, 1) := by decide +kernel
theorem dX11_ease_11 : decode cX11_ease 11 = .ok (.aload_n 0, 1) := by decide +kernel
theorem dX11_ease_12 : decode cX11_ease 12 = .ok (.iload_n 1, 1) := by decide +kernel
theorem dX11_ease_13 : decode cX11_ease 13 = .ok (.invokevirtual 310, 3) := by decide +kernel
theorem dX11_ease_16 : decode cX11_ease 16 = .ok (.ifCond .ne 6, 3) := by decide +kernel
theorem dX11_ease_19 : decode cX11_ease 19 = .ok (.ldc 115, 2) := by decide +kernel
theorem dX11_ease_21 : decode cX11_ease 21 = .ok (.ireturn, 1) := by decide +kernel
theorem dX11_ease_22 : decode cX11_ease 22 = .ok (.aload_n 0, 1) := by decide +kernel
theorem dX11_ease_23 : decode cX11_ease 23 = .ok (.iload_n 1, 1) := by decide +kernel
theorem dX11_ease_24 : decode cX11_ease 24 = .ok (.invokevirtual 313, 3) := by decide +kernel
theorem dX11_ease_27 : decode cX11_ease 27 = .ok (.istore_n 2, 1) := by decide +kernel
theorem dX11_ease_28 : decode cX11_ease 28 = .ok (.aload_n 0, 1) := by decide +kernel
theorem dX11_ease_29 : decode cX11_ease 29 = .ok (.iload_n 1, 1) := by decide +kernel
theorem dX11_ease_30 : decode cX11_ease 30 = .ok (.invokevirtual 316, 3) := by decide +kernel
theorem dX11_ease_33 : decode cX11_ease 33 = .ok (.istore_n 3, 1) := by decide +kernel
theorem dX11_ease_34 : decode cX11_ease 34 = .ok (.aload_n 0, 1) := by decide +kernel
theorem dX11_ease_35 : decode cX11_ease 35 = .ok (.iload_n 1, 1) := by decide +kernel
theorem dX11_ease_36 : decode cX11_ease 36 = .ok (.iconst 0, 1) := by decide +kernel
theorem dX11_ease_37 : decode cX11_ease 37 = .ok (.invokevirtual 201, 3) := by decide +kernel
theorem dX11_ease_40 : decode cX11_ease 40 = .ok (.istore 4, 2) := by decide +kernel
theorem dX11_ease_42 : decode cX11_ease 42 = .ok (.aload_n 0, 1) := by decide +kernel
theorem dX11_ease_43 : decode cX11_ease 43 = .ok (.iload_n 1, 1) := by decide +kernel
theorem dX11_ease_44 : decode cX11_ease 44 = .ok (.iconst 1, 1) := by decide +kernel
theorem dX11_ease_45 : decode cX11_ease 45 = .ok (.invokevirtual 201, 3) := by decide +kernel
theorem dX11_ease_48 : decode cX11_ease 48 = .ok (.istore 5, 2) := by decide +kernel
theorem dX11_ease_50 : decode cX11_ease 50 = .ok (.iload_n 2, 1) := by decide +kernel
theorem dX11_ease_51 : decode cX11_ease 51 = .ok (.invokestatic 294, 3) := by decide +kernel
theorem dX11_ease_54 : decode cX11_ease 54 = .ok (.ifCond .eq 26, 3) := by decide +kernel
theorem dX11_ease_57 : decode cX11_ease 57 = .ok (.iload_n 3, 1) := by decide +kernel
theorem dX11_ease_58 : decode cX11_ease 58 = .ok (.invokestatic 294, 3) := by decide +kernel
theorem dX11_ease_61 : decode cX11_ease 61 = .ok (.ifCond .eq 19, 3) := by decide +kernel
theorem dX11_ease_64 : decode cX11_ease 64 = .ok (.iload 4, 2) := by decide +kernel
theorem dX11_ease_66 : decode cX11_ease 66 = .ok (.invokestatic 297, 3) := by decide +kernel
theorem dX11_ease_69 : decode cX11_ease 69 = .ok (.ifCond .eq 11, 3) := by decide +kernel
theorem dX11_ease_72 : decode cX11_ease 72 = .ok (.iload 5, 2) := by decide +kernel
theorem dX11_ease_74 : decode cX11_ease 74 = .ok (.invokestatic 297, 3) := by decide +kernel
theorem dX11_ease_77 : decode cX11_ease 77 = .ok (.ifCond .ne 6, 3) := by decide +kernel
theorem dX11_ease_80 : decode cX11_ease 80 = .ok (.ldc 115, 2) := by decide +kernel
theorem dX11_ease_82 : decode cX11_ease 82 = .ok (.ireturn, 1) := by decide +kernel
theorem dX11_ease_83 : decode cX11_ease 83 = .ok (.aload_n 0, 1) := by decide +kernel
theorem dX11_ease_84 : decode cX11_ease 84 = .ok (.getfield 7, 3) := by decide +kernel
theorem dX11_ease_87 : decode cX11_ease 87 = .ok (.iload_n 1, 1) := by decide +kernel
theorem dX11_ease_88 : decode cX11_ease 88 = .ok (.iaload, 1) := by decide +kernel
theorem dX11_ease_89 : decode cX11_ease 89 = .ok (.istore 6, 2) := by decide +kernel
theorem dX11_ease_91 : decode cX11_ease 91 = .ok (.aload_n 0, 1) := by decide +kernel
theorem dX11_ease_92 : decode cX11_ease 92 = .ok (.iload_n 1, 1) := by decide +kernel
theorem dX11_ease_93 : decode cX11_ease 93 = .ok (.iconst 0, 1) := by decide +kernel
theorem dX11_ease_94 : decode cX11_ease 94 = .ok (.iload_n 2, 1) := by decide +kernel
theorem dX11_ease_95 : decode cX11_ease 95 = .ok (.iload_n 3, 1) := by decide +kernel
theorem dX11_ease_96 : decode cX11_ease 96 = .ok (.iload 4, 2) := by decide +kernel
theorem dX11_ease_98 : decode cX11_ease 98 = .ok (.iload 5, 2) := by decide +kernel
theorem dX11_ease_100 : decode cX11_ease 100 = .ok (.invokevirtual 290, 3) := by decide +kernel
theorem dX11_ease_103 : decode cX11_ease 103 = .ok (.iload 6, 2) := by decide +kernel
theorem dX11_ease_105 : decode cX11_ease 105 = .ok (.ireturn, 1) := by decide +kernel
theorem dX11_give_0 : decode cX11_give 0 = .ok (.iload_n 1, 1) := by decide +kernel
theorem dX11_give_1 : decode cX11_give 1 = .ok (.bipush (-99), 2) := by decide +kernel
theorem dX11_give_3 : decode cX11_give 3 = .ok (.bipush 99, 2) := by decide +kernel
theorem dX11_give_5 : decode cX11_give 5 = .ok (.invokestatic 68, 3) := by decide +kernel
theorem dX11_give_8 : decode cX11_give 8 = .ok (.ifCond .ne 6, 3) := by decide +kernel
theorem dX11_give_11 : decode cX11_give 11 = .ok (.ldc 72, 2) := by decide +kernel
theorem dX11_give_13 : decode cX11_give 13 = .ok (.ireturn, 1) := by decide +kernel
theorem dX11_give_14 : decode cX11_give 14 = .ok (.aload_n 0, 1) := by decide +kernel
theorem dX11_give_15 : decode cX11_give 15 = .ok (.getfield 319, 3) := by decide +kernel
theorem dX11_give_18 : decode cX11_give 18 = .ok (.bipush 8, 2) := by decide +kernel
theorem dX11_give_20 : decode cX11_give 20 = .ok (.if_icmp .ne 6, 3) := by decide +kernel
theorem dX11_give_23 : decode cX11_give 23 = .ok (.ldc 76, 2) := by decide +kernel
theorem dX11_give_25 : decode cX11_give 25 = .ok (.ireturn, 1) := by decide +kernel
theorem dX11_give_26 : decode cX11_give 26 = .ok (.aload_n 0, 1) := by decide +kernel
theorem dX11_give_27 : decode cX11_give 27 = .ok (.getfield 16, 3) := by decide +kernel
theorem dX11_give_30 : decode cX11_give 30 = .ok (.aload_n 0, 1) := by decide +kernel
theorem dX11_give_31 : decode cX11_give 31 = .ok (.getfield 319, 3) := by decide +kernel
theorem dX11_give_34 : decode cX11_give 34 = .ok (.iload_n 1, 1) := by decide +kernel
theorem dX11_give_35 : decode cX11_give 35 = .ok (.iastore, 1) := by decide +kernel
theorem dX11_give_36 : decode cX11_give 36 = .ok (.aload_n 0, 1) := by decide +kernel
theorem dX11_give_37 : decode cX11_give 37 = .ok (.dup, 1) := by decide +kernel
theorem dX11_give_38 : decode cX11_give 38 = .ok (.getfield 319, 3) := by decide +kernel
theorem dX11_give_41 : decode cX11_give 41 = .ok (.iconst 1, 1) := by decide +kernel
theorem dX11_give_42 : decode cX11_give 42 = .ok (.iadd, 1) := by decide +kernel
theorem dX11_give_43 : decode cX11_give 43 = .ok (.putfield 319, 3) := by decide +kernel
theorem dX11_give_46 : decode cX11_give 46 = .ok (.aload_n 0, 1) := by decide +kernel
theorem dX11_give_47 : decode cX11_give 47 = .ok (.getfield 319, 3) := by decide +kernel
theorem dX11_give_50 : decode cX11_give 50 = .ok (.ireturn, 1) := by decide +kernel
theorem dX11_forget_0 : decode cX11_forget 0 = .ok (.aload_n 0, 1) := by decide +kernel
theorem dX11_forget_1 : decode cX11_forget 1 = .ok (.getfield 319, 3) := by decide +kernel
theorem dX11_forget_4 : decode cX11_forget 4 = .ok (.istore_n 1, 1) := by decide +kernel
theorem dX11_forget_5 : decode cX11_forget 5 = .ok (.aload_n 0, 1) := by decide +kernel
theorem dX11_forget_6 : decode cX11_forget 6 = .ok (.iconst 0, 1) := by decide +kernel
theorem dX11_forget_7 : decode cX11_forget 7 = .ok (.putfield 319, 3) := by decide +kernel
theorem dX11_forget_10 : decode cX11_forget 10 = .ok (.iload_n 1, 1) := by decide +kernel
theorem dX11_forget_11 : decode cX11_forget 11 = .ok (.ireturn, 1) := by decide +kernel
theorem dX11_isGuess_0 : decode cX11_isGuess 0 = .ok (.iconst 1, 1) := by decide +kernel
theorem dX11_isGuess_1 : decode cX11_isGuess 1 = .ok (.istore 4, 2) := by decide +kernel
theorem dX11_isGuess_3 : decode cX11_isGuess 3 = .ok (.iload_n 1, 1) := by decide +kernel
theorem dX11_isGuess_4 : decode cX11_isGuess 4 = .ok (.istore 5, 2) := by decide +kernel
theorem dX11_isGuess_6 : decode cX11_isGuess 6 = .ok (.iload 5, 2) := by decide +kernel
theorem dX11_isGuess_8 : decode cX11_isGuess 8 = .ok (.aload_n 0, 1) := by decide +kernel
theorem dX11_isGuess_9 : decode cX11_isGuess 9 = .ok (.getfield 319, 3) := by decide +kernel
theorem dX11_isGuess_12 : decode cX11_isGuess 12 = .ok (.if_icmp .ge 85, 3) := by decide +kernel
theorem dX11_isGuess_15 : decode cX11_isGuess 15 = .ok (.iload_n 1, 1) := by decide +kernel
theorem dX11_isGuess_16 : decode cX11_isGuess 16 = .ok (.ifCond .ne 7, 3) := by decide +kernel
theorem dX11_isGuess_19 : decode cX11_isGuess 19 = .ok (.iconst 0, 1) := by decide +kernel
theorem dX11_isGuess_20 : decode cX11_isGuess 20 = .ok (.goto 45, 3) := by decide +kernel
theorem dX11_isGuess_23 : decode cX11_isGuess 23 = .ok (.iload_n 1, 1) := by decide +kernel
theorem dX11_isGuess_24 : decode cX11_isGuess 24 = .ok (.iconst 1, 1) := by decide +kernel
theorem dX11_isGuess_25 : decode cX11_isGuess 25 = .ok (.if_icmp .ne 17, 3) := by decide +kernel
theorem dX11_isGuess_28 : decode cX11_isGuess 28 = .ok (.iload_n 2, 1) := by decide +kernel
theorem dX11_isGuess_29 : decode cX11_isGuess 29 = .ok (.aload_n 0, 1) := by decide +kernel
theorem dX11_isGuess_30 : decode cX11_isGuess 30 = .ok (.getfield 16, 3) := by decide +kernel
theorem dX11_isGuess_33 : decode cX11_isGuess 33 = .ok (.iload 5, 2) := by decide +kernel
theorem dX11_isGuess_35 : decode cX11_isGuess 35 = .ok (.iconst 1, 1) := by decide +kernel
theorem dX11_isGuess_36 : decode cX11_isGuess 36 = .ok (.isub, 1) := by decide +kernel
theorem dX11_isGuess_37 : decode cX11_isGuess 37 = .ok (.iaload, 1) := by decide +kernel
theorem dX11_isGuess_38 : decode cX11_isGuess 38 = .ok (.imul, 1) := by decide +kernel
theorem dX11_isGuess_39 : decode cX11_isGuess 39 = .ok (.goto 26, 3) := by decide +kernel
theorem dX11_isGuess_42 : decode cX11_isGuess 42 = .ok (.iload_n 2, 1) := by decide +kernel
theorem dX11_isGuess_43 : decode cX11_isGuess 43 = .ok (.aload_n 0, 1) := by decide +kernel
theorem dX11_isGuess_44 : decode cX11_isGuess 44 = .ok (.getfield 16, 3) := by decide +kernel
theorem dX11_isGuess_47 : decode cX11_isGuess 47 = .ok (.iload 5, 2) := by decide +kernel
theorem dX11_isGuess_49 : decode cX11_isGuess 49 = .ok (.iconst 1, 1) := by decide +kernel
theorem dX11_isGuess_50 : decode cX11_isGuess 50 = .ok (.isub, 1) := by decide +kernel
theorem dX11_isGuess_51 : decode cX11_isGuess 51 = .ok (.iaload, 1) := by decide +kernel
theorem dX11_isGuess_52 : decode cX11_isGuess 52 = .ok (.imul, 1) := by decide +kernel
theorem dX11_isGuess_53 : decode cX11_isGuess 53 = .ok (.iload_n 3, 1) := by decide +kernel
theorem dX11_isGuess_54 : decode cX11_isGuess 54 = .ok (.aload_n 0, 1) := by decide +kernel
theorem dX11_isGuess_55 : decode cX11_isGuess 55 = .ok (.getfield 16, 3) := by decide +kernel
theorem dX11_isGuess_58 : decode cX11_isGuess 58 = .ok (.iload 5, 2) := by decide +kernel
theorem dX11_isGuess_60 : decode cX11_isGuess 60 = .ok (.iconst 2, 1) := by decide +kernel
theorem dX11_isGuess_61 : decode cX11_isGuess 61 = .ok (.isub, 1) := by decide +kernel
theorem dX11_isGuess_62 : decode cX11_isGuess 62 = .ok (.iaload, 1) := by decide +kernel
theorem dX11_isGuess_63 : decode cX11_isGuess 63 = .ok (.imul, 1) := by decide +kernel
theorem dX11_isGuess_64 : decode cX11_isGuess 64 = .ok (.iadd, 1) := by decide +kernel
theorem dX11_isGuess_65 : decode cX11_isGuess 65 = .ok (.istore 6, 2) := by decide +kernel
theorem dX11_isGuess_67 : decode cX11_isGuess 67 = .ok (.iload 4, 2) := by decide +kernel
theorem dX11_isGuess_69 : decode cX11_isGuess 69 = .ok (.ifCond .eq 19, 3) := by decide +kernel
theorem dX11_isGuess_72 : decode cX11_isGuess 72 = .ok (.aload_n 0, 1) := by decide +kernel
theorem dX11_isGuess_73 : decode cX11_isGuess 73 = .ok (.getfield 16, 3) := by decide +kernel
theorem dX11_isGuess_76 : decode cX11_isGuess 76 = .ok (.iload 5, 2) := by decide +kernel
theorem dX11_isGuess_78 : decode cX11_isGuess 78 = .ok (.iaload, 1) := by decide +kernel
theorem dX11_isGuess_79 : decode cX11_isGuess 79 = .ok (.iload 6, 2) := by decide +kernel
theorem dX11_isGuess_81 : decode cX11_isGuess 81 = .ok (.if_icmp .ne 7, 3) := by decide +kernel
theorem dX11_isGuess_84 : decode cX11_isGuess 84 = .ok (.iconst 1, 1) := by decide +kernel
theorem dX11_isGuess_85 : decode cX11_isGuess 85 = .ok (.goto 4, 3) := by decide +kernel
theorem dX11_isGuess_88 : decode cX11_isGuess 88 = .ok (.iconst 0, 1) := by decide +kernel
theorem dX11_isGuess_89 : decode cX11_isGuess 89 = .ok (.istore 4, 2) := by decide +kernel
theorem dX11_isGuess_91 : decode cX11_isGuess 91 = .ok (.iinc 5 1, 3) := by decide +kernel
theorem dX11_isGuess_94 : decode cX11_isGuess 94 = .ok (.goto (-88), 3) := by decide +kernel
theorem dX11_isGuess_97 : decode cX11_isGuess 97 = .ok (.iload 4, 2) := by decide +kernel
theorem dX11_isGuess_99 : decode cX11_isGuess 99 = .ok (.ireturn, 1) := by decide +kernel
theorem dX11_guessNow_0 : decode cX11_guessNow 0 = .ok (.aload_n 0, 1) := by decide +kernel
theorem dX11_guessNow_1 : decode cX11_guessNow 1 = .ok (.iconst 0, 1) := by decide +kernel
theorem dX11_guessNow_2 : decode cX11_guessNow 2 = .ok (.putfield 322, 3) := by decide +kernel
theorem dX11_guessNow_5 : decode cX11_guessNow 5 = .ok (.aload_n 0, 1) := by decide +kernel
theorem dX11_guessNow_6 : decode cX11_guessNow 6 = .ok (.iconst 0, 1) := by decide +kernel
theorem dX11_guessNow_7 : decode cX11_guessNow 7 = .ok (.putfield 325, 3) := by decide +kernel
theorem dX11_guessNow_10 : decode cX11_guessNow 10 = .ok (.aload_n 0, 1) := by decide +kernel
theorem dX11_guessNow_11 : decode cX11_guessNow 11 = .ok (.iconst 0, 1) := by decide +kernel
theorem dX11_guessNow_12 : decode cX11_guessNow 12 = .ok (.iconst 0, 1) := by decide +kernel
theorem dX11_guessNow_13 : decode cX11_guessNow 13 = .ok (.iconst 0, 1) := by decide +kernel
theorem dX11_guessNow_14 : decode cX11_guessNow 14 = .ok (.invokevirtual 328, 3) := by decide +kernel
theorem dX11_guessNow_17 : decode cX11_guessNow 17 = .ok (.ifCond .eq 5, 3) := by decide +kernel
theorem dX11_guessNow_20 : decode cX11_guessNow 20 = .ok (.iconst 0, 1) := by decide +kernel
theorem dX11_guessNow_21 : decode cX11_guessNow 21 = .ok (.ireturn, 1) := by decide +kernel
theorem dX11_guessNow_22 : decode cX11_guessNow 22 = .ok (.iconst 0, 1) := by decide +kernel
theorem dX11_guessNow_23 : decode cX11_guessNow 23 = .ok (.istore_n 1, 1) := by decide +kernel
theorem dX11_guessNow_24 : decode cX11_guessNow 24 = .ok (.iload_n 1, 1) := by decide +kernel
theorem dX11_guessNow_25 : decode cX11_guessNow 25 = .ok (.sipush 380, 3) := by decide +kernel
theorem dX11_guessNow_28 : decode cX11_guessNow 28 = .ok (.if_icmp .ge 85, 3) := by decide +kernel
theorem dX11_guessNow_31 : decode cX11_guessNow 31 = .ok (.iload_n 1, 1) := by decide +kernel
theorem dX11_guessNow_32 : decode cX11_guessNow 32 = .ok (.bipush 19, 2) := by decide +kernel
theorem dX11_guessNow_34 : decode cX11_guessNow 34 = .ok (.if_icmp .ge 7, 3) := by decide +kernel
theorem dX11_guessNow_37 : decode cX11_guessNow 37 = .ok (.iconst 1, 1) := by decide +kernel
theorem dX11_guessNow_38 : decode cX11_guessNow 38 = .ok (.goto 4, 3) := by decide +kernel
theorem dX11_guessNow_41 : decode cX11_guessNow 41 = .ok (.iconst 2, 1) := by decide +kernel
theorem dX11_guessNow_42 : decode cX11_guessNow 42 = .ok (.istore_n 2, 1) := by decide +kernel
theorem dX11_guessNow_43 : decode cX11_guessNow 43 = .ok (.aload_n 0, 1) := by decide +kernel
theorem dX11_guessNow_44 : decode cX11_guessNow 44 = .ok (.iload_n 2, 1) := by decide +kernel
theorem dX11_guessNow_45 : decode cX11_guessNow 45 = .ok (.iconst 1, 1) := by decide +kernel
theorem dX11_guessNow_46 : decode cX11_guessNow 46 = .ok (.if_icmp .ne 7, 3) := by decide +kernel
theorem dX11_guessNow_49 : decode cX11_guessNow 49 = .ok (.iload_n 1, 1) := by decide +kernel
theorem dX11_guessNow_50 : decode cX11_guessNow 50 = .ok (.goto 10, 3) := by decide +kernel
theorem dX11_guessNow_53 : decode cX11_guessNow 53 = .ok (.iload_n 1, 1) := by decide +kernel
theorem dX11_guessNow_54 : decode cX11_guessNow 54 = .ok (.bipush 19, 2) := by decide +kernel
theorem dX11_guessNow_56 : decode cX11_guessNow 56 = .ok (.isub, 1) := by decide +kernel
theorem dX11_guessNow_57 : decode cX11_guessNow 57 = .ok (.bipush 19, 2) := by decide +kernel
theorem dX11_guessNow_59 : decode cX11_guessNow 59 = .ok (.idiv, 1) := by decide +kernel
theorem dX11_guessNow_60 : decode cX11_guessNow 60 = .ok (.bipush 9, 2) := by decide +kernel
theorem dX11_guessNow_62 : decode cX11_guessNow 62 = .ok (.isub, 1) := by decide +kernel
theorem dX11_guessNow_63 : decode cX11_guessNow 63 = .ok (.putfield 322, 3) := by decide +kernel
theorem dX11_guessNow_66 : decode cX11_guessNow 66 = .ok (.aload_n 0, 1) := by decide +kernel
theorem dX11_guessNow_67 : decode cX11_guessNow 67 = .ok (.iload_n 2, 1) := by decide +kernel
theorem dX11_guessNow_68 : decode cX11_guessNow 68 = .ok (.iconst 1, 1) := by decide +kernel
theorem dX11_guessNow_69 : decode cX11_guessNow 69 = .ok (.if_icmp .ne 7, 3) := by decide +kernel
theorem dX11_guessNow_72 : decode cX11_guessNow 72 = .ok (.iconst 0, 1) := by decide +kernel
theorem dX11_guessNow_73 : decode cX11_guessNow 73 = .ok (.goto 13, 3) := by decide +kernel
theorem dX11_guessNow_76 : decode cX11_guessNow 76 = .ok (.iload_n 1, 1) := by decide +kernel
theorem dX11_guessNow_77 : decode cX11_guessNow 77 = .ok (.bipush 19, 2) := by decide +kernel
theorem dX11_guessNow_79 : decode cX11_guessNow 79 = .ok (.isub, 1) := by decide +kernel
theorem dX11_guessNow_80 : decode cX11_guessNow 80 = .ok (.bipush 19, 2) := by decide +kernel
theorem dX11_guessNow_82 : decode cX11_guessNow 82 = .ok (.irem, 1) := by decide +kernel
theorem dX11_guessNow_83 : decode cX11_guessNow 83 = .ok (.bipush 9, 2) := by decide +kernel
theorem dX11_guessNow_85 : decode cX11_guessNow 85 = .ok (.isub, 1) := by decide +kernel
theorem dX11_guessNow_86 : decode cX11_guessNow 86 = .ok (.putfield 325, 3) := by decide +kernel
theorem dX11_guessNow_89 : decode cX11_guessNow 89 = .ok (.aload_n 0, 1) := by decide +kernel
theorem dX11_guessNow_90 : decode cX11_guessNow 90 = .ok (.iload_n 2, 1) := by decide +kernel
theorem dX11_guessNow_91 : decode cX11_guessNow 91 = .ok (.aload_n 0, 1) := by decide +kernel
theorem dX11_guessNow_92 : decode cX11_guessNow 92 = .ok (.getfield 322, 3) := by decide +kernel
theorem dX11_guessNow_95 : decode cX11_guessNow 95 = .ok (.aload_n 0, 1) := by decide +kernel
theorem dX11_guessNow_96 : decode cX11_guessNow 96 = .ok (.getfield 325, 3) := by decide +kernel
theorem dX11_guessNow_99 : decode cX11_guessNow 99 = .ok (.invokevirtual 328, 3) := by decide +kernel
theorem dX11_guessNow_102 : decode cX11_guessNow 102 = .ok (.ifCond .eq 5, 3) := by decide +kernel
theorem dX11_guessNow_105 : decode cX11_guessNow 105 = .ok (.iload_n 2, 1) := by decide +kernel
theorem dX11_guessNow_106 : decode cX11_guessNow 106 = .ok (.ireturn, 1) := by decide +kernel
theorem dX11_guessNow_107 : decode cX11_guessNow 107 = .ok (.iinc 1 1, 3) := by decide +kernel
theorem dX11_guessNow_110 : decode cX11_guessNow 110 = .ok (.goto (-86), 3) := by decide +kernel
theorem dX11_guessNow_113 : decode cX11_guessNow 113 = .ok (.ldc 54, 2) := by decide +kernel
theorem dX11_guessNow_115 : decode cX11_guessNow 115 = .ok (.ireturn, 1) := by decide +kernel
theorem dX11_guessTold_0 : decode cX11_guessTold 0 = .ok (.aload_n 0, 1) := by decide +kernel
theorem dX11_guessTold_1 : decode cX11_guessTold 1 = .ok (.invokevirtual 331, 3) := by decide +kernel
theorem dX11_guessTold_4 : decode cX11_guessTold 4 = .ok (.istore_n 2, 1) := by decide +kernel
theorem dX11_guessTold_5 : decode cX11_guessTold 5 = .ok (.iload_n 2, 1) := by decide +kernel
theorem dX11_guessTold_6 : decode cX11_guessTold 6 = .ok (.ldc 54, 2) := by decide +kernel
theorem dX11_guessTold_8 : decode cX11_guessTold 8 = .ok (.if_icmp .eq 7, 3) := by decide +kernel
theorem dX11_guessTold_11 : decode cX11_guessTold 11 = .ok (.iload_n 1, 1) := by decide +kernel
theorem dX11_guessTold_12 : decode cX11_guessTold 12 = .ok (.ifCond .ne 7, 3) := by decide +kernel
theorem dX11_guessTold_15 : decode cX11_guessTold 15 = .ok (.iload_n 2, 1) := by decide +kernel
theorem dX11_guessTold_16 : decode cX11_guessTold 16 = .ok (.goto 19, 3) := by decide +kernel
theorem dX11_guessTold_19 : decode cX11_guessTold 19 = .ok (.iload_n 1, 1) := by decide +kernel
theorem dX11_guessTold_20 : decode cX11_guessTold 20 = .ok (.iconst 1, 1) := by decide +kernel
theorem dX11_guessTold_21 : decode cX11_guessTold 21 = .ok (.if_icmp .ne 10, 3) := by decide +kernel
theorem dX11_guessTold_24 : decode cX11_guessTold 24 = .ok (.aload_n 0, 1) := by decide +kernel
theorem dX11_guessTold_25 : decode cX11_guessTold 25 = .ok (.getfield 322, 3) := by decide +kernel
theorem dX11_guessTold_28 : decode cX11_guessTold 28 = .ok (.goto 7, 3) := by decide +kernel
theorem dX11_guessTold_31 : decode cX11_guessTold 31 = .ok (.aload_n 0, 1) := by decide +kernel
theorem dX11_guessTold_32 : decode cX11_guessTold 32 = .ok (.getfield 325, 3) := by decide +kernel
theorem dX11_guessTold_35 : decode cX11_guessTold 35 = .ok (.ireturn, 1) := by decide +kernel
theorem dX11_guess_0 : decode cX11_guess 0 = .ok (.iload_n 1, 1) := by decide +kernel
theorem dX11_guess_1 : decode cX11_guess 1 = .ok (.iconst 0, 1) := by decide +kernel
theorem dX11_guess_2 : decode cX11_guess 2 = .ok (.iconst 2, 1) := by decide +kernel
theorem dX11_guess_3 : decode cX11_guess 3 = .ok (.invokestatic 68, 3) := by decide +kernel
theorem dX11_guess_6 : decode cX11_guess 6 = .ok (.ifCond .eq 11, 3) := by decide +kernel
theorem dX11_guess_9 : decode cX11_guess 9 = .ok (.aload_n 0, 1) := by decide +kernel
theorem dX11_guess_10 : decode cX11_guess 10 = .ok (.iload_n 1, 1) := by decide +kernel
theorem dX11_guess_11 : decode cX11_guess 11 = .ok (.invokevirtual 334, 3) := by decide +kernel
theorem dX11_guess_14 : decode cX11_guess 14 = .ok (.goto 5, 3) := by decide +kernel
theorem dX11_guess_17 : decode cX11_guess 17 = .ok (.ldc 72, 2) := by decide +kernel
theorem dX11_guess_19 : decode cX11_guess 19 = .ok (.ireturn, 1) := by decide +kernel
theorem dX11_found_0 : decode cX11_found 0 = .ok (.aload_n 0, 1) := by decide +kernel
theorem dX11_found_1 : decode cX11_found 1 = .ok (.invokevirtual 331, 3) := by decide +kernel
theorem dX11_found_4 : decode cX11_found 4 = .ok (.istore_n 1, 1) := by decide +kernel
theorem dX11_found_5 : decode cX11_found 5 = .ok (.iload_n 1, 1) := by decide +kernel
theorem dX11_found_6 : decode cX11_found 6 = .ok (.ldc 54, 2) := by decide +kernel
theorem dX11_found_8 : decode cX11_found 8 = .ok (.if_icmp .ne 6, 3) := by decide +kernel
theorem dX11_found_11 : decode cX11_found 11 = .ok (.ldc 115, 2) := by decide +kernel
theorem dX11_found_13 : decode cX11_found 13 = .ok (.ireturn, 1) := by decide +kernel
theorem dX11_found_14 : decode cX11_found 14 = .ok (.iload_n 1, 1) := by decide +kernel
theorem dX11_found_15 : decode cX11_found 15 = .ok (.ifCond .ne 7, 3) := by decide +kernel
theorem dX11_found_18 : decode cX11_found 18 = .ok (.iconst 0, 1) := by decide +kernel
theorem dX11_found_19 : decode cX11_found 19 = .ok (.goto 9, 3) := by decide +kernel
theorem dX11_found_22 : decode cX11_found 22 = .ok (.aload_n 0, 1) := by decide +kernel
theorem dX11_found_23 : decode cX11_found 23 = .ok (.getfield 16, 3) := by decide +kernel
theorem dX11_found_26 : decode cX11_found 26 = .ok (.iconst 0, 1) := by decide +kernel
theorem dX11_found_27 : decode cX11_found 27 = .ok (.iaload, 1) := by decide +kernel
theorem dX11_found_28 : decode cX11_found 28 = .ok (.istore_n 2, 1) := by decide +kernel
theorem dX11_found_29 : decode cX11_found 29 = .ok (.aload_n 0, 1) := by decide +kernel
theorem dX11_found_30 : decode cX11_found 30 = .ok (.iconst 0, 1) := by decide +kernel
theorem dX11_found_31 : decode cX11_found 31 = .ok (.aload_n 0, 1) := by decide +kernel
theorem dX11_found_32 : decode cX11_found 32 = .ok (.getfield 322, 3) := by decide +kernel
theorem dX11_found_35 : decode cX11_found 35 = .ok (.aload_n 0, 1) := by decide +kernel
theorem dX11_found_36 : decode cX11_found 36 = .ok (.getfield 325, 3) := by decide +kernel
theorem dX11_found_39 : decode cX11_found 39 = .ok (.iload_n 2, 1) := by decide +kernel
theorem dX11_found_40 : decode cX11_found 40 = .ok (.iload_n 1, 1) := by decide +kernel
theorem dX11_found_41 : decode cX11_found 41 = .ok (.iconst 2, 1) := by decide +kernel
theorem dX11_found_42 : decode cX11_found 42 = .ok (.if_icmp .ne 12, 3) := by decide +kernel
theorem dX11_found_45 : decode cX11_found 45 = .ok (.aload_n 0, 1) := by decide +kernel
theorem dX11_found_46 : decode cX11_found 46 = .ok (.getfield 16, 3) := by decide +kernel
theorem dX11_found_49 : decode cX11_found 49 = .ok (.iconst 1, 1) := by decide +kernel
theorem dX11_found_50 : decode cX11_found 50 = .ok (.iaload, 1) := by decide +kernel
theorem dX11_found_51 : decode cX11_found 51 = .ok (.goto 9, 3) := by decide +kernel
theorem dX11_found_54 : decode cX11_found 54 = .ok (.aload_n 0, 1) := by decide +kernel
theorem dX11_found_55 : decode cX11_found 55 = .ok (.getfield 322, 3) := by decide +kernel
theorem dX11_found_58 : decode cX11_found 58 = .ok (.iload_n 2, 1) := by decide +kernel
theorem dX11_found_59 : decode cX11_found 59 = .ok (.imul, 1) := by decide +kernel
theorem dX11_found_60 : decode cX11_found 60 = .ok (.invokevirtual 300, 3) := by decide +kernel
theorem dX11_found_63 : decode cX11_found 63 = .ok (.ireturn, 1) := by decide +kernel
theorem dX11_drawOf_0 : decode cX11_drawOf 0 = .ok (.aload_n 0, 1) := by decide +kernel
theorem dX11_drawOf_1 : decode cX11_drawOf 1 = .ok (.ldc2_w 337, 3) := by decide +kernel
theorem dX11_drawOf_4 : decode cX11_drawOf 4 = .ok (.aload_n 0, 1) := by decide +kernel
theorem dX11_drawOf_5 : decode cX11_drawOf 5 = .ok (.getfield 339, 3) := by decide +kernel
theorem dX11_drawOf_8 : decode cX11_drawOf 8 = .ok (.lmul, 1) := by decide +kernel
theorem dX11_drawOf_9 : decode cX11_drawOf 9 = .ok (.ldc2_w 343, 3) := by decide +kernel
theorem dX11_drawOf_12 : decode cX11_drawOf 12 = .ok (.ladd, 1) := by decide +kernel
theorem dX11_drawOf_13 : decode cX11_drawOf 13 = .ok (.ldc2_w 345, 3) := by decide +kernel
theorem dX11_drawOf_16 : decode cX11_drawOf 16 = .ok (.lrem, 1) := by decide +kernel
theorem dX11_drawOf_17 : decode cX11_drawOf 17 = .ok (.putfield 339, 3) := by decide +kernel
theorem dX11_drawOf_20 : decode cX11_drawOf 20 = .ok (.aload_n 0, 1) := by decide +kernel
theorem dX11_drawOf_21 : decode cX11_drawOf 21 = .ok (.getfield 339, 3) := by decide +kernel
theorem dX11_drawOf_24 : decode cX11_drawOf 24 = .ok (.ldc2_w 347, 3) := by decide +kernel
theorem dX11_drawOf_27 : decode cX11_drawOf 27 = .ok (.ldiv, 1) := by decide +kernel
theorem dX11_drawOf_28 : decode cX11_drawOf 28 = .ok (.iload_n 1, 1) := by decide +kernel
theorem dX11_drawOf_29 : decode cX11_drawOf 29 = .ok (.i2l, 1) := by decide +kernel
theorem dX11_drawOf_30 : decode cX11_drawOf 30 = .ok (.lrem, 1) := by decide +kernel
theorem dX11_drawOf_31 : decode cX11_drawOf 31 = .ok (.l2i, 1) := by decide +kernel
theorem dX11_drawOf_32 : decode cX11_drawOf 32 = .ok (.ireturn, 1) := by decide +kernel
theorem dX11_drawnNow_0 : decode cX11_drawnNow 0 = .ok (.aload_n 0, 1) := by decide +kernel
theorem dX11_drawnNow_1 : decode cX11_drawnNow 1 = .ok (.iload_n 2, 1) := by decide +kernel
theorem dX11_drawnNow_2 : decode cX11_drawnNow 2 = .ok (.i2l, 1) := by decide +kernel
theorem dX11_drawnNow_3 : decode cX11_drawnNow 3 = .ok (.putfield 339, 3) := by decide +kernel
theorem dX11_drawnNow_6 : decode cX11_drawnNow 6 = .ok (.iconst 0, 1) := by decide +kernel
theorem dX11_drawnNow_7 : decode cX11_drawnNow 7 = .ok (.istore 4, 2) := by decide +kernel
theorem dX11_drawnNow_9 : decode cX11_drawnNow 9 = .ok (.iconst 0, 1) := by decide +kernel
theorem dX11_drawnNow_10 : decode cX11_drawnNow 10 = .ok (.istore 5, 2) := by decide +kernel
theorem dX11_drawnNow_12 : decode cX11_drawnNow 12 = .ok (.iconst 0, 1) := by decide +kernel
theorem dX11_drawnNow_13 : decode cX11_drawnNow 13 = .ok (.istore 6, 2) := by decide +kernel
theorem dX11_drawnNow_15 : decode cX11_drawnNow 15 = .ok (.iload 6, 2) := by decide +kernel
theorem dX11_drawnNow_17 : decode cX11_drawnNow 17 = .ok (.iload_n 1, 1) := by decide +kernel
theorem dX11_drawnNow_18 : decode cX11_drawnNow 18 = .ok (.if_icmp .ge 90, 3) := by decide +kernel
theorem dX11_drawnNow_21 : decode cX11_drawnNow 21 = .ok (.iconst 0, 1) := by decide +kernel
theorem dX11_drawnNow_22 : decode cX11_drawnNow 22 = .ok (.istore 7, 2) := by decide +kernel
theorem dX11_drawnNow_24 : decode cX11_drawnNow 24 = .ok (.iload 7, 2) := by decide +kernel
theorem dX11_drawnNow_26 : decode cX11_drawnNow 26 = .ok (.iconst 4, 1) := by decide +kernel
theorem dX11_drawnNow_27 : decode cX11_drawnNow 27 = .ok (.if_icmp .ge 27, 3) := by decide +kernel
theorem dX11_drawnNow_30 : decode cX11_drawnNow 30 = .ok (.aload_n 0, 1) := by decide +kernel
theorem dX11_drawnNow_31 : decode cX11_drawnNow 31 = .ok (.getfield 13, 3) := by decide +kernel
theorem dX11_drawnNow_34 : decode cX11_drawnNow 34 = .ok (.bipush 32, 2) := by decide +kernel
theorem dX11_drawnNow_36 : decode cX11_drawnNow 36 = .ok (.iload 7, 2) := by decide +kernel
theorem dX11_drawnNow_38 : decode cX11_drawnNow 38 = .ok (.iadd, 1) := by decide +kernel
theorem dX11_drawnNow_39 : decode cX11_drawnNow 39 = .ok (.aload_n 0, 1) := by decide +kernel
theorem dX11_drawnNow_40 : decode cX11_drawnNow 40 = .ok (.bipush 7, 2) := by decide +kernel
theorem dX11_drawnNow_42 : decode cX11_drawnNow 42 = .ok (.invokevirtual 349, 3) := by decide +kernel
theorem dX11_drawnNow_45 : decode cX11_drawnNow 45 = .ok (.iconst 3, 1) := by decide +kernel
theorem dX11_drawnNow_46 : decode cX11_drawnNow 46 = .ok (.isub, 1) := by decide +kernel
theorem dX11_drawnNow_47 : decode cX11_drawnNow 47 = .ok (.iastore, 1) := by decide +kernel
theorem dX11_drawnNow_48 : decode cX11_drawnNow 48 = .ok (.iinc 7 1, 3) := by decide +kernel
theorem dX11_drawnNow_51 : decode cX11_drawnNow 51 = .ok (.goto (-27), 3) := by decide +kernel
theorem dX11_drawnNow_54 : decode cX11_drawnNow 54 = .ok (.aload_n 0, 1) := by decide +kernel
theorem dX11_drawnNow_55 : decode cX11_drawnNow 55 = .ok (.bipush 8, 2) := by decide +kernel
theorem dX11_drawnNow_57 : decode cX11_drawnNow 57 = .ok (.iconst 5, 1) := by decide +kernel
theorem dX11_drawnNow_58 : decode cX11_drawnNow 58 = .ok (.invokevirtual 169, 3) := by decide +kernel
theorem dX11_drawnNow_61 : decode cX11_drawnNow 61 = .ok (.iload 4, 2) := by decide +kernel
theorem dX11_drawnNow_63 : decode cX11_drawnNow 63 = .ok (.aload_n 0, 1) := by decide +kernel
theorem dX11_drawnNow_64 : decode cX11_drawnNow 64 = .ok (.bipush 8, 2) := by decide +kernel
theorem dX11_drawnNow_66 : decode cX11_drawnNow 66 = .ok (.invokevirtual 187, 3) := by decide +kernel
theorem dX11_drawnNow_69 : decode cX11_drawnNow 69 = .ok (.iadd, 1) := by decide +kernel
theorem dX11_drawnNow_70 : decode cX11_drawnNow 70 = .ok (.istore 4, 2) := by decide +kernel
theorem dX11_drawnNow_72 : decode cX11_drawnNow 72 = .ok (.iload 5, 2) := by decide +kernel
theorem dX11_drawnNow_74 : decode cX11_drawnNow 74 = .ok (.aload_n 0, 1) := by decide +kernel
theorem dX11_drawnNow_75 : decode cX11_drawnNow 75 = .ok (.getfield 13, 3) := by decide +kernel
theorem dX11_drawnNow_78 : decode cX11_drawnNow 78 = .ok (.bipush 32, 2) := by decide +kernel
theorem dX11_drawnNow_80 : decode cX11_drawnNow 80 = .ok (.iaload, 1) := by decide +kernel
theorem dX11_drawnNow_81 : decode cX11_drawnNow 81 = .ok (.aload_n 0, 1) := by decide +kernel
theorem dX11_drawnNow_82 : decode cX11_drawnNow 82 = .ok (.getfield 13, 3) := by decide +kernel
theorem dX11_drawnNow_85 : decode cX11_drawnNow 85 = .ok (.bipush 33, 2) := by decide +kernel
theorem dX11_drawnNow_87 : decode cX11_drawnNow 87 = .ok (.iaload, 1) := by decide +kernel
theorem dX11_drawnNow_88 : decode cX11_drawnNow 88 = .ok (.invokestatic 272, 3) := by decide +kernel
theorem dX11_drawnNow_91 : decode cX11_drawnNow 91 = .ok (.ifCond .le 7, 3) := by decide +kernel
theorem dX11_drawnNow_94 : decode cX11_drawnNow 94 = .ok (.iconst 1, 1) := by decide +kernel
theorem dX11_drawnNow_95 : decode cX11_drawnNow 95 = .ok (.goto 4, 3) := by decide +kernel
theorem dX11_drawnNow_98 : decode cX11_drawnNow 98 = .ok (.iconst 0, 1) := by decide +kernel
theorem dX11_drawnNow_99 : decode cX11_drawnNow 99 = .ok (.iadd, 1) := by decide +kernel
theorem dX11_drawnNow_100 : decode cX11_drawnNow 100 = .ok (.istore 5, 2) := by decide +kernel
theorem dX11_drawnNow_102 : decode cX11_drawnNow 102 = .ok (.iinc 6 1, 3) := by decide +kernel
theorem dX11_drawnNow_105 : decode cX11_drawnNow 105 = .ok (.goto (-90), 3) := by decide +kernel
theorem dX11_drawnNow_108 : decode cX11_drawnNow 108 = .ok (.iload_n 3, 1) := by decide +kernel
theorem dX11_drawnNow_109 : decode cX11_drawnNow 109 = .ok (.ifCond .ne 8, 3) := by decide +kernel
theorem dX11_drawnNow_112 : decode cX11_drawnNow 112 = .ok (.iload 4, 2) := by decide +kernel
theorem dX11_drawnNow_114 : decode cX11_drawnNow 114 = .ok (.goto 18, 3) := by decide +kernel
theorem dX11_drawnNow_117 : decode cX11_drawnNow 117 = .ok (.iload_n 3, 1) := by decide +kernel
theorem dX11_drawnNow_118 : decode cX11_drawnNow 118 = .ok (.iconst 1, 1) := by decide +kernel
theorem dX11_drawnNow_119 : decode cX11_drawnNow 119 = .ok (.if_icmp .ne 8, 3) := by decide +kernel
theorem dX11_drawnNow_122 : decode cX11_drawnNow 122 = .ok (.iload 5, 2) := by decide +kernel
theorem dX11_drawnNow_124 : decode cX11_drawnNow 124 = .ok (.goto 8, 3) := by decide +kernel
theorem dX11_drawnNow_127 : decode cX11_drawnNow 127 = .ok (.aload_n 0, 1) := by decide +kernel
theorem dX11_drawnNow_128 : decode cX11_drawnNow 128 = .ok (.getfield 339, 3) := by decide +kernel
theorem dX11_drawnNow_131 : decode cX11_drawnNow 131 = .ok (.l2i, 1) := by decide +kernel
theorem dX11_drawnNow_132 : decode cX11_drawnNow 132 = .ok (.ireturn, 1) := by decide +kernel
theorem dX11_drawn_0 : decode cX11_drawn 0 = .ok (.iload_n 1, 1) := by decide +kernel
theorem dX11_drawn_1 : decode cX11_drawn 1 = .ok (.iconst 1, 1) := by decide +kernel
theorem dX11_drawn_2 : decode cX11_drawn 2 = .ok (.bipush 30, 2) := by decide +kernel
theorem dX11_drawn_4 : decode cX11_drawn 4 = .ok (.invokestatic 68, 3) := by decide +kernel
theorem dX11_drawn_7 : decode cX11_drawn 7 = .ok (.ifCond .eq 26, 3) := by decide +kernel
theorem dX11_drawn_10 : decode cX11_drawn 10 = .ok (.iload_n 2, 1) := by decide +kernel
theorem dX11_drawn_11 : decode cX11_drawn 11 = .ok (.ifCond .lt 22, 3) := by decide +kernel
theorem dX11_drawn_14 : decode cX11_drawn 14 = .ok (.iload_n 3, 1) := by decide +kernel
theorem dX11_drawn_15 : decode cX11_drawn 15 = .ok (.iconst 0, 1) := by decide +kernel
theorem dX11_drawn_16 : decode cX11_drawn 16 = .ok (.iconst 2, 1) := by decide +kernel
theorem dX11_drawn_17 : decode cX11_drawn 17 = .ok (.invokestatic 68, 3) := by decide +kernel
theorem dX11_drawn_20 : decode cX11_drawn 20 = .ok (.ifCond .eq 13, 3) := by decide +kernel
theorem dX11_drawn_23 : decode cX11_drawn 23 = .ok (.aload_n 0, 1) := by decide +kernel
theorem dX11_drawn_24 : decode cX11_drawn 24 = .ok (.iload_n 1, 1) := by decide +kernel
theorem dX11_drawn_25 : decode cX11_drawn 25 = .ok (.iload_n 2, 1) := by decide +kernel
theorem dX11_drawn_26 : decode cX11_drawn 26 = .ok (.iload_n 3, 1) := by decide +kernel
theorem dX11_drawn_27 : decode cX11_drawn 27 = .ok (.invokevirtual 352, 3) := by decide +kernel
theorem dX11_drawn_30 : decode cX11_drawn 30 = .ok (.goto 5, 3) := by decide +kernel
theorem dX11_drawn_33 : decode cX11_drawn 33 = .ok (.ldc 72, 2) := by decide +kernel
theorem dX11_drawn_35 : decode cX11_drawn 35 = .ok (.ireturn, 1) := by decide +kernel
theorem dX11_copy_0 : decode cX11_copy 0 = .ok (.iconst 0, 1) := by decide +kernel
theorem dX11_copy_1 : decode cX11_copy 1 = .ok (.istore_n 3, 1) := by decide +kernel
theorem dX11_copy_2 : decode cX11_copy 2 = .ok (.iload_n 3, 1) := by decide +kernel
theorem dX11_copy_3 : decode cX11_copy 3 = .ok (.iload_n 2, 1) := by decide +kernel
theorem dX11_copy_4 : decode cX11_copy 4 = .ok (.if_icmp .ge 15, 3) := by decide +kernel
theorem dX11_copy_7 : decode cX11_copy 7 = .ok (.aload_n 1, 1) := by decide +kernel
theorem dX11_copy_8 : decode cX11_copy 8 = .ok (.iload_n 3, 1) := by decide +kernel
theorem dX11_copy_9 : decode cX11_copy 9 = .ok (.aload_n 0, 1) := by decide +kernel
theorem dX11_copy_10 : decode cX11_copy 10 = .ok (.iload_n 3, 1) := by decide +kernel
theorem dX11_copy_11 : decode cX11_copy 11 = .ok (.iaload, 1) := by decide +kernel
theorem dX11_copy_12 : decode cX11_copy 12 = .ok (.iastore, 1) := by decide +kernel
theorem dX11_copy_13 : decode cX11_copy 13 = .ok (.iinc 3 1, 3) := by decide +kernel
theorem dX11_copy_16 : decode cX11_copy 16 = .ok (.goto (-14), 3) := by decide +kernel
theorem dX11_copy_19 : decode cX11_copy 19 = .ok (.return_, 1) := by decide +kernel
theorem dX11_image_0 : decode cX11_image 0 = .ok (.aload_n 0, 1) := by decide +kernel
theorem dX11_image_1 : decode cX11_image 1 = .ok (.getfield 116, 3) := by decide +kernel
theorem dX11_image_4 : decode cX11_image 4 = .ok (.ifCond .ne 6, 3) := by decide +kernel
theorem dX11_image_7 : decode cX11_image 7 = .ok (.ldc 115, 2) := by decide +kernel
theorem dX11_image_9 : decode cX11_image 9 = .ok (.ireturn, 1) := by decide +kernel
theorem dX11_image_10 : decode cX11_image 10 = .ok (.aload_n 0, 1) := by decide +kernel
theorem dX11_image_11 : decode cX11_image 11 = .ok (.aload_n 0, 1) := by decide +kernel
theorem dX11_image_12 : decode cX11_image 12 = .ok (.getfield 119, 3) := by decide +kernel
theorem dX11_image_15 : decode cX11_image 15 = .ok (.putfield 55, 3) := by decide +kernel
theorem dX11_image_18 : decode cX11_image 18 = .ok (.aload_n 0, 1) := by decide +kernel
theorem dX11_image_19 : decode cX11_image 19 = .ok (.aload_n 0, 1) := by decide +kernel
theorem dX11_image_20 : decode cX11_image 20 = .ok (.getfield 116, 3) := by decide +kernel
theorem dX11_image_23 : decode cX11_image 23 = .ok (.putfield 355, 3) := by decide +kernel
theorem dX11_image_26 : decode cX11_image 26 = .ok (.aload_n 0, 1) := by decide +kernel
theorem dX11_image_27 : decode cX11_image 27 = .ok (.aload_n 0, 1) := by decide +kernel
theorem dX11_image_28 : decode cX11_image 28 = .ok (.getfield 319, 3) := by decide +kernel
theorem dX11_image_31 : decode cX11_image 31 = .ok (.putfield 358, 3) := by decide +kernel
theorem dX11_image_34 : decode cX11_image 34 = .ok (.aload_n 0, 1) := by decide +kernel
theorem dX11_image_35 : decode cX11_image 35 = .ok (.getfield 7, 3) := by decide +kernel
theorem dX11_image_38 : decode cX11_image 38 = .ok (.aload_n 0, 1) := by decide +kernel
theorem dX11_image_39 : decode cX11_image 39 = .ok (.getfield 59, 3) := by decide +kernel
theorem dX11_image_42 : decode cX11_image 42 = .ok (.bipush 8, 2) := by decide +kernel
theorem dX11_image_44 : decode cX11_image 44 = .ok (.invokestatic 361, 3) := by decide +kernel
theorem dX11_image_47 : decode cX11_image 47 = .ok (.aload_n 0, 1) := by decide +kernel
theorem dX11_image_48 : decode cX11_image 48 = .ok (.getfield 13, 3) := by decide +kernel
theorem dX11_image_51 : decode cX11_image 51 = .ok (.aload_n 0, 1) := by decide +kernel
theorem dX11_image_52 : decode cX11_image 52 = .ok (.getfield 62, 3) := by decide +kernel
theorem dX11_image_55 : decode cX11_image 55 = .ok (.bipush 32, 2) := by decide +kernel
theorem dX11_image_57 : decode cX11_image 57 = .ok (.invokestatic 361, 3) := by decide +kernel
theorem dX11_image_60 : decode cX11_image 60 = .ok (.aload_n 0, 1) := by decide +kernel
theorem dX11_image_61 : decode cX11_image 61 = .ok (.getfield 16, 3) := by decide +kernel
theorem dX11_image_64 : decode cX11_image 64 = .ok (.aload_n 0, 1) := by decide +kernel
theorem dX11_image_65 : decode cX11_image 65 = .ok (.getfield 65, 3) := by decide +kernel
theorem dX11_image_68 : decode cX11_image 68 = .ok (.bipush 8, 2) := by decide +kernel
theorem dX11_image_70 : decode cX11_image 70 = .ok (.invokestatic 361, 3) := by decide +kernel
theorem dX11_image_73 : decode cX11_image 73 = .ok (.aload_n 0, 1) := by decide +kernel
theorem dX11_image_74 : decode cX11_image 74 = .ok (.getfield 116, 3) := by decide +kernel
theorem dX11_image_77 : decode cX11_image 77 = .ok (.ireturn, 1) := by decide +kernel
theorem dX11_restore_0 : decode cX11_restore 0 = .ok (.aload_n 0, 1) := by decide +kernel
theorem dX11_restore_1 : decode cX11_restore 1 = .ok (.getfield 55, 3) := by decide +kernel
theorem dX11_restore_4 : decode cX11_restore 4 = .ok (.aload_n 0, 1) := by decide +kernel
theorem dX11_restore_5 : decode cX11_restore 5 = .ok (.getfield 119, 3) := by decide +kernel
theorem dX11_restore_8 : decode cX11_restore 8 = .ok (.if_icmp .eq 6, 3) := by decide +kernel
theorem dX11_restore_11 : decode cX11_restore 11 = .ok (.ldc 115, 2) := by decide +kernel
theorem dX11_restore_13 : decode cX11_restore 13 = .ok (.ireturn, 1) := by decide +kernel
theorem dX11_restore_14 : decode cX11_restore 14 = .ok (.aload_n 0, 1) := by decide +kernel
theorem dX11_restore_15 : decode cX11_restore 15 = .ok (.aload_n 0, 1) := by decide +kernel
theorem dX11_restore_16 : decode cX11_restore 16 = .ok (.getfield 355, 3) := by decide +kernel
theorem dX11_restore_19 : decode cX11_restore 19 = .ok (.putfield 116, 3) := by decide +kernel
theorem dX11_restore_22 : decode cX11_restore 22 = .ok (.aload_n 0, 1) := by decide +kernel
theorem dX11_restore_23 : decode cX11_restore 23 = .ok (.aload_n 0, 1) := by decide +kernel
theorem dX11_restore_24 : decode cX11_restore 24 = .ok (.getfield 358, 3) := by decide +kernel
theorem dX11_restore_27 : decode cX11_restore 27 = .ok (.putfield 319, 3) := by decide +kernel
theorem dX11_restore_30 : decode cX11_restore 30 = .ok (.aload_n 0, 1) := by decide +kernel
theorem dX11_restore_31 : decode cX11_restore 31 = .ok (.getfield 59, 3) := by decide +kernel
theorem dX11_restore_34 : decode cX11_restore 34 = .ok (.aload_n 0, 1) := by decide +kernel
theorem dX11_restore_35 : decode cX11_restore 35 = .ok (.getfield 7, 3) := by decide +kernel
theorem dX11_restore_38 : decode cX11_restore 38 = .ok (.bipush 8, 2) := by decide +kernel
theorem dX11_restore_40 : decode cX11_restore 40 = .ok (.invokestatic 361, 3) := by decide +kernel
theorem dX11_restore_43 : decode cX11_restore 43 = .ok (.aload_n 0, 1) := by decide +kernel
theorem dX11_restore_44 : decode cX11_restore 44 = .ok (.getfield 62, 3) := by decide +kernel
theorem dX11_restore_47 : decode cX11_restore 47 = .ok (.aload_n 0, 1) := by decide +kernel
theorem dX11_restore_48 : decode cX11_restore 48 = .ok (.getfield 13, 3) := by decide +kernel
theorem dX11_restore_51 : decode cX11_restore 51 = .ok (.bipush 32, 2) := by decide +kernel
theorem dX11_restore_53 : decode cX11_restore 53 = .ok (.invokestatic 361, 3) := by decide +kernel
theorem dX11_restore_56 : decode cX11_restore 56 = .ok (.aload_n 0, 1) := by decide +kernel
theorem dX11_restore_57 : decode cX11_restore 57 = .ok (.getfield 65, 3) := by decide +kernel
theorem dX11_restore_60 : decode cX11_restore 60 = .ok (.aload_n 0, 1) := by decide +kernel
theorem dX11_restore_61 : decode cX11_restore 61 = .ok (.getfield 16, 3) := by decide +kernel
theorem dX11_restore_64 : decode cX11_restore 64 = .ok (.bipush 8, 2) := by decide +kernel
theorem dX11_restore_66 : decode cX11_restore 66 = .ok (.invokestatic 361, 3) := by decide +kernel
theorem dX11_restore_69 : decode cX11_restore 69 = .ok (.aload_n 0, 1) := by decide +kernel
theorem dX11_restore_70 : decode cX11_restore 70 = .ok (.invokevirtual 122, 3) := by decide +kernel
theorem dX11_restore_73 : decode cX11_restore 73 = .ok (.aload_n 0, 1) := by decide +kernel
theorem dX11_restore_74 : decode cX11_restore 74 = .ok (.getfield 116, 3) := by decide +kernel
theorem dX11_restore_77 : decode cX11_restore 77 = .ok (.ireturn, 1) := by decide +kernel
theorem dX11_toldMany_0 : decode cX11_toldMany 0 = .ok (.iconst 0, 1) := by decide +kernel
theorem dX11_toldMany_1 : decode cX11_toldMany 1 = .ok (.istore_n 2, 1) := by decide +kernel
theorem dX11_toldMany_2 : decode cX11_toldMany 2 = .ok (.iconst 0, 1) := by decide +kernel
theorem dX11_toldMany_3 : decode cX11_toldMany 3 = .ok (.istore_n 3, 1) := by decide +kernel
theorem dX11_toldMany_4 : decode cX11_toldMany 4 = .ok (.iload_n 3, 1) := by decide +kernel
theorem dX11_toldMany_5 : decode cX11_toldMany 5 = .ok (.aload_n 0, 1) := by decide +kernel
theorem dX11_toldMany_6 : decode cX11_toldMany 6 = .ok (.getfield 116, 3) := by decide +kernel
theorem dX11_toldMany_9 : decode cX11_toldMany 9 = .ok (.if_icmp .ge 53, 3) := by decide +kernel
theorem dX11_toldMany_12 : decode cX11_toldMany 12 = .ok (.iload_n 2, 1) := by decide +kernel
theorem dX11_toldMany_13 : decode cX11_toldMany 13 = .ok (.aload_n 0, 1) := by decide +kernel
theorem dX11_toldMany_14 : decode cX11_toldMany 14 = .ok (.iload_n 3, 1) := by decide +kernel
theorem dX11_toldMany_15 : decode cX11_toldMany 15 = .ok (.invokevirtual 245, 3) := by decide +kernel
theorem dX11_toldMany_18 : decode cX11_toldMany 18 = .ok (.ifCond .eq 35, 3) := by decide +kernel
theorem dX11_toldMany_21 : decode cX11_toldMany 21 = .ok (.iload_n 1, 1) := by decide +kernel
theorem dX11_toldMany_22 : decode cX11_toldMany 22 = .ok (.ifCond .eq 27, 3) := by decide +kernel
theorem dX11_toldMany_25 : decode cX11_toldMany 25 = .ok (.aload_n 0, 1) := by decide +kernel
theorem dX11_toldMany_26 : decode cX11_toldMany 26 = .ok (.getfield 13, 3) := by decide +kernel
theorem dX11_toldMany_29 : decode cX11_toldMany 29 = .ok (.iconst 4, 1) := by decide +kernel
theorem dX11_toldMany_30 : decode cX11_toldMany 30 = .ok (.iload_n 3, 1) := by decide +kernel
theorem dX11_toldMany_31 : decode cX11_toldMany 31 = .ok (.imul, 1) := by decide +kernel
theorem dX11_toldMany_32 : decode cX11_toldMany 32 = .ok (.iaload, 1) := by decide +kernel
theorem dX11_toldMany_33 : decode cX11_toldMany 33 = .ok (.aload_n 0, 1) := by decide +kernel
theorem dX11_toldMany_34 : decode cX11_toldMany 34 = .ok (.getfield 13, 3) := by decide +kernel
theorem dX11_toldMany_37 : decode cX11_toldMany 37 = .ok (.iconst 4, 1) := by decide +kernel
theorem dX11_toldMany_38 : decode cX11_toldMany 38 = .ok (.iload_n 3, 1) := by decide +kernel
theorem dX11_toldMany_39 : decode cX11_toldMany 39 = .ok (.imul, 1) := by decide +kernel
theorem dX11_toldMany_40 : decode cX11_toldMany 40 = .ok (.iconst 1, 1) := by decide +kernel
theorem dX11_toldMany_41 : decode cX11_toldMany 41 = .ok (.iadd, 1) := by decide +kernel
theorem dX11_toldMany_42 : decode cX11_toldMany 42 = .ok (.iaload, 1) := by decide +kernel
theorem dX11_toldMany_43 : decode cX11_toldMany 43 = .ok (.invokestatic 272, 3) := by decide +kernel
theorem dX11_toldMany_46 : decode cX11_toldMany 46 = .ok (.ifCond .le 7, 3) := by decide +kernel
theorem dX11_toldMany_49 : decode cX11_toldMany 49 = .ok (.iconst 1, 1) := by decide +kernel
theorem dX11_toldMany_50 : decode cX11_toldMany 50 = .ok (.goto 4, 3) := by decide +kernel
theorem dX11_toldMany_53 : decode cX11_toldMany 53 = .ok (.iconst 0, 1) := by decide +kernel
theorem dX11_toldMany_54 : decode cX11_toldMany 54 = .ok (.iadd, 1) := by decide +kernel
theorem dX11_toldMany_55 : decode cX11_toldMany 55 = .ok (.istore_n 2, 1) := by decide +kernel
theorem dX11_toldMany_56 : decode cX11_toldMany 56 = .ok (.iinc 3 1, 3) := by decide +kernel
theorem dX11_toldMany_59 : decode cX11_toldMany 59 = .ok (.goto (-55), 3) := by decide +kernel
theorem dX11_toldMany_62 : decode cX11_toldMany 62 = .ok (.iload_n 2, 1) := by decide +kernel
theorem dX11_toldMany_63 : decode cX11_toldMany 63 = .ok (.ireturn, 1) := by decide +kernel
theorem dX11_howMany_0 : decode cX11_howMany 0 = .ok (.iload_n 1, 1) := by decide +kernel
theorem dX11_howMany_1 : decode cX11_howMany 1 = .ok (.tableswitch 71 0 5 #[39, 44, 50, 56, 61, 66], 39) := by decide +kernel
theorem dX11_howMany_40 : decode cX11_howMany 40 = .ok (.aload_n 0, 1) := by decide +kernel
theorem dX11_howMany_41 : decode cX11_howMany 41 = .ok (.getfield 116, 3) := by decide +kernel
theorem dX11_howMany_44 : decode cX11_howMany 44 = .ok (.ireturn, 1) := by decide +kernel
theorem dX11_howMany_45 : decode cX11_howMany 45 = .ok (.aload_n 0, 1) := by decide +kernel
theorem dX11_howMany_46 : decode cX11_howMany 46 = .ok (.iconst 0, 1) := by decide +kernel
theorem dX11_howMany_47 : decode cX11_howMany 47 = .ok (.invokevirtual 365, 3) := by decide +kernel
theorem dX11_howMany_50 : decode cX11_howMany 50 = .ok (.ireturn, 1) := by decide +kernel
theorem dX11_howMany_51 : decode cX11_howMany 51 = .ok (.aload_n 0, 1) := by decide +kernel
theorem dX11_howMany_52 : decode cX11_howMany 52 = .ok (.iconst 1, 1) := by decide +kernel
theorem dX11_howMany_53 : decode cX11_howMany 53 = .ok (.invokevirtual 365, 3) := by decide +kernel
theorem dX11_howMany_56 : decode cX11_howMany 56 = .ok (.ireturn, 1) := by decide +kernel
theorem dX11_howMany_57 : decode cX11_howMany 57 = .ok (.aload_n 0, 1) := by decide +kernel
theorem dX11_howMany_58 : decode cX11_howMany 58 = .ok (.getfield 319, 3) := by decide +kernel
theorem dX11_howMany_61 : decode cX11_howMany 61 = .ok (.ireturn, 1) := by decide +kernel
theorem dX11_howMany_62 : decode cX11_howMany 62 = .ok (.aload_n 0, 1) := by decide +kernel
theorem dX11_howMany_63 : decode cX11_howMany 63 = .ok (.getfield 73, 3) := by decide +kernel
theorem dX11_howMany_66 : decode cX11_howMany 66 = .ok (.ireturn, 1) := by decide +kernel
theorem dX11_howMany_67 : decode cX11_howMany 67 = .ok (.aload_n 0, 1) := by decide +kernel
theorem dX11_howMany_68 : decode cX11_howMany 68 = .ok (.getfield 119, 3) := by decide +kernel
theorem dX11_howMany_71 : decode cX11_howMany 71 = .ok (.ireturn, 1) := by decide +kernel
theorem dX11_howMany_72 : decode cX11_howMany 72 = .ok (.ldc 72, 2) := by decide +kernel
theorem dX11_howMany_74 : decode cX11_howMany 74 = .ok (.ireturn, 1) := by decide +kernel
theorem dX11_count_0 : decode cX11_count 0 = .ok (.aload_n 0, 1) := by decide +kernel
theorem dX11_count_1 : decode cX11_count 1 = .ok (.iload_n 1, 1) := by decide +kernel
theorem dX11_count_2 : decode cX11_count 2 = .ok (.invokevirtual 369, 3) := by decide +kernel
theorem dX11_count_5 : decode cX11_count 5 = .ok (.ireturn, 1) := by decide +kernel
theorem dX11_mix_0 : decode cX11_mix 0 = .ok (.aload_n 0, 1) := by decide +kernel
theorem dX11_mix_1 : decode cX11_mix 1 = .ok (.ldc2_w 372, 3) := by decide +kernel
theorem dX11_mix_4 : decode cX11_mix 4 = .ok (.aload_n 0, 1) := by decide +kernel
theorem dX11_mix_5 : decode cX11_mix 5 = .ok (.getfield 374, 3) := by decide +kernel
theorem dX11_mix_8 : decode cX11_mix 8 = .ok (.lmul, 1) := by decide +kernel
theorem dX11_mix_9 : decode cX11_mix 9 = .ok (.lload_n 1, 1) := by decide +kernel
theorem dX11_mix_10 : decode cX11_mix 10 = .ok (.ladd, 1) := by decide +kernel
theorem dX11_mix_11 : decode cX11_mix 11 = .ok (.putfield 374, 3) := by decide +kernel
theorem dX11_mix_14 : decode cX11_mix 14 = .ok (.return_, 1) := by decide +kernel
theorem dX11_mixRow_0 : decode cX11_mixRow 0 = .ok (.aload_n 0, 1) := by decide +kernel
theorem dX11_mixRow_1 : decode cX11_mixRow 1 = .ok (.aload_n 0, 1) := by decide +kernel
theorem dX11_mixRow_2 : decode cX11_mixRow 2 = .ok (.getfield 7, 3) := by decide +kernel
theorem dX11_mixRow_5 : decode cX11_mixRow 5 = .ok (.iload_n 1, 1) := by decide +kernel
theorem dX11_mixRow_6 : decode cX11_mixRow 6 = .ok (.iaload, 1) := by decide +kernel
theorem dX11_mixRow_7 : decode cX11_mixRow 7 = .ok (.i2l, 1) := by decide +kernel
theorem dX11_mixRow_8 : decode cX11_mixRow 8 = .ok (.invokevirtual 377, 3) := by decide +kernel
theorem dX11_mixRow_11 : decode cX11_mixRow 11 = .ok (.iconst 0, 1) := by decide +kernel
theorem dX11_mixRow_12 : decode cX11_mixRow 12 = .ok (.istore_n 2, 1) := by decide +kernel
theorem dX11_mixRow_13 : decode cX11_mixRow 13 = .ok (.iload_n 2, 1) := by decide +kernel
theorem dX11_mixRow_14 : decode cX11_mixRow 14 = .ok (.iconst 4, 1) := by decide +kernel
theorem dX11_mixRow_15 : decode cX11_mixRow 15 = .ok (.if_icmp .ge 24, 3) := by decide +kernel
theorem dX11_mixRow_18 : decode cX11_mixRow 18 = .ok (.aload_n 0, 1) := by decide +kernel
theorem dX11_mixRow_19 : decode cX11_mixRow 19 = .ok (.aload_n 0, 1) := by decide +kernel
theorem dX11_mixRow_20 : decode cX11_mixRow 20 = .ok (.getfield 13, 3) := by decide +kernel
theorem dX11_mixRow_23 : decode cX11_mixRow 23 = .ok (.iconst 4, 1) := by decide +kernel
theorem dX11_mixRow_24 : decode cX11_mixRow 24 = .ok (.iload_n 1, 1) := by decide +kernel
theorem dX11_mixRow_25 : decode cX11_mixRow 25 = .ok (.imul, 1) := by decide +kernel
theorem dX11_mixRow_26 : decode cX11_mixRow 26 = .ok (.iload_n 2, 1) := by decide +kernel
theorem dX11_mixRow_27 : decode cX11_mixRow 27 = .ok (.iadd, 1) := by decide +kernel
theorem dX11_mixRow_28 : decode cX11_mixRow 28 = .ok (.iaload, 1) := by decide +kernel
theorem dX11_mixRow_29 : decode cX11_mixRow 29 = .ok (.i2l, 1) := by decide +kernel
theorem dX11_mixRow_30 : decode cX11_mixRow 30 = .ok (.invokevirtual 377, 3) := by decide +kernel
theorem dX11_mixRow_33 : decode cX11_mixRow 33 = .ok (.iinc 2 1, 3) := by decide +kernel
theorem dX11_mixRow_36 : decode cX11_mixRow 36 = .ok (.goto (-23), 3) := by decide +kernel
theorem dX11_mixRow_39 : decode cX11_mixRow 39 = .ok (.iconst 0, 1) := by decide +kernel
theorem dX11_mixRow_40 : decode cX11_mixRow 40 = .ok (.istore_n 2, 1) := by decide +kernel
theorem dX11_mixRow_41 : decode cX11_mixRow 41 = .ok (.iload_n 2, 1) := by decide +kernel
theorem dX11_mixRow_42 : decode cX11_mixRow 42 = .ok (.bipush 8, 2) := by decide +kernel
theorem dX11_mixRow_44 : decode cX11_mixRow 44 = .ok (.if_icmp .ge 20, 3) := by decide +kernel
theorem dX11_mixRow_47 : decode cX11_mixRow 47 = .ok (.aload_n 0, 1) := by decide +kernel
theorem dX11_mixRow_48 : decode cX11_mixRow 48 = .ok (.aload_n 0, 1) := by decide +kernel
theorem dX11_mixRow_49 : decode cX11_mixRow 49 = .ok (.iload_n 1, 1) := by decide +kernel
theorem dX11_mixRow_50 : decode cX11_mixRow 50 = .ok (.iload_n 2, 1) := by decide +kernel
theorem dX11_mixRow_51 : decode cX11_mixRow 51 = .ok (.invokevirtual 201, 3) := by decide +kernel
theorem dX11_mixRow_54 : decode cX11_mixRow 54 = .ok (.i2l, 1) := by decide +kernel
theorem dX11_mixRow_55 : decode cX11_mixRow 55 = .ok (.invokevirtual 377, 3) := by decide +kernel
theorem dX11_mixRow_58 : decode cX11_mixRow 58 = .ok (.iinc 2 1, 3) := by decide +kernel
theorem dX11_mixRow_61 : decode cX11_mixRow 61 = .ok (.goto (-20), 3) := by decide +kernel
theorem dX11_mixRow_64 : decode cX11_mixRow 64 = .ok (.aload_n 0, 1) := by decide +kernel
theorem dX11_mixRow_65 : decode cX11_mixRow 65 = .ok (.aload_n 0, 1) := by decide +kernel
theorem dX11_mixRow_66 : decode cX11_mixRow 66 = .ok (.iload_n 1, 1) := by decide +kernel
theorem dX11_mixRow_67 : decode cX11_mixRow 67 = .ok (.ldc_w 381, 3) := by decide +kernel
theorem dX11_mixRow_70 : decode cX11_mixRow 70 = .ok (.bipush 7, 2) := by decide +kernel
theorem dX11_mixRow_72 : decode cX11_mixRow 72 = .ok (.invokevirtual 207, 3) := by decide +kernel
theorem dX11_mixRow_75 : decode cX11_mixRow 75 = .ok (.i2l, 1) := by decide +kernel
theorem dX11_mixRow_76 : decode cX11_mixRow 76 = .ok (.invokevirtual 377, 3) := by decide +kernel
theorem dX11_mixRow_79 : decode cX11_mixRow 79 = .ok (.iconst 0, 1) := by decide +kernel
theorem dX11_mixRow_80 : decode cX11_mixRow 80 = .ok (.istore_n 2, 1) := by decide +kernel
theorem dX11_mixRow_81 : decode cX11_mixRow 81 = .ok (.iload_n 2, 1) := by decide +kernel
theorem dX11_mixRow_82 : decode cX11_mixRow 82 = .ok (.iconst 3, 1) := by decide +kernel
theorem dX11_mixRow_83 : decode cX11_mixRow 83 = .ok (.if_icmp .ge 21, 3) := by decide +kernel
theorem dX11_mixRow_86 : decode cX11_mixRow 86 = .ok (.aload_n 0, 1) := by decide +kernel
theorem dX11_mixRow_87 : decode cX11_mixRow 87 = .ok (.aload_n 0, 1) := by decide +kernel
theorem dX11_mixRow_88 : decode cX11_mixRow 88 = .ok (.iload_n 1, 1) := by decide +kernel
theorem dX11_mixRow_89 : decode cX11_mixRow 89 = .ok (.iconst 5, 1) := by decide +kernel
theorem dX11_mixRow_90 : decode cX11_mixRow 90 = .ok (.iload_n 2, 1) := by decide +kernel
theorem dX11_mixRow_91 : decode cX11_mixRow 91 = .ok (.invokevirtual 213, 3) := by decide +kernel
theorem dX11_mixRow_94 : decode cX11_mixRow 94 = .ok (.i2l, 1) := by decide +kernel
theorem dX11_mixRow_95 : decode cX11_mixRow 95 = .ok (.invokevirtual 377, 3) := by decide +kernel
theorem dX11_mixRow_98 : decode cX11_mixRow 98 = .ok (.iinc 2 1, 3) := by decide +kernel
theorem dX11_mixRow_101 : decode cX11_mixRow 101 = .ok (.goto (-20), 3) := by decide +kernel
theorem dX11_mixRow_104 : decode cX11_mixRow 104 = .ok (.aload_n 0, 1) := by decide +kernel
theorem dX11_mixRow_105 : decode cX11_mixRow 105 = .ok (.aload_n 0, 1) := by decide +kernel
theorem dX11_mixRow_106 : decode cX11_mixRow 106 = .ok (.iload_n 1, 1) := by decide +kernel
theorem dX11_mixRow_107 : decode cX11_mixRow 107 = .ok (.invokevirtual 278, 3) := by decide +kernel
theorem dX11_mixRow_110 : decode cX11_mixRow 110 = .ok (.i2l, 1) := by decide +kernel
theorem dX11_mixRow_111 : decode cX11_mixRow 111 = .ok (.invokevirtual 377, 3) := by decide +kernel
theorem dX11_mixRow_114 : decode cX11_mixRow 114 = .ok (.return_, 1) := by decide +kernel
theorem dX11_digest_0 : decode cX11_digest 0 = .ok (.aload_n 0, 1) := by decide +kernel
theorem dX11_digest_1 : decode cX11_digest 1 = .ok (.ldc2_w 382, 3) := by decide +kernel
theorem dX11_digest_4 : decode cX11_digest 4 = .ok (.putfield 374, 3) := by decide +kernel
theorem dX11_digest_7 : decode cX11_digest 7 = .ok (.iconst 0, 1) := by decide +kernel
theorem dX11_digest_8 : decode cX11_digest 8 = .ok (.istore_n 1, 1) := by decide +kernel
theorem dX11_digest_9 : decode cX11_digest 9 = .ok (.iload_n 1, 1) := by decide +kernel
theorem dX11_digest_10 : decode cX11_digest 10 = .ok (.aload_n 0, 1) := by decide +kernel
theorem dX11_digest_11 : decode cX11_digest 11 = .ok (.getfield 116, 3) := by decide +kernel
theorem dX11_digest_14 : decode cX11_digest 14 = .ok (.if_icmp .ge 14, 3) := by decide +kernel
theorem dX11_digest_17 : decode cX11_digest 17 = .ok (.aload_n 0, 1) := by decide +kernel
theorem dX11_digest_18 : decode cX11_digest 18 = .ok (.iload_n 1, 1) := by decide +kernel
theorem dX11_digest_19 : decode cX11_digest 19 = .ok (.invokevirtual 384, 3) := by decide +kernel
theorem dX11_digest_22 : decode cX11_digest 22 = .ok (.iinc 1 1, 3) := by decide +kernel
theorem dX11_digest_25 : decode cX11_digest 25 = .ok (.goto (-16), 3) := by decide +kernel
theorem dX11_digest_28 : decode cX11_digest 28 = .ok (.iconst 0, 1) := by decide +kernel
theorem dX11_digest_29 : decode cX11_digest 29 = .ok (.istore_n 1, 1) := by decide +kernel
theorem dX11_digest_30 : decode cX11_digest 30 = .ok (.iload_n 1, 1) := by decide +kernel
theorem dX11_digest_31 : decode cX11_digest 31 = .ok (.aload_n 0, 1) := by decide +kernel
theorem dX11_digest_32 : decode cX11_digest 32 = .ok (.getfield 319, 3) := by decide +kernel
theorem dX11_digest_35 : decode cX11_digest 35 = .ok (.if_icmp .ge 20, 3) := by decide +kernel
theorem dX11_digest_38 : decode cX11_digest 38 = .ok (.aload_n 0, 1) := by decide +kernel
theorem dX11_digest_39 : decode cX11_digest 39 = .ok (.aload_n 0, 1) := by decide +kernel
theorem dX11_digest_40 : decode cX11_digest 40 = .ok (.getfield 16, 3) := by decide +kernel
theorem dX11_digest_43 : decode cX11_digest 43 = .ok (.iload_n 1, 1) := by decide +kernel
theorem dX11_digest_44 : decode cX11_digest 44 = .ok (.iaload, 1) := by decide +kernel
theorem dX11_digest_45 : decode cX11_digest 45 = .ok (.i2l, 1) := by decide +kernel
theorem dX11_digest_46 : decode cX11_digest 46 = .ok (.invokevirtual 377, 3) := by decide +kernel
theorem dX11_digest_49 : decode cX11_digest 49 = .ok (.iinc 1 1, 3) := by decide +kernel
theorem dX11_digest_52 : decode cX11_digest 52 = .ok (.goto (-22), 3) := by decide +kernel
theorem dX11_digest_55 : decode cX11_digest 55 = .ok (.iconst 0, 1) := by decide +kernel
theorem dX11_digest_56 : decode cX11_digest 56 = .ok (.istore_n 1, 1) := by decide +kernel
theorem dX11_digest_57 : decode cX11_digest 57 = .ok (.iload_n 1, 1) := by decide +kernel
theorem dX11_digest_58 : decode cX11_digest 58 = .ok (.iconst 3, 1) := by decide +kernel
theorem dX11_digest_59 : decode cX11_digest 59 = .ok (.if_icmp .ge 19, 3) := by decide +kernel
theorem dX11_digest_62 : decode cX11_digest 62 = .ok (.aload_n 0, 1) := by decide +kernel
theorem dX11_digest_63 : decode cX11_digest 63 = .ok (.aload_n 0, 1) := by decide +kernel
theorem dX11_digest_64 : decode cX11_digest 64 = .ok (.iload_n 1, 1) := by decide +kernel
theorem dX11_digest_65 : decode cX11_digest 65 = .ok (.invokevirtual 334, 3) := by decide +kernel
theorem dX11_digest_68 : decode cX11_digest 68 = .ok (.i2l, 1) := by decide +kernel
theorem dX11_digest_69 : decode cX11_digest 69 = .ok (.invokevirtual 377, 3) := by decide +kernel
theorem dX11_digest_72 : decode cX11_digest 72 = .ok (.iinc 1 1, 3) := by decide +kernel
theorem dX11_digest_75 : decode cX11_digest 75 = .ok (.goto (-18), 3) := by decide +kernel
theorem dX11_digest_78 : decode cX11_digest 78 = .ok (.iconst 0, 1) := by decide +kernel
theorem dX11_digest_79 : decode cX11_digest 79 = .ok (.istore_n 1, 1) := by decide +kernel
theorem dX11_digest_80 : decode cX11_digest 80 = .ok (.iload_n 1, 1) := by decide +kernel
theorem dX11_digest_81 : decode cX11_digest 81 = .ok (.aload_n 0, 1) := by decide +kernel
theorem dX11_digest_82 : decode cX11_digest 82 = .ok (.getfield 73, 3) := by decide +kernel
theorem dX11_digest_85 : decode cX11_digest 85 = .ok (.if_icmp .ge 20, 3) := by decide +kernel
theorem dX11_digest_88 : decode cX11_digest 88 = .ok (.aload_n 0, 1) := by decide +kernel
theorem dX11_digest_89 : decode cX11_digest 89 = .ok (.aload_n 0, 1) := by decide +kernel
theorem dX11_digest_90 : decode cX11_digest 90 = .ok (.getfield 19, 3) := by decide +kernel
theorem dX11_digest_93 : decode cX11_digest 93 = .ok (.iload_n 1, 1) := by decide +kernel
theorem dX11_digest_94 : decode cX11_digest 94 = .ok (.baload, 1) := by decide +kernel
theorem dX11_digest_95 : decode cX11_digest 95 = .ok (.i2l, 1) := by decide +kernel
theorem dX11_digest_96 : decode cX11_digest 96 = .ok (.invokevirtual 377, 3) := by decide +kernel
theorem dX11_digest_99 : decode cX11_digest 99 = .ok (.iinc 1 1, 3) := by decide +kernel
theorem dX11_digest_102 : decode cX11_digest 102 = .ok (.goto (-22), 3) := by decide +kernel
theorem dX11_digest_105 : decode cX11_digest 105 = .ok (.iconst 0, 1) := by decide +kernel
theorem dX11_digest_106 : decode cX11_digest 106 = .ok (.istore_n 1, 1) := by decide +kernel
theorem dX11_digest_107 : decode cX11_digest 107 = .ok (.iload_n 1, 1) := by decide +kernel
theorem dX11_digest_108 : decode cX11_digest 108 = .ok (.bipush 6, 2) := by decide +kernel
theorem dX11_digest_110 : decode cX11_digest 110 = .ok (.if_icmp .ge 19, 3) := by decide +kernel
theorem dX11_digest_113 : decode cX11_digest 113 = .ok (.aload_n 0, 1) := by decide +kernel
theorem dX11_digest_114 : decode cX11_digest 114 = .ok (.aload_n 0, 1) := by decide +kernel
theorem dX11_digest_115 : decode cX11_digest 115 = .ok (.iload_n 1, 1) := by decide +kernel
theorem dX11_digest_116 : decode cX11_digest 116 = .ok (.invokevirtual 369, 3) := by decide +kernel
theorem dX11_digest_119 : decode cX11_digest 119 = .ok (.i2l, 1) := by decide +kernel
theorem dX11_digest_120 : decode cX11_digest 120 = .ok (.invokevirtual 377, 3) := by decide +kernel
theorem dX11_digest_123 : decode cX11_digest 123 = .ok (.iinc 1 1, 3) := by decide +kernel
theorem dX11_digest_126 : decode cX11_digest 126 = .ok (.goto (-19), 3) := by decide +kernel
theorem dX11_digest_129 : decode cX11_digest 129 = .ok (.aload_n 0, 1) := by decide +kernel
theorem dX11_digest_130 : decode cX11_digest 130 = .ok (.getfield 374, 3) := by decide +kernel
theorem dX11_digest_133 : decode cX11_digest 133 = .ok (.lreturn, 1) := by decide +kernel
