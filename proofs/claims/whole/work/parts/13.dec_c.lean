/-! decode rows -/
theorem dX11_in_0 : decode cX11_in 0 = .ok (.iload_n 0, 1) := by decide +kernel
theorem dX11_in_1 : decode cX11_in 1 = .ok (.iload_n 1, 1) := by decide +kernel
theorem dX11_in_2 : decode cX11_in 2 = .ok (.if_icmp .lt 12, 3) := by decide +kernel
theorem dX11_in_5 : decode cX11_in 5 = .ok (.iload_n 0, 1) := by decide +kernel
theorem dX11_in_6 : decode cX11_in 6 = .ok (.iload_n 2, 1) := by decide +kernel
theorem dX11_in_7 : decode cX11_in 7 = .ok (.if_icmp .gt 7, 3) := by decide +kernel
theorem dX11_in_10 : decode cX11_in 10 = .ok (.iconst 1, 1) := by decide +kernel
theorem dX11_in_11 : decode cX11_in 11 = .ok (.goto 4, 3) := by decide +kernel
theorem dX11_in_14 : decode cX11_in 14 = .ok (.iconst 0, 1) := by decide +kernel
theorem dX11_in_15 : decode cX11_in 15 = .ok (.ireturn, 1) := by decide +kernel
theorem dX11_common_0 : decode cX11_common 0 = .ok (.lload_n 0, 1) := by decide +kernel
theorem dX11_common_1 : decode cX11_common 1 = .ok (.invokestatic 7, 3) := by decide +kernel
theorem dX11_common_4 : decode cX11_common 4 = .ok (.lstore 4, 2) := by decide +kernel
theorem dX11_common_6 : decode cX11_common 6 = .ok (.lload_n 2, 1) := by decide +kernel
theorem dX11_common_7 : decode cX11_common 7 = .ok (.invokestatic 7, 3) := by decide +kernel
theorem dX11_common_10 : decode cX11_common 10 = .ok (.lstore 6, 2) := by decide +kernel
theorem dX11_common_12 : decode cX11_common 12 = .ok (.lload 6, 2) := by decide +kernel
theorem dX11_common_14 : decode cX11_common 14 = .ok (.lconst 0, 1) := by decide +kernel
theorem dX11_common_15 : decode cX11_common 15 = .ok (.lcmp, 1) := by decide +kernel
theorem dX11_common_16 : decode cX11_common 16 = .ok (.ifCond .eq 21, 3) := by decide +kernel
theorem dX11_common_19 : decode cX11_common 19 = .ok (.lload 4, 2) := by decide +kernel
theorem dX11_common_21 : decode cX11_common 21 = .ok (.lload 6, 2) := by decide +kernel
theorem dX11_common_23 : decode cX11_common 23 = .ok (.lrem, 1) := by decide +kernel
theorem dX11_common_24 : decode cX11_common 24 = .ok (.lstore 8, 2) := by decide +kernel
theorem dX11_common_26 : decode cX11_common 26 = .ok (.lload 6, 2) := by decide +kernel
theorem dX11_common_28 : decode cX11_common 28 = .ok (.lstore 4, 2) := by decide +kernel
theorem dX11_common_30 : decode cX11_common 30 = .ok (.lload 8, 2) := by decide +kernel
theorem dX11_common_32 : decode cX11_common 32 = .ok (.lstore 6, 2) := by decide +kernel
theorem dX11_common_34 : decode cX11_common 34 = .ok (.goto (-22), 3) := by decide +kernel
theorem dX11_common_37 : decode cX11_common 37 = .ok (.lload 4, 2) := by decide +kernel
theorem dX11_common_39 : decode cX11_common 39 = .ok (.lreturn, 1) := by decide +kernel
theorem dX11_anew_0 : decode cX11_anew 0 = .ok (.aload_n 0, 1) := by decide +kernel
theorem dX11_anew_1 : decode cX11_anew 1 = .ok (.iconst 0, 1) := by decide +kernel
theorem dX11_anew_2 : decode cX11_anew 2 = .ok (.putfield 1, 3) := by decide +kernel
theorem dX11_anew_5 : decode cX11_anew 5 = .ok (.aload_n 0, 1) := by decide +kernel
theorem dX11_anew_6 : decode cX11_anew 6 = .ok (.iconst 0, 1) := by decide +kernel
theorem dX11_anew_7 : decode cX11_anew 7 = .ok (.putfield 11, 3) := by decide +kernel
theorem dX11_anew_10 : decode cX11_anew 10 = .ok (.aload_n 0, 1) := by decide +kernel
theorem dX11_anew_11 : decode cX11_anew 11 = .ok (.iconst (-1), 1) := by decide +kernel
theorem dX11_anew_12 : decode cX11_anew 12 = .ok (.putfield 14, 3) := by decide +kernel
theorem dX11_anew_15 : decode cX11_anew 15 = .ok (.return_, 1) := by decide +kernel
theorem dX11_init_0 : decode cX11_init 0 = .ok (.aload_n 0, 1) := by decide +kernel
theorem dX11_init_1 : decode cX11_init 1 = .ok (.invokespecial 26, 3) := by decide +kernel
theorem dX11_init_4 : decode cX11_init 4 = .ok (.aload_n 0, 1) := by decide +kernel
theorem dX11_init_5 : decode cX11_init 5 = .ok (.iconst (-1), 1) := by decide +kernel
theorem dX11_init_6 : decode cX11_init 6 = .ok (.putfield 14, 3) := by decide +kernel
theorem dX11_init_9 : decode cX11_init 9 = .ok (.aload_n 0, 1) := by decide +kernel
theorem dX11_init_10 : decode cX11_init 10 = .ok (.bipush 64, 2) := by decide +kernel
theorem dX11_init_12 : decode cX11_init 12 = .ok (.newarray .int, 2) := by decide +kernel
theorem dX11_init_14 : decode cX11_init 14 = .ok (.putfield 32, 3) := by decide +kernel
theorem dX11_init_17 : decode cX11_init 17 = .ok (.aload_n 0, 1) := by decide +kernel
theorem dX11_init_18 : decode cX11_init 18 = .ok (.bipush 64, 2) := by decide +kernel
theorem dX11_init_20 : decode cX11_init 20 = .ok (.newarray .int, 2) := by decide +kernel
theorem dX11_init_22 : decode cX11_init 22 = .ok (.putfield 36, 3) := by decide +kernel
theorem dX11_init_25 : decode cX11_init 25 = .ok (.aload_n 0, 1) := by decide +kernel
theorem dX11_init_26 : decode cX11_init 26 = .ok (.sipush 700, 3) := by decide +kernel
theorem dX11_init_29 : decode cX11_init 29 = .ok (.newarray .int, 2) := by decide +kernel
theorem dX11_init_31 : decode cX11_init 31 = .ok (.putfield 39, 3) := by decide +kernel
theorem dX11_init_34 : decode cX11_init 34 = .ok (.aload_n 0, 1) := by decide +kernel
theorem dX11_init_35 : decode cX11_init 35 = .ok (.bipush 16, 2) := by decide +kernel
theorem dX11_init_37 : decode cX11_init 37 = .ok (.newarray .int, 2) := by decide +kernel
theorem dX11_init_39 : decode cX11_init 39 = .ok (.putfield 42, 3) := by decide +kernel
theorem dX11_init_42 : decode cX11_init 42 = .ok (.aload_n 0, 1) := by decide +kernel
theorem dX11_init_43 : decode cX11_init 43 = .ok (.bipush 8, 2) := by decide +kernel
theorem dX11_init_45 : decode cX11_init 45 = .ok (.newarray .int, 2) := by decide +kernel
theorem dX11_init_47 : decode cX11_init 47 = .ok (.putfield 45, 3) := by decide +kernel
theorem dX11_init_50 : decode cX11_init 50 = .ok (.aload_n 0, 1) := by decide +kernel
theorem dX11_init_51 : decode cX11_init 51 = .ok (.bipush 16, 2) := by decide +kernel
theorem dX11_init_53 : decode cX11_init 53 = .ok (.newarray .int, 2) := by decide +kernel
theorem dX11_init_55 : decode cX11_init 55 = .ok (.putfield 48, 3) := by decide +kernel
theorem dX11_init_58 : decode cX11_init 58 = .ok (.aload_n 0, 1) := by decide +kernel
theorem dX11_init_59 : decode cX11_init 59 = .ok (.bipush 16, 2) := by decide +kernel
theorem dX11_init_61 : decode cX11_init 61 = .ok (.newarray .int, 2) := by decide +kernel
theorem dX11_init_63 : decode cX11_init 63 = .ok (.putfield 51, 3) := by decide +kernel
theorem dX11_init_66 : decode cX11_init 66 = .ok (.aload_n 0, 1) := by decide +kernel
theorem dX11_init_67 : decode cX11_init 67 = .ok (.bipush 16, 2) := by decide +kernel
theorem dX11_init_69 : decode cX11_init 69 = .ok (.newarray .int, 2) := by decide +kernel
theorem dX11_init_71 : decode cX11_init 71 = .ok (.putfield 54, 3) := by decide +kernel
theorem dX11_init_74 : decode cX11_init 74 = .ok (.aload_n 0, 1) := by decide +kernel
theorem dX11_init_75 : decode cX11_init 75 = .ok (.bipush 8, 2) := by decide +kernel
theorem dX11_init_77 : decode cX11_init 77 = .ok (.newarray .int, 2) := by decide +kernel
theorem dX11_init_79 : decode cX11_init 79 = .ok (.putfield 57, 3) := by decide +kernel
theorem dX11_init_82 : decode cX11_init 82 = .ok (.aload_n 0, 1) := by decide +kernel
theorem dX11_init_83 : decode cX11_init 83 = .ok (.bipush 16, 2) := by decide +kernel
theorem dX11_init_85 : decode cX11_init 85 = .ok (.newarray .int, 2) := by decide +kernel
theorem dX11_init_87 : decode cX11_init 87 = .ok (.putfield 60, 3) := by decide +kernel
theorem dX11_init_90 : decode cX11_init 90 = .ok (.aload_n 0, 1) := by decide +kernel
theorem dX11_init_91 : decode cX11_init 91 = .ok (.bipush 16, 2) := by decide +kernel
theorem dX11_init_93 : decode cX11_init 93 = .ok (.newarray .int, 2) := by decide +kernel
theorem dX11_init_95 : decode cX11_init 95 = .ok (.putfield 63, 3) := by decide +kernel
theorem dX11_init_98 : decode cX11_init 98 = .ok (.aload_n 0, 1) := by decide +kernel
theorem dX11_init_99 : decode cX11_init 99 = .ok (.bipush 64, 2) := by decide +kernel
theorem dX11_init_101 : decode cX11_init 101 = .ok (.newarray .int, 2) := by decide +kernel
theorem dX11_init_103 : decode cX11_init 103 = .ok (.putfield 66, 3) := by decide +kernel
theorem dX11_init_106 : decode cX11_init 106 = .ok (.aload_n 0, 1) := by decide +kernel
theorem dX11_init_107 : decode cX11_init 107 = .ok (.bipush 64, 2) := by decide +kernel
theorem dX11_init_109 : decode cX11_init 109 = .ok (.newarray .int, 2) := by decide +kernel
theorem dX11_init_111 : decode cX11_init 111 = .ok (.putfield 69, 3) := by decide +kernel
theorem dX11_init_114 : decode cX11_init 114 = .ok (.aload_n 0, 1) := by decide +kernel
theorem dX11_init_115 : decode cX11_init 115 = .ok (.bipush 64, 2) := by decide +kernel
theorem dX11_init_117 : decode cX11_init 117 = .ok (.newarray .int, 2) := by decide +kernel
theorem dX11_init_119 : decode cX11_init 119 = .ok (.putfield 72, 3) := by decide +kernel
theorem dX11_init_122 : decode cX11_init 122 = .ok (.aload_n 0, 1) := by decide +kernel
theorem dX11_init_123 : decode cX11_init 123 = .ok (.bipush 64, 2) := by decide +kernel
theorem dX11_init_125 : decode cX11_init 125 = .ok (.newarray .int, 2) := by decide +kernel
theorem dX11_init_127 : decode cX11_init 127 = .ok (.putfield 75, 3) := by decide +kernel
theorem dX11_init_130 : decode cX11_init 130 = .ok (.aload_n 0, 1) := by decide +kernel
theorem dX11_init_131 : decode cX11_init 131 = .ok (.iconst 3, 1) := by decide +kernel
theorem dX11_init_132 : decode cX11_init 132 = .ok (.newarray .int, 2) := by decide +kernel
theorem dX11_init_134 : decode cX11_init 134 = .ok (.putfield 78, 3) := by decide +kernel
theorem dX11_init_137 : decode cX11_init 137 = .ok (.aload_n 0, 1) := by decide +kernel
theorem dX11_init_138 : decode cX11_init 138 = .ok (.bipush 12, 2) := by decide +kernel
theorem dX11_init_140 : decode cX11_init 140 = .ok (.newarray .long, 2) := by decide +kernel
theorem dX11_init_142 : decode cX11_init 142 = .ok (.putfield 81, 3) := by decide +kernel
theorem dX11_init_145 : decode cX11_init 145 = .ok (.aload_n 0, 1) := by decide +kernel
theorem dX11_init_146 : decode cX11_init 146 = .ok (.iconst (-1), 1) := by decide +kernel
theorem dX11_init_147 : decode cX11_init 147 = .ok (.putfield 85, 3) := by decide +kernel
theorem dX11_init_150 : decode cX11_init 150 = .ok (.aload_n 0, 1) := by decide +kernel
theorem dX11_init_151 : decode cX11_init 151 = .ok (.sipush 128, 3) := by decide +kernel
theorem dX11_init_154 : decode cX11_init 154 = .ok (.newarray .int, 2) := by decide +kernel
theorem dX11_init_156 : decode cX11_init 156 = .ok (.putfield 88, 3) := by decide +kernel
theorem dX11_init_159 : decode cX11_init 159 = .ok (.aload_n 0, 1) := by decide +kernel
theorem dX11_init_160 : decode cX11_init 160 = .ok (.sipush 128, 3) := by decide +kernel
theorem dX11_init_163 : decode cX11_init 163 = .ok (.newarray .int, 2) := by decide +kernel
theorem dX11_init_165 : decode cX11_init 165 = .ok (.putfield 91, 3) := by decide +kernel
theorem dX11_init_168 : decode cX11_init 168 = .ok (.aload_n 0, 1) := by decide +kernel
theorem dX11_init_169 : decode cX11_init 169 = .ok (.bipush 30, 2) := by decide +kernel
theorem dX11_init_171 : decode cX11_init 171 = .ok (.newarray .int, 2) := by decide +kernel
theorem dX11_init_173 : decode cX11_init 173 = .ok (.putfield 94, 3) := by decide +kernel
theorem dX11_init_176 : decode cX11_init 176 = .ok (.bipush (-5), 2) := by decide +kernel
theorem dX11_init_178 : decode cX11_init 178 = .ok (.istore_n 1, 1) := by decide +kernel
theorem dX11_init_179 : decode cX11_init 179 = .ok (.iload_n 1, 1) := by decide +kernel
theorem dX11_init_180 : decode cX11_init 180 = .ok (.iconst 5, 1) := by decide +kernel
theorem dX11_init_181 : decode cX11_init 181 = .ok (.if_icmp .gt 40, 3) := by decide +kernel
theorem dX11_init_184 : decode cX11_init 184 = .ok (.iconst 1, 1) := by decide +kernel
theorem dX11_init_185 : decode cX11_init 185 = .ok (.istore_n 2, 1) := by decide +kernel
theorem dX11_init_186 : decode cX11_init 186 = .ok (.iload_n 2, 1) := by decide +kernel
theorem dX11_init_187 : decode cX11_init 187 = .ok (.iconst 5, 1) := by decide +kernel
theorem dX11_init_188 : decode cX11_init 188 = .ok (.if_icmp .gt 27, 3) := by decide +kernel
theorem dX11_init_191 : decode cX11_init 191 = .ok (.iload_n 1, 1) := by decide +kernel
theorem dX11_init_192 : decode cX11_init 192 = .ok (.i2l, 1) := by decide +kernel
theorem dX11_init_193 : decode cX11_init 193 = .ok (.iload_n 2, 1) := by decide +kernel
theorem dX11_init_194 : decode cX11_init 194 = .ok (.i2l, 1) := by decide +kernel
theorem dX11_init_195 : decode cX11_init 195 = .ok (.invokestatic 22, 3) := by decide +kernel
theorem dX11_init_198 : decode cX11_init 198 = .ok (.lconst 1, 1) := by decide +kernel
theorem dX11_init_199 : decode cX11_init 199 = .ok (.lcmp, 1) := by decide +kernel
theorem dX11_init_200 : decode cX11_init 200 = .ok (.ifCond .ne 9, 3) := by decide +kernel
theorem dX11_init_203 : decode cX11_init 203 = .ok (.aload_n 0, 1) := by decide +kernel
theorem dX11_init_204 : decode cX11_init 204 = .ok (.iload_n 1, 1) := by decide +kernel
theorem dX11_init_205 : decode cX11_init 205 = .ok (.iload_n 2, 1) := by decide +kernel
theorem dX11_init_206 : decode cX11_init 206 = .ok (.invokevirtual 97, 3) := by decide +kernel
theorem dX11_init_209 : decode cX11_init 209 = .ok (.iinc 2 1, 3) := by decide +kernel
theorem dX11_init_212 : decode cX11_init 212 = .ok (.goto (-26), 3) := by decide +kernel
theorem dX11_init_215 : decode cX11_init 215 = .ok (.iinc 1 1, 3) := by decide +kernel
theorem dX11_init_218 : decode cX11_init 218 = .ok (.goto (-39), 3) := by decide +kernel
theorem dX11_init_221 : decode cX11_init 221 = .ok (.aload_n 0, 1) := by decide +kernel
theorem dX11_init_222 : decode cX11_init 222 = .ok (.getfield 32, 3) := by decide +kernel
theorem dX11_init_225 : decode cX11_init 225 = .ok (.aload_n 0, 1) := by decide +kernel
theorem dX11_init_226 : decode cX11_init 226 = .ok (.getfield 101, 3) := by decide +kernel
theorem dX11_init_229 : decode cX11_init 229 = .ok (.iconst 1, 1) := by decide +kernel
theorem dX11_init_230 : decode cX11_init 230 = .ok (.iastore, 1) := by decide +kernel
theorem dX11_init_231 : decode cX11_init 231 = .ok (.aload_n 0, 1) := by decide +kernel
theorem dX11_init_232 : decode cX11_init 232 = .ok (.getfield 36, 3) := by decide +kernel
theorem dX11_init_235 : decode cX11_init 235 = .ok (.aload_n 0, 1) := by decide +kernel
theorem dX11_init_236 : decode cX11_init 236 = .ok (.getfield 101, 3) := by decide +kernel
theorem dX11_init_239 : decode cX11_init 239 = .ok (.iconst 0, 1) := by decide +kernel
theorem dX11_init_240 : decode cX11_init 240 = .ok (.iastore, 1) := by decide +kernel
theorem dX11_init_241 : decode cX11_init 241 = .ok (.aload_n 0, 1) := by decide +kernel
theorem dX11_init_242 : decode cX11_init 242 = .ok (.dup, 1) := by decide +kernel
theorem dX11_init_243 : decode cX11_init 243 = .ok (.getfield 101, 3) := by decide +kernel
theorem dX11_init_246 : decode cX11_init 246 = .ok (.iconst 1, 1) := by decide +kernel
theorem dX11_init_247 : decode cX11_init 247 = .ok (.iadd, 1) := by decide +kernel
theorem dX11_init_248 : decode cX11_init 248 = .ok (.putfield 101, 3) := by decide +kernel
theorem dX11_init_251 : decode cX11_init 251 = .ok (.return_, 1) := by decide +kernel
theorem dX11_angles_0 : decode cX11_angles 0 = .ok (.aload_n 0, 1) := by decide +kernel
theorem dX11_angles_1 : decode cX11_angles 1 = .ok (.iconst 0, 1) := by decide +kernel
theorem dX11_angles_2 : decode cX11_angles 2 = .ok (.putfield 1, 3) := by decide +kernel
theorem dX11_angles_5 : decode cX11_angles 5 = .ok (.aload_n 0, 1) := by decide +kernel
theorem dX11_angles_6 : decode cX11_angles 6 = .ok (.getfield 101, 3) := by decide +kernel
theorem dX11_angles_9 : decode cX11_angles 9 = .ok (.ireturn, 1) := by decide +kernel
theorem dX11_angle_0 : decode cX11_angle 0 = .ok (.aload_n 0, 1) := by decide +kernel
theorem dX11_angle_1 : decode cX11_angle 1 = .ok (.invokevirtual 104, 3) := by decide +kernel
theorem dX11_angle_4 : decode cX11_angle 4 = .ok (.iload_n 1, 1) := by decide +kernel
theorem dX11_angle_5 : decode cX11_angle 5 = .ok (.iconst 0, 1) := by decide +kernel
theorem dX11_angle_6 : decode cX11_angle 6 = .ok (.aload_n 0, 1) := by decide +kernel
theorem dX11_angle_7 : decode cX11_angle 7 = .ok (.getfield 101, 3) := by decide +kernel
theorem dX11_angle_10 : decode cX11_angle 10 = .ok (.iconst 1, 1) := by decide +kernel
theorem dX11_angle_11 : decode cX11_angle 11 = .ok (.isub, 1) := by decide +kernel
theorem dX11_angle_12 : decode cX11_angle 12 = .ok (.invokestatic 107, 3) := by decide +kernel
theorem dX11_angle_15 : decode cX11_angle 15 = .ok (.ifCond .eq 34, 3) := by decide +kernel
theorem dX11_angle_18 : decode cX11_angle 18 = .ok (.iload_n 2, 1) := by decide +kernel
theorem dX11_angle_19 : decode cX11_angle 19 = .ok (.iconst 0, 1) := by decide +kernel
theorem dX11_angle_20 : decode cX11_angle 20 = .ok (.iconst 1, 1) := by decide +kernel
theorem dX11_angle_21 : decode cX11_angle 21 = .ok (.invokestatic 107, 3) := by decide +kernel
theorem dX11_angle_24 : decode cX11_angle 24 = .ok (.ifCond .eq 25, 3) := by decide +kernel
theorem dX11_angle_27 : decode cX11_angle 27 = .ok (.iload_n 2, 1) := by decide +kernel
theorem dX11_angle_28 : decode cX11_angle 28 = .ok (.ifCond .ne 12, 3) := by decide +kernel
theorem dX11_angle_31 : decode cX11_angle 31 = .ok (.aload_n 0, 1) := by decide +kernel
theorem dX11_angle_32 : decode cX11_angle 32 = .ok (.getfield 32, 3) := by decide +kernel
theorem dX11_angle_35 : decode cX11_angle 35 = .ok (.iload_n 1, 1) := by decide +kernel
theorem dX11_angle_36 : decode cX11_angle 36 = .ok (.iaload, 1) := by decide +kernel
theorem dX11_angle_37 : decode cX11_angle 37 = .ok (.goto 17, 3) := by decide +kernel
theorem dX11_angle_40 : decode cX11_angle 40 = .ok (.aload_n 0, 1) := by decide +kernel
theorem dX11_angle_41 : decode cX11_angle 41 = .ok (.getfield 36, 3) := by decide +kernel
theorem dX11_angle_44 : decode cX11_angle 44 = .ok (.iload_n 1, 1) := by decide +kernel
theorem dX11_angle_45 : decode cX11_angle 45 = .ok (.iaload, 1) := by decide +kernel
theorem dX11_angle_46 : decode cX11_angle 46 = .ok (.goto 8, 3) := by decide +kernel
theorem dX11_angle_49 : decode cX11_angle 49 = .ok (.aload_n 0, 1) := by decide +kernel
theorem dX11_angle_50 : decode cX11_angle 50 = .ok (.iconst 1, 1) := by decide +kernel
theorem dX11_angle_51 : decode cX11_angle 51 = .ok (.invokevirtual 111, 3) := by decide +kernel
theorem dX11_angle_54 : decode cX11_angle 54 = .ok (.ireturn, 1) := by decide +kernel
theorem dX11_feed_0 : decode cX11_feed 0 = .ok (.aload_n 0, 1) := by decide +kernel
theorem dX11_feed_1 : decode cX11_feed 1 = .ok (.iconst 0, 1) := by decide +kernel
theorem dX11_feed_2 : decode cX11_feed 2 = .ok (.putfield 1, 3) := by decide +kernel
theorem dX11_feed_5 : decode cX11_feed 5 = .ok (.aload_n 0, 1) := by decide +kernel
theorem dX11_feed_6 : decode cX11_feed 6 = .ok (.getfield 118, 3) := by decide +kernel
theorem dX11_feed_9 : decode cX11_feed 9 = .ok (.sipush 680, 3) := by decide +kernel
theorem dX11_feed_12 : decode cX11_feed 12 = .ok (.if_icmp .le 5, 3) := by decide +kernel
theorem dX11_feed_15 : decode cX11_feed 15 = .ok (.iconst (-1), 1) := by decide +kernel
theorem dX11_feed_16 : decode cX11_feed 16 = .ok (.ireturn, 1) := by decide +kernel
theorem dX11_feed_17 : decode cX11_feed 17 = .ok (.aload_n 0, 1) := by decide +kernel
theorem dX11_feed_18 : decode cX11_feed 18 = .ok (.iload_n 1, 1) := by decide +kernel
theorem dX11_feed_19 : decode cX11_feed 19 = .ok (.invokevirtual 121, 3) := by decide +kernel
theorem dX11_feed_22 : decode cX11_feed 22 = .ok (.aload_n 0, 1) := by decide +kernel
theorem dX11_feed_23 : decode cX11_feed 23 = .ok (.iload_n 2, 1) := by decide +kernel
theorem dX11_feed_24 : decode cX11_feed 24 = .ok (.invokevirtual 121, 3) := by decide +kernel
theorem dX11_feed_27 : decode cX11_feed 27 = .ok (.aload_n 0, 1) := by decide +kernel
theorem dX11_feed_28 : decode cX11_feed 28 = .ok (.iload_n 3, 1) := by decide +kernel
theorem dX11_feed_29 : decode cX11_feed 29 = .ok (.invokevirtual 121, 3) := by decide +kernel
theorem dX11_feed_32 : decode cX11_feed 32 = .ok (.aload_n 0, 1) := by decide +kernel
theorem dX11_feed_33 : decode cX11_feed 33 = .ok (.iload 4, 2) := by decide +kernel
theorem dX11_feed_35 : decode cX11_feed 35 = .ok (.invokevirtual 121, 3) := by decide +kernel
theorem dX11_feed_38 : decode cX11_feed 38 = .ok (.aload_n 0, 1) := by decide +kernel
theorem dX11_feed_39 : decode cX11_feed 39 = .ok (.iload 5, 2) := by decide +kernel
theorem dX11_feed_41 : decode cX11_feed 41 = .ok (.invokevirtual 121, 3) := by decide +kernel
theorem dX11_feed_44 : decode cX11_feed 44 = .ok (.aload_n 0, 1) := by decide +kernel
theorem dX11_feed_45 : decode cX11_feed 45 = .ok (.getfield 118, 3) := by decide +kernel
theorem dX11_feed_48 : decode cX11_feed 48 = .ok (.ireturn, 1) := by decide +kernel
theorem dX11_goesOn_0 : decode cX11_goesOn 0 = .ok (.aload_n 0, 1) := by decide +kernel
theorem dX11_goesOn_1 : decode cX11_goesOn 1 = .ok (.aload_n 0, 1) := by decide +kernel
theorem dX11_goesOn_2 : decode cX11_goesOn 2 = .ok (.getfield 128, 3) := by decide +kernel
theorem dX11_goesOn_5 : decode cX11_goesOn 5 = .ok (.invokevirtual 131, 3) := by decide +kernel
theorem dX11_goesOn_8 : decode cX11_goesOn 8 = .ok (.bipush 32, 2) := by decide +kernel
theorem dX11_goesOn_10 : decode cX11_goesOn 10 = .ok (.if_icmp .ne 16, 3) := by decide +kernel
theorem dX11_goesOn_13 : decode cX11_goesOn 13 = .ok (.aload_n 0, 1) := by decide +kernel
theorem dX11_goesOn_14 : decode cX11_goesOn 14 = .ok (.dup, 1) := by decide +kernel
theorem dX11_goesOn_15 : decode cX11_goesOn 15 = .ok (.getfield 128, 3) := by decide +kernel
theorem dX11_goesOn_18 : decode cX11_goesOn 18 = .ok (.iconst 1, 1) := by decide +kernel
theorem dX11_goesOn_19 : decode cX11_goesOn 19 = .ok (.iadd, 1) := by decide +kernel
theorem dX11_goesOn_20 : decode cX11_goesOn 20 = .ok (.putfield 128, 3) := by decide +kernel
theorem dX11_goesOn_23 : decode cX11_goesOn 23 = .ok (.goto (-23), 3) := by decide +kernel
theorem dX11_goesOn_26 : decode cX11_goesOn 26 = .ok (.aload_n 0, 1) := by decide +kernel
theorem dX11_goesOn_27 : decode cX11_goesOn 27 = .ok (.aload_n 0, 1) := by decide +kernel
theorem dX11_goesOn_28 : decode cX11_goesOn 28 = .ok (.getfield 128, 3) := by decide +kernel
theorem dX11_goesOn_31 : decode cX11_goesOn 31 = .ok (.putfield 134, 3) := by decide +kernel
theorem dX11_goesOn_34 : decode cX11_goesOn 34 = .ok (.aload_n 0, 1) := by decide +kernel
theorem dX11_goesOn_35 : decode cX11_goesOn 35 = .ok (.aload_n 0, 1) := by decide +kernel
theorem dX11_goesOn_36 : decode cX11_goesOn 36 = .ok (.getfield 128, 3) := by decide +kernel
theorem dX11_goesOn_39 : decode cX11_goesOn 39 = .ok (.invokevirtual 131, 3) := by decide +kernel
theorem dX11_goesOn_42 : decode cX11_goesOn 42 = .ok (.istore_n 1, 1) := by decide +kernel
theorem dX11_goesOn_43 : decode cX11_goesOn 43 = .ok (.iload_n 1, 1) := by decide +kernel
theorem dX11_goesOn_44 : decode cX11_goesOn 44 = .ok (.iconst (-1), 1) := by decide +kernel
theorem dX11_goesOn_45 : decode cX11_goesOn 45 = .ok (.if_icmp .ne 9, 3) := by decide +kernel
theorem dX11_goesOn_48 : decode cX11_goesOn 48 = .ok (.aload_n 0, 1) := by decide +kernel
theorem dX11_goesOn_49 : decode cX11_goesOn 49 = .ok (.iconst 0, 1) := by decide +kernel
theorem dX11_goesOn_50 : decode cX11_goesOn 50 = .ok (.putfield 137, 3) := by decide +kernel
theorem dX11_goesOn_53 : decode cX11_goesOn 53 = .ok (.return_, 1) := by decide +kernel
theorem dX11_goesOn_54 : decode cX11_goesOn 54 = .ok (.iload_n 1, 1) := by decide +kernel
theorem dX11_goesOn_55 : decode cX11_goesOn 55 = .ok (.bipush 97, 2) := by decide +kernel
theorem dX11_goesOn_57 : decode cX11_goesOn 57 = .ok (.bipush 122, 2) := by decide +kernel
theorem dX11_goesOn_59 : decode cX11_goesOn 59 = .ok (.invokestatic 107, 3) := by decide +kernel
theorem dX11_goesOn_62 : decode cX11_goesOn 62 = .ok (.ifCond .eq 58, 3) := by decide +kernel
theorem dX11_goesOn_65 : decode cX11_goesOn 65 = .ok (.aload_n 0, 1) := by decide +kernel
theorem dX11_goesOn_66 : decode cX11_goesOn 66 = .ok (.aload_n 0, 1) := by decide +kernel
theorem dX11_goesOn_67 : decode cX11_goesOn 67 = .ok (.getfield 128, 3) := by decide +kernel
theorem dX11_goesOn_70 : decode cX11_goesOn 70 = .ok (.invokevirtual 131, 3) := by decide +kernel
theorem dX11_goesOn_73 : decode cX11_goesOn 73 = .ok (.bipush 97, 2) := by decide +kernel
theorem dX11_goesOn_75 : decode cX11_goesOn 75 = .ok (.bipush 122, 2) := by decide +kernel
theorem dX11_goesOn_77 : decode cX11_goesOn 77 = .ok (.invokestatic 107, 3) := by decide +kernel
theorem dX11_goesOn_80 : decode cX11_goesOn 80 = .ok (.ifCond .eq 16, 3) := by decide +kernel
theorem dX11_goesOn_83 : decode cX11_goesOn 83 = .ok (.aload_n 0, 1) := by decide +kernel
theorem dX11_goesOn_84 : decode cX11_goesOn 84 = .ok (.dup, 1) := by decide +kernel
theorem dX11_goesOn_85 : decode cX11_goesOn 85 = .ok (.getfield 128, 3) := by decide +kernel
theorem dX11_goesOn_88 : decode cX11_goesOn 88 = .ok (.iconst 1, 1) := by decide +kernel
theorem dX11_goesOn_89 : decode cX11_goesOn 89 = .ok (.iadd, 1) := by decide +kernel
theorem dX11_goesOn_90 : decode cX11_goesOn 90 = .ok (.putfield 128, 3) := by decide +kernel
theorem dX11_goesOn_93 : decode cX11_goesOn 93 = .ok (.goto (-28), 3) := by decide +kernel
theorem dX11_goesOn_96 : decode cX11_goesOn 96 = .ok (.aload_n 0, 1) := by decide +kernel
theorem dX11_goesOn_97 : decode cX11_goesOn 97 = .ok (.aload_n 0, 1) := by decide +kernel
theorem dX11_goesOn_98 : decode cX11_goesOn 98 = .ok (.getfield 128, 3) := by decide +kernel
theorem dX11_goesOn_101 : decode cX11_goesOn 101 = .ok (.aload_n 0, 1) := by decide +kernel
theorem dX11_goesOn_102 : decode cX11_goesOn 102 = .ok (.getfield 134, 3) := by decide +kernel
theorem dX11_goesOn_105 : decode cX11_goesOn 105 = .ok (.isub, 1) := by decide +kernel
theorem dX11_goesOn_106 : decode cX11_goesOn 106 = .ok (.bipush 7, 2) := by decide +kernel
theorem dX11_goesOn_108 : decode cX11_goesOn 108 = .ok (.if_icmp .le 7, 3) := by decide +kernel
theorem dX11_goesOn_111 : decode cX11_goesOn 111 = .ok (.iconst 1, 1) := by decide +kernel
theorem dX11_goesOn_112 : decode cX11_goesOn 112 = .ok (.goto 4, 3) := by decide +kernel
theorem dX11_goesOn_115 : decode cX11_goesOn 115 = .ok (.iconst 2, 1) := by decide +kernel
theorem dX11_goesOn_116 : decode cX11_goesOn 116 = .ok (.putfield 137, 3) := by decide +kernel
theorem dX11_goesOn_119 : decode cX11_goesOn 119 = .ok (.return_, 1) := by decide +kernel
theorem dX11_goesOn_120 : decode cX11_goesOn 120 = .ok (.iload_n 1, 1) := by decide +kernel
theorem dX11_goesOn_121 : decode cX11_goesOn 121 = .ok (.bipush 48, 2) := by decide +kernel
theorem dX11_goesOn_123 : decode cX11_goesOn 123 = .ok (.bipush 57, 2) := by decide +kernel
theorem dX11_goesOn_125 : decode cX11_goesOn 125 = .ok (.invokestatic 107, 3) := by decide +kernel
theorem dX11_goesOn_128 : decode cX11_goesOn 128 = .ok (.ifCond .eq 105, 3) := by decide +kernel
theorem dX11_goesOn_131 : decode cX11_goesOn 131 = .ok (.aload_n 0, 1) := by decide +kernel
theorem dX11_goesOn_132 : decode cX11_goesOn 132 = .ok (.iconst 0, 1) := by decide +kernel
theorem dX11_goesOn_133 : decode cX11_goesOn 133 = .ok (.putfield 140, 3) := by decide +kernel
theorem dX11_goesOn_136 : decode cX11_goesOn 136 = .ok (.aload_n 0, 1) := by decide +kernel
theorem dX11_goesOn_137 : decode cX11_goesOn 137 = .ok (.aload_n 0, 1) := by decide +kernel
theorem dX11_goesOn_138 : decode cX11_goesOn 138 = .ok (.getfield 128, 3) := by decide +kernel
theorem dX11_goesOn_141 : decode cX11_goesOn 141 = .ok (.invokevirtual 131, 3) := by decide +kernel
theorem dX11_goesOn_144 : decode cX11_goesOn 144 = .ok (.bipush 48, 2) := by decide +kernel
theorem dX11_goesOn_146 : decode cX11_goesOn 146 = .ok (.bipush 57, 2) := by decide +kernel
theorem dX11_goesOn_148 : decode cX11_goesOn 148 = .ok (.invokestatic 107, 3) := by decide +kernel
theorem dX11_goesOn_151 : decode cX11_goesOn 151 = .ok (.ifCond .eq 59, 3) := by decide +kernel
theorem dX11_goesOn_154 : decode cX11_goesOn 154 = .ok (.aload_n 0, 1) := by decide +kernel
theorem dX11_goesOn_155 : decode cX11_goesOn 155 = .ok (.aload_n 0, 1) := by decide +kernel
theorem dX11_goesOn_156 : decode cX11_goesOn 156 = .ok (.getfield 128, 3) := by decide +kernel
theorem dX11_goesOn_159 : decode cX11_goesOn 159 = .ok (.aload_n 0, 1) := by decide +kernel
theorem dX11_goesOn_160 : decode cX11_goesOn 160 = .ok (.getfield 134, 3) := by decide +kernel
theorem dX11_goesOn_163 : decode cX11_goesOn 163 = .ok (.isub, 1) := by decide +kernel
theorem dX11_goesOn_164 : decode cX11_goesOn 164 = .ok (.iconst 3, 1) := by decide +kernel
theorem dX11_goesOn_165 : decode cX11_goesOn 165 = .ok (.if_icmp .ge 25, 3) := by decide +kernel
theorem dX11_goesOn_168 : decode cX11_goesOn 168 = .ok (.bipush 10, 2) := by decide +kernel
theorem dX11_goesOn_170 : decode cX11_goesOn 170 = .ok (.aload_n 0, 1) := by decide +kernel
theorem dX11_goesOn_171 : decode cX11_goesOn 171 = .ok (.getfield 140, 3) := by decide +kernel
theorem dX11_goesOn_174 : decode cX11_goesOn 174 = .ok (.imul, 1) := by decide +kernel
theorem dX11_goesOn_175 : decode cX11_goesOn 175 = .ok (.aload_n 0, 1) := by decide +kernel
theorem dX11_goesOn_176 : decode cX11_goesOn 176 = .ok (.aload_n 0, 1) := by decide +kernel
theorem dX11_goesOn_177 : decode cX11_goesOn 177 = .ok (.getfield 128, 3) := by decide +kernel
theorem dX11_goesOn_180 : decode cX11_goesOn 180 = .ok (.invokevirtual 131, 3) := by decide +kernel
theorem dX11_goesOn_183 : decode cX11_goesOn 183 = .ok (.iadd, 1) := by decide +kernel
theorem dX11_goesOn_184 : decode cX11_goesOn 184 = .ok (.bipush 48, 2) := by decide +kernel
theorem dX11_goesOn_186 : decode cX11_goesOn 186 = .ok (.isub, 1) := by decide +kernel
theorem dX11_goesOn_187 : decode cX11_goesOn 187 = .ok (.goto 7, 3) := by decide +kernel
theorem dX11_goesOn_190 : decode cX11_goesOn 190 = .ok (.aload_n 0, 1) := by decide +kernel
theorem dX11_goesOn_191 : decode cX11_goesOn 191 = .ok (.getfield 140, 3) := by decide +kernel
theorem dX11_goesOn_194 : decode cX11_goesOn 194 = .ok (.putfield 140, 3) := by decide +kernel
theorem dX11_goesOn_197 : decode cX11_goesOn 197 = .ok (.aload_n 0, 1) := by decide +kernel
theorem dX11_goesOn_198 : decode cX11_goesOn 198 = .ok (.dup, 1) := by decide +kernel
theorem dX11_goesOn_199 : decode cX11_goesOn 199 = .ok (.getfield 128, 3) := by decide +kernel
theorem dX11_goesOn_202 : decode cX11_goesOn 202 = .ok (.iconst 1, 1) := by decide +kernel
theorem dX11_goesOn_203 : decode cX11_goesOn 203 = .ok (.iadd, 1) := by decide +kernel
theorem dX11_goesOn_204 : decode cX11_goesOn 204 = .ok (.putfield 128, 3) := by decide +kernel
theorem dX11_goesOn_207 : decode cX11_goesOn 207 = .ok (.goto (-71), 3) := by decide +kernel
theorem dX11_goesOn_210 : decode cX11_goesOn 210 = .ok (.aload_n 0, 1) := by decide +kernel
theorem dX11_goesOn_211 : decode cX11_goesOn 211 = .ok (.aload_n 0, 1) := by decide +kernel
theorem dX11_goesOn_212 : decode cX11_goesOn 212 = .ok (.getfield 128, 3) := by decide +kernel
theorem dX11_goesOn_215 : decode cX11_goesOn 215 = .ok (.aload_n 0, 1) := by decide +kernel
theorem dX11_goesOn_216 : decode cX11_goesOn 216 = .ok (.getfield 134, 3) := by decide +kernel
theorem dX11_goesOn_219 : decode cX11_goesOn 219 = .ok (.isub, 1) := by decide +kernel
theorem dX11_goesOn_220 : decode cX11_goesOn 220 = .ok (.iconst 3, 1) := by decide +kernel
theorem dX11_goesOn_221 : decode cX11_goesOn 221 = .ok (.if_icmp .le 7, 3) := by decide +kernel
theorem dX11_goesOn_224 : decode cX11_goesOn 224 = .ok (.iconst 1, 1) := by decide +kernel
theorem dX11_goesOn_225 : decode cX11_goesOn 225 = .ok (.goto 4, 3) := by decide +kernel
theorem dX11_goesOn_228 : decode cX11_goesOn 228 = .ok (.iconst 3, 1) := by decide +kernel
theorem dX11_goesOn_229 : decode cX11_goesOn 229 = .ok (.putfield 137, 3) := by decide +kernel
theorem dX11_goesOn_232 : decode cX11_goesOn 232 = .ok (.return_, 1) := by decide +kernel
theorem dX11_goesOn_233 : decode cX11_goesOn 233 = .ok (.aload_n 0, 1) := by decide +kernel
theorem dX11_goesOn_234 : decode cX11_goesOn 234 = .ok (.dup, 1) := by decide +kernel
theorem dX11_goesOn_235 : decode cX11_goesOn 235 = .ok (.getfield 128, 3) := by decide +kernel
theorem dX11_goesOn_238 : decode cX11_goesOn 238 = .ok (.iconst 1, 1) := by decide +kernel
theorem dX11_goesOn_239 : decode cX11_goesOn 239 = .ok (.iadd, 1) := by decide +kernel
theorem dX11_goesOn_240 : decode cX11_goesOn 240 = .ok (.putfield 128, 3) := by decide +kernel
theorem dX11_goesOn_243 : decode cX11_goesOn 243 = .ok (.aload_n 0, 1) := by decide +kernel
theorem dX11_goesOn_244 : decode cX11_goesOn 244 = .ok (.iload_n 1, 1) := by decide +kernel
theorem dX11_goesOn_245 : decode cX11_goesOn 245 = .ok (.bipush 59, 2) := by decide +kernel
theorem dX11_goesOn_247 : decode cX11_goesOn 247 = .ok (.if_icmp .eq 9, 3) := by decide +kernel
theorem dX11_goesOn_250 : decode cX11_goesOn 250 = .ok (.iload_n 1, 1) := by decide +kernel
theorem dX11_goesOn_251 : decode cX11_goesOn 251 = .ok (.bipush 45, 2) := by decide +kernel
theorem dX11_goesOn_253 : decode cX11_goesOn 253 = .ok (.if_icmp .ne 7, 3) := by decide +kernel
theorem dX11_goesOn_256 : decode cX11_goesOn 256 = .ok (.iload_n 1, 1) := by decide +kernel
theorem dX11_goesOn_257 : decode cX11_goesOn 257 = .ok (.goto 4, 3) := by decide +kernel
theorem dX11_goesOn_260 : decode cX11_goesOn 260 = .ok (.iconst 1, 1) := by decide +kernel
theorem dX11_goesOn_261 : decode cX11_goesOn 261 = .ok (.putfield 137, 3) := by decide +kernel
theorem dX11_goesOn_264 : decode cX11_goesOn 264 = .ok (.return_, 1) := by decide +kernel
theorem dX11_errs_0 : decode cX11_errs 0 = .ok (.aload_n 0, 1) := by decide +kernel
theorem dX11_errs_1 : decode cX11_errs 1 = .ok (.iload_n 1, 1) := by decide +kernel
theorem dX11_errs_2 : decode cX11_errs 2 = .ok (.putfield 153, 3) := by decide +kernel
theorem dX11_errs_5 : decode cX11_errs 5 = .ok (.aload_n 0, 1) := by decide +kernel
theorem dX11_errs_6 : decode cX11_errs 6 = .ok (.aload_n 0, 1) := by decide +kernel
theorem dX11_errs_7 : decode cX11_errs 7 = .ok (.getfield 134, 3) := by decide +kernel
theorem dX11_errs_10 : decode cX11_errs 10 = .ok (.putfield 156, 3) := by decide +kernel
theorem dX11_errs_13 : decode cX11_errs 13 = .ok (.iconst 0, 1) := by decide +kernel
theorem dX11_errs_14 : decode cX11_errs 14 = .ok (.ireturn, 1) := by decide +kernel
theorem dX11_copies_0 : decode cX11_copies 0 = .ok (.iconst 0, 1) := by decide +kernel
theorem dX11_copies_1 : decode cX11_copies 1 = .ok (.istore_n 2, 1) := by decide +kernel
theorem dX11_copies_2 : decode cX11_copies 2 = .ok (.iload_n 2, 1) := by decide +kernel
theorem dX11_copies_3 : decode cX11_copies 3 = .ok (.aload_n 1, 1) := by decide +kernel
theorem dX11_copies_4 : decode cX11_copies 4 = .ok (.arraylength, 1) := by decide +kernel
theorem dX11_copies_5 : decode cX11_copies 5 = .ok (.if_icmp .ge 15, 3) := by decide +kernel
theorem dX11_copies_8 : decode cX11_copies 8 = .ok (.aload_n 1, 1) := by decide +kernel
theorem dX11_copies_9 : decode cX11_copies 9 = .ok (.iload_n 2, 1) := by decide +kernel
theorem dX11_copies_10 : decode cX11_copies 10 = .ok (.aload_n 0, 1) := by decide +kernel
theorem dX11_copies_11 : decode cX11_copies 11 = .ok (.iload_n 2, 1) := by decide +kernel
theorem dX11_copies_12 : decode cX11_copies 12 = .ok (.iaload, 1) := by decide +kernel
theorem dX11_copies_13 : decode cX11_copies 13 = .ok (.iastore, 1) := by decide +kernel
theorem dX11_copies_14 : decode cX11_copies 14 = .ok (.iinc 2 1, 3) := by decide +kernel
theorem dX11_copies_17 : decode cX11_copies 17 = .ok (.goto (-15), 3) := by decide +kernel
theorem dX11_copies_20 : decode cX11_copies 20 = .ok (.return_, 1) := by decide +kernel
theorem dX11_desk_0 : decode cX11_desk 0 = .ok (.aload_n 0, 1) := by decide +kernel
theorem dX11_desk_1 : decode cX11_desk 1 = .ok (.invokevirtual 104, 3) := by decide +kernel
theorem dX11_desk_4 : decode cX11_desk 4 = .ok (.iload_n 1, 1) := by decide +kernel
theorem dX11_desk_5 : decode cX11_desk 5 = .ok (.iconst 0, 1) := by decide +kernel
theorem dX11_desk_6 : decode cX11_desk 6 = .ok (.aload_n 0, 1) := by decide +kernel
theorem dX11_desk_7 : decode cX11_desk 7 = .ok (.getfield 118, 3) := by decide +kernel
theorem dX11_desk_10 : decode cX11_desk 10 = .ok (.invokestatic 107, 3) := by decide +kernel
theorem dX11_desk_13 : decode cX11_desk 13 = .ok (.ifCond .ne 9, 3) := by decide +kernel
theorem dX11_desk_16 : decode cX11_desk 16 = .ok (.aload_n 0, 1) := by decide +kernel
theorem dX11_desk_17 : decode cX11_desk 17 = .ok (.iconst 2, 1) := by decide +kernel
theorem dX11_desk_18 : decode cX11_desk 18 = .ok (.invokevirtual 115, 3) := by decide +kernel
theorem dX11_desk_21 : decode cX11_desk 21 = .ok (.ireturn, 1) := by decide +kernel
theorem dX11_desk_22 : decode cX11_desk 22 = .ok (.aload_n 0, 1) := by decide +kernel
theorem dX11_desk_23 : decode cX11_desk 23 = .ok (.iconst 0, 1) := by decide +kernel
theorem dX11_desk_24 : decode cX11_desk 24 = .ok (.putfield 118, 3) := by decide +kernel
theorem dX11_desk_27 : decode cX11_desk 27 = .ok (.aload_n 0, 1) := by decide +kernel
theorem dX11_desk_28 : decode cX11_desk 28 = .ok (.iconst 0, 1) := by decide +kernel
theorem dX11_desk_29 : decode cX11_desk 29 = .ok (.putfield 227, 3) := by decide +kernel
theorem dX11_desk_32 : decode cX11_desk 32 = .ok (.aload_n 0, 1) := by decide +kernel
theorem dX11_desk_33 : decode cX11_desk 33 = .ok (.iload_n 1, 1) := by decide +kernel
theorem dX11_desk_34 : decode cX11_desk 34 = .ok (.invokevirtual 230, 3) := by decide +kernel
theorem dX11_desk_37 : decode cX11_desk 37 = .ok (.ifCond .ne 25, 3) := by decide +kernel
theorem dX11_desk_40 : decode cX11_desk 40 = .ok (.aload_n 0, 1) := by decide +kernel
theorem dX11_desk_41 : decode cX11_desk 41 = .ok (.aload_n 0, 1) := by decide +kernel
theorem dX11_desk_42 : decode cX11_desk 42 = .ok (.getfield 153, 3) := by decide +kernel
theorem dX11_desk_45 : decode cX11_desk 45 = .ok (.putfield 227, 3) := by decide +kernel
theorem dX11_desk_48 : decode cX11_desk 48 = .ok (.aload_n 0, 1) := by decide +kernel
theorem dX11_desk_49 : decode cX11_desk 49 = .ok (.aload_n 0, 1) := by decide +kernel
theorem dX11_desk_50 : decode cX11_desk 50 = .ok (.getfield 156, 3) := by decide +kernel
theorem dX11_desk_53 : decode cX11_desk 53 = .ok (.putfield 14, 3) := by decide +kernel
theorem dX11_desk_56 : decode cX11_desk 56 = .ok (.aload_n 0, 1) := by decide +kernel
theorem dX11_desk_57 : decode cX11_desk 57 = .ok (.iconst 4, 1) := by decide +kernel
theorem dX11_desk_58 : decode cX11_desk 58 = .ok (.invokevirtual 115, 3) := by decide +kernel
theorem dX11_desk_61 : decode cX11_desk 61 = .ok (.ireturn, 1) := by decide +kernel
theorem dX11_desk_62 : decode cX11_desk 62 = .ok (.aload_n 0, 1) := by decide +kernel
theorem dX11_desk_63 : decode cX11_desk 63 = .ok (.aload_n 0, 1) := by decide +kernel
theorem dX11_desk_64 : decode cX11_desk 64 = .ok (.getfield 177, 3) := by decide +kernel
theorem dX11_desk_67 : decode cX11_desk 67 = .ok (.putfield 233, 3) := by decide +kernel
theorem dX11_desk_70 : decode cX11_desk 70 = .ok (.aload_n 0, 1) := by decide +kernel
theorem dX11_desk_71 : decode cX11_desk 71 = .ok (.aload_n 0, 1) := by decide +kernel
theorem dX11_desk_72 : decode cX11_desk 72 = .ok (.getfield 192, 3) := by decide +kernel
theorem dX11_desk_75 : decode cX11_desk 75 = .ok (.putfield 236, 3) := by decide +kernel
theorem dX11_desk_78 : decode cX11_desk 78 = .ok (.aload_n 0, 1) := by decide +kernel
theorem dX11_desk_79 : decode cX11_desk 79 = .ok (.aload_n 0, 1) := by decide +kernel
theorem dX11_desk_80 : decode cX11_desk 80 = .ok (.getfield 198, 3) := by decide +kernel
theorem dX11_desk_83 : decode cX11_desk 83 = .ok (.putfield 239, 3) := by decide +kernel
theorem dX11_desk_86 : decode cX11_desk 86 = .ok (.aload_n 0, 1) := by decide +kernel
theorem dX11_desk_87 : decode cX11_desk 87 = .ok (.aload_n 0, 1) := by decide +kernel
theorem dX11_desk_88 : decode cX11_desk 88 = .ok (.getfield 201, 3) := by decide +kernel
theorem dX11_desk_91 : decode cX11_desk 91 = .ok (.putfield 242, 3) := by decide +kernel
theorem dX11_desk_94 : decode cX11_desk 94 = .ok (.aload_n 0, 1) := by decide +kernel
theorem dX11_desk_95 : decode cX11_desk 95 = .ok (.getfield 54, 3) := by decide +kernel
theorem dX11_desk_98 : decode cX11_desk 98 = .ok (.aload_n 0, 1) := by decide +kernel
theorem dX11_desk_99 : decode cX11_desk 99 = .ok (.getfield 42, 3) := by decide +kernel
theorem dX11_desk_102 : decode cX11_desk 102 = .ok (.invokestatic 245, 3) := by decide +kernel
theorem dX11_desk_105 : decode cX11_desk 105 = .ok (.aload_n 0, 1) := by decide +kernel
theorem dX11_desk_106 : decode cX11_desk 106 = .ok (.getfield 57, 3) := by decide +kernel
theorem dX11_desk_109 : decode cX11_desk 109 = .ok (.aload_n 0, 1) := by decide +kernel
theorem dX11_desk_110 : decode cX11_desk 110 = .ok (.getfield 45, 3) := by decide +kernel
theorem dX11_desk_113 : decode cX11_desk 113 = .ok (.invokestatic 245, 3) := by decide +kernel
theorem dX11_desk_116 : decode cX11_desk 116 = .ok (.aload_n 0, 1) := by decide +kernel
theorem dX11_desk_117 : decode cX11_desk 117 = .ok (.getfield 60, 3) := by decide +kernel
theorem dX11_desk_120 : decode cX11_desk 120 = .ok (.aload_n 0, 1) := by decide +kernel
theorem dX11_desk_121 : decode cX11_desk 121 = .ok (.getfield 48, 3) := by decide +kernel
theorem dX11_desk_124 : decode cX11_desk 124 = .ok (.invokestatic 245, 3) := by decide +kernel
theorem dX11_desk_127 : decode cX11_desk 127 = .ok (.aload_n 0, 1) := by decide +kernel
theorem dX11_desk_128 : decode cX11_desk 128 = .ok (.getfield 63, 3) := by decide +kernel
theorem dX11_desk_131 : decode cX11_desk 131 = .ok (.aload_n 0, 1) := by decide +kernel
theorem dX11_desk_132 : decode cX11_desk 132 = .ok (.getfield 51, 3) := by decide +kernel
theorem dX11_desk_135 : decode cX11_desk 135 = .ok (.invokestatic 245, 3) := by decide +kernel
theorem dX11_desk_138 : decode cX11_desk 138 = .ok (.aload_n 0, 1) := by decide +kernel
theorem dX11_desk_139 : decode cX11_desk 139 = .ok (.iconst (-1), 1) := by decide +kernel
theorem dX11_desk_140 : decode cX11_desk 140 = .ok (.putfield 85, 3) := by decide +kernel
theorem dX11_desk_143 : decode cX11_desk 143 = .ok (.aload_n 0, 1) := by decide +kernel
theorem dX11_desk_144 : decode cX11_desk 144 = .ok (.iconst 0, 1) := by decide +kernel
theorem dX11_desk_145 : decode cX11_desk 145 = .ok (.putfield 249, 3) := by decide +kernel
theorem dX11_desk_148 : decode cX11_desk 148 = .ok (.aload_n 0, 1) := by decide +kernel
theorem dX11_desk_149 : decode cX11_desk 149 = .ok (.getfield 233, 3) := by decide +kernel
theorem dX11_desk_152 : decode cX11_desk 152 = .ok (.ireturn, 1) := by decide +kernel
theorem dX11_fault_0 : decode cX11_fault 0 = .ok (.aload_n 0, 1) := by decide +kernel
theorem dX11_fault_1 : decode cX11_fault 1 = .ok (.iconst 0, 1) := by decide +kernel
theorem dX11_fault_2 : decode cX11_fault 2 = .ok (.putfield 1, 3) := by decide +kernel
theorem dX11_fault_5 : decode cX11_fault 5 = .ok (.aload_n 0, 1) := by decide +kernel
theorem dX11_fault_6 : decode cX11_fault 6 = .ok (.getfield 227, 3) := by decide +kernel
theorem dX11_fault_9 : decode cX11_fault 9 = .ok (.ireturn, 1) := by decide +kernel
theorem dX11_isLink_0 : decode cX11_isLink 0 = .ok (.iload_n 1, 1) := by decide +kernel
theorem dX11_isLink_1 : decode cX11_isLink 1 = .ok (.iconst 0, 1) := by decide +kernel
theorem dX11_isLink_2 : decode cX11_isLink 2 = .ok (.aload_n 0, 1) := by decide +kernel
theorem dX11_isLink_3 : decode cX11_isLink 3 = .ok (.getfield 233, 3) := by decide +kernel
theorem dX11_isLink_6 : decode cX11_isLink 6 = .ok (.iconst 1, 1) := by decide +kernel
theorem dX11_isLink_7 : decode cX11_isLink 7 = .ok (.isub, 1) := by decide +kernel
theorem dX11_isLink_8 : decode cX11_isLink 8 = .ok (.invokestatic 107, 3) := by decide +kernel
theorem dX11_isLink_11 : decode cX11_isLink 11 = .ok (.ireturn, 1) := by decide +kernel
theorem dX11_barOf_0 : decode cX11_barOf 0 = .ok (.aload_n 0, 1) := by decide +kernel
theorem dX11_barOf_1 : decode cX11_barOf 1 = .ok (.getfield 42, 3) := by decide +kernel
theorem dX11_barOf_4 : decode cX11_barOf 4 = .ok (.iconst 4, 1) := by decide +kernel
theorem dX11_barOf_5 : decode cX11_barOf 5 = .ok (.iload_n 1, 1) := by decide +kernel
theorem dX11_barOf_6 : decode cX11_barOf 6 = .ok (.imul, 1) := by decide +kernel
theorem dX11_barOf_7 : decode cX11_barOf 7 = .ok (.iload_n 2, 1) := by decide +kernel
theorem dX11_barOf_8 : decode cX11_barOf 8 = .ok (.iadd, 1) := by decide +kernel
theorem dX11_barOf_9 : decode cX11_barOf 9 = .ok (.iaload, 1) := by decide +kernel
theorem dX11_barOf_10 : decode cX11_barOf 10 = .ok (.ireturn, 1) := by decide +kernel
theorem dX11_greatestOf_0 : decode cX11_greatestOf 0 = .ok (.iconst 0, 1) := by decide +kernel
theorem dX11_greatestOf_1 : decode cX11_greatestOf 1 = .ok (.istore_n 2, 1) := by decide +kernel
theorem dX11_greatestOf_2 : decode cX11_greatestOf 2 = .ok (.iconst 0, 1) := by decide +kernel
theorem dX11_greatestOf_3 : decode cX11_greatestOf 3 = .ok (.istore_n 3, 1) := by decide +kernel
theorem dX11_greatestOf_4 : decode cX11_greatestOf 4 = .ok (.iload_n 3, 1) := by decide +kernel
theorem dX11_greatestOf_5 : decode cX11_greatestOf 5 = .ok (.iconst 4, 1) := by decide +kernel
theorem dX11_greatestOf_6 : decode cX11_greatestOf 6 = .ok (.if_icmp .ge 30, 3) := by decide +kernel
theorem dX11_greatestOf_9 : decode cX11_greatestOf 9 = .ok (.aload_n 0, 1) := by decide +kernel
theorem dX11_greatestOf_10 : decode cX11_greatestOf 10 = .ok (.iload_n 1, 1) := by decide +kernel
theorem dX11_greatestOf_11 : decode cX11_greatestOf 11 = .ok (.iload_n 3, 1) := by decide +kernel
theorem dX11_greatestOf_12 : decode cX11_greatestOf 12 = .ok (.invokevirtual 252, 3) := by decide +kernel
theorem dX11_greatestOf_15 : decode cX11_greatestOf 15 = .ok (.iload_n 2, 1) := by decide +kernel
theorem dX11_greatestOf_16 : decode cX11_greatestOf 16 = .ok (.if_icmp .le 12, 3) := by decide +kernel
theorem dX11_greatestOf_19 : decode cX11_greatestOf 19 = .ok (.aload_n 0, 1) := by decide +kernel
theorem dX11_greatestOf_20 : decode cX11_greatestOf 20 = .ok (.iload_n 1, 1) := by decide +kernel
theorem dX11_greatestOf_21 : decode cX11_greatestOf 21 = .ok (.iload_n 3, 1) := by decide +kernel
theorem dX11_greatestOf_22 : decode cX11_greatestOf 22 = .ok (.invokevirtual 252, 3) := by decide +kernel
theorem dX11_greatestOf_25 : decode cX11_greatestOf 25 = .ok (.goto 4, 3) := by decide +kernel
theorem dX11_greatestOf_28 : decode cX11_greatestOf 28 = .ok (.iload_n 2, 1) := by decide +kernel
theorem dX11_greatestOf_29 : decode cX11_greatestOf 29 = .ok (.istore_n 2, 1) := by decide +kernel
theorem dX11_greatestOf_30 : decode cX11_greatestOf 30 = .ok (.iinc 3 1, 3) := by decide +kernel
theorem dX11_greatestOf_33 : decode cX11_greatestOf 33 = .ok (.goto (-29), 3) := by decide +kernel
theorem dX11_greatestOf_36 : decode cX11_greatestOf 36 = .ok (.iload_n 2, 1) := by decide +kernel
theorem dX11_greatestOf_37 : decode cX11_greatestOf 37 = .ok (.ireturn, 1) := by decide +kernel
theorem dX11_all_0 : decode cX11_all 0 = .ok (.aload_n 0, 1) := by decide +kernel
theorem dX11_all_1 : decode cX11_all 1 = .ok (.iload_n 1, 1) := by decide +kernel
theorem dX11_all_2 : decode cX11_all 2 = .ok (.iconst 0, 1) := by decide +kernel
theorem dX11_all_3 : decode cX11_all 3 = .ok (.invokevirtual 252, 3) := by decide +kernel
theorem dX11_all_6 : decode cX11_all 6 = .ok (.aload_n 0, 1) := by decide +kernel
theorem dX11_all_7 : decode cX11_all 7 = .ok (.iload_n 1, 1) := by decide +kernel
theorem dX11_all_8 : decode cX11_all 8 = .ok (.iconst 1, 1) := by decide +kernel
theorem dX11_all_9 : decode cX11_all 9 = .ok (.invokevirtual 252, 3) := by decide +kernel
theorem dX11_all_12 : decode cX11_all 12 = .ok (.iadd, 1) := by decide +kernel
theorem dX11_all_13 : decode cX11_all 13 = .ok (.aload_n 0, 1) := by decide +kernel
theorem dX11_all_14 : decode cX11_all 14 = .ok (.iload_n 1, 1) := by decide +kernel
theorem dX11_all_15 : decode cX11_all 15 = .ok (.iconst 2, 1) := by decide +kernel
theorem dX11_all_16 : decode cX11_all 16 = .ok (.invokevirtual 252, 3) := by decide +kernel
theorem dX11_all_19 : decode cX11_all 19 = .ok (.iadd, 1) := by decide +kernel
theorem dX11_all_20 : decode cX11_all 20 = .ok (.aload_n 0, 1) := by decide +kernel
theorem dX11_all_21 : decode cX11_all 21 = .ok (.iload_n 1, 1) := by decide +kernel
theorem dX11_all_22 : decode cX11_all 22 = .ok (.iconst 3, 1) := by decide +kernel
theorem dX11_all_23 : decode cX11_all 23 = .ok (.invokevirtual 252, 3) := by decide +kernel
theorem dX11_all_26 : decode cX11_all 26 = .ok (.iadd, 1) := by decide +kernel
theorem dX11_all_27 : decode cX11_all 27 = .ok (.ireturn, 1) := by decide +kernel
theorem dX11_isBuilt_0 : decode cX11_isBuilt 0 = .ok (.iconst 2, 1) := by decide +kernel
theorem dX11_isBuilt_1 : decode cX11_isBuilt 1 = .ok (.aload_n 0, 1) := by decide +kernel
theorem dX11_isBuilt_2 : decode cX11_isBuilt 2 = .ok (.iload_n 1, 1) := by decide +kernel
theorem dX11_isBuilt_3 : decode cX11_isBuilt 3 = .ok (.invokevirtual 256, 3) := by decide +kernel
theorem dX11_isBuilt_6 : decode cX11_isBuilt 6 = .ok (.imul, 1) := by decide +kernel
theorem dX11_isBuilt_7 : decode cX11_isBuilt 7 = .ok (.aload_n 0, 1) := by decide +kernel
theorem dX11_isBuilt_8 : decode cX11_isBuilt 8 = .ok (.iload_n 1, 1) := by decide +kernel
theorem dX11_isBuilt_9 : decode cX11_isBuilt 9 = .ok (.invokevirtual 259, 3) := by decide +kernel
theorem dX11_isBuilt_12 : decode cX11_isBuilt 12 = .ok (.if_icmp .gt 7, 3) := by decide +kernel
theorem dX11_isBuilt_15 : decode cX11_isBuilt 15 = .ok (.iconst 1, 1) := by decide +kernel
theorem dX11_isBuilt_16 : decode cX11_isBuilt 16 = .ok (.goto 4, 3) := by decide +kernel
theorem dX11_isBuilt_19 : decode cX11_isBuilt 19 = .ok (.iconst 0, 1) := by decide +kernel
theorem dX11_isBuilt_20 : decode cX11_isBuilt 20 = .ok (.ireturn, 1) := by decide +kernel
theorem dX11_bar_0 : decode cX11_bar 0 = .ok (.aload_n 0, 1) := by decide +kernel
theorem dX11_bar_1 : decode cX11_bar 1 = .ok (.invokevirtual 104, 3) := by decide +kernel
theorem dX11_bar_4 : decode cX11_bar 4 = .ok (.aload_n 0, 1) := by decide +kernel
theorem dX11_bar_5 : decode cX11_bar 5 = .ok (.iload_n 1, 1) := by decide +kernel
theorem dX11_bar_6 : decode cX11_bar 6 = .ok (.invokevirtual 265, 3) := by decide +kernel
theorem dX11_bar_9 : decode cX11_bar 9 = .ok (.ifCond .eq 21, 3) := by decide +kernel
theorem dX11_bar_12 : decode cX11_bar 12 = .ok (.iload_n 2, 1) := by decide +kernel
theorem dX11_bar_13 : decode cX11_bar 13 = .ok (.iconst 0, 1) := by decide +kernel
theorem dX11_bar_14 : decode cX11_bar 14 = .ok (.iconst 3, 1) := by decide +kernel
theorem dX11_bar_15 : decode cX11_bar 15 = .ok (.invokestatic 107, 3) := by decide +kernel
theorem dX11_bar_18 : decode cX11_bar 18 = .ok (.ifCond .eq 12, 3) := by decide +kernel
theorem dX11_bar_21 : decode cX11_bar 21 = .ok (.aload_n 0, 1) := by decide +kernel
theorem dX11_bar_22 : decode cX11_bar 22 = .ok (.iload_n 1, 1) := by decide +kernel
theorem dX11_bar_23 : decode cX11_bar 23 = .ok (.iload_n 2, 1) := by decide +kernel
theorem dX11_bar_24 : decode cX11_bar 24 = .ok (.invokevirtual 252, 3) := by decide +kernel
theorem dX11_bar_27 : decode cX11_bar 27 = .ok (.goto 8, 3) := by decide +kernel
theorem dX11_bar_30 : decode cX11_bar 30 = .ok (.aload_n 0, 1) := by decide +kernel
theorem dX11_bar_31 : decode cX11_bar 31 = .ok (.iconst 1, 1) := by decide +kernel
theorem dX11_bar_32 : decode cX11_bar 32 = .ok (.invokevirtual 115, 3) := by decide +kernel
theorem dX11_bar_35 : decode cX11_bar 35 = .ok (.ireturn, 1) := by decide +kernel
theorem dX11_goesRound_0 : decode cX11_goesRound 0 = .ok (.aload_n 0, 1) := by decide +kernel
theorem dX11_goesRound_1 : decode cX11_goesRound 1 = .ok (.iload_n 1, 1) := by decide +kernel
theorem dX11_goesRound_2 : decode cX11_goesRound 2 = .ok (.iload_n 2, 1) := by decide +kernel
theorem dX11_goesRound_3 : decode cX11_goesRound 3 = .ok (.invokevirtual 252, 3) := by decide +kernel
theorem dX11_goesRound_6 : decode cX11_goesRound 6 = .ok (.istore_n 3, 1) := by decide +kernel
theorem dX11_goesRound_7 : decode cX11_goesRound 7 = .ok (.aload_n 0, 1) := by decide +kernel
theorem dX11_goesRound_8 : decode cX11_goesRound 8 = .ok (.iload_n 1, 1) := by decide +kernel
theorem dX11_goesRound_9 : decode cX11_goesRound 9 = .ok (.iload_n 2, 1) := by decide +kernel
theorem dX11_goesRound_10 : decode cX11_goesRound 10 = .ok (.iconst 1, 1) := by decide +kernel
theorem dX11_goesRound_11 : decode cX11_goesRound 11 = .ok (.iadd, 1) := by decide +kernel
theorem dX11_goesRound_12 : decode cX11_goesRound 12 = .ok (.iconst 4, 1) := by decide +kernel
theorem dX11_goesRound_13 : decode cX11_goesRound 13 = .ok (.irem, 1) := by decide +kernel
theorem dX11_goesRound_14 : decode cX11_goesRound 14 = .ok (.invokevirtual 252, 3) := by decide +kernel
theorem dX11_goesRound_17 : decode cX11_goesRound 17 = .ok (.istore 4, 2) := by decide +kernel
theorem dX11_goesRound_19 : decode cX11_goesRound 19 = .ok (.aload_n 0, 1) := by decide +kernel
theorem dX11_goesRound_20 : decode cX11_goesRound 20 = .ok (.iload_n 1, 1) := by decide +kernel
theorem dX11_goesRound_21 : decode cX11_goesRound 21 = .ok (.iload_n 2, 1) := by decide +kernel
theorem dX11_goesRound_22 : decode cX11_goesRound 22 = .ok (.iconst 2, 1) := by decide +kernel
theorem dX11_goesRound_23 : decode cX11_goesRound 23 = .ok (.iadd, 1) := by decide +kernel
theorem dX11_goesRound_24 : decode cX11_goesRound 24 = .ok (.iconst 4, 1) := by decide +kernel
theorem dX11_goesRound_25 : decode cX11_goesRound 25 = .ok (.irem, 1) := by decide +kernel
theorem dX11_goesRound_26 : decode cX11_goesRound 26 = .ok (.invokevirtual 252, 3) := by decide +kernel
theorem dX11_goesRound_29 : decode cX11_goesRound 29 = .ok (.istore 5, 2) := by decide +kernel
theorem dX11_goesRound_31 : decode cX11_goesRound 31 = .ok (.aload_n 0, 1) := by decide +kernel
theorem dX11_goesRound_32 : decode cX11_goesRound 32 = .ok (.iload_n 1, 1) := by decide +kernel
theorem dX11_goesRound_33 : decode cX11_goesRound 33 = .ok (.iload_n 2, 1) := by decide +kernel
theorem dX11_goesRound_34 : decode cX11_goesRound 34 = .ok (.iconst 3, 1) := by decide +kernel
theorem dX11_goesRound_35 : decode cX11_goesRound 35 = .ok (.iadd, 1) := by decide +kernel
theorem dX11_goesRound_36 : decode cX11_goesRound 36 = .ok (.iconst 4, 1) := by decide +kernel
theorem dX11_goesRound_37 : decode cX11_goesRound 37 = .ok (.irem, 1) := by decide +kernel
theorem dX11_goesRound_38 : decode cX11_goesRound 38 = .ok (.invokevirtual 252, 3) := by decide +kernel
theorem dX11_goesRound_41 : decode cX11_goesRound 41 = .ok (.istore 6, 2) := by decide +kernel
theorem dX11_goesRound_43 : decode cX11_goesRound 43 = .ok (.iload 5, 2) := by decide +kernel
theorem dX11_goesRound_45 : decode cX11_goesRound 45 = .ok (.iload 6, 2) := by decide +kernel
theorem dX11_goesRound_47 : decode cX11_goesRound 47 = .ok (.isub, 1) := by decide +kernel
theorem dX11_goesRound_48 : decode cX11_goesRound 48 = .ok (.i2l, 1) := by decide +kernel
theorem dX11_goesRound_49 : decode cX11_goesRound 49 = .ok (.invokestatic 7, 3) := by decide +kernel
theorem dX11_goesRound_52 : decode cX11_goesRound 52 = .ok (.iload_n 3, 1) := by decide +kernel
theorem dX11_goesRound_53 : decode cX11_goesRound 53 = .ok (.iload 4, 2) := by decide +kernel
theorem dX11_goesRound_55 : decode cX11_goesRound 55 = .ok (.isub, 1) := by decide +kernel
theorem dX11_goesRound_56 : decode cX11_goesRound 56 = .ok (.i2l, 1) := by decide +kernel
theorem dX11_goesRound_57 : decode cX11_goesRound 57 = .ok (.invokestatic 7, 3) := by decide +kernel
theorem dX11_goesRound_60 : decode cX11_goesRound 60 = .ok (.lcmp, 1) := by decide +kernel
theorem dX11_goesRound_61 : decode cX11_goesRound 61 = .ok (.ifCond .gt 19, 3) := by decide +kernel
theorem dX11_goesRound_64 : decode cX11_goesRound 64 = .ok (.iload_n 3, 1) := by decide +kernel
theorem dX11_goesRound_65 : decode cX11_goesRound 65 = .ok (.iload 4, 2) := by decide +kernel
theorem dX11_goesRound_67 : decode cX11_goesRound 67 = .ok (.iadd, 1) := by decide +kernel
theorem dX11_goesRound_68 : decode cX11_goesRound 68 = .ok (.iload 5, 2) := by decide +kernel
theorem dX11_goesRound_70 : decode cX11_goesRound 70 = .ok (.iload 6, 2) := by decide +kernel
theorem dX11_goesRound_72 : decode cX11_goesRound 72 = .ok (.iadd, 1) := by decide +kernel
theorem dX11_goesRound_73 : decode cX11_goesRound 73 = .ok (.if_icmp .gt 7, 3) := by decide +kernel
theorem dX11_goesRound_76 : decode cX11_goesRound 76 = .ok (.iconst 1, 1) := by decide +kernel
theorem dX11_goesRound_77 : decode cX11_goesRound 77 = .ok (.goto 4, 3) := by decide +kernel
theorem dX11_goesRound_80 : decode cX11_goesRound 80 = .ok (.iconst 0, 1) := by decide +kernel
theorem dX11_goesRound_81 : decode cX11_goesRound 81 = .ok (.ireturn, 1) := by decide +kernel
theorem dX11_cosineBy_0 : decode cX11_cosineBy 0 = .ok (.iconst 2, 1) := by decide +kernel
theorem dX11_cosineBy_1 : decode cX11_cosineBy 1 = .ok (.aload_n 0, 1) := by decide +kernel
theorem dX11_cosineBy_2 : decode cX11_cosineBy 2 = .ok (.iload_n 1, 1) := by decide +kernel
theorem dX11_cosineBy_3 : decode cX11_cosineBy 3 = .ok (.iconst 0, 1) := by decide +kernel
theorem dX11_cosineBy_4 : decode cX11_cosineBy 4 = .ok (.invokevirtual 252, 3) := by decide +kernel
theorem dX11_cosineBy_7 : decode cX11_cosineBy 7 = .ok (.imul, 1) := by decide +kernel
theorem dX11_cosineBy_8 : decode cX11_cosineBy 8 = .ok (.aload_n 0, 1) := by decide +kernel
theorem dX11_cosineBy_9 : decode cX11_cosineBy 9 = .ok (.iload_n 1, 1) := by decide +kernel
theorem dX11_cosineBy_10 : decode cX11_cosineBy 10 = .ok (.iconst 1, 1) := by decide +kernel
theorem dX11_cosineBy_11 : decode cX11_cosineBy 11 = .ok (.invokevirtual 252, 3) := by decide +kernel
theorem dX11_cosineBy_14 : decode cX11_cosineBy 14 = .ok (.imul, 1) := by decide +kernel
theorem dX11_cosineBy_15 : decode cX11_cosineBy 15 = .ok (.ireturn, 1) := by decide +kernel
theorem dX11_cosineOf_0 : decode cX11_cosineOf 0 = .ok (.aload_n 0, 1) := by decide +kernel
theorem dX11_cosineOf_1 : decode cX11_cosineOf 1 = .ok (.iload_n 1, 1) := by decide +kernel
theorem dX11_cosineOf_2 : decode cX11_cosineOf 2 = .ok (.iconst 0, 1) := by decide +kernel
theorem dX11_cosineOf_3 : decode cX11_cosineOf 3 = .ok (.invokevirtual 252, 3) := by decide +kernel
theorem dX11_cosineOf_6 : decode cX11_cosineOf 6 = .ok (.aload_n 0, 1) := by decide +kernel
theorem dX11_cosineOf_7 : decode cX11_cosineOf 7 = .ok (.iload_n 1, 1) := by decide +kernel
theorem dX11_cosineOf_8 : decode cX11_cosineOf 8 = .ok (.iconst 0, 1) := by decide +kernel
theorem dX11_cosineOf_9 : decode cX11_cosineOf 9 = .ok (.invokevirtual 252, 3) := by decide +kernel
theorem dX11_cosineOf_12 : decode cX11_cosineOf 12 = .ok (.imul, 1) := by decide +kernel
theorem dX11_cosineOf_13 : decode cX11_cosineOf 13 = .ok (.aload_n 0, 1) := by decide +kernel
theorem dX11_cosineOf_14 : decode cX11_cosineOf 14 = .ok (.iload_n 1, 1) := by decide +kernel
theorem dX11_cosineOf_15 : decode cX11_cosineOf 15 = .ok (.iconst 1, 1) := by decide +kernel
theorem dX11_cosineOf_16 : decode cX11_cosineOf 16 = .ok (.invokevirtual 252, 3) := by decide +kernel
theorem dX11_cosineOf_19 : decode cX11_cosineOf 19 = .ok (.aload_n 0, 1) := by decide +kernel
theorem dX11_cosineOf_20 : decode cX11_cosineOf 20 = .ok (.iload_n 1, 1) := by decide +kernel
theorem dX11_cosineOf_21 : decode cX11_cosineOf 21 = .ok (.iconst 1, 1) := by decide +kernel
theorem dX11_cosineOf_22 : decode cX11_cosineOf 22 = .ok (.invokevirtual 252, 3) := by decide +kernel
theorem dX11_cosineOf_25 : decode cX11_cosineOf 25 = .ok (.imul, 1) := by decide +kernel
theorem dX11_cosineOf_26 : decode cX11_cosineOf 26 = .ok (.iadd, 1) := by decide +kernel
theorem dX11_cosineOf_27 : decode cX11_cosineOf 27 = .ok (.iload_n 2, 1) := by decide +kernel
theorem dX11_cosineOf_28 : decode cX11_cosineOf 28 = .ok (.iload_n 2, 1) := by decide +kernel
theorem dX11_cosineOf_29 : decode cX11_cosineOf 29 = .ok (.imul, 1) := by decide +kernel
theorem dX11_cosineOf_30 : decode cX11_cosineOf 30 = .ok (.isub, 1) := by decide +kernel
theorem dX11_cosineOf_31 : decode cX11_cosineOf 31 = .ok (.ireturn, 1) := by decide +kernel
theorem dX11_farCosine_0 : decode cX11_farCosine 0 = .ok (.aload_n 0, 1) := by decide +kernel
theorem dX11_farCosine_1 : decode cX11_farCosine 1 = .ok (.iload_n 1, 1) := by decide +kernel
theorem dX11_farCosine_2 : decode cX11_farCosine 2 = .ok (.aload_n 0, 1) := by decide +kernel
theorem dX11_farCosine_3 : decode cX11_farCosine 3 = .ok (.iload_n 1, 1) := by decide +kernel
theorem dX11_farCosine_4 : decode cX11_farCosine 4 = .ok (.iconst 2, 1) := by decide +kernel
theorem dX11_farCosine_5 : decode cX11_farCosine 5 = .ok (.invokevirtual 252, 3) := by decide +kernel
theorem dX11_farCosine_8 : decode cX11_farCosine 8 = .ok (.aload_n 0, 1) := by decide +kernel
theorem dX11_farCosine_9 : decode cX11_farCosine 9 = .ok (.iload_n 1, 1) := by decide +kernel
theorem dX11_farCosine_10 : decode cX11_farCosine 10 = .ok (.iconst 3, 1) := by decide +kernel
theorem dX11_farCosine_11 : decode cX11_farCosine 11 = .ok (.invokevirtual 252, 3) := by decide +kernel
theorem dX11_farCosine_14 : decode cX11_farCosine 14 = .ok (.iadd, 1) := by decide +kernel
theorem dX11_farCosine_15 : decode cX11_farCosine 15 = .ok (.invokevirtual 277, 3) := by decide +kernel
theorem dX11_farCosine_18 : decode cX11_farCosine 18 = .ok (.ireturn, 1) := by decide +kernel
theorem dX11_hasCosines_0 : decode cX11_hasCosines 0 = .ok (.aload_n 0, 1) := by decide +kernel
theorem dX11_hasCosines_1 : decode cX11_hasCosines 1 = .ok (.iload_n 1, 1) := by decide +kernel
theorem dX11_hasCosines_2 : decode cX11_hasCosines 2 = .ok (.invokevirtual 289, 3) := by decide +kernel
theorem dX11_hasCosines_5 : decode cX11_hasCosines 5 = .ok (.aload_n 0, 1) := by decide +kernel
theorem dX11_hasCosines_6 : decode cX11_hasCosines 6 = .ok (.iload_n 1, 1) := by decide +kernel
theorem dX11_hasCosines_7 : decode cX11_hasCosines 7 = .ok (.invokevirtual 292, 3) := by decide +kernel
theorem dX11_hasCosines_10 : decode cX11_hasCosines 10 = .ok (.if_icmp .gt 7, 3) := by decide +kernel
theorem dX11_hasCosines_13 : decode cX11_hasCosines 13 = .ok (.iconst 1, 1) := by decide +kernel
theorem dX11_hasCosines_14 : decode cX11_hasCosines 14 = .ok (.goto 4, 3) := by decide +kernel
theorem dX11_hasCosines_17 : decode cX11_hasCosines 17 = .ok (.iconst 0, 1) := by decide +kernel
theorem dX11_hasCosines_18 : decode cX11_hasCosines 18 = .ok (.ireturn, 1) := by decide +kernel
theorem dX11_isEnd_0 : decode cX11_isEnd 0 = .ok (.iload_n 2, 1) := by decide +kernel
theorem dX11_isEnd_1 : decode cX11_isEnd 1 = .ok (.i2l, 1) := by decide +kernel
theorem dX11_isEnd_2 : decode cX11_isEnd 2 = .ok (.invokestatic 7, 3) := by decide +kernel
theorem dX11_isEnd_5 : decode cX11_isEnd 5 = .ok (.aload_n 0, 1) := by decide +kernel
theorem dX11_isEnd_6 : decode cX11_isEnd 6 = .ok (.iload_n 1, 1) := by decide +kernel
theorem dX11_isEnd_7 : decode cX11_isEnd 7 = .ok (.invokevirtual 283, 3) := by decide +kernel
theorem dX11_isEnd_10 : decode cX11_isEnd 10 = .ok (.i2l, 1) := by decide +kernel
theorem dX11_isEnd_11 : decode cX11_isEnd 11 = .ok (.lcmp, 1) := by decide +kernel
theorem dX11_isEnd_12 : decode cX11_isEnd 12 = .ok (.ifCond .gt 7, 3) := by decide +kernel
theorem dX11_isEnd_15 : decode cX11_isEnd 15 = .ok (.iconst 1, 1) := by decide +kernel
theorem dX11_isEnd_16 : decode cX11_isEnd 16 = .ok (.goto 4, 3) := by decide +kernel
theorem dX11_isEnd_19 : decode cX11_isEnd 19 = .ok (.iconst 0, 1) := by decide +kernel
theorem dX11_isEnd_20 : decode cX11_isEnd 20 = .ok (.ireturn, 1) := by decide +kernel
theorem dX11_endsOf_0 : decode cX11_endsOf 0 = .ok (.aload_n 0, 1) := by decide +kernel
theorem dX11_endsOf_1 : decode cX11_endsOf 1 = .ok (.iload_n 1, 1) := by decide +kernel
theorem dX11_endsOf_2 : decode cX11_endsOf 2 = .ok (.aload_n 0, 1) := by decide +kernel
theorem dX11_endsOf_3 : decode cX11_endsOf 3 = .ok (.iload_n 1, 1) := by decide +kernel
theorem dX11_endsOf_4 : decode cX11_endsOf 4 = .ok (.invokevirtual 280, 3) := by decide +kernel
theorem dX11_endsOf_7 : decode cX11_endsOf 7 = .ok (.invokevirtual 295, 3) := by decide +kernel
theorem dX11_endsOf_10 : decode cX11_endsOf 10 = .ok (.ifCond .eq 7, 3) := by decide +kernel
theorem dX11_endsOf_13 : decode cX11_endsOf 13 = .ok (.iconst 1, 1) := by decide +kernel
theorem dX11_endsOf_14 : decode cX11_endsOf 14 = .ok (.goto 4, 3) := by decide +kernel
theorem dX11_endsOf_17 : decode cX11_endsOf 17 = .ok (.iconst 0, 1) := by decide +kernel
theorem dX11_endsOf_18 : decode cX11_endsOf 18 = .ok (.aload_n 0, 1) := by decide +kernel
theorem dX11_endsOf_19 : decode cX11_endsOf 19 = .ok (.iload_n 1, 1) := by decide +kernel
theorem dX11_endsOf_20 : decode cX11_endsOf 20 = .ok (.aload_n 0, 1) := by decide +kernel
theorem dX11_endsOf_21 : decode cX11_endsOf 21 = .ok (.iload_n 1, 1) := by decide +kernel
theorem dX11_endsOf_22 : decode cX11_endsOf 22 = .ok (.invokevirtual 286, 3) := by decide +kernel
theorem dX11_endsOf_25 : decode cX11_endsOf 25 = .ok (.invokevirtual 295, 3) := by decide +kernel
theorem dX11_endsOf_28 : decode cX11_endsOf 28 = .ok (.ifCond .eq 7, 3) := by decide +kernel
theorem dX11_endsOf_31 : decode cX11_endsOf 31 = .ok (.iconst 1, 1) := by decide +kernel
theorem dX11_endsOf_32 : decode cX11_endsOf 32 = .ok (.goto 4, 3) := by decide +kernel
theorem dX11_endsOf_35 : decode cX11_endsOf 35 = .ok (.iconst 0, 1) := by decide +kernel
theorem dX11_endsOf_36 : decode cX11_endsOf 36 = .ok (.iadd, 1) := by decide +kernel
theorem dX11_endsOf_37 : decode cX11_endsOf 37 = .ok (.ireturn, 1) := by decide +kernel
theorem dX11_arcsOf_0 : decode cX11_arcsOf 0 = .ok (.aload_n 0, 1) := by decide +kernel
theorem dX11_arcsOf_1 : decode cX11_arcsOf 1 = .ok (.iload_n 1, 1) := by decide +kernel
theorem dX11_arcsOf_2 : decode cX11_arcsOf 2 = .ok (.invokevirtual 298, 3) := by decide +kernel
theorem dX11_arcsOf_5 : decode cX11_arcsOf 5 = .ok (.ifCond .ne 5, 3) := by decide +kernel
theorem dX11_arcsOf_8 : decode cX11_arcsOf 8 = .ok (.iconst 0, 1) := by decide +kernel
theorem dX11_arcsOf_9 : decode cX11_arcsOf 9 = .ok (.ireturn, 1) := by decide +kernel
theorem dX11_arcsOf_10 : decode cX11_arcsOf 10 = .ok (.aload_n 0, 1) := by decide +kernel
theorem dX11_arcsOf_11 : decode cX11_arcsOf 11 = .ok (.iload_n 1, 1) := by decide +kernel
theorem dX11_arcsOf_12 : decode cX11_arcsOf 12 = .ok (.invokevirtual 289, 3) := by decide +kernel
theorem dX11_arcsOf_15 : decode cX11_arcsOf 15 = .ok (.aload_n 0, 1) := by decide +kernel
theorem dX11_arcsOf_16 : decode cX11_arcsOf 16 = .ok (.iload_n 1, 1) := by decide +kernel
theorem dX11_arcsOf_17 : decode cX11_arcsOf 17 = .ok (.invokevirtual 283, 3) := by decide +kernel
theorem dX11_arcsOf_20 : decode cX11_arcsOf 20 = .ok (.ineg, 1) := by decide +kernel
theorem dX11_arcsOf_21 : decode cX11_arcsOf 21 = .ok (.if_icmp .eq 16, 3) := by decide +kernel
theorem dX11_arcsOf_24 : decode cX11_arcsOf 24 = .ok (.aload_n 0, 1) := by decide +kernel
theorem dX11_arcsOf_25 : decode cX11_arcsOf 25 = .ok (.iload_n 1, 1) := by decide +kernel
theorem dX11_arcsOf_26 : decode cX11_arcsOf 26 = .ok (.invokevirtual 292, 3) := by decide +kernel
theorem dX11_arcsOf_29 : decode cX11_arcsOf 29 = .ok (.aload_n 0, 1) := by decide +kernel
theorem dX11_arcsOf_30 : decode cX11_arcsOf 30 = .ok (.iload_n 1, 1) := by decide +kernel
theorem dX11_arcsOf_31 : decode cX11_arcsOf 31 = .ok (.invokevirtual 283, 3) := by decide +kernel
theorem dX11_arcsOf_34 : decode cX11_arcsOf 34 = .ok (.if_icmp .ne 7, 3) := by decide +kernel
theorem dX11_arcsOf_37 : decode cX11_arcsOf 37 = .ok (.iconst 1, 1) := by decide +kernel
theorem dX11_arcsOf_38 : decode cX11_arcsOf 38 = .ok (.goto 4, 3) := by decide +kernel
theorem dX11_arcsOf_41 : decode cX11_arcsOf 41 = .ok (.iconst 2, 1) := by decide +kernel
theorem dX11_arcsOf_42 : decode cX11_arcsOf 42 = .ok (.ireturn, 1) := by decide +kernel
theorem dX11_hasTwoRounds_0 : decode cX11_hasTwoRounds 0 = .ok (.aload_n 0, 1) := by decide +kernel
theorem dX11_hasTwoRounds_1 : decode cX11_hasTwoRounds 1 = .ok (.iload_n 1, 1) := by decide +kernel
theorem dX11_hasTwoRounds_2 : decode cX11_hasTwoRounds 2 = .ok (.iconst 0, 1) := by decide +kernel
theorem dX11_hasTwoRounds_3 : decode cX11_hasTwoRounds 3 = .ok (.invokevirtual 274, 3) := by decide +kernel
theorem dX11_hasTwoRounds_6 : decode cX11_hasTwoRounds 6 = .ok (.ifCond .eq 15, 3) := by decide +kernel
theorem dX11_hasTwoRounds_9 : decode cX11_hasTwoRounds 9 = .ok (.aload_n 0, 1) := by decide +kernel
theorem dX11_hasTwoRounds_10 : decode cX11_hasTwoRounds 10 = .ok (.iload_n 1, 1) := by decide +kernel
theorem dX11_hasTwoRounds_11 : decode cX11_hasTwoRounds 11 = .ok (.invokevirtual 301, 3) := by decide +kernel
theorem dX11_hasTwoRounds_14 : decode cX11_hasTwoRounds 14 = .ok (.ifCond .ne 7, 3) := by decide +kernel
theorem dX11_hasTwoRounds_17 : decode cX11_hasTwoRounds 17 = .ok (.iconst 1, 1) := by decide +kernel
theorem dX11_hasTwoRounds_18 : decode cX11_hasTwoRounds 18 = .ok (.goto 4, 3) := by decide +kernel
theorem dX11_hasTwoRounds_21 : decode cX11_hasTwoRounds 21 = .ok (.iconst 0, 1) := by decide +kernel
theorem dX11_hasTwoRounds_22 : decode cX11_hasTwoRounds 22 = .ok (.ireturn, 1) := by decide +kernel
theorem dX11_ends_0 : decode cX11_ends 0 = .ok (.aload_n 0, 1) := by decide +kernel
theorem dX11_ends_1 : decode cX11_ends 1 = .ok (.invokevirtual 104, 3) := by decide +kernel
theorem dX11_ends_4 : decode cX11_ends 4 = .ok (.aload_n 0, 1) := by decide +kernel
theorem dX11_ends_5 : decode cX11_ends 5 = .ok (.iload_n 1, 1) := by decide +kernel
theorem dX11_ends_6 : decode cX11_ends 6 = .ok (.invokevirtual 265, 3) := by decide +kernel
theorem dX11_ends_9 : decode cX11_ends 9 = .ok (.ifCond .eq 11, 3) := by decide +kernel
theorem dX11_ends_12 : decode cX11_ends 12 = .ok (.aload_n 0, 1) := by decide +kernel
theorem dX11_ends_13 : decode cX11_ends 13 = .ok (.iload_n 1, 1) := by decide +kernel
theorem dX11_ends_14 : decode cX11_ends 14 = .ok (.invokevirtual 301, 3) := by decide +kernel
theorem dX11_ends_17 : decode cX11_ends 17 = .ok (.goto 8, 3) := by decide +kernel
theorem dX11_ends_20 : decode cX11_ends 20 = .ok (.aload_n 0, 1) := by decide +kernel
theorem dX11_ends_21 : decode cX11_ends 21 = .ok (.iconst 1, 1) := by decide +kernel
theorem dX11_ends_22 : decode cX11_ends 22 = .ok (.invokevirtual 115, 3) := by decide +kernel
theorem dX11_ends_25 : decode cX11_ends 25 = .ok (.ireturn, 1) := by decide +kernel
theorem dX11_arcs_0 : decode cX11_arcs 0 = .ok (.aload_n 0, 1) := by decide +kernel
theorem dX11_arcs_1 : decode cX11_arcs 1 = .ok (.invokevirtual 104, 3) := by decide +kernel
theorem dX11_arcs_4 : decode cX11_arcs 4 = .ok (.aload_n 0, 1) := by decide +kernel
theorem dX11_arcs_5 : decode cX11_arcs 5 = .ok (.iload_n 1, 1) := by decide +kernel
theorem dX11_arcs_6 : decode cX11_arcs 6 = .ok (.invokevirtual 265, 3) := by decide +kernel
theorem dX11_arcs_9 : decode cX11_arcs 9 = .ok (.ifCond .eq 11, 3) := by decide +kernel
theorem dX11_arcs_12 : decode cX11_arcs 12 = .ok (.aload_n 0, 1) := by decide +kernel
theorem dX11_arcs_13 : decode cX11_arcs 13 = .ok (.iload_n 1, 1) := by decide +kernel
theorem dX11_arcs_14 : decode cX11_arcs 14 = .ok (.invokevirtual 312, 3) := by decide +kernel
theorem dX11_arcs_17 : decode cX11_arcs 17 = .ok (.goto 8, 3) := by decide +kernel
theorem dX11_arcs_20 : decode cX11_arcs 20 = .ok (.aload_n 0, 1) := by decide +kernel
theorem dX11_arcs_21 : decode cX11_arcs 21 = .ok (.iconst 1, 1) := by decide +kernel
theorem dX11_arcs_22 : decode cX11_arcs 22 = .ok (.invokevirtual 115, 3) := by decide +kernel
theorem dX11_arcs_25 : decode cX11_arcs 25 = .ok (.ireturn, 1) := by decide +kernel
theorem dX11_circuits_0 : decode cX11_circuits 0 = .ok (.aload_n 0, 1) := by decide +kernel
theorem dX11_circuits_1 : decode cX11_circuits 1 = .ok (.invokevirtual 104, 3) := by decide +kernel
theorem dX11_circuits_4 : decode cX11_circuits 4 = .ok (.aload_n 0, 1) := by decide +kernel
theorem dX11_circuits_5 : decode cX11_circuits 5 = .ok (.iload_n 1, 1) := by decide +kernel
theorem dX11_circuits_6 : decode cX11_circuits 6 = .ok (.invokevirtual 265, 3) := by decide +kernel
theorem dX11_circuits_9 : decode cX11_circuits 9 = .ok (.ifCond .ne 9, 3) := by decide +kernel
theorem dX11_circuits_12 : decode cX11_circuits 12 = .ok (.aload_n 0, 1) := by decide +kernel
theorem dX11_circuits_13 : decode cX11_circuits 13 = .ok (.iconst 1, 1) := by decide +kernel
theorem dX11_circuits_14 : decode cX11_circuits 14 = .ok (.invokevirtual 115, 3) := by decide +kernel
theorem dX11_circuits_17 : decode cX11_circuits 17 = .ok (.ireturn, 1) := by decide +kernel
theorem dX11_circuits_18 : decode cX11_circuits 18 = .ok (.aload_n 0, 1) := by decide +kernel
theorem dX11_circuits_19 : decode cX11_circuits 19 = .ok (.iload_n 1, 1) := by decide +kernel
theorem dX11_circuits_20 : decode cX11_circuits 20 = .ok (.invokevirtual 298, 3) := by decide +kernel
theorem dX11_circuits_23 : decode cX11_circuits 23 = .ok (.ifCond .ne 5, 3) := by decide +kernel
theorem dX11_circuits_26 : decode cX11_circuits 26 = .ok (.iconst 0, 1) := by decide +kernel
theorem dX11_circuits_27 : decode cX11_circuits 27 = .ok (.ireturn, 1) := by decide +kernel
theorem dX11_circuits_28 : decode cX11_circuits 28 = .ok (.aload_n 0, 1) := by decide +kernel
theorem dX11_circuits_29 : decode cX11_circuits 29 = .ok (.iload_n 1, 1) := by decide +kernel
theorem dX11_circuits_30 : decode cX11_circuits 30 = .ok (.invokevirtual 315, 3) := by decide +kernel
theorem dX11_circuits_33 : decode cX11_circuits 33 = .ok (.ifCond .eq 7, 3) := by decide +kernel
theorem dX11_circuits_36 : decode cX11_circuits 36 = .ok (.iconst 2, 1) := by decide +kernel
theorem dX11_circuits_37 : decode cX11_circuits 37 = .ok (.goto 8, 3) := by decide +kernel
theorem dX11_circuits_40 : decode cX11_circuits 40 = .ok (.aload_n 0, 1) := by decide +kernel
theorem dX11_circuits_41 : decode cX11_circuits 41 = .ok (.iload_n 1, 1) := by decide +kernel
theorem dX11_circuits_42 : decode cX11_circuits 42 = .ok (.invokevirtual 312, 3) := by decide +kernel
theorem dX11_circuits_45 : decode cX11_circuits 45 = .ok (.ireturn, 1) := by decide +kernel
theorem dX11_deads_0 : decode cX11_deads 0 = .ok (.aload_n 0, 1) := by decide +kernel
theorem dX11_deads_1 : decode cX11_deads 1 = .ok (.invokevirtual 104, 3) := by decide +kernel
theorem dX11_deads_4 : decode cX11_deads 4 = .ok (.aload_n 0, 1) := by decide +kernel
theorem dX11_deads_5 : decode cX11_deads 5 = .ok (.iload_n 1, 1) := by decide +kernel
theorem dX11_deads_6 : decode cX11_deads 6 = .ok (.invokevirtual 265, 3) := by decide +kernel
theorem dX11_deads_9 : decode cX11_deads 9 = .ok (.ifCond .ne 9, 3) := by decide +kernel
theorem dX11_deads_12 : decode cX11_deads 12 = .ok (.aload_n 0, 1) := by decide +kernel
theorem dX11_deads_13 : decode cX11_deads 13 = .ok (.iconst 1, 1) := by decide +kernel
theorem dX11_deads_14 : decode cX11_deads 14 = .ok (.invokevirtual 115, 3) := by decide +kernel
theorem dX11_deads_17 : decode cX11_deads 17 = .ok (.ireturn, 1) := by decide +kernel
theorem dX11_deads_18 : decode cX11_deads 18 = .ok (.iconst 0, 1) := by decide +kernel
theorem dX11_deads_19 : decode cX11_deads 19 = .ok (.istore_n 2, 1) := by decide +kernel
theorem dX11_deads_20 : decode cX11_deads 20 = .ok (.iconst 0, 1) := by decide +kernel
theorem dX11_deads_21 : decode cX11_deads 21 = .ok (.istore_n 3, 1) := by decide +kernel
theorem dX11_deads_22 : decode cX11_deads 22 = .ok (.iload_n 3, 1) := by decide +kernel
theorem dX11_deads_23 : decode cX11_deads 23 = .ok (.aload_n 0, 1) := by decide +kernel
theorem dX11_deads_24 : decode cX11_deads 24 = .ok (.getfield 101, 3) := by decide +kernel
theorem dX11_deads_27 : decode cX11_deads 27 = .ok (.if_icmp .ge 35, 3) := by decide +kernel
theorem dX11_deads_30 : decode cX11_deads 30 = .ok (.iload_n 2, 1) := by decide +kernel
theorem dX11_deads_31 : decode cX11_deads 31 = .ok (.aload_n 0, 1) := by decide +kernel
theorem dX11_deads_32 : decode cX11_deads 32 = .ok (.iload_n 1, 1) := by decide +kernel
theorem dX11_deads_33 : decode cX11_deads 33 = .ok (.iload_n 3, 1) := by decide +kernel
theorem dX11_deads_34 : decode cX11_deads 34 = .ok (.invokevirtual 318, 3) := by decide +kernel
theorem dX11_deads_37 : decode cX11_deads 37 = .ok (.ifCond .eq 16, 3) := by decide +kernel
theorem dX11_deads_40 : decode cX11_deads 40 = .ok (.aload_n 0, 1) := by decide +kernel
theorem dX11_deads_41 : decode cX11_deads 41 = .ok (.getfield 321, 3) := by decide +kernel
theorem dX11_deads_44 : decode cX11_deads 44 = .ok (.lconst 0, 1) := by decide +kernel
theorem dX11_deads_45 : decode cX11_deads 45 = .ok (.lcmp, 1) := by decide +kernel
theorem dX11_deads_46 : decode cX11_deads 46 = .ok (.ifCond .ne 7, 3) := by decide +kernel
theorem dX11_deads_49 : decode cX11_deads 49 = .ok (.iconst 1, 1) := by decide +kernel
theorem dX11_deads_50 : decode cX11_deads 50 = .ok (.goto 4, 3) := by decide +kernel
theorem dX11_deads_53 : decode cX11_deads 53 = .ok (.iconst 0, 1) := by decide +kernel
theorem dX11_deads_54 : decode cX11_deads 54 = .ok (.iadd, 1) := by decide +kernel
theorem dX11_deads_55 : decode cX11_deads 55 = .ok (.istore_n 2, 1) := by decide +kernel
theorem dX11_deads_56 : decode cX11_deads 56 = .ok (.iinc 3 1, 3) := by decide +kernel
theorem dX11_deads_59 : decode cX11_deads 59 = .ok (.goto (-37), 3) := by decide +kernel
theorem dX11_deads_62 : decode cX11_deads 62 = .ok (.iload_n 2, 1) := by decide +kernel
theorem dX11_deads_63 : decode cX11_deads 63 = .ok (.ireturn, 1) := by decide +kernel
theorem dX11_isBetween_0 : decode cX11_isBetween 0 = .ok (.aload_n 0, 1) := by decide +kernel
theorem dX11_isBetween_1 : decode cX11_isBetween 1 = .ok (.iload_n 1, 1) := by decide +kernel
theorem dX11_isBetween_2 : decode cX11_isBetween 2 = .ok (.iload_n 3, 1) := by decide +kernel
theorem dX11_isBetween_3 : decode cX11_isBetween 3 = .ok (.invokevirtual 325, 3) := by decide +kernel
theorem dX11_isBetween_6 : decode cX11_isBetween 6 = .ok (.iload_n 2, 1) := by decide +kernel
theorem dX11_isBetween_7 : decode cX11_isBetween 7 = .ok (.i2l, 1) := by decide +kernel
theorem dX11_isBetween_8 : decode cX11_isBetween 8 = .ok (.aload_n 0, 1) := by decide +kernel
theorem dX11_isBetween_9 : decode cX11_isBetween 9 = .ok (.getfield 328, 3) := by decide +kernel
theorem dX11_isBetween_12 : decode cX11_isBetween 12 = .ok (.lmul, 1) := by decide +kernel
theorem dX11_isBetween_13 : decode cX11_isBetween 13 = .ok (.aload_n 0, 1) := by decide +kernel
theorem dX11_isBetween_14 : decode cX11_isBetween 14 = .ok (.getfield 331, 3) := by decide +kernel
theorem dX11_isBetween_17 : decode cX11_isBetween 17 = .ok (.aload_n 0, 1) := by decide +kernel
theorem dX11_isBetween_18 : decode cX11_isBetween 18 = .ok (.iload_n 1, 1) := by decide +kernel
theorem dX11_isBetween_19 : decode cX11_isBetween 19 = .ok (.invokevirtual 283, 3) := by decide +kernel
theorem dX11_isBetween_22 : decode cX11_isBetween 22 = .ok (.i2l, 1) := by decide +kernel
theorem dX11_isBetween_23 : decode cX11_isBetween 23 = .ok (.lmul, 1) := by decide +kernel
theorem dX11_isBetween_24 : decode cX11_isBetween 24 = .ok (.lsub, 1) := by decide +kernel
theorem dX11_isBetween_25 : decode cX11_isBetween 25 = .ok (.lstore 5, 2) := by decide +kernel
theorem dX11_isBetween_27 : decode cX11_isBetween 27 = .ok (.aload_n 0, 1) := by decide +kernel
theorem dX11_isBetween_28 : decode cX11_isBetween 28 = .ok (.iload_n 1, 1) := by decide +kernel
theorem dX11_isBetween_29 : decode cX11_isBetween 29 = .ok (.iload 4, 2) := by decide +kernel
theorem dX11_isBetween_31 : decode cX11_isBetween 31 = .ok (.invokevirtual 325, 3) := by decide +kernel
theorem dX11_isBetween_34 : decode cX11_isBetween 34 = .ok (.iload_n 2, 1) := by decide +kernel
theorem dX11_isBetween_35 : decode cX11_isBetween 35 = .ok (.i2l, 1) := by decide +kernel
theorem dX11_isBetween_36 : decode cX11_isBetween 36 = .ok (.aload_n 0, 1) := by decide +kernel
theorem dX11_isBetween_37 : decode cX11_isBetween 37 = .ok (.getfield 328, 3) := by decide +kernel
theorem dX11_isBetween_40 : decode cX11_isBetween 40 = .ok (.lmul, 1) := by decide +kernel
theorem dX11_isBetween_41 : decode cX11_isBetween 41 = .ok (.aload_n 0, 1) := by decide +kernel
theorem dX11_isBetween_42 : decode cX11_isBetween 42 = .ok (.getfield 331, 3) := by decide +kernel
theorem dX11_isBetween_45 : decode cX11_isBetween 45 = .ok (.aload_n 0, 1) := by decide +kernel
theorem dX11_isBetween_46 : decode cX11_isBetween 46 = .ok (.iload_n 1, 1) := by decide +kernel
theorem dX11_isBetween_47 : decode cX11_isBetween 47 = .ok (.invokevirtual 283, 3) := by decide +kernel
theorem dX11_isBetween_50 : decode cX11_isBetween 50 = .ok (.i2l, 1) := by decide +kernel
theorem dX11_isBetween_51 : decode cX11_isBetween 51 = .ok (.lmul, 1) := by decide +kernel
theorem dX11_isBetween_52 : decode cX11_isBetween 52 = .ok (.lsub, 1) := by decide +kernel
theorem dX11_isBetween_53 : decode cX11_isBetween 53 = .ok (.lstore 7, 2) := by decide +kernel
theorem dX11_isBetween_55 : decode cX11_isBetween 55 = .ok (.aload_n 0, 1) := by decide +kernel
theorem dX11_isBetween_56 : decode cX11_isBetween 56 = .ok (.iload_n 1, 1) := by decide +kernel
theorem dX11_isBetween_57 : decode cX11_isBetween 57 = .ok (.iload_n 2, 1) := by decide +kernel
theorem dX11_isBetween_58 : decode cX11_isBetween 58 = .ok (.invokevirtual 295, 3) := by decide +kernel
theorem dX11_isBetween_61 : decode cX11_isBetween 61 = .ok (.ifCond .eq 35, 3) := by decide +kernel
theorem dX11_isBetween_64 : decode cX11_isBetween 64 = .ok (.lload 5, 2) := by decide +kernel
theorem dX11_isBetween_66 : decode cX11_isBetween 66 = .ok (.lconst 0, 1) := by decide +kernel
theorem dX11_isBetween_67 : decode cX11_isBetween 67 = .ok (.lcmp, 1) := by decide +kernel
theorem dX11_isBetween_68 : decode cX11_isBetween 68 = .ok (.ifCond .ge 10, 3) := by decide +kernel
theorem dX11_isBetween_71 : decode cX11_isBetween 71 = .ok (.lload 7, 2) := by decide +kernel
theorem dX11_isBetween_73 : decode cX11_isBetween 73 = .ok (.lconst 0, 1) := by decide +kernel
theorem dX11_isBetween_74 : decode cX11_isBetween 74 = .ok (.lcmp, 1) := by decide +kernel
theorem dX11_isBetween_75 : decode cX11_isBetween 75 = .ok (.ifCond .gt 17, 3) := by decide +kernel
theorem dX11_isBetween_78 : decode cX11_isBetween 78 = .ok (.lload 5, 2) := by decide +kernel
theorem dX11_isBetween_80 : decode cX11_isBetween 80 = .ok (.lconst 0, 1) := by decide +kernel
theorem dX11_isBetween_81 : decode cX11_isBetween 81 = .ok (.lcmp, 1) := by decide +kernel
theorem dX11_isBetween_82 : decode cX11_isBetween 82 = .ok (.ifCond .le 14, 3) := by decide +kernel
theorem dX11_isBetween_85 : decode cX11_isBetween 85 = .ok (.lload 7, 2) := by decide +kernel
theorem dX11_isBetween_87 : decode cX11_isBetween 87 = .ok (.lconst 0, 1) := by decide +kernel
theorem dX11_isBetween_88 : decode cX11_isBetween 88 = .ok (.lcmp, 1) := by decide +kernel
theorem dX11_isBetween_89 : decode cX11_isBetween 89 = .ok (.ifCond .ge 7, 3) := by decide +kernel
theorem dX11_isBetween_92 : decode cX11_isBetween 92 = .ok (.iconst 1, 1) := by decide +kernel
theorem dX11_isBetween_93 : decode cX11_isBetween 93 = .ok (.goto 4, 3) := by decide +kernel
theorem dX11_isBetween_96 : decode cX11_isBetween 96 = .ok (.iconst 0, 1) := by decide +kernel
theorem dX11_isBetween_97 : decode cX11_isBetween 97 = .ok (.ireturn, 1) := by decide +kernel
theorem dX11_between_0 : decode cX11_between 0 = .ok (.aload_n 0, 1) := by decide +kernel
theorem dX11_between_1 : decode cX11_between 1 = .ok (.invokevirtual 104, 3) := by decide +kernel
theorem dX11_between_4 : decode cX11_between 4 = .ok (.aload_n 0, 1) := by decide +kernel
theorem dX11_between_5 : decode cX11_between 5 = .ok (.iload_n 1, 1) := by decide +kernel
theorem dX11_between_6 : decode cX11_between 6 = .ok (.invokevirtual 265, 3) := by decide +kernel
theorem dX11_between_9 : decode cX11_between 9 = .ok (.ifCond .eq 11, 3) := by decide +kernel
theorem dX11_between_12 : decode cX11_between 12 = .ok (.aload_n 0, 1) := by decide +kernel
theorem dX11_between_13 : decode cX11_between 13 = .ok (.iload_n 2, 1) := by decide +kernel
theorem dX11_between_14 : decode cX11_between 14 = .ok (.invokevirtual 334, 3) := by decide +kernel
theorem dX11_between_17 : decode cX11_between 17 = .ok (.ifCond .ne 9, 3) := by decide +kernel
theorem dX11_between_20 : decode cX11_between 20 = .ok (.aload_n 0, 1) := by decide +kernel
theorem dX11_between_21 : decode cX11_between 21 = .ok (.iconst 1, 1) := by decide +kernel
theorem dX11_between_22 : decode cX11_between 22 = .ok (.invokevirtual 115, 3) := by decide +kernel
theorem dX11_between_25 : decode cX11_between 25 = .ok (.ireturn, 1) := by decide +kernel
theorem dX11_between_26 : decode cX11_between 26 = .ok (.aload_n 0, 1) := by decide +kernel
theorem dX11_between_27 : decode cX11_between 27 = .ok (.iload_n 2, 1) := by decide +kernel
theorem dX11_between_28 : decode cX11_between 28 = .ok (.iconst 1, 1) := by decide +kernel
theorem dX11_between_29 : decode cX11_between 29 = .ok (.invokevirtual 337, 3) := by decide +kernel
theorem dX11_between_32 : decode cX11_between 32 = .ok (.istore_n 3, 1) := by decide +kernel
theorem dX11_between_33 : decode cX11_between 33 = .ok (.aload_n 0, 1) := by decide +kernel
theorem dX11_between_34 : decode cX11_between 34 = .ok (.iload_n 1, 1) := by decide +kernel
theorem dX11_between_35 : decode cX11_between 35 = .ok (.aload_n 0, 1) := by decide +kernel
theorem dX11_between_36 : decode cX11_between 36 = .ok (.iload_n 1, 1) := by decide +kernel
theorem dX11_between_37 : decode cX11_between 37 = .ok (.invokevirtual 280, 3) := by decide +kernel
theorem dX11_between_40 : decode cX11_between 40 = .ok (.iload_n 2, 1) := by decide +kernel
theorem dX11_between_41 : decode cX11_between 41 = .ok (.iload_n 3, 1) := by decide +kernel
theorem dX11_between_42 : decode cX11_between 42 = .ok (.invokevirtual 340, 3) := by decide +kernel
theorem dX11_between_45 : decode cX11_between 45 = .ok (.ifCond .eq 7, 3) := by decide +kernel
theorem dX11_between_48 : decode cX11_between 48 = .ok (.iconst 1, 1) := by decide +kernel
theorem dX11_between_49 : decode cX11_between 49 = .ok (.goto 4, 3) := by decide +kernel
theorem dX11_between_52 : decode cX11_between 52 = .ok (.iconst 0, 1) := by decide +kernel
theorem dX11_between_53 : decode cX11_between 53 = .ok (.aload_n 0, 1) := by decide +kernel
theorem dX11_between_54 : decode cX11_between 54 = .ok (.iload_n 1, 1) := by decide +kernel
theorem dX11_between_55 : decode cX11_between 55 = .ok (.aload_n 0, 1) := by decide +kernel
theorem dX11_between_56 : decode cX11_between 56 = .ok (.iload_n 1, 1) := by decide +kernel
theorem dX11_between_57 : decode cX11_between 57 = .ok (.invokevirtual 286, 3) := by decide +kernel
theorem dX11_between_60 : decode cX11_between 60 = .ok (.iload_n 2, 1) := by decide +kernel
theorem dX11_between_61 : decode cX11_between 61 = .ok (.iload_n 3, 1) := by decide +kernel
theorem dX11_between_62 : decode cX11_between 62 = .ok (.invokevirtual 340, 3) := by decide +kernel
theorem dX11_between_65 : decode cX11_between 65 = .ok (.ifCond .eq 7, 3) := by decide +kernel
theorem dX11_between_68 : decode cX11_between 68 = .ok (.iconst 1, 1) := by decide +kernel
theorem dX11_between_69 : decode cX11_between 69 = .ok (.goto 4, 3) := by decide +kernel
theorem dX11_between_72 : decode cX11_between 72 = .ok (.iconst 0, 1) := by decide +kernel
theorem dX11_between_73 : decode cX11_between 73 = .ok (.iadd, 1) := by decide +kernel
theorem dX11_between_74 : decode cX11_between 74 = .ok (.ireturn, 1) := by decide +kernel
theorem dX11_isAngle_0 : decode cX11_isAngle 0 = .ok (.iload_n 1, 1) := by decide +kernel
theorem dX11_isAngle_1 : decode cX11_isAngle 1 = .ok (.iconst 0, 1) := by decide +kernel
theorem dX11_isAngle_2 : decode cX11_isAngle 2 = .ok (.aload_n 0, 1) := by decide +kernel
theorem dX11_isAngle_3 : decode cX11_isAngle 3 = .ok (.getfield 101, 3) := by decide +kernel
theorem dX11_isAngle_6 : decode cX11_isAngle 6 = .ok (.iconst 1, 1) := by decide +kernel
theorem dX11_isAngle_7 : decode cX11_isAngle 7 = .ok (.isub, 1) := by decide +kernel
theorem dX11_isAngle_8 : decode cX11_isAngle 8 = .ok (.invokestatic 107, 3) := by decide +kernel
theorem dX11_isAngle_11 : decode cX11_isAngle 11 = .ok (.ireturn, 1) := by decide +kernel
theorem dX11_isLawful_0 : decode cX11_isLawful 0 = .ok (.aload_n 0, 1) := by decide +kernel
theorem dX11_isLawful_1 : decode cX11_isLawful 1 = .ok (.iload_n 1, 1) := by decide +kernel
theorem dX11_isLawful_2 : decode cX11_isLawful 2 = .ok (.iload_n 2, 1) := by decide +kernel
theorem dX11_isLawful_3 : decode cX11_isLawful 3 = .ok (.invokevirtual 325, 3) := by decide +kernel
theorem dX11_isLawful_6 : decode cX11_isLawful 6 = .ok (.aload_n 0, 1) := by decide +kernel
theorem dX11_isLawful_7 : decode cX11_isLawful 7 = .ok (.getfield 355, 3) := by decide +kernel
theorem dX11_isLawful_10 : decode cX11_isLawful 10 = .ok (.lconst 0, 1) := by decide +kernel
theorem dX11_isLawful_11 : decode cX11_isLawful 11 = .ok (.lcmp, 1) := by decide +kernel
theorem dX11_isLawful_12 : decode cX11_isLawful 12 = .ok (.ifCond .le 16, 3) := by decide +kernel
theorem dX11_isLawful_15 : decode cX11_isLawful 15 = .ok (.aload_n 0, 1) := by decide +kernel
theorem dX11_isLawful_16 : decode cX11_isLawful 16 = .ok (.getfield 321, 3) := by decide +kernel
theorem dX11_isLawful_19 : decode cX11_isLawful 19 = .ok (.lconst 0, 1) := by decide +kernel
theorem dX11_isLawful_20 : decode cX11_isLawful 20 = .ok (.lcmp, 1) := by decide +kernel
theorem dX11_isLawful_21 : decode cX11_isLawful 21 = .ok (.ifCond .lt 7, 3) := by decide +kernel
theorem dX11_isLawful_24 : decode cX11_isLawful 24 = .ok (.iconst 1, 1) := by decide +kernel
theorem dX11_isLawful_25 : decode cX11_isLawful 25 = .ok (.goto 4, 3) := by decide +kernel
theorem dX11_isLawful_28 : decode cX11_isLawful 28 = .ok (.iconst 0, 1) := by decide +kernel
theorem dX11_isLawful_29 : decode cX11_isLawful 29 = .ok (.ireturn, 1) := by decide +kernel
theorem dX11_floor_0 : decode cX11_floor 0 = .ok (.lload_n 0, 1) := by decide +kernel
theorem dX11_floor_1 : decode cX11_floor 1 = .ok (.lconst 0, 1) := by decide +kernel
theorem dX11_floor_2 : decode cX11_floor 2 = .ok (.lcmp, 1) := by decide +kernel
theorem dX11_floor_3 : decode cX11_floor 3 = .ok (.ifCond .lt 9, 3) := by decide +kernel
theorem dX11_floor_6 : decode cX11_floor 6 = .ok (.lload_n 0, 1) := by decide +kernel
theorem dX11_floor_7 : decode cX11_floor 7 = .ok (.lload_n 2, 1) := by decide +kernel
theorem dX11_floor_8 : decode cX11_floor 8 = .ok (.ldiv, 1) := by decide +kernel
theorem dX11_floor_9 : decode cX11_floor 9 = .ok (.goto 12, 3) := by decide +kernel
theorem dX11_floor_12 : decode cX11_floor 12 = .ok (.lload_n 0, 1) := by decide +kernel
theorem dX11_floor_13 : decode cX11_floor 13 = .ok (.lneg, 1) := by decide +kernel
theorem dX11_floor_14 : decode cX11_floor 14 = .ok (.lload_n 2, 1) := by decide +kernel
theorem dX11_floor_15 : decode cX11_floor 15 = .ok (.ladd, 1) := by decide +kernel
theorem dX11_floor_16 : decode cX11_floor 16 = .ok (.lconst 1, 1) := by decide +kernel
theorem dX11_floor_17 : decode cX11_floor 17 = .ok (.lsub, 1) := by decide +kernel
theorem dX11_floor_18 : decode cX11_floor 18 = .ok (.lload_n 2, 1) := by decide +kernel
theorem dX11_floor_19 : decode cX11_floor 19 = .ok (.ldiv, 1) := by decide +kernel
theorem dX11_floor_20 : decode cX11_floor 20 = .ok (.lneg, 1) := by decide +kernel
theorem dX11_floor_21 : decode cX11_floor 21 = .ok (.lreturn, 1) := by decide +kernel
theorem dX11_floorOf_0 : decode cX11_floorOf 0 = .ok (.lload_n 3, 1) := by decide +kernel
theorem dX11_floorOf_1 : decode cX11_floorOf 1 = .ok (.lload_n 3, 1) := by decide +kernel
theorem dX11_floorOf_2 : decode cX11_floorOf 2 = .ok (.lmul, 1) := by decide +kernel
theorem dX11_floorOf_3 : decode cX11_floorOf 3 = .ok (.aload_n 0, 1) := by decide +kernel
theorem dX11_floorOf_4 : decode cX11_floorOf 4 = .ok (.getfield 321, 3) := by decide +kernel
theorem dX11_floorOf_7 : decode cX11_floorOf 7 = .ok (.lmul, 1) := by decide +kernel
theorem dX11_floorOf_8 : decode cX11_floorOf 8 = .ok (.lstore 7, 2) := by decide +kernel
theorem dX11_floorOf_10 : decode cX11_floorOf 10 = .ok (.lload 7, 2) := by decide +kernel
theorem dX11_floorOf_12 : decode cX11_floorOf 12 = .ok (.invokestatic 371, 3) := by decide +kernel
theorem dX11_floorOf_15 : decode cX11_floorOf 15 = .ok (.lstore 9, 2) := by decide +kernel
theorem dX11_floorOf_17 : decode cX11_floorOf 17 = .ok (.lload_n 3, 1) := by decide +kernel
theorem dX11_floorOf_18 : decode cX11_floorOf 18 = .ok (.lconst 0, 1) := by decide +kernel
theorem dX11_floorOf_19 : decode cX11_floorOf 19 = .ok (.lcmp, 1) := by decide +kernel
theorem dX11_floorOf_20 : decode cX11_floorOf 20 = .ok (.ifCond .lt 13, 3) := by decide +kernel
theorem dX11_floorOf_23 : decode cX11_floorOf 23 = .ok (.lload_n 1, 1) := by decide +kernel
theorem dX11_floorOf_24 : decode cX11_floorOf 24 = .ok (.lload 9, 2) := by decide +kernel
theorem dX11_floorOf_26 : decode cX11_floorOf 26 = .ok (.ladd, 1) := by decide +kernel
theorem dX11_floorOf_27 : decode cX11_floorOf 27 = .ok (.lload 5, 2) := by decide +kernel
theorem dX11_floorOf_29 : decode cX11_floorOf 29 = .ok (.invokestatic 374, 3) := by decide +kernel
theorem dX11_floorOf_32 : decode cX11_floorOf 32 = .ok (.lreturn, 1) := by decide +kernel
theorem dX11_floorOf_33 : decode cX11_floorOf 33 = .ok (.lload_n 1, 1) := by decide +kernel
theorem dX11_floorOf_34 : decode cX11_floorOf 34 = .ok (.lload 9, 2) := by decide +kernel
theorem dX11_floorOf_36 : decode cX11_floorOf 36 = .ok (.lsub, 1) := by decide +kernel
theorem dX11_floorOf_37 : decode cX11_floorOf 37 = .ok (.lload 9, 2) := by decide +kernel
theorem dX11_floorOf_39 : decode cX11_floorOf 39 = .ok (.lload 9, 2) := by decide +kernel
theorem dX11_floorOf_41 : decode cX11_floorOf 41 = .ok (.lmul, 1) := by decide +kernel
theorem dX11_floorOf_42 : decode cX11_floorOf 42 = .ok (.lload 7, 2) := by decide +kernel
theorem dX11_floorOf_44 : decode cX11_floorOf 44 = .ok (.lcmp, 1) := by decide +kernel
theorem dX11_floorOf_45 : decode cX11_floorOf 45 = .ok (.ifCond .ge 7, 3) := by decide +kernel
theorem dX11_floorOf_48 : decode cX11_floorOf 48 = .ok (.lconst 1, 1) := by decide +kernel
theorem dX11_floorOf_49 : decode cX11_floorOf 49 = .ok (.goto 4, 3) := by decide +kernel
theorem dX11_floorOf_52 : decode cX11_floorOf 52 = .ok (.lconst 0, 1) := by decide +kernel
theorem dX11_floorOf_53 : decode cX11_floorOf 53 = .ok (.lsub, 1) := by decide +kernel
theorem dX11_floorOf_54 : decode cX11_floorOf 54 = .ok (.lload 5, 2) := by decide +kernel
theorem dX11_floorOf_56 : decode cX11_floorOf 56 = .ok (.invokestatic 374, 3) := by decide +kernel
theorem dX11_floorOf_59 : decode cX11_floorOf 59 = .ok (.lreturn, 1) := by decide +kernel
theorem dX11_isPosition_0 : decode cX11_isPosition 0 = .ok (.aload_n 0, 1) := by decide +kernel
theorem dX11_isPosition_1 : decode cX11_isPosition 1 = .ok (.iload_n 1, 1) := by decide +kernel
theorem dX11_isPosition_2 : decode cX11_isPosition 2 = .ok (.invokevirtual 265, 3) := by decide +kernel
theorem dX11_isPosition_5 : decode cX11_isPosition 5 = .ok (.ifCond .eq 24, 3) := by decide +kernel
theorem dX11_isPosition_8 : decode cX11_isPosition 8 = .ok (.aload_n 0, 1) := by decide +kernel
theorem dX11_isPosition_9 : decode cX11_isPosition 9 = .ok (.iload_n 2, 1) := by decide +kernel
theorem dX11_isPosition_10 : decode cX11_isPosition 10 = .ok (.invokevirtual 334, 3) := by decide +kernel
theorem dX11_isPosition_13 : decode cX11_isPosition 13 = .ok (.ifCond .eq 16, 3) := by decide +kernel
theorem dX11_isPosition_16 : decode cX11_isPosition 16 = .ok (.iload_n 3, 1) := by decide +kernel
theorem dX11_isPosition_17 : decode cX11_isPosition 17 = .ok (.iconst 0, 1) := by decide +kernel
theorem dX11_isPosition_18 : decode cX11_isPosition 18 = .ok (.iconst 1, 1) := by decide +kernel
theorem dX11_isPosition_19 : decode cX11_isPosition 19 = .ok (.invokestatic 107, 3) := by decide +kernel
theorem dX11_isPosition_22 : decode cX11_isPosition 22 = .ok (.ifCond .eq 7, 3) := by decide +kernel
theorem dX11_isPosition_25 : decode cX11_isPosition 25 = .ok (.iconst 1, 1) := by decide +kernel
theorem dX11_isPosition_26 : decode cX11_isPosition 26 = .ok (.goto 4, 3) := by decide +kernel
theorem dX11_isPosition_29 : decode cX11_isPosition 29 = .ok (.iconst 0, 1) := by decide +kernel
theorem dX11_isPosition_30 : decode cX11_isPosition 30 = .ok (.ireturn, 1) := by decide +kernel
theorem dX11_exact_0 : decode cX11_exact 0 = .ok (.aload_n 0, 1) := by decide +kernel
theorem dX11_exact_1 : decode cX11_exact 1 = .ok (.invokevirtual 104, 3) := by decide +kernel
theorem dX11_exact_4 : decode cX11_exact 4 = .ok (.aload_n 0, 1) := by decide +kernel
theorem dX11_exact_5 : decode cX11_exact 5 = .ok (.iload_n 1, 1) := by decide +kernel
theorem dX11_exact_6 : decode cX11_exact 6 = .ok (.iload_n 2, 1) := by decide +kernel
theorem dX11_exact_7 : decode cX11_exact 7 = .ok (.iload_n 3, 1) := by decide +kernel
theorem dX11_exact_8 : decode cX11_exact 8 = .ok (.invokevirtual 381, 3) := by decide +kernel
theorem dX11_exact_11 : decode cX11_exact 11 = .ok (.ifCond .eq 13, 3) := by decide +kernel
theorem dX11_exact_14 : decode cX11_exact 14 = .ok (.iload 4, 2) := by decide +kernel
theorem dX11_exact_16 : decode cX11_exact 16 = .ok (.iconst 0, 1) := by decide +kernel
theorem dX11_exact_17 : decode cX11_exact 17 = .ok (.iconst 5, 1) := by decide +kernel
theorem dX11_exact_18 : decode cX11_exact 18 = .ok (.invokestatic 107, 3) := by decide +kernel
theorem dX11_exact_21 : decode cX11_exact 21 = .ok (.ifCond .ne 9, 3) := by decide +kernel
theorem dX11_exact_24 : decode cX11_exact 24 = .ok (.aload_n 0, 1) := by decide +kernel
theorem dX11_exact_25 : decode cX11_exact 25 = .ok (.iconst 1, 1) := by decide +kernel
theorem dX11_exact_26 : decode cX11_exact 26 = .ok (.invokevirtual 304, 3) := by decide +kernel
theorem dX11_exact_29 : decode cX11_exact 29 = .ok (.lreturn, 1) := by decide +kernel
theorem dX11_exact_30 : decode cX11_exact 30 = .ok (.aload_n 0, 1) := by decide +kernel
theorem dX11_exact_31 : decode cX11_exact 31 = .ok (.iload_n 1, 1) := by decide +kernel
theorem dX11_exact_32 : decode cX11_exact 32 = .ok (.iload_n 2, 1) := by decide +kernel
theorem dX11_exact_33 : decode cX11_exact 33 = .ok (.invokevirtual 318, 3) := by decide +kernel
theorem dX11_exact_36 : decode cX11_exact 36 = .ok (.ifCond .ne 9, 3) := by decide +kernel
theorem dX11_exact_39 : decode cX11_exact 39 = .ok (.aload_n 0, 1) := by decide +kernel
theorem dX11_exact_40 : decode cX11_exact 40 = .ok (.iconst 5, 1) := by decide +kernel
theorem dX11_exact_41 : decode cX11_exact 41 = .ok (.invokevirtual 304, 3) := by decide +kernel
theorem dX11_exact_44 : decode cX11_exact 44 = .ok (.lreturn, 1) := by decide +kernel
theorem dX11_exact_45 : decode cX11_exact 45 = .ok (.aload_n 0, 1) := by decide +kernel
theorem dX11_exact_46 : decode cX11_exact 46 = .ok (.iload 4, 2) := by decide +kernel
theorem dX11_exact_48 : decode cX11_exact 48 = .ok (.iconst 3, 1) := by decide +kernel
theorem dX11_exact_49 : decode cX11_exact 49 = .ok (.idiv, 1) := by decide +kernel
theorem dX11_exact_50 : decode cX11_exact 50 = .ok (.invokevirtual 386, 3) := by decide +kernel
theorem dX11_exact_53 : decode cX11_exact 53 = .ok (.lstore 5, 2) := by decide +kernel
theorem dX11_exact_55 : decode cX11_exact 55 = .ok (.aload_n 0, 1) := by decide +kernel
theorem dX11_exact_56 : decode cX11_exact 56 = .ok (.iload 4, 2) := by decide +kernel
theorem dX11_exact_58 : decode cX11_exact 58 = .ok (.iconst 3, 1) := by decide +kernel
theorem dX11_exact_59 : decode cX11_exact 59 = .ok (.idiv, 1) := by decide +kernel
theorem dX11_exact_60 : decode cX11_exact 60 = .ok (.iload_n 3, 1) := by decide +kernel
theorem dX11_exact_61 : decode cX11_exact 61 = .ok (.invokevirtual 389, 3) := by decide +kernel
theorem dX11_exact_64 : decode cX11_exact 64 = .ok (.lstore 7, 2) := by decide +kernel
theorem dX11_exact_66 : decode cX11_exact 66 = .ok (.ldc2_w 344, 3) := by decide +kernel
theorem dX11_exact_69 : decode cX11_exact 69 = .ok (.aload_n 0, 1) := by decide +kernel
theorem dX11_exact_70 : decode cX11_exact 70 = .ok (.getfield 355, 3) := by decide +kernel
theorem dX11_exact_73 : decode cX11_exact 73 = .ok (.lmul, 1) := by decide +kernel
theorem dX11_exact_74 : decode cX11_exact 74 = .ok (.aload_n 0, 1) := by decide +kernel
theorem dX11_exact_75 : decode cX11_exact 75 = .ok (.getfield 328, 3) := by decide +kernel
theorem dX11_exact_78 : decode cX11_exact 78 = .ok (.lmul, 1) := by decide +kernel
theorem dX11_exact_79 : decode cX11_exact 79 = .ok (.lstore 9, 2) := by decide +kernel
theorem dX11_exact_81 : decode cX11_exact 81 = .ok (.lload 5, 2) := by decide +kernel
theorem dX11_exact_83 : decode cX11_exact 83 = .ok (.lload 7, 2) := by decide +kernel
theorem dX11_exact_85 : decode cX11_exact 85 = .ok (.invokestatic 22, 3) := by decide +kernel
theorem dX11_exact_88 : decode cX11_exact 88 = .ok (.lload 9, 2) := by decide +kernel
theorem dX11_exact_90 : decode cX11_exact 90 = .ok (.invokestatic 22, 3) := by decide +kernel
theorem dX11_exact_93 : decode cX11_exact 93 = .ok (.lstore 11, 2) := by decide +kernel
theorem dX11_exact_95 : decode cX11_exact 95 = .ok (.iload 4, 2) := by decide +kernel
theorem dX11_exact_97 : decode cX11_exact 97 = .ok (.iconst 3, 1) := by decide +kernel
theorem dX11_exact_98 : decode cX11_exact 98 = .ok (.irem, 1) := by decide +kernel
theorem dX11_exact_99 : decode cX11_exact 99 = .ok (.ifCond .ne 8, 3) := by decide +kernel
theorem dX11_exact_102 : decode cX11_exact 102 = .ok (.lload 5, 2) := by decide +kernel
theorem dX11_exact_104 : decode cX11_exact 104 = .ok (.goto 18, 3) := by decide +kernel
theorem dX11_exact_107 : decode cX11_exact 107 = .ok (.iload 4, 2) := by decide +kernel
theorem dX11_exact_109 : decode cX11_exact 109 = .ok (.iconst 3, 1) := by decide +kernel
theorem dX11_exact_110 : decode cX11_exact 110 = .ok (.irem, 1) := by decide +kernel
theorem dX11_exact_111 : decode cX11_exact 111 = .ok (.iconst 1, 1) := by decide +kernel
theorem dX11_exact_112 : decode cX11_exact 112 = .ok (.if_icmp .ne 8, 3) := by decide +kernel
theorem dX11_exact_115 : decode cX11_exact 115 = .ok (.lload 7, 2) := by decide +kernel
theorem dX11_exact_117 : decode cX11_exact 117 = .ok (.goto 5, 3) := by decide +kernel
theorem dX11_exact_120 : decode cX11_exact 120 = .ok (.lload 9, 2) := by decide +kernel
theorem dX11_exact_122 : decode cX11_exact 122 = .ok (.lload 11, 2) := by decide +kernel
theorem dX11_exact_124 : decode cX11_exact 124 = .ok (.ldiv, 1) := by decide +kernel
theorem dX11_exact_125 : decode cX11_exact 125 = .ok (.lreturn, 1) := by decide +kernel
theorem dX11_circuit_0 : decode cX11_circuit 0 = .ok (.aload_n 0, 1) := by decide +kernel
theorem dX11_circuit_1 : decode cX11_circuit 1 = .ok (.invokevirtual 104, 3) := by decide +kernel
theorem dX11_circuit_4 : decode cX11_circuit 4 = .ok (.aload_n 0, 1) := by decide +kernel
theorem dX11_circuit_5 : decode cX11_circuit 5 = .ok (.iload_n 1, 1) := by decide +kernel
theorem dX11_circuit_6 : decode cX11_circuit 6 = .ok (.iload_n 2, 1) := by decide +kernel
theorem dX11_circuit_7 : decode cX11_circuit 7 = .ok (.iload_n 3, 1) := by decide +kernel
theorem dX11_circuit_8 : decode cX11_circuit 8 = .ok (.invokevirtual 381, 3) := by decide +kernel
theorem dX11_circuit_11 : decode cX11_circuit 11 = .ok (.ifCond .ne 9, 3) := by decide +kernel
theorem dX11_circuit_14 : decode cX11_circuit 14 = .ok (.aload_n 0, 1) := by decide +kernel
theorem dX11_circuit_15 : decode cX11_circuit 15 = .ok (.iconst 1, 1) := by decide +kernel
theorem dX11_circuit_16 : decode cX11_circuit 16 = .ok (.invokevirtual 115, 3) := by decide +kernel
theorem dX11_circuit_19 : decode cX11_circuit 19 = .ok (.ireturn, 1) := by decide +kernel
theorem dX11_circuit_20 : decode cX11_circuit 20 = .ok (.aload_n 0, 1) := by decide +kernel
theorem dX11_circuit_21 : decode cX11_circuit 21 = .ok (.iload_n 1, 1) := by decide +kernel
theorem dX11_circuit_22 : decode cX11_circuit 22 = .ok (.iload_n 2, 1) := by decide +kernel
theorem dX11_circuit_23 : decode cX11_circuit 23 = .ok (.invokevirtual 318, 3) := by decide +kernel
theorem dX11_circuit_26 : decode cX11_circuit 26 = .ok (.ifCond .ne 9, 3) := by decide +kernel
theorem dX11_circuit_29 : decode cX11_circuit 29 = .ok (.aload_n 0, 1) := by decide +kernel
theorem dX11_circuit_30 : decode cX11_circuit 30 = .ok (.iconst 5, 1) := by decide +kernel
theorem dX11_circuit_31 : decode cX11_circuit 31 = .ok (.invokevirtual 115, 3) := by decide +kernel
theorem dX11_circuit_34 : decode cX11_circuit 34 = .ok (.ireturn, 1) := by decide +kernel
theorem dX11_circuit_35 : decode cX11_circuit 35 = .ok (.aload_n 0, 1) := by decide +kernel
theorem dX11_circuit_36 : decode cX11_circuit 36 = .ok (.iload_n 1, 1) := by decide +kernel
theorem dX11_circuit_37 : decode cX11_circuit 37 = .ok (.invokevirtual 315, 3) := by decide +kernel
theorem dX11_circuit_40 : decode cX11_circuit 40 = .ok (.ifCond .eq 7, 3) := by decide +kernel
theorem dX11_circuit_43 : decode cX11_circuit 43 = .ok (.iload_n 3, 1) := by decide +kernel
theorem dX11_circuit_44 : decode cX11_circuit 44 = .ok (.goto 26, 3) := by decide +kernel
theorem dX11_circuit_47 : decode cX11_circuit 47 = .ok (.aload_n 0, 1) := by decide +kernel
theorem dX11_circuit_48 : decode cX11_circuit 48 = .ok (.iload_n 1, 1) := by decide +kernel
theorem dX11_circuit_49 : decode cX11_circuit 49 = .ok (.invokevirtual 312, 3) := by decide +kernel
theorem dX11_circuit_52 : decode cX11_circuit 52 = .ok (.iconst 2, 1) := by decide +kernel
theorem dX11_circuit_53 : decode cX11_circuit 53 = .ok (.if_icmp .ne 16, 3) := by decide +kernel
theorem dX11_circuit_56 : decode cX11_circuit 56 = .ok (.aload_n 0, 1) := by decide +kernel
theorem dX11_circuit_57 : decode cX11_circuit 57 = .ok (.getfield 352, 3) := by decide +kernel
theorem dX11_circuit_60 : decode cX11_circuit 60 = .ok (.lconst 0, 1) := by decide +kernel
theorem dX11_circuit_61 : decode cX11_circuit 61 = .ok (.lcmp, 1) := by decide +kernel
theorem dX11_circuit_62 : decode cX11_circuit 62 = .ok (.ifCond .ge 7, 3) := by decide +kernel
theorem dX11_circuit_65 : decode cX11_circuit 65 = .ok (.iconst 1, 1) := by decide +kernel
theorem dX11_circuit_66 : decode cX11_circuit 66 = .ok (.goto 4, 3) := by decide +kernel
theorem dX11_circuit_69 : decode cX11_circuit 69 = .ok (.iconst 0, 1) := by decide +kernel
theorem dX11_circuit_70 : decode cX11_circuit 70 = .ok (.ireturn, 1) := by decide +kernel
theorem dX11_forceUp_0 : decode cX11_forceUp 0 = .ok (.aload_n 0, 1) := by decide +kernel
theorem dX11_forceUp_1 : decode cX11_forceUp 1 = .ok (.iload_n 1, 1) := by decide +kernel
theorem dX11_forceUp_2 : decode cX11_forceUp 2 = .ok (.iconst 2, 1) := by decide +kernel
theorem dX11_forceUp_3 : decode cX11_forceUp 3 = .ok (.invokevirtual 252, 3) := by decide +kernel
theorem dX11_forceUp_6 : decode cX11_forceUp 6 = .ok (.i2l, 1) := by decide +kernel
theorem dX11_forceUp_7 : decode cX11_forceUp 7 = .ok (.lstore_n 2, 1) := by decide +kernel
theorem dX11_forceUp_8 : decode cX11_forceUp 8 = .ok (.aload_n 0, 1) := by decide +kernel
theorem dX11_forceUp_9 : decode cX11_forceUp 9 = .ok (.iload_n 1, 1) := by decide +kernel
theorem dX11_forceUp_10 : decode cX11_forceUp 10 = .ok (.iconst 3, 1) := by decide +kernel
theorem dX11_forceUp_11 : decode cX11_forceUp 11 = .ok (.invokevirtual 252, 3) := by decide +kernel
theorem dX11_forceUp_14 : decode cX11_forceUp 14 = .ok (.i2l, 1) := by decide +kernel
theorem dX11_forceUp_15 : decode cX11_forceUp 15 = .ok (.lstore 4, 2) := by decide +kernel
theorem dX11_forceUp_17 : decode cX11_forceUp 17 = .ok (.lload_n 2, 1) := by decide +kernel
theorem dX11_forceUp_18 : decode cX11_forceUp 18 = .ok (.lload_n 2, 1) := by decide +kernel
theorem dX11_forceUp_19 : decode cX11_forceUp 19 = .ok (.lmul, 1) := by decide +kernel
theorem dX11_forceUp_20 : decode cX11_forceUp 20 = .ok (.lload 4, 2) := by decide +kernel
theorem dX11_forceUp_22 : decode cX11_forceUp 22 = .ok (.lload 4, 2) := by decide +kernel
theorem dX11_forceUp_24 : decode cX11_forceUp 24 = .ok (.lmul, 1) := by decide +kernel
theorem dX11_forceUp_25 : decode cX11_forceUp 25 = .ok (.ladd, 1) := by decide +kernel
theorem dX11_forceUp_26 : decode cX11_forceUp 26 = .ok (.aload_n 0, 1) := by decide +kernel
theorem dX11_forceUp_27 : decode cX11_forceUp 27 = .ok (.getfield 328, 3) := by decide +kernel
theorem dX11_forceUp_30 : decode cX11_forceUp 30 = .ok (.lmul, 1) := by decide +kernel
theorem dX11_forceUp_31 : decode cX11_forceUp 31 = .ok (.aload_n 0, 1) := by decide +kernel
theorem dX11_forceUp_32 : decode cX11_forceUp 32 = .ok (.getfield 355, 3) := by decide +kernel
theorem dX11_forceUp_35 : decode cX11_forceUp 35 = .ok (.lsub, 1) := by decide +kernel
theorem dX11_forceUp_36 : decode cX11_forceUp 36 = .ok (.lreturn, 1) := by decide +kernel
theorem dX11_force_0 : decode cX11_force 0 = .ok (.aload_n 0, 1) := by decide +kernel
theorem dX11_force_1 : decode cX11_force 1 = .ok (.invokevirtual 104, 3) := by decide +kernel
theorem dX11_force_4 : decode cX11_force 4 = .ok (.aload_n 0, 1) := by decide +kernel
theorem dX11_force_5 : decode cX11_force 5 = .ok (.iload_n 1, 1) := by decide +kernel
theorem dX11_force_6 : decode cX11_force 6 = .ok (.invokevirtual 265, 3) := by decide +kernel
theorem dX11_force_9 : decode cX11_force 9 = .ok (.ifCond .eq 11, 3) := by decide +kernel
theorem dX11_force_12 : decode cX11_force 12 = .ok (.aload_n 0, 1) := by decide +kernel
theorem dX11_force_13 : decode cX11_force 13 = .ok (.iload_n 2, 1) := by decide +kernel
theorem dX11_force_14 : decode cX11_force 14 = .ok (.invokevirtual 334, 3) := by decide +kernel
theorem dX11_force_17 : decode cX11_force 17 = .ok (.ifCond .ne 9, 3) := by decide +kernel
theorem dX11_force_20 : decode cX11_force 20 = .ok (.aload_n 0, 1) := by decide +kernel
theorem dX11_force_21 : decode cX11_force 21 = .ok (.iconst 1, 1) := by decide +kernel
theorem dX11_force_22 : decode cX11_force 22 = .ok (.invokevirtual 304, 3) := by decide +kernel
theorem dX11_force_25 : decode cX11_force 25 = .ok (.lreturn, 1) := by decide +kernel
theorem dX11_force_26 : decode cX11_force 26 = .ok (.aload_n 0, 1) := by decide +kernel
theorem dX11_force_27 : decode cX11_force 27 = .ok (.iload_n 1, 1) := by decide +kernel
theorem dX11_force_28 : decode cX11_force 28 = .ok (.iload_n 2, 1) := by decide +kernel
theorem dX11_force_29 : decode cX11_force 29 = .ok (.invokevirtual 318, 3) := by decide +kernel
theorem dX11_force_32 : decode cX11_force 32 = .ok (.ifCond .ne 9, 3) := by decide +kernel
theorem dX11_force_35 : decode cX11_force 35 = .ok (.aload_n 0, 1) := by decide +kernel
theorem dX11_force_36 : decode cX11_force 36 = .ok (.iconst 5, 1) := by decide +kernel
theorem dX11_force_37 : decode cX11_force 37 = .ok (.invokevirtual 304, 3) := by decide +kernel
theorem dX11_force_40 : decode cX11_force 40 = .ok (.lreturn, 1) := by decide +kernel
theorem dX11_force_41 : decode cX11_force 41 = .ok (.aload_n 0, 1) := by decide +kernel
theorem dX11_force_42 : decode cX11_force 42 = .ok (.aload_n 0, 1) := by decide +kernel
theorem dX11_force_43 : decode cX11_force 43 = .ok (.iload_n 1, 1) := by decide +kernel
theorem dX11_force_44 : decode cX11_force 44 = .ok (.invokevirtual 399, 3) := by decide +kernel
theorem dX11_force_47 : decode cX11_force 47 = .ok (.ldc2_w 344, 3) := by decide +kernel
theorem dX11_force_50 : decode cX11_force 50 = .ok (.aload_n 0, 1) := by decide +kernel
theorem dX11_force_51 : decode cX11_force 51 = .ok (.iload_n 1, 1) := by decide +kernel
theorem dX11_force_52 : decode cX11_force 52 = .ok (.iconst 2, 1) := by decide +kernel
theorem dX11_force_53 : decode cX11_force 53 = .ok (.invokevirtual 252, 3) := by decide +kernel
theorem dX11_force_56 : decode cX11_force 56 = .ok (.i2l, 1) := by decide +kernel
theorem dX11_force_57 : decode cX11_force 57 = .ok (.lmul, 1) := by decide +kernel
theorem dX11_force_58 : decode cX11_force 58 = .ok (.aload_n 0, 1) := by decide +kernel
theorem dX11_force_59 : decode cX11_force 59 = .ok (.iload_n 1, 1) := by decide +kernel
theorem dX11_force_60 : decode cX11_force 60 = .ok (.iconst 3, 1) := by decide +kernel
theorem dX11_force_61 : decode cX11_force 61 = .ok (.invokevirtual 252, 3) := by decide +kernel
theorem dX11_force_64 : decode cX11_force 64 = .ok (.i2l, 1) := by decide +kernel
theorem dX11_force_65 : decode cX11_force 65 = .ok (.lmul, 1) := by decide +kernel
theorem dX11_force_66 : decode cX11_force 66 = .ok (.aload_n 0, 1) := by decide +kernel
theorem dX11_force_67 : decode cX11_force 67 = .ok (.getfield 328, 3) := by decide +kernel
theorem dX11_force_70 : decode cX11_force 70 = .ok (.lmul, 1) := by decide +kernel
theorem dX11_force_71 : decode cX11_force 71 = .ok (.iload_n 3, 1) := by decide +kernel
theorem dX11_force_72 : decode cX11_force 72 = .ok (.invokevirtual 308, 3) := by decide +kernel
theorem dX11_force_75 : decode cX11_force 75 = .ok (.lreturn, 1) := by decide +kernel
theorem dX11_easiest_0 : decode cX11_easiest 0 = .ok (.aload_n 0, 1) := by decide +kernel
theorem dX11_easiest_1 : decode cX11_easiest 1 = .ok (.invokevirtual 104, 3) := by decide +kernel
theorem dX11_easiest_4 : decode cX11_easiest 4 = .ok (.aload_n 0, 1) := by decide +kernel
theorem dX11_easiest_5 : decode cX11_easiest 5 = .ok (.iload_n 1, 1) := by decide +kernel
theorem dX11_easiest_6 : decode cX11_easiest 6 = .ok (.invokevirtual 265, 3) := by decide +kernel
theorem dX11_easiest_9 : decode cX11_easiest 9 = .ok (.ifCond .ne 9, 3) := by decide +kernel
theorem dX11_easiest_12 : decode cX11_easiest 12 = .ok (.aload_n 0, 1) := by decide +kernel
theorem dX11_easiest_13 : decode cX11_easiest 13 = .ok (.iconst 1, 1) := by decide +kernel
theorem dX11_easiest_14 : decode cX11_easiest 14 = .ok (.invokevirtual 115, 3) := by decide +kernel
theorem dX11_easiest_17 : decode cX11_easiest 17 = .ok (.ireturn, 1) := by decide +kernel
theorem dX11_easiest_18 : decode cX11_easiest 18 = .ok (.bipush (-2), 2) := by decide +kernel
theorem dX11_easiest_20 : decode cX11_easiest 20 = .ok (.istore_n 2, 1) := by decide +kernel
theorem dX11_easiest_21 : decode cX11_easiest 21 = .ok (.lconst 0, 1) := by decide +kernel
theorem dX11_easiest_22 : decode cX11_easiest 22 = .ok (.lstore_n 3, 1) := by decide +kernel
theorem dX11_easiest_23 : decode cX11_easiest 23 = .ok (.lconst 1, 1) := by decide +kernel
theorem dX11_easiest_24 : decode cX11_easiest 24 = .ok (.lstore 5, 2) := by decide +kernel
theorem dX11_easiest_26 : decode cX11_easiest 26 = .ok (.iconst 0, 1) := by decide +kernel
theorem dX11_easiest_27 : decode cX11_easiest 27 = .ok (.istore 7, 2) := by decide +kernel
theorem dX11_easiest_29 : decode cX11_easiest 29 = .ok (.iload 7, 2) := by decide +kernel
theorem dX11_easiest_31 : decode cX11_easiest 31 = .ok (.aload_n 0, 1) := by decide +kernel
theorem dX11_easiest_32 : decode cX11_easiest 32 = .ok (.getfield 101, 3) := by decide +kernel
theorem dX11_easiest_35 : decode cX11_easiest 35 = .ok (.if_icmp .ge 64, 3) := by decide +kernel
theorem dX11_easiest_38 : decode cX11_easiest 38 = .ok (.aload_n 0, 1) := by decide +kernel
theorem dX11_easiest_39 : decode cX11_easiest 39 = .ok (.iload_n 1, 1) := by decide +kernel
theorem dX11_easiest_40 : decode cX11_easiest 40 = .ok (.iload 7, 2) := by decide +kernel
theorem dX11_easiest_42 : decode cX11_easiest 42 = .ok (.invokevirtual 318, 3) := by decide +kernel
theorem dX11_easiest_45 : decode cX11_easiest 45 = .ok (.ifCond .eq 48, 3) := by decide +kernel
theorem dX11_easiest_48 : decode cX11_easiest 48 = .ok (.iload_n 2, 1) := by decide +kernel
theorem dX11_easiest_49 : decode cX11_easiest 49 = .ok (.bipush (-2), 2) := by decide +kernel
theorem dX11_easiest_51 : decode cX11_easiest 51 = .ok (.if_icmp .eq 24, 3) := by decide +kernel
theorem dX11_easiest_54 : decode cX11_easiest 54 = .ok (.aload_n 0, 1) := by decide +kernel
theorem dX11_easiest_55 : decode cX11_easiest 55 = .ok (.iload_n 1, 1) := by decide +kernel
theorem dX11_easiest_56 : decode cX11_easiest 56 = .ok (.invokevirtual 399, 3) := by decide +kernel
theorem dX11_easiest_59 : decode cX11_easiest 59 = .ok (.invokestatic 7, 3) := by decide +kernel
theorem dX11_easiest_62 : decode cX11_easiest 62 = .ok (.lload 5, 2) := by decide +kernel
theorem dX11_easiest_64 : decode cX11_easiest 64 = .ok (.lmul, 1) := by decide +kernel
theorem dX11_easiest_65 : decode cX11_easiest 65 = .ok (.lload_n 3, 1) := by decide +kernel
theorem dX11_easiest_66 : decode cX11_easiest 66 = .ok (.aload_n 0, 1) := by decide +kernel
theorem dX11_easiest_67 : decode cX11_easiest 67 = .ok (.getfield 328, 3) := by decide +kernel
theorem dX11_easiest_70 : decode cX11_easiest 70 = .ok (.lmul, 1) := by decide +kernel
theorem dX11_easiest_71 : decode cX11_easiest 71 = .ok (.lcmp, 1) := by decide +kernel
theorem dX11_easiest_72 : decode cX11_easiest 72 = .ok (.ifCond .ge 21, 3) := by decide +kernel
theorem dX11_easiest_75 : decode cX11_easiest 75 = .ok (.iload 7, 2) := by decide +kernel
theorem dX11_easiest_77 : decode cX11_easiest 77 = .ok (.istore_n 2, 1) := by decide +kernel
theorem dX11_easiest_78 : decode cX11_easiest 78 = .ok (.aload_n 0, 1) := by decide +kernel
theorem dX11_easiest_79 : decode cX11_easiest 79 = .ok (.iload_n 1, 1) := by decide +kernel
theorem dX11_easiest_80 : decode cX11_easiest 80 = .ok (.invokevirtual 399, 3) := by decide +kernel
theorem dX11_easiest_83 : decode cX11_easiest 83 = .ok (.invokestatic 7, 3) := by decide +kernel
theorem dX11_easiest_86 : decode cX11_easiest 86 = .ok (.lstore_n 3, 1) := by decide +kernel
theorem dX11_easiest_87 : decode cX11_easiest 87 = .ok (.aload_n 0, 1) := by decide +kernel
theorem dX11_easiest_88 : decode cX11_easiest 88 = .ok (.getfield 328, 3) := by decide +kernel
theorem dX11_easiest_91 : decode cX11_easiest 91 = .ok (.lstore 5, 2) := by decide +kernel
theorem dX11_easiest_93 : decode cX11_easiest 93 = .ok (.iinc 7 1, 3) := by decide +kernel
theorem dX11_easiest_96 : decode cX11_easiest 96 = .ok (.goto (-67), 3) := by decide +kernel
theorem dX11_easiest_99 : decode cX11_easiest 99 = .ok (.iload_n 2, 1) := by decide +kernel
theorem dX11_easiest_100 : decode cX11_easiest 100 = .ok (.ireturn, 1) := by decide +kernel
theorem dX11_isTracer_0 : decode cX11_isTracer 0 = .ok (.iload_n 1, 1) := by decide +kernel
theorem dX11_isTracer_1 : decode cX11_isTracer 1 = .ok (.iconst 0, 1) := by decide +kernel
theorem dX11_isTracer_2 : decode cX11_isTracer 2 = .ok (.aload_n 0, 1) := by decide +kernel
theorem dX11_isTracer_3 : decode cX11_isTracer 3 = .ok (.getfield 236, 3) := by decide +kernel
theorem dX11_isTracer_6 : decode cX11_isTracer 6 = .ok (.iconst 1, 1) := by decide +kernel
theorem dX11_isTracer_7 : decode cX11_isTracer 7 = .ok (.isub, 1) := by decide +kernel
theorem dX11_isTracer_8 : decode cX11_isTracer 8 = .ok (.invokestatic 107, 3) := by decide +kernel
theorem dX11_isTracer_11 : decode cX11_isTracer 11 = .ok (.ireturn, 1) := by decide +kernel
theorem dX11_isPoint_0 : decode cX11_isPoint 0 = .ok (.iload_n 1, 1) := by decide +kernel
theorem dX11_isPoint_1 : decode cX11_isPoint 1 = .ok (.iconst 0, 1) := by decide +kernel
theorem dX11_isPoint_2 : decode cX11_isPoint 2 = .ok (.aload_n 0, 1) := by decide +kernel
theorem dX11_isPoint_3 : decode cX11_isPoint 3 = .ok (.getfield 239, 3) := by decide +kernel
theorem dX11_isPoint_6 : decode cX11_isPoint 6 = .ok (.iconst 1, 1) := by decide +kernel
theorem dX11_isPoint_7 : decode cX11_isPoint 7 = .ok (.isub, 1) := by decide +kernel
theorem dX11_isPoint_8 : decode cX11_isPoint 8 = .ok (.invokestatic 107, 3) := by decide +kernel
theorem dX11_isPoint_11 : decode cX11_isPoint 11 = .ok (.ireturn, 1) := by decide +kernel
theorem dX11_isCurve_0 : decode cX11_isCurve 0 = .ok (.aload_n 0, 1) := by decide +kernel
theorem dX11_isCurve_1 : decode cX11_isCurve 1 = .ok (.iload_n 1, 1) := by decide +kernel
theorem dX11_isCurve_2 : decode cX11_isCurve 2 = .ok (.invokevirtual 265, 3) := by decide +kernel
theorem dX11_isCurve_5 : decode cX11_isCurve 5 = .ok (.ifCond .eq 24, 3) := by decide +kernel
theorem dX11_isCurve_8 : decode cX11_isCurve 8 = .ok (.aload_n 0, 1) := by decide +kernel
theorem dX11_isCurve_9 : decode cX11_isCurve 9 = .ok (.iload_n 2, 1) := by decide +kernel
theorem dX11_isCurve_10 : decode cX11_isCurve 10 = .ok (.invokevirtual 402, 3) := by decide +kernel
theorem dX11_isCurve_13 : decode cX11_isCurve 13 = .ok (.ifCond .eq 16, 3) := by decide +kernel
theorem dX11_isCurve_16 : decode cX11_isCurve 16 = .ok (.iload_n 3, 1) := by decide +kernel
theorem dX11_isCurve_17 : decode cX11_isCurve 17 = .ok (.iconst 0, 1) := by decide +kernel
theorem dX11_isCurve_18 : decode cX11_isCurve 18 = .ok (.iconst 1, 1) := by decide +kernel
theorem dX11_isCurve_19 : decode cX11_isCurve 19 = .ok (.invokestatic 107, 3) := by decide +kernel
theorem dX11_isCurve_22 : decode cX11_isCurve 22 = .ok (.ifCond .eq 7, 3) := by decide +kernel
theorem dX11_isCurve_25 : decode cX11_isCurve 25 = .ok (.iconst 1, 1) := by decide +kernel
theorem dX11_isCurve_26 : decode cX11_isCurve 26 = .ok (.goto 4, 3) := by decide +kernel
theorem dX11_isCurve_29 : decode cX11_isCurve 29 = .ok (.iconst 0, 1) := by decide +kernel
theorem dX11_isCurve_30 : decode cX11_isCurve 30 = .ok (.ireturn, 1) := by decide +kernel
theorem dX11_box_0 : decode cX11_box 0 = .ok (.aload_n 0, 1) := by decide +kernel
theorem dX11_box_1 : decode cX11_box 1 = .ok (.invokevirtual 104, 3) := by decide +kernel
theorem dX11_box_4 : decode cX11_box 4 = .ok (.aload_n 0, 1) := by decide +kernel
theorem dX11_box_5 : decode cX11_box 5 = .ok (.iload_n 1, 1) := by decide +kernel
theorem dX11_box_6 : decode cX11_box 6 = .ok (.iload_n 2, 1) := by decide +kernel
theorem dX11_box_7 : decode cX11_box 7 = .ok (.iload_n 3, 1) := by decide +kernel
theorem dX11_box_8 : decode cX11_box 8 = .ok (.invokevirtual 417, 3) := by decide +kernel
theorem dX11_box_11 : decode cX11_box 11 = .ok (.ifCond .eq 13, 3) := by decide +kernel
theorem dX11_box_14 : decode cX11_box 14 = .ok (.iload 4, 2) := by decide +kernel
theorem dX11_box_16 : decode cX11_box 16 = .ok (.iconst 0, 1) := by decide +kernel
theorem dX11_box_17 : decode cX11_box 17 = .ok (.iconst 3, 1) := by decide +kernel
theorem dX11_box_18 : decode cX11_box 18 = .ok (.invokestatic 107, 3) := by decide +kernel
theorem dX11_box_21 : decode cX11_box 21 = .ok (.ifCond .ne 9, 3) := by decide +kernel
theorem dX11_box_24 : decode cX11_box 24 = .ok (.aload_n 0, 1) := by decide +kernel
theorem dX11_box_25 : decode cX11_box 25 = .ok (.iconst 1, 1) := by decide +kernel
theorem dX11_box_26 : decode cX11_box 26 = .ok (.invokevirtual 111, 3) := by decide +kernel
theorem dX11_box_29 : decode cX11_box 29 = .ok (.ireturn, 1) := by decide +kernel
theorem dX11_box_30 : decode cX11_box 30 = .ok (.aload_n 0, 1) := by decide +kernel
theorem dX11_box_31 : decode cX11_box 31 = .ok (.iload_n 1, 1) := by decide +kernel
theorem dX11_box_32 : decode cX11_box 32 = .ok (.iload_n 2, 1) := by decide +kernel
theorem dX11_box_33 : decode cX11_box 33 = .ok (.iload_n 3, 1) := by decide +kernel
theorem dX11_box_34 : decode cX11_box 34 = .ok (.invokevirtual 427, 3) := by decide +kernel
theorem dX11_box_37 : decode cX11_box 37 = .ok (.aload_n 0, 1) := by decide +kernel
theorem dX11_box_38 : decode cX11_box 38 = .ok (.getfield 424, 3) := by decide +kernel
theorem dX11_box_41 : decode cX11_box 41 = .ok (.ifCond .ne 9, 3) := by decide +kernel
theorem dX11_box_44 : decode cX11_box 44 = .ok (.aload_n 0, 1) := by decide +kernel
theorem dX11_box_45 : decode cX11_box 45 = .ok (.iconst 5, 1) := by decide +kernel
theorem dX11_box_46 : decode cX11_box 46 = .ok (.invokevirtual 111, 3) := by decide +kernel
theorem dX11_box_49 : decode cX11_box 49 = .ok (.ireturn, 1) := by decide +kernel
theorem dX11_box_50 : decode cX11_box 50 = .ok (.iconst 0, 1) := by decide +kernel
theorem dX11_box_51 : decode cX11_box 51 = .ok (.istore 5, 2) := by decide +kernel
theorem dX11_box_53 : decode cX11_box 53 = .ok (.iconst 0, 1) := by decide +kernel
theorem dX11_box_54 : decode cX11_box 54 = .ok (.istore 6, 2) := by decide +kernel
theorem dX11_box_56 : decode cX11_box 56 = .ok (.iload 6, 2) := by decide +kernel
theorem dX11_box_58 : decode cX11_box 58 = .ok (.aload_n 0, 1) := by decide +kernel
theorem dX11_box_59 : decode cX11_box 59 = .ok (.getfield 424, 3) := by decide +kernel
theorem dX11_box_62 : decode cX11_box 62 = .ok (.if_icmp .ge 72, 3) := by decide +kernel
theorem dX11_box_65 : decode cX11_box 65 = .ok (.iload 4, 2) := by decide +kernel
theorem dX11_box_67 : decode cX11_box 67 = .ok (.iconst 2, 1) := by decide +kernel
theorem dX11_box_68 : decode cX11_box 68 = .ok (.if_icmp .ge 13, 3) := by decide +kernel
theorem dX11_box_71 : decode cX11_box 71 = .ok (.aload_n 0, 1) := by decide +kernel
theorem dX11_box_72 : decode cX11_box 72 = .ok (.getfield 66, 3) := by decide +kernel
theorem dX11_box_75 : decode cX11_box 75 = .ok (.iload 6, 2) := by decide +kernel
theorem dX11_box_77 : decode cX11_box 77 = .ok (.iaload, 1) := by decide +kernel
theorem dX11_box_78 : decode cX11_box 78 = .ok (.goto 10, 3) := by decide +kernel
theorem dX11_box_81 : decode cX11_box 81 = .ok (.aload_n 0, 1) := by decide +kernel
theorem dX11_box_82 : decode cX11_box 82 = .ok (.getfield 69, 3) := by decide +kernel
theorem dX11_box_85 : decode cX11_box 85 = .ok (.iload 6, 2) := by decide +kernel
theorem dX11_box_87 : decode cX11_box 87 = .ok (.iaload, 1) := by decide +kernel
theorem dX11_box_88 : decode cX11_box 88 = .ok (.istore 7, 2) := by decide +kernel
theorem dX11_box_90 : decode cX11_box 90 = .ok (.iload 6, 2) := by decide +kernel
theorem dX11_box_92 : decode cX11_box 92 = .ok (.ifCond .eq 27, 3) := by decide +kernel
theorem dX11_box_95 : decode cX11_box 95 = .ok (.iload 4, 2) := by decide +kernel
theorem dX11_box_97 : decode cX11_box 97 = .ok (.iconst 2, 1) := by decide +kernel
theorem dX11_box_98 : decode cX11_box 98 = .ok (.irem, 1) := by decide +kernel
theorem dX11_box_99 : decode cX11_box 99 = .ok (.ifCond .ne 13, 3) := by decide +kernel
theorem dX11_box_102 : decode cX11_box 102 = .ok (.iload 7, 2) := by decide +kernel
theorem dX11_box_104 : decode cX11_box 104 = .ok (.iload 5, 2) := by decide +kernel
theorem dX11_box_106 : decode cX11_box 106 = .ok (.if_icmp .ge 18, 3) := by decide +kernel
theorem dX11_box_109 : decode cX11_box 109 = .ok (.goto 10, 3) := by decide +kernel
theorem dX11_box_112 : decode cX11_box 112 = .ok (.iload 7, 2) := by decide +kernel
theorem dX11_box_114 : decode cX11_box 114 = .ok (.iload 5, 2) := by decide +kernel
theorem dX11_box_116 : decode cX11_box 116 = .ok (.if_icmp .le 8, 3) := by decide +kernel
theorem dX11_box_119 : decode cX11_box 119 = .ok (.iload 7, 2) := by decide +kernel
theorem dX11_box_121 : decode cX11_box 121 = .ok (.goto 5, 3) := by decide +kernel
theorem dX11_box_124 : decode cX11_box 124 = .ok (.iload 5, 2) := by decide +kernel
theorem dX11_box_126 : decode cX11_box 126 = .ok (.istore 5, 2) := by decide +kernel
theorem dX11_box_128 : decode cX11_box 128 = .ok (.iinc 6 1, 3) := by decide +kernel
theorem dX11_box_131 : decode cX11_box 131 = .ok (.goto (-75), 3) := by decide +kernel
theorem dX11_box_134 : decode cX11_box 134 = .ok (.iload 5, 2) := by decide +kernel
theorem dX11_box_136 : decode cX11_box 136 = .ok (.ireturn, 1) := by decide +kernel
theorem dX11_after_0 : decode cX11_after 0 = .ok (.iload_n 1, 1) := by decide +kernel
theorem dX11_after_1 : decode cX11_after 1 = .ok (.iconst 1, 1) := by decide +kernel
theorem dX11_after_2 : decode cX11_after 2 = .ok (.iadd, 1) := by decide +kernel
theorem dX11_after_3 : decode cX11_after 3 = .ok (.aload_n 0, 1) := by decide +kernel
theorem dX11_after_4 : decode cX11_after 4 = .ok (.getfield 424, 3) := by decide +kernel
theorem dX11_after_7 : decode cX11_after 7 = .ok (.irem, 1) := by decide +kernel
theorem dX11_after_8 : decode cX11_after 8 = .ok (.ireturn, 1) := by decide +kernel
theorem dX11_area_0 : decode cX11_area 0 = .ok (.aload_n 0, 1) := by decide +kernel
theorem dX11_area_1 : decode cX11_area 1 = .ok (.invokevirtual 104, 3) := by decide +kernel
theorem dX11_area_4 : decode cX11_area 4 = .ok (.aload_n 0, 1) := by decide +kernel
theorem dX11_area_5 : decode cX11_area 5 = .ok (.iload_n 1, 1) := by decide +kernel
theorem dX11_area_6 : decode cX11_area 6 = .ok (.iload_n 2, 1) := by decide +kernel
theorem dX11_area_7 : decode cX11_area 7 = .ok (.iload_n 3, 1) := by decide +kernel
theorem dX11_area_8 : decode cX11_area 8 = .ok (.invokevirtual 417, 3) := by decide +kernel
theorem dX11_area_11 : decode cX11_area 11 = .ok (.ifCond .ne 9, 3) := by decide +kernel
theorem dX11_area_14 : decode cX11_area 14 = .ok (.aload_n 0, 1) := by decide +kernel
theorem dX11_area_15 : decode cX11_area 15 = .ok (.iconst 1, 1) := by decide +kernel
theorem dX11_area_16 : decode cX11_area 16 = .ok (.invokevirtual 304, 3) := by decide +kernel
theorem dX11_area_19 : decode cX11_area 19 = .ok (.lreturn, 1) := by decide +kernel
theorem dX11_area_20 : decode cX11_area 20 = .ok (.aload_n 0, 1) := by decide +kernel
theorem dX11_area_21 : decode cX11_area 21 = .ok (.iload_n 1, 1) := by decide +kernel
theorem dX11_area_22 : decode cX11_area 22 = .ok (.iload_n 2, 1) := by decide +kernel
theorem dX11_area_23 : decode cX11_area 23 = .ok (.iload_n 3, 1) := by decide +kernel
theorem dX11_area_24 : decode cX11_area 24 = .ok (.invokevirtual 427, 3) := by decide +kernel
theorem dX11_area_27 : decode cX11_area 27 = .ok (.lconst 0, 1) := by decide +kernel
theorem dX11_area_28 : decode cX11_area 28 = .ok (.lstore 4, 2) := by decide +kernel
theorem dX11_area_30 : decode cX11_area 30 = .ok (.iconst 0, 1) := by decide +kernel
theorem dX11_area_31 : decode cX11_area 31 = .ok (.istore 6, 2) := by decide +kernel
theorem dX11_area_33 : decode cX11_area 33 = .ok (.iload 6, 2) := by decide +kernel
theorem dX11_area_35 : decode cX11_area 35 = .ok (.aload_n 0, 1) := by decide +kernel
theorem dX11_area_36 : decode cX11_area 36 = .ok (.getfield 424, 3) := by decide +kernel
theorem dX11_area_39 : decode cX11_area 39 = .ok (.if_icmp .ge 54, 3) := by decide +kernel
theorem dX11_area_42 : decode cX11_area 42 = .ok (.lload 4, 2) := by decide +kernel
theorem dX11_area_44 : decode cX11_area 44 = .ok (.aload_n 0, 1) := by decide +kernel
theorem dX11_area_45 : decode cX11_area 45 = .ok (.getfield 66, 3) := by decide +kernel
theorem dX11_area_48 : decode cX11_area 48 = .ok (.iload 6, 2) := by decide +kernel
theorem dX11_area_50 : decode cX11_area 50 = .ok (.iaload, 1) := by decide +kernel
theorem dX11_area_51 : decode cX11_area 51 = .ok (.aload_n 0, 1) := by decide +kernel
theorem dX11_area_52 : decode cX11_area 52 = .ok (.getfield 69, 3) := by decide +kernel
theorem dX11_area_55 : decode cX11_area 55 = .ok (.aload_n 0, 1) := by decide +kernel
theorem dX11_area_56 : decode cX11_area 56 = .ok (.iload 6, 2) := by decide +kernel
theorem dX11_area_58 : decode cX11_area 58 = .ok (.invokevirtual 431, 3) := by decide +kernel
theorem dX11_area_61 : decode cX11_area 61 = .ok (.iaload, 1) := by decide +kernel
theorem dX11_area_62 : decode cX11_area 62 = .ok (.imul, 1) := by decide +kernel
theorem dX11_area_63 : decode cX11_area 63 = .ok (.aload_n 0, 1) := by decide +kernel
theorem dX11_area_64 : decode cX11_area 64 = .ok (.getfield 66, 3) := by decide +kernel
theorem dX11_area_67 : decode cX11_area 67 = .ok (.aload_n 0, 1) := by decide +kernel
theorem dX11_area_68 : decode cX11_area 68 = .ok (.iload 6, 2) := by decide +kernel
theorem dX11_area_70 : decode cX11_area 70 = .ok (.invokevirtual 431, 3) := by decide +kernel
theorem dX11_area_73 : decode cX11_area 73 = .ok (.iaload, 1) := by decide +kernel
theorem dX11_area_74 : decode cX11_area 74 = .ok (.aload_n 0, 1) := by decide +kernel
theorem dX11_area_75 : decode cX11_area 75 = .ok (.getfield 69, 3) := by decide +kernel
theorem dX11_area_78 : decode cX11_area 78 = .ok (.iload 6, 2) := by decide +kernel
theorem dX11_area_80 : decode cX11_area 80 = .ok (.iaload, 1) := by decide +kernel
theorem dX11_area_81 : decode cX11_area 81 = .ok (.imul, 1) := by decide +kernel
theorem dX11_area_82 : decode cX11_area 82 = .ok (.isub, 1) := by decide +kernel
theorem dX11_area_83 : decode cX11_area 83 = .ok (.i2l, 1) := by decide +kernel
theorem dX11_area_84 : decode cX11_area 84 = .ok (.ladd, 1) := by decide +kernel
theorem dX11_area_85 : decode cX11_area 85 = .ok (.lstore 4, 2) := by decide +kernel
theorem dX11_area_87 : decode cX11_area 87 = .ok (.iinc 6 1, 3) := by decide +kernel
theorem dX11_area_90 : decode cX11_area 90 = .ok (.goto (-57), 3) := by decide +kernel
theorem dX11_area_93 : decode cX11_area 93 = .ok (.lload 4, 2) := by decide +kernel
theorem dX11_area_95 : decode cX11_area 95 = .ok (.lreturn, 1) := by decide +kernel
theorem dX11_isCrossing_0 : decode cX11_isCrossing 0 = .ok (.iload_n 1, 1) := by decide +kernel
theorem dX11_isCrossing_1 : decode cX11_isCrossing 1 = .ok (.iload_n 2, 1) := by decide +kernel
theorem dX11_isCrossing_2 : decode cX11_isCrossing 2 = .ok (.if_icmp .eq 38, 3) := by decide +kernel
theorem dX11_isCrossing_5 : decode cX11_isCrossing 5 = .ok (.iload_n 1, 1) := by decide +kernel
theorem dX11_isCrossing_6 : decode cX11_isCrossing 6 = .ok (.aload_n 0, 1) := by decide +kernel
theorem dX11_isCrossing_7 : decode cX11_isCrossing 7 = .ok (.iload_n 2, 1) := by decide +kernel
theorem dX11_isCrossing_8 : decode cX11_isCrossing 8 = .ok (.invokevirtual 431, 3) := by decide +kernel
theorem dX11_isCrossing_11 : decode cX11_isCrossing 11 = .ok (.if_icmp .eq 29, 3) := by decide +kernel
theorem dX11_isCrossing_14 : decode cX11_isCrossing 14 = .ok (.aload_n 0, 1) := by decide +kernel
theorem dX11_isCrossing_15 : decode cX11_isCrossing 15 = .ok (.iload_n 1, 1) := by decide +kernel
theorem dX11_isCrossing_16 : decode cX11_isCrossing 16 = .ok (.invokevirtual 431, 3) := by decide +kernel
theorem dX11_isCrossing_19 : decode cX11_isCrossing 19 = .ok (.iload_n 2, 1) := by decide +kernel
theorem dX11_isCrossing_20 : decode cX11_isCrossing 20 = .ok (.if_icmp .eq 20, 3) := by decide +kernel
theorem dX11_isCrossing_23 : decode cX11_isCrossing 23 = .ok (.aload_n 0, 1) := by decide +kernel
theorem dX11_isCrossing_24 : decode cX11_isCrossing 24 = .ok (.iload_n 1, 1) := by decide +kernel
theorem dX11_isCrossing_25 : decode cX11_isCrossing 25 = .ok (.invokevirtual 431, 3) := by decide +kernel
theorem dX11_isCrossing_28 : decode cX11_isCrossing 28 = .ok (.aload_n 0, 1) := by decide +kernel
theorem dX11_isCrossing_29 : decode cX11_isCrossing 29 = .ok (.iload_n 2, 1) := by decide +kernel
theorem dX11_isCrossing_30 : decode cX11_isCrossing 30 = .ok (.invokevirtual 431, 3) := by decide +kernel
theorem dX11_isCrossing_33 : decode cX11_isCrossing 33 = .ok (.if_icmp .eq 7, 3) := by decide +kernel
theorem dX11_isCrossing_36 : decode cX11_isCrossing 36 = .ok (.iconst 1, 1) := by decide +kernel
theorem dX11_isCrossing_37 : decode cX11_isCrossing 37 = .ok (.goto 4, 3) := by decide +kernel
theorem dX11_isCrossing_40 : decode cX11_isCrossing 40 = .ok (.iconst 0, 1) := by decide +kernel
theorem dX11_isCrossing_41 : decode cX11_isCrossing 41 = .ok (.istore_n 3, 1) := by decide +kernel
theorem dX11_isCrossing_42 : decode cX11_isCrossing 42 = .ok (.iload_n 3, 1) := by decide +kernel
theorem dX11_isCrossing_43 : decode cX11_isCrossing 43 = .ok (.ifCond .eq 47, 3) := by decide +kernel
theorem dX11_isCrossing_46 : decode cX11_isCrossing 46 = .ok (.aload_n 0, 1) := by decide +kernel
theorem dX11_isCrossing_47 : decode cX11_isCrossing 47 = .ok (.iload_n 1, 1) := by decide +kernel
theorem dX11_isCrossing_48 : decode cX11_isCrossing 48 = .ok (.iload_n 2, 1) := by decide +kernel
theorem dX11_isCrossing_49 : decode cX11_isCrossing 49 = .ok (.invokevirtual 434, 3) := by decide +kernel
theorem dX11_isCrossing_52 : decode cX11_isCrossing 52 = .ok (.aload_n 0, 1) := by decide +kernel
theorem dX11_isCrossing_53 : decode cX11_isCrossing 53 = .ok (.iload_n 1, 1) := by decide +kernel
theorem dX11_isCrossing_54 : decode cX11_isCrossing 54 = .ok (.aload_n 0, 1) := by decide +kernel
theorem dX11_isCrossing_55 : decode cX11_isCrossing 55 = .ok (.iload_n 2, 1) := by decide +kernel
theorem dX11_isCrossing_56 : decode cX11_isCrossing 56 = .ok (.invokevirtual 431, 3) := by decide +kernel
theorem dX11_isCrossing_59 : decode cX11_isCrossing 59 = .ok (.invokevirtual 434, 3) := by decide +kernel
theorem dX11_isCrossing_62 : decode cX11_isCrossing 62 = .ok (.imul, 1) := by decide +kernel
theorem dX11_isCrossing_63 : decode cX11_isCrossing 63 = .ok (.ifCond .ge 27, 3) := by decide +kernel
theorem dX11_isCrossing_66 : decode cX11_isCrossing 66 = .ok (.aload_n 0, 1) := by decide +kernel
theorem dX11_isCrossing_67 : decode cX11_isCrossing 67 = .ok (.iload_n 2, 1) := by decide +kernel
theorem dX11_isCrossing_68 : decode cX11_isCrossing 68 = .ok (.iload_n 1, 1) := by decide +kernel
theorem dX11_isCrossing_69 : decode cX11_isCrossing 69 = .ok (.invokevirtual 434, 3) := by decide +kernel
theorem dX11_isCrossing_72 : decode cX11_isCrossing 72 = .ok (.aload_n 0, 1) := by decide +kernel
theorem dX11_isCrossing_73 : decode cX11_isCrossing 73 = .ok (.iload_n 2, 1) := by decide +kernel
theorem dX11_isCrossing_74 : decode cX11_isCrossing 74 = .ok (.aload_n 0, 1) := by decide +kernel
theorem dX11_isCrossing_75 : decode cX11_isCrossing 75 = .ok (.iload_n 1, 1) := by decide +kernel
theorem dX11_isCrossing_76 : decode cX11_isCrossing 76 = .ok (.invokevirtual 431, 3) := by decide +kernel
theorem dX11_isCrossing_79 : decode cX11_isCrossing 79 = .ok (.invokevirtual 434, 3) := by decide +kernel
theorem dX11_isCrossing_82 : decode cX11_isCrossing 82 = .ok (.imul, 1) := by decide +kernel
theorem dX11_isCrossing_83 : decode cX11_isCrossing 83 = .ok (.ifCond .ge 7, 3) := by decide +kernel
theorem dX11_isCrossing_86 : decode cX11_isCrossing 86 = .ok (.iconst 1, 1) := by decide +kernel
theorem dX11_isCrossing_87 : decode cX11_isCrossing 87 = .ok (.goto 4, 3) := by decide +kernel
theorem dX11_isCrossing_90 : decode cX11_isCrossing 90 = .ok (.iconst 0, 1) := by decide +kernel
theorem dX11_isCrossing_91 : decode cX11_isCrossing 91 = .ok (.ireturn, 1) := by decide +kernel
theorem dX11_crossings_0 : decode cX11_crossings 0 = .ok (.aload_n 0, 1) := by decide +kernel
theorem dX11_crossings_1 : decode cX11_crossings 1 = .ok (.invokevirtual 104, 3) := by decide +kernel
theorem dX11_crossings_4 : decode cX11_crossings 4 = .ok (.aload_n 0, 1) := by decide +kernel
theorem dX11_crossings_5 : decode cX11_crossings 5 = .ok (.iload_n 1, 1) := by decide +kernel
theorem dX11_crossings_6 : decode cX11_crossings 6 = .ok (.iload_n 2, 1) := by decide +kernel
theorem dX11_crossings_7 : decode cX11_crossings 7 = .ok (.iload_n 3, 1) := by decide +kernel
theorem dX11_crossings_8 : decode cX11_crossings 8 = .ok (.invokevirtual 417, 3) := by decide +kernel
theorem dX11_crossings_11 : decode cX11_crossings 11 = .ok (.ifCond .ne 9, 3) := by decide +kernel
theorem dX11_crossings_14 : decode cX11_crossings 14 = .ok (.aload_n 0, 1) := by decide +kernel
theorem dX11_crossings_15 : decode cX11_crossings 15 = .ok (.iconst 1, 1) := by decide +kernel
theorem dX11_crossings_16 : decode cX11_crossings 16 = .ok (.invokevirtual 115, 3) := by decide +kernel
theorem dX11_crossings_19 : decode cX11_crossings 19 = .ok (.ireturn, 1) := by decide +kernel
theorem dX11_crossings_20 : decode cX11_crossings 20 = .ok (.aload_n 0, 1) := by decide +kernel
theorem dX11_crossings_21 : decode cX11_crossings 21 = .ok (.iload_n 1, 1) := by decide +kernel
theorem dX11_crossings_22 : decode cX11_crossings 22 = .ok (.iload_n 2, 1) := by decide +kernel
theorem dX11_crossings_23 : decode cX11_crossings 23 = .ok (.iload_n 3, 1) := by decide +kernel
theorem dX11_crossings_24 : decode cX11_crossings 24 = .ok (.invokevirtual 427, 3) := by decide +kernel
theorem dX11_crossings_27 : decode cX11_crossings 27 = .ok (.iconst 0, 1) := by decide +kernel
theorem dX11_crossings_28 : decode cX11_crossings 28 = .ok (.istore 4, 2) := by decide +kernel
theorem dX11_crossings_30 : decode cX11_crossings 30 = .ok (.iconst 0, 1) := by decide +kernel
theorem dX11_crossings_31 : decode cX11_crossings 31 = .ok (.istore 5, 2) := by decide +kernel
theorem dX11_crossings_33 : decode cX11_crossings 33 = .ok (.iload 5, 2) := by decide +kernel
theorem dX11_crossings_35 : decode cX11_crossings 35 = .ok (.aload_n 0, 1) := by decide +kernel
theorem dX11_crossings_36 : decode cX11_crossings 36 = .ok (.getfield 424, 3) := by decide +kernel
theorem dX11_crossings_39 : decode cX11_crossings 39 = .ok (.if_icmp .ge 46, 3) := by decide +kernel
theorem dX11_crossings_42 : decode cX11_crossings 42 = .ok (.iconst 0, 1) := by decide +kernel
theorem dX11_crossings_43 : decode cX11_crossings 43 = .ok (.istore 6, 2) := by decide +kernel
theorem dX11_crossings_45 : decode cX11_crossings 45 = .ok (.iload 6, 2) := by decide +kernel
theorem dX11_crossings_47 : decode cX11_crossings 47 = .ok (.iload 5, 2) := by decide +kernel
theorem dX11_crossings_49 : decode cX11_crossings 49 = .ok (.if_icmp .ge 30, 3) := by decide +kernel
theorem dX11_crossings_52 : decode cX11_crossings 52 = .ok (.iload 4, 2) := by decide +kernel
theorem dX11_crossings_54 : decode cX11_crossings 54 = .ok (.aload_n 0, 1) := by decide +kernel
theorem dX11_crossings_55 : decode cX11_crossings 55 = .ok (.iload 5, 2) := by decide +kernel
theorem dX11_crossings_57 : decode cX11_crossings 57 = .ok (.iload 6, 2) := by decide +kernel
theorem dX11_crossings_59 : decode cX11_crossings 59 = .ok (.invokevirtual 437, 3) := by decide +kernel
theorem dX11_crossings_62 : decode cX11_crossings 62 = .ok (.ifCond .eq 7, 3) := by decide +kernel
theorem dX11_crossings_65 : decode cX11_crossings 65 = .ok (.iconst 1, 1) := by decide +kernel
theorem dX11_crossings_66 : decode cX11_crossings 66 = .ok (.goto 4, 3) := by decide +kernel
theorem dX11_crossings_69 : decode cX11_crossings 69 = .ok (.iconst 0, 1) := by decide +kernel
theorem dX11_crossings_70 : decode cX11_crossings 70 = .ok (.iadd, 1) := by decide +kernel
theorem dX11_crossings_71 : decode cX11_crossings 71 = .ok (.istore 4, 2) := by decide +kernel
theorem dX11_crossings_73 : decode cX11_crossings 73 = .ok (.iinc 6 1, 3) := by decide +kernel
theorem dX11_crossings_76 : decode cX11_crossings 76 = .ok (.goto (-31), 3) := by decide +kernel
theorem dX11_crossings_79 : decode cX11_crossings 79 = .ok (.iinc 5 1, 3) := by decide +kernel
theorem dX11_crossings_82 : decode cX11_crossings 82 = .ok (.goto (-49), 3) := by decide +kernel
theorem dX11_crossings_85 : decode cX11_crossings 85 = .ok (.iload 4, 2) := by decide +kernel
theorem dX11_crossings_87 : decode cX11_crossings 87 = .ok (.ireturn, 1) := by decide +kernel
theorem dX11_isSamePlace_0 : decode cX11_isSamePlace 0 = .ok (.aload_n 0, 1) := by decide +kernel
theorem dX11_isSamePlace_1 : decode cX11_isSamePlace 1 = .ok (.getfield 66, 3) := by decide +kernel
theorem dX11_isSamePlace_4 : decode cX11_isSamePlace 4 = .ok (.iload_n 1, 1) := by decide +kernel
theorem dX11_isSamePlace_5 : decode cX11_isSamePlace 5 = .ok (.iaload, 1) := by decide +kernel
theorem dX11_isSamePlace_6 : decode cX11_isSamePlace 6 = .ok (.aload_n 0, 1) := by decide +kernel
theorem dX11_isSamePlace_7 : decode cX11_isSamePlace 7 = .ok (.getfield 66, 3) := by decide +kernel
theorem dX11_isSamePlace_10 : decode cX11_isSamePlace 10 = .ok (.iload_n 2, 1) := by decide +kernel
theorem dX11_isSamePlace_11 : decode cX11_isSamePlace 11 = .ok (.iaload, 1) := by decide +kernel
theorem dX11_isSamePlace_12 : decode cX11_isSamePlace 12 = .ok (.if_icmp .ne 22, 3) := by decide +kernel
theorem dX11_isSamePlace_15 : decode cX11_isSamePlace 15 = .ok (.aload_n 0, 1) := by decide +kernel
theorem dX11_isSamePlace_16 : decode cX11_isSamePlace 16 = .ok (.getfield 69, 3) := by decide +kernel
theorem dX11_isSamePlace_19 : decode cX11_isSamePlace 19 = .ok (.iload_n 1, 1) := by decide +kernel
theorem dX11_isSamePlace_20 : decode cX11_isSamePlace 20 = .ok (.iaload, 1) := by decide +kernel
theorem dX11_isSamePlace_21 : decode cX11_isSamePlace 21 = .ok (.aload_n 0, 1) := by decide +kernel
theorem dX11_isSamePlace_22 : decode cX11_isSamePlace 22 = .ok (.getfield 69, 3) := by decide +kernel
theorem dX11_isSamePlace_25 : decode cX11_isSamePlace 25 = .ok (.iload_n 2, 1) := by decide +kernel
theorem dX11_isSamePlace_26 : decode cX11_isSamePlace 26 = .ok (.iaload, 1) := by decide +kernel
theorem dX11_isSamePlace_27 : decode cX11_isSamePlace 27 = .ok (.if_icmp .ne 7, 3) := by decide +kernel
theorem dX11_isSamePlace_30 : decode cX11_isSamePlace 30 = .ok (.iconst 1, 1) := by decide +kernel
theorem dX11_isSamePlace_31 : decode cX11_isSamePlace 31 = .ok (.goto 4, 3) := by decide +kernel
theorem dX11_isSamePlace_34 : decode cX11_isSamePlace 34 = .ok (.iconst 0, 1) := by decide +kernel
theorem dX11_isSamePlace_35 : decode cX11_isSamePlace 35 = .ok (.ireturn, 1) := by decide +kernel
theorem dX11_crossOf_0 : decode cX11_crossOf 0 = .ok (.lload_n 0, 1) := by decide +kernel
theorem dX11_crossOf_1 : decode cX11_crossOf 1 = .ok (.lload 6, 2) := by decide +kernel
theorem dX11_crossOf_3 : decode cX11_crossOf 3 = .ok (.lmul, 1) := by decide +kernel
theorem dX11_crossOf_4 : decode cX11_crossOf 4 = .ok (.lload_n 2, 1) := by decide +kernel
theorem dX11_crossOf_5 : decode cX11_crossOf 5 = .ok (.lload 4, 2) := by decide +kernel
theorem dX11_crossOf_7 : decode cX11_crossOf 7 = .ok (.lmul, 1) := by decide +kernel
theorem dX11_crossOf_8 : decode cX11_crossOf 8 = .ok (.lsub, 1) := by decide +kernel
theorem dX11_crossOf_9 : decode cX11_crossOf 9 = .ok (.lreturn, 1) := by decide +kernel
theorem dX11_apartOf_0 : decode cX11_apartOf 0 = .ok (.aload_n 0, 1) := by decide +kernel
theorem dX11_apartOf_1 : decode cX11_apartOf 1 = .ok (.getfield 66, 3) := by decide +kernel
theorem dX11_apartOf_4 : decode cX11_apartOf 4 = .ok (.iload_n 1, 1) := by decide +kernel
theorem dX11_apartOf_5 : decode cX11_apartOf 5 = .ok (.iaload, 1) := by decide +kernel
theorem dX11_apartOf_6 : decode cX11_apartOf 6 = .ok (.aload_n 0, 1) := by decide +kernel
theorem dX11_apartOf_7 : decode cX11_apartOf 7 = .ok (.getfield 66, 3) := by decide +kernel
theorem dX11_apartOf_10 : decode cX11_apartOf 10 = .ok (.iload_n 2, 1) := by decide +kernel
theorem dX11_apartOf_11 : decode cX11_apartOf 11 = .ok (.iaload, 1) := by decide +kernel
theorem dX11_apartOf_12 : decode cX11_apartOf 12 = .ok (.isub, 1) := by decide +kernel
theorem dX11_apartOf_13 : decode cX11_apartOf 13 = .ok (.i2l, 1) := by decide +kernel
theorem dX11_apartOf_14 : decode cX11_apartOf 14 = .ok (.lstore_n 3, 1) := by decide +kernel
theorem dX11_apartOf_15 : decode cX11_apartOf 15 = .ok (.aload_n 0, 1) := by decide +kernel
theorem dX11_apartOf_16 : decode cX11_apartOf 16 = .ok (.getfield 69, 3) := by decide +kernel
theorem dX11_apartOf_19 : decode cX11_apartOf 19 = .ok (.iload_n 1, 1) := by decide +kernel
theorem dX11_apartOf_20 : decode cX11_apartOf 20 = .ok (.iaload, 1) := by decide +kernel
theorem dX11_apartOf_21 : decode cX11_apartOf 21 = .ok (.aload_n 0, 1) := by decide +kernel
theorem dX11_apartOf_22 : decode cX11_apartOf 22 = .ok (.getfield 69, 3) := by decide +kernel
theorem dX11_apartOf_25 : decode cX11_apartOf 25 = .ok (.iload_n 2, 1) := by decide +kernel
theorem dX11_apartOf_26 : decode cX11_apartOf 26 = .ok (.iaload, 1) := by decide +kernel
theorem dX11_apartOf_27 : decode cX11_apartOf 27 = .ok (.isub, 1) := by decide +kernel
theorem dX11_apartOf_28 : decode cX11_apartOf 28 = .ok (.i2l, 1) := by decide +kernel
theorem dX11_apartOf_29 : decode cX11_apartOf 29 = .ok (.lstore 5, 2) := by decide +kernel
theorem dX11_apartOf_31 : decode cX11_apartOf 31 = .ok (.lload_n 3, 1) := by decide +kernel
theorem dX11_apartOf_32 : decode cX11_apartOf 32 = .ok (.lload_n 3, 1) := by decide +kernel
theorem dX11_apartOf_33 : decode cX11_apartOf 33 = .ok (.lmul, 1) := by decide +kernel
theorem dX11_apartOf_34 : decode cX11_apartOf 34 = .ok (.lload 5, 2) := by decide +kernel
theorem dX11_apartOf_36 : decode cX11_apartOf 36 = .ok (.lload 5, 2) := by decide +kernel
theorem dX11_apartOf_38 : decode cX11_apartOf 38 = .ok (.lmul, 1) := by decide +kernel
theorem dX11_apartOf_39 : decode cX11_apartOf 39 = .ok (.ladd, 1) := by decide +kernel
theorem dX11_apartOf_40 : decode cX11_apartOf 40 = .ok (.lreturn, 1) := by decide +kernel
theorem dX11_cornerBehind_0 : decode cX11_cornerBehind 0 = .ok (.iload_n 1, 1) := by decide +kernel
theorem dX11_cornerBehind_1 : decode cX11_cornerBehind 1 = .ok (.istore_n 2, 1) := by decide +kernel
theorem dX11_cornerBehind_2 : decode cX11_cornerBehind 2 = .ok (.iconst 0, 1) := by decide +kernel
theorem dX11_cornerBehind_3 : decode cX11_cornerBehind 3 = .ok (.istore_n 3, 1) := by decide +kernel
theorem dX11_cornerBehind_4 : decode cX11_cornerBehind 4 = .ok (.iload_n 3, 1) := by decide +kernel
theorem dX11_cornerBehind_5 : decode cX11_cornerBehind 5 = .ok (.aload_n 0, 1) := by decide +kernel
theorem dX11_cornerBehind_6 : decode cX11_cornerBehind 6 = .ok (.getfield 424, 3) := by decide +kernel
theorem dX11_cornerBehind_9 : decode cX11_cornerBehind 9 = .ok (.if_icmp .ge 73, 3) := by decide +kernel
theorem dX11_cornerBehind_12 : decode cX11_cornerBehind 12 = .ok (.aload_n 0, 1) := by decide +kernel
theorem dX11_cornerBehind_13 : decode cX11_cornerBehind 13 = .ok (.iload_n 3, 1) := by decide +kernel
theorem dX11_cornerBehind_14 : decode cX11_cornerBehind 14 = .ok (.iload_n 1, 1) := by decide +kernel
theorem dX11_cornerBehind_15 : decode cX11_cornerBehind 15 = .ok (.invokevirtual 444, 3) := by decide +kernel
theorem dX11_cornerBehind_18 : decode cX11_cornerBehind 18 = .ok (.ifCond .eq 6, 3) := by decide +kernel
theorem dX11_cornerBehind_21 : decode cX11_cornerBehind 21 = .ok (.goto 55, 3) := by decide +kernel
theorem dX11_cornerBehind_24 : decode cX11_cornerBehind 24 = .ok (.iload_n 2, 1) := by decide +kernel
theorem dX11_cornerBehind_25 : decode cX11_cornerBehind 25 = .ok (.iload_n 1, 1) := by decide +kernel
theorem dX11_cornerBehind_26 : decode cX11_cornerBehind 26 = .ok (.if_icmp .ne 9, 3) := by decide +kernel
theorem dX11_cornerBehind_29 : decode cX11_cornerBehind 29 = .ok (.ldc2_w 447, 3) := by decide +kernel
theorem dX11_cornerBehind_32 : decode cX11_cornerBehind 32 = .ok (.goto 10, 3) := by decide +kernel
theorem dX11_cornerBehind_35 : decode cX11_cornerBehind 35 = .ok (.aload_n 0, 1) := by decide +kernel
theorem dX11_cornerBehind_36 : decode cX11_cornerBehind 36 = .ok (.iload_n 1, 1) := by decide +kernel
theorem dX11_cornerBehind_37 : decode cX11_cornerBehind 37 = .ok (.iload_n 2, 1) := by decide +kernel
theorem dX11_cornerBehind_38 : decode cX11_cornerBehind 38 = .ok (.iload_n 3, 1) := by decide +kernel
theorem dX11_cornerBehind_39 : decode cX11_cornerBehind 39 = .ok (.invokevirtual 449, 3) := by decide +kernel
theorem dX11_cornerBehind_42 : decode cX11_cornerBehind 42 = .ok (.lstore 4, 2) := by decide +kernel
theorem dX11_cornerBehind_44 : decode cX11_cornerBehind 44 = .ok (.lload 4, 2) := by decide +kernel
theorem dX11_cornerBehind_46 : decode cX11_cornerBehind 46 = .ok (.lconst 0, 1) := by decide +kernel
theorem dX11_cornerBehind_47 : decode cX11_cornerBehind 47 = .ok (.lcmp, 1) := by decide +kernel
theorem dX11_cornerBehind_48 : decode cX11_cornerBehind 48 = .ok (.ifCond .lt 26, 3) := by decide +kernel
theorem dX11_cornerBehind_51 : decode cX11_cornerBehind 51 = .ok (.lload 4, 2) := by decide +kernel
theorem dX11_cornerBehind_53 : decode cX11_cornerBehind 53 = .ok (.lconst 0, 1) := by decide +kernel
theorem dX11_cornerBehind_54 : decode cX11_cornerBehind 54 = .ok (.lcmp, 1) := by decide +kernel
theorem dX11_cornerBehind_55 : decode cX11_cornerBehind 55 = .ok (.ifCond .ne 21, 3) := by decide +kernel
theorem dX11_cornerBehind_58 : decode cX11_cornerBehind 58 = .ok (.aload_n 0, 1) := by decide +kernel
theorem dX11_cornerBehind_59 : decode cX11_cornerBehind 59 = .ok (.iload_n 3, 1) := by decide +kernel
theorem dX11_cornerBehind_60 : decode cX11_cornerBehind 60 = .ok (.iload_n 1, 1) := by decide +kernel
theorem dX11_cornerBehind_61 : decode cX11_cornerBehind 61 = .ok (.invokevirtual 452, 3) := by decide +kernel
theorem dX11_cornerBehind_64 : decode cX11_cornerBehind 64 = .ok (.aload_n 0, 1) := by decide +kernel
theorem dX11_cornerBehind_65 : decode cX11_cornerBehind 65 = .ok (.iload_n 2, 1) := by decide +kernel
theorem dX11_cornerBehind_66 : decode cX11_cornerBehind 66 = .ok (.iload_n 1, 1) := by decide +kernel
theorem dX11_cornerBehind_67 : decode cX11_cornerBehind 67 = .ok (.invokevirtual 452, 3) := by decide +kernel
theorem dX11_cornerBehind_70 : decode cX11_cornerBehind 70 = .ok (.lcmp, 1) := by decide +kernel
theorem dX11_cornerBehind_71 : decode cX11_cornerBehind 71 = .ok (.ifCond .le 5, 3) := by decide +kernel
theorem dX11_cornerBehind_74 : decode cX11_cornerBehind 74 = .ok (.iload_n 3, 1) := by decide +kernel
theorem dX11_cornerBehind_75 : decode cX11_cornerBehind 75 = .ok (.istore_n 2, 1) := by decide +kernel
theorem dX11_cornerBehind_76 : decode cX11_cornerBehind 76 = .ok (.iinc 3 1, 3) := by decide +kernel
theorem dX11_cornerBehind_79 : decode cX11_cornerBehind 79 = .ok (.goto (-75), 3) := by decide +kernel
theorem dX11_cornerBehind_82 : decode cX11_cornerBehind 82 = .ok (.iload_n 2, 1) := by decide +kernel
theorem dX11_cornerBehind_83 : decode cX11_cornerBehind 83 = .ok (.ireturn, 1) := by decide +kernel
theorem dX11_hull_0 : decode cX11_hull 0 = .ok (.aload_n 0, 1) := by decide +kernel
theorem dX11_hull_1 : decode cX11_hull 1 = .ok (.invokevirtual 104, 3) := by decide +kernel
theorem dX11_hull_4 : decode cX11_hull 4 = .ok (.aload_n 0, 1) := by decide +kernel
theorem dX11_hull_5 : decode cX11_hull 5 = .ok (.iload_n 1, 1) := by decide +kernel
theorem dX11_hull_6 : decode cX11_hull 6 = .ok (.iload_n 2, 1) := by decide +kernel
theorem dX11_hull_7 : decode cX11_hull 7 = .ok (.iload_n 3, 1) := by decide +kernel
theorem dX11_hull_8 : decode cX11_hull 8 = .ok (.invokevirtual 417, 3) := by decide +kernel
theorem dX11_hull_11 : decode cX11_hull 11 = .ok (.ifCond .ne 9, 3) := by decide +kernel
theorem dX11_hull_14 : decode cX11_hull 14 = .ok (.aload_n 0, 1) := by decide +kernel
theorem dX11_hull_15 : decode cX11_hull 15 = .ok (.iconst 1, 1) := by decide +kernel
theorem dX11_hull_16 : decode cX11_hull 16 = .ok (.invokevirtual 115, 3) := by decide +kernel
theorem dX11_hull_19 : decode cX11_hull 19 = .ok (.ireturn, 1) := by decide +kernel
theorem dX11_hull_20 : decode cX11_hull 20 = .ok (.aload_n 0, 1) := by decide +kernel
theorem dX11_hull_21 : decode cX11_hull 21 = .ok (.iload_n 1, 1) := by decide +kernel
theorem dX11_hull_22 : decode cX11_hull 22 = .ok (.iload_n 2, 1) := by decide +kernel
theorem dX11_hull_23 : decode cX11_hull 23 = .ok (.iload_n 3, 1) := by decide +kernel
theorem dX11_hull_24 : decode cX11_hull 24 = .ok (.invokevirtual 461, 3) := by decide +kernel
theorem dX11_hull_27 : decode cX11_hull 27 = .ok (.aload_n 0, 1) := by decide +kernel
theorem dX11_hull_28 : decode cX11_hull 28 = .ok (.getfield 455, 3) := by decide +kernel
theorem dX11_hull_31 : decode cX11_hull 31 = .ok (.ireturn, 1) := by decide +kernel
theorem dX11_corner_0 : decode cX11_corner 0 = .ok (.aload_n 0, 1) := by decide +kernel
theorem dX11_corner_1 : decode cX11_corner 1 = .ok (.invokevirtual 104, 3) := by decide +kernel
theorem dX11_corner_4 : decode cX11_corner 4 = .ok (.aload_n 0, 1) := by decide +kernel
theorem dX11_corner_5 : decode cX11_corner 5 = .ok (.iload_n 1, 1) := by decide +kernel
theorem dX11_corner_6 : decode cX11_corner 6 = .ok (.iload_n 2, 1) := by decide +kernel
theorem dX11_corner_7 : decode cX11_corner 7 = .ok (.iload_n 3, 1) := by decide +kernel
theorem dX11_corner_8 : decode cX11_corner 8 = .ok (.invokevirtual 417, 3) := by decide +kernel
theorem dX11_corner_11 : decode cX11_corner 11 = .ok (.ifCond .ne 9, 3) := by decide +kernel
theorem dX11_corner_14 : decode cX11_corner 14 = .ok (.aload_n 0, 1) := by decide +kernel
theorem dX11_corner_15 : decode cX11_corner 15 = .ok (.iconst 1, 1) := by decide +kernel
theorem dX11_corner_16 : decode cX11_corner 16 = .ok (.invokevirtual 115, 3) := by decide +kernel
theorem dX11_corner_19 : decode cX11_corner 19 = .ok (.ireturn, 1) := by decide +kernel
theorem dX11_corner_20 : decode cX11_corner 20 = .ok (.aload_n 0, 1) := by decide +kernel
theorem dX11_corner_21 : decode cX11_corner 21 = .ok (.iload_n 1, 1) := by decide +kernel
theorem dX11_corner_22 : decode cX11_corner 22 = .ok (.iload_n 2, 1) := by decide +kernel
theorem dX11_corner_23 : decode cX11_corner 23 = .ok (.iload_n 3, 1) := by decide +kernel
theorem dX11_corner_24 : decode cX11_corner 24 = .ok (.invokevirtual 461, 3) := by decide +kernel
theorem dX11_corner_27 : decode cX11_corner 27 = .ok (.iload 4, 2) := by decide +kernel
theorem dX11_corner_29 : decode cX11_corner 29 = .ok (.iconst 0, 1) := by decide +kernel
theorem dX11_corner_30 : decode cX11_corner 30 = .ok (.aload_n 0, 1) := by decide +kernel
theorem dX11_corner_31 : decode cX11_corner 31 = .ok (.getfield 455, 3) := by decide +kernel
theorem dX11_corner_34 : decode cX11_corner 34 = .ok (.iconst 1, 1) := by decide +kernel
theorem dX11_corner_35 : decode cX11_corner 35 = .ok (.isub, 1) := by decide +kernel
theorem dX11_corner_36 : decode cX11_corner 36 = .ok (.invokestatic 107, 3) := by decide +kernel
theorem dX11_corner_39 : decode cX11_corner 39 = .ok (.ifCond .eq 18, 3) := by decide +kernel
theorem dX11_corner_42 : decode cX11_corner 42 = .ok (.aload_n 0, 1) := by decide +kernel
theorem dX11_corner_43 : decode cX11_corner 43 = .ok (.getfield 72, 3) := by decide +kernel
theorem dX11_corner_46 : decode cX11_corner 46 = .ok (.aload_n 0, 1) := by decide +kernel
theorem dX11_corner_47 : decode cX11_corner 47 = .ok (.getfield 75, 3) := by decide +kernel
theorem dX11_corner_50 : decode cX11_corner 50 = .ok (.iload 4, 2) := by decide +kernel
theorem dX11_corner_52 : decode cX11_corner 52 = .ok (.iaload, 1) := by decide +kernel
theorem dX11_corner_53 : decode cX11_corner 53 = .ok (.iaload, 1) := by decide +kernel
theorem dX11_corner_54 : decode cX11_corner 54 = .ok (.goto 8, 3) := by decide +kernel
theorem dX11_corner_57 : decode cX11_corner 57 = .ok (.aload_n 0, 1) := by decide +kernel
theorem dX11_corner_58 : decode cX11_corner 58 = .ok (.iconst 1, 1) := by decide +kernel
theorem dX11_corner_59 : decode cX11_corner 59 = .ok (.invokevirtual 115, 3) := by decide +kernel
theorem dX11_corner_62 : decode cX11_corner 62 = .ok (.ireturn, 1) := by decide +kernel
theorem dX11_hullArea_0 : decode cX11_hullArea 0 = .ok (.aload_n 0, 1) := by decide +kernel
theorem dX11_hullArea_1 : decode cX11_hullArea 1 = .ok (.invokevirtual 104, 3) := by decide +kernel
theorem dX11_hullArea_4 : decode cX11_hullArea 4 = .ok (.aload_n 0, 1) := by decide +kernel
theorem dX11_hullArea_5 : decode cX11_hullArea 5 = .ok (.iload_n 1, 1) := by decide +kernel
theorem dX11_hullArea_6 : decode cX11_hullArea 6 = .ok (.iload_n 2, 1) := by decide +kernel
theorem dX11_hullArea_7 : decode cX11_hullArea 7 = .ok (.iload_n 3, 1) := by decide +kernel
theorem dX11_hullArea_8 : decode cX11_hullArea 8 = .ok (.invokevirtual 417, 3) := by decide +kernel
theorem dX11_hullArea_11 : decode cX11_hullArea 11 = .ok (.ifCond .ne 10, 3) := by decide +kernel
theorem dX11_hullArea_14 : decode cX11_hullArea 14 = .ok (.aload_n 0, 1) := by decide +kernel
theorem dX11_hullArea_15 : decode cX11_hullArea 15 = .ok (.iconst 1, 1) := by decide +kernel
theorem dX11_hullArea_16 : decode cX11_hullArea 16 = .ok (.invokevirtual 115, 3) := by decide +kernel
theorem dX11_hullArea_19 : decode cX11_hullArea 19 = .ok (.i2l, 1) := by decide +kernel
theorem dX11_hullArea_20 : decode cX11_hullArea 20 = .ok (.lreturn, 1) := by decide +kernel
theorem dX11_hullArea_21 : decode cX11_hullArea 21 = .ok (.aload_n 0, 1) := by decide +kernel
theorem dX11_hullArea_22 : decode cX11_hullArea 22 = .ok (.iload_n 1, 1) := by decide +kernel
theorem dX11_hullArea_23 : decode cX11_hullArea 23 = .ok (.iload_n 2, 1) := by decide +kernel
theorem dX11_hullArea_24 : decode cX11_hullArea 24 = .ok (.iload_n 3, 1) := by decide +kernel
theorem dX11_hullArea_25 : decode cX11_hullArea 25 = .ok (.invokevirtual 461, 3) := by decide +kernel
theorem dX11_hullArea_28 : decode cX11_hullArea 28 = .ok (.lconst 0, 1) := by decide +kernel
theorem dX11_hullArea_29 : decode cX11_hullArea 29 = .ok (.lstore 4, 2) := by decide +kernel
theorem dX11_hullArea_31 : decode cX11_hullArea 31 = .ok (.iconst 0, 1) := by decide +kernel
theorem dX11_hullArea_32 : decode cX11_hullArea 32 = .ok (.istore 6, 2) := by decide +kernel
theorem dX11_hullArea_34 : decode cX11_hullArea 34 = .ok (.iload 6, 2) := by decide +kernel
theorem dX11_hullArea_36 : decode cX11_hullArea 36 = .ok (.aload_n 0, 1) := by decide +kernel
theorem dX11_hullArea_37 : decode cX11_hullArea 37 = .ok (.getfield 455, 3) := by decide +kernel
theorem dX11_hullArea_40 : decode cX11_hullArea 40 = .ok (.if_icmp .ge 74, 3) := by decide +kernel
theorem dX11_hullArea_43 : decode cX11_hullArea 43 = .ok (.aload_n 0, 1) := by decide +kernel
theorem dX11_hullArea_44 : decode cX11_hullArea 44 = .ok (.getfield 75, 3) := by decide +kernel
theorem dX11_hullArea_47 : decode cX11_hullArea 47 = .ok (.iload 6, 2) := by decide +kernel
theorem dX11_hullArea_49 : decode cX11_hullArea 49 = .ok (.iaload, 1) := by decide +kernel
theorem dX11_hullArea_50 : decode cX11_hullArea 50 = .ok (.istore 7, 2) := by decide +kernel
theorem dX11_hullArea_52 : decode cX11_hullArea 52 = .ok (.aload_n 0, 1) := by decide +kernel
theorem dX11_hullArea_53 : decode cX11_hullArea 53 = .ok (.getfield 75, 3) := by decide +kernel
theorem dX11_hullArea_56 : decode cX11_hullArea 56 = .ok (.iload 6, 2) := by decide +kernel
theorem dX11_hullArea_58 : decode cX11_hullArea 58 = .ok (.iconst 1, 1) := by decide +kernel
theorem dX11_hullArea_59 : decode cX11_hullArea 59 = .ok (.iadd, 1) := by decide +kernel
theorem dX11_hullArea_60 : decode cX11_hullArea 60 = .ok (.aload_n 0, 1) := by decide +kernel
theorem dX11_hullArea_61 : decode cX11_hullArea 61 = .ok (.getfield 455, 3) := by decide +kernel
theorem dX11_hullArea_64 : decode cX11_hullArea 64 = .ok (.irem, 1) := by decide +kernel
theorem dX11_hullArea_65 : decode cX11_hullArea 65 = .ok (.iaload, 1) := by decide +kernel
theorem dX11_hullArea_66 : decode cX11_hullArea 66 = .ok (.istore 8, 2) := by decide +kernel
theorem dX11_hullArea_68 : decode cX11_hullArea 68 = .ok (.lload 4, 2) := by decide +kernel
theorem dX11_hullArea_70 : decode cX11_hullArea 70 = .ok (.aload_n 0, 1) := by decide +kernel
theorem dX11_hullArea_71 : decode cX11_hullArea 71 = .ok (.getfield 66, 3) := by decide +kernel
theorem dX11_hullArea_74 : decode cX11_hullArea 74 = .ok (.iload 7, 2) := by decide +kernel
theorem dX11_hullArea_76 : decode cX11_hullArea 76 = .ok (.iaload, 1) := by decide +kernel
theorem dX11_hullArea_77 : decode cX11_hullArea 77 = .ok (.i2l, 1) := by decide +kernel
theorem dX11_hullArea_78 : decode cX11_hullArea 78 = .ok (.aload_n 0, 1) := by decide +kernel
theorem dX11_hullArea_79 : decode cX11_hullArea 79 = .ok (.getfield 69, 3) := by decide +kernel
theorem dX11_hullArea_82 : decode cX11_hullArea 82 = .ok (.iload 7, 2) := by decide +kernel
theorem dX11_hullArea_84 : decode cX11_hullArea 84 = .ok (.iaload, 1) := by decide +kernel
theorem dX11_hullArea_85 : decode cX11_hullArea 85 = .ok (.i2l, 1) := by decide +kernel
theorem dX11_hullArea_86 : decode cX11_hullArea 86 = .ok (.aload_n 0, 1) := by decide +kernel
theorem dX11_hullArea_87 : decode cX11_hullArea 87 = .ok (.getfield 66, 3) := by decide +kernel
theorem dX11_hullArea_90 : decode cX11_hullArea 90 = .ok (.iload 8, 2) := by decide +kernel
theorem dX11_hullArea_92 : decode cX11_hullArea 92 = .ok (.iaload, 1) := by decide +kernel
theorem dX11_hullArea_93 : decode cX11_hullArea 93 = .ok (.i2l, 1) := by decide +kernel
theorem dX11_hullArea_94 : decode cX11_hullArea 94 = .ok (.aload_n 0, 1) := by decide +kernel
theorem dX11_hullArea_95 : decode cX11_hullArea 95 = .ok (.getfield 69, 3) := by decide +kernel
theorem dX11_hullArea_98 : decode cX11_hullArea 98 = .ok (.iload 8, 2) := by decide +kernel
theorem dX11_hullArea_100 : decode cX11_hullArea 100 = .ok (.iaload, 1) := by decide +kernel
theorem dX11_hullArea_101 : decode cX11_hullArea 101 = .ok (.i2l, 1) := by decide +kernel
theorem dX11_hullArea_102 : decode cX11_hullArea 102 = .ok (.invokestatic 440, 3) := by decide +kernel
theorem dX11_hullArea_105 : decode cX11_hullArea 105 = .ok (.ladd, 1) := by decide +kernel
theorem dX11_hullArea_106 : decode cX11_hullArea 106 = .ok (.lstore 4, 2) := by decide +kernel
theorem dX11_hullArea_108 : decode cX11_hullArea 108 = .ok (.iinc 6 1, 3) := by decide +kernel
theorem dX11_hullArea_111 : decode cX11_hullArea 111 = .ok (.goto (-77), 3) := by decide +kernel
theorem dX11_hullArea_114 : decode cX11_hullArea 114 = .ok (.lload 4, 2) := by decide +kernel
theorem dX11_hullArea_116 : decode cX11_hullArea 116 = .ok (.lreturn, 1) := by decide +kernel
theorem dX11_isStraight_0 : decode cX11_isStraight 0 = .ok (.iload_n 1, 1) := by decide +kernel
theorem dX11_isStraight_1 : decode cX11_isStraight 1 = .ok (.istore 4, 2) := by decide +kernel
theorem dX11_isStraight_3 : decode cX11_isStraight 3 = .ok (.iload 4, 2) := by decide +kernel
theorem dX11_isStraight_5 : decode cX11_isStraight 5 = .ok (.iload_n 2, 1) := by decide +kernel
theorem dX11_isStraight_6 : decode cX11_isStraight 6 = .ok (.if_icmp .gt 80, 3) := by decide +kernel
theorem dX11_isStraight_9 : decode cX11_isStraight 9 = .ok (.aload_n 0, 1) := by decide +kernel
theorem dX11_isStraight_10 : decode cX11_isStraight 10 = .ok (.iload_n 1, 1) := by decide +kernel
theorem dX11_isStraight_11 : decode cX11_isStraight 11 = .ok (.iload_n 2, 1) := by decide +kernel
theorem dX11_isStraight_12 : decode cX11_isStraight 12 = .ok (.invokevirtual 444, 3) := by decide +kernel
theorem dX11_isStraight_15 : decode cX11_isStraight 15 = .ok (.istore 5, 2) := by decide +kernel
theorem dX11_isStraight_17 : decode cX11_isStraight 17 = .ok (.iload 5, 2) := by decide +kernel
theorem dX11_isStraight_19 : decode cX11_isStraight 19 = .ok (.ifCond .eq 13, 3) := by decide +kernel
theorem dX11_isStraight_22 : decode cX11_isStraight 22 = .ok (.aload_n 0, 1) := by decide +kernel
theorem dX11_isStraight_23 : decode cX11_isStraight 23 = .ok (.iload 4, 2) := by decide +kernel
theorem dX11_isStraight_25 : decode cX11_isStraight 25 = .ok (.iload_n 1, 1) := by decide +kernel
theorem dX11_isStraight_26 : decode cX11_isStraight 26 = .ok (.invokevirtual 452, 3) := by decide +kernel
theorem dX11_isStraight_29 : decode cX11_isStraight 29 = .ok (.goto 20, 3) := by decide +kernel
theorem dX11_isStraight_32 : decode cX11_isStraight 32 = .ok (.aload_n 0, 1) := by decide +kernel
theorem dX11_isStraight_33 : decode cX11_isStraight 33 = .ok (.iload_n 1, 1) := by decide +kernel
theorem dX11_isStraight_34 : decode cX11_isStraight 34 = .ok (.iload_n 2, 1) := by decide +kernel
theorem dX11_isStraight_35 : decode cX11_isStraight 35 = .ok (.iload 4, 2) := by decide +kernel
theorem dX11_isStraight_37 : decode cX11_isStraight 37 = .ok (.invokevirtual 449, 3) := by decide +kernel
theorem dX11_isStraight_40 : decode cX11_isStraight 40 = .ok (.aload_n 0, 1) := by decide +kernel
theorem dX11_isStraight_41 : decode cX11_isStraight 41 = .ok (.iload_n 1, 1) := by decide +kernel
theorem dX11_isStraight_42 : decode cX11_isStraight 42 = .ok (.iload_n 2, 1) := by decide +kernel
theorem dX11_isStraight_43 : decode cX11_isStraight 43 = .ok (.iload 4, 2) := by decide +kernel
theorem dX11_isStraight_45 : decode cX11_isStraight 45 = .ok (.invokevirtual 449, 3) := by decide +kernel
theorem dX11_isStraight_48 : decode cX11_isStraight 48 = .ok (.lmul, 1) := by decide +kernel
theorem dX11_isStraight_49 : decode cX11_isStraight 49 = .ok (.lstore 6, 2) := by decide +kernel
theorem dX11_isStraight_51 : decode cX11_isStraight 51 = .ok (.lload 6, 2) := by decide +kernel
theorem dX11_isStraight_53 : decode cX11_isStraight 53 = .ok (.iload_n 3, 1) := by decide +kernel
theorem dX11_isStraight_54 : decode cX11_isStraight 54 = .ok (.i2l, 1) := by decide +kernel
theorem dX11_isStraight_55 : decode cX11_isStraight 55 = .ok (.iload_n 3, 1) := by decide +kernel
theorem dX11_isStraight_56 : decode cX11_isStraight 56 = .ok (.i2l, 1) := by decide +kernel
theorem dX11_isStraight_57 : decode cX11_isStraight 57 = .ok (.lmul, 1) := by decide +kernel
theorem dX11_isStraight_58 : decode cX11_isStraight 58 = .ok (.iload 5, 2) := by decide +kernel
theorem dX11_isStraight_60 : decode cX11_isStraight 60 = .ok (.ifCond .eq 7, 3) := by decide +kernel
theorem dX11_isStraight_63 : decode cX11_isStraight 63 = .ok (.lconst 1, 1) := by decide +kernel
theorem dX11_isStraight_64 : decode cX11_isStraight 64 = .ok (.goto 9, 3) := by decide +kernel
theorem dX11_isStraight_67 : decode cX11_isStraight 67 = .ok (.aload_n 0, 1) := by decide +kernel
theorem dX11_isStraight_68 : decode cX11_isStraight 68 = .ok (.iload_n 1, 1) := by decide +kernel
theorem dX11_isStraight_69 : decode cX11_isStraight 69 = .ok (.iload_n 2, 1) := by decide +kernel
theorem dX11_isStraight_70 : decode cX11_isStraight 70 = .ok (.invokevirtual 452, 3) := by decide +kernel
theorem dX11_isStraight_73 : decode cX11_isStraight 73 = .ok (.lmul, 1) := by decide +kernel
theorem dX11_isStraight_74 : decode cX11_isStraight 74 = .ok (.lcmp, 1) := by decide +kernel
theorem dX11_isStraight_75 : decode cX11_isStraight 75 = .ok (.ifCond .le 5, 3) := by decide +kernel
theorem dX11_isStraight_78 : decode cX11_isStraight 78 = .ok (.iconst 0, 1) := by decide +kernel
theorem dX11_isStraight_79 : decode cX11_isStraight 79 = .ok (.ireturn, 1) := by decide +kernel
theorem dX11_isStraight_80 : decode cX11_isStraight 80 = .ok (.iinc 4 1, 3) := by decide +kernel
theorem dX11_isStraight_83 : decode cX11_isStraight 83 = .ok (.goto (-80), 3) := by decide +kernel
theorem dX11_isStraight_86 : decode cX11_isStraight 86 = .ok (.iconst 1, 1) := by decide +kernel
theorem dX11_isStraight_87 : decode cX11_isStraight 87 = .ok (.ireturn, 1) := by decide +kernel
theorem dX11_aheadOf_0 : decode cX11_aheadOf 0 = .ok (.iconst 0, 1) := by decide +kernel
theorem dX11_aheadOf_1 : decode cX11_aheadOf 1 = .ok (.istore_n 3, 1) := by decide +kernel
theorem dX11_aheadOf_2 : decode cX11_aheadOf 2 = .ok (.iconst 0, 1) := by decide +kernel
theorem dX11_aheadOf_3 : decode cX11_aheadOf 3 = .ok (.istore 4, 2) := by decide +kernel
theorem dX11_aheadOf_5 : decode cX11_aheadOf 5 = .ok (.iload 4, 2) := by decide +kernel
theorem dX11_aheadOf_7 : decode cX11_aheadOf 7 = .ok (.aload_n 0, 1) := by decide +kernel
theorem dX11_aheadOf_8 : decode cX11_aheadOf 8 = .ok (.getfield 424, 3) := by decide +kernel
theorem dX11_aheadOf_11 : decode cX11_aheadOf 11 = .ok (.if_icmp .ge 55, 3) := by decide +kernel
theorem dX11_aheadOf_14 : decode cX11_aheadOf 14 = .ok (.iload_n 3, 1) := by decide +kernel
theorem dX11_aheadOf_15 : decode cX11_aheadOf 15 = .ok (.aload_n 0, 1) := by decide +kernel
theorem dX11_aheadOf_16 : decode cX11_aheadOf 16 = .ok (.iload 4, 2) := by decide +kernel
theorem dX11_aheadOf_18 : decode cX11_aheadOf 18 = .ok (.iload_n 2, 1) := by decide +kernel
theorem dX11_aheadOf_19 : decode cX11_aheadOf 19 = .ok (.invokevirtual 474, 3) := by decide +kernel
theorem dX11_aheadOf_22 : decode cX11_aheadOf 22 = .ok (.aload_n 0, 1) := by decide +kernel
theorem dX11_aheadOf_23 : decode cX11_aheadOf 23 = .ok (.iload_n 1, 1) := by decide +kernel
theorem dX11_aheadOf_24 : decode cX11_aheadOf 24 = .ok (.iload_n 2, 1) := by decide +kernel
theorem dX11_aheadOf_25 : decode cX11_aheadOf 25 = .ok (.invokevirtual 474, 3) := by decide +kernel
theorem dX11_aheadOf_28 : decode cX11_aheadOf 28 = .ok (.if_icmp .lt 25, 3) := by decide +kernel
theorem dX11_aheadOf_31 : decode cX11_aheadOf 31 = .ok (.aload_n 0, 1) := by decide +kernel
theorem dX11_aheadOf_32 : decode cX11_aheadOf 32 = .ok (.iload 4, 2) := by decide +kernel
theorem dX11_aheadOf_34 : decode cX11_aheadOf 34 = .ok (.iload_n 2, 1) := by decide +kernel
theorem dX11_aheadOf_35 : decode cX11_aheadOf 35 = .ok (.invokevirtual 474, 3) := by decide +kernel
theorem dX11_aheadOf_38 : decode cX11_aheadOf 38 = .ok (.aload_n 0, 1) := by decide +kernel
theorem dX11_aheadOf_39 : decode cX11_aheadOf 39 = .ok (.iload_n 1, 1) := by decide +kernel
theorem dX11_aheadOf_40 : decode cX11_aheadOf 40 = .ok (.iload_n 2, 1) := by decide +kernel
theorem dX11_aheadOf_41 : decode cX11_aheadOf 41 = .ok (.invokevirtual 474, 3) := by decide +kernel
theorem dX11_aheadOf_44 : decode cX11_aheadOf 44 = .ok (.if_icmp .ne 13, 3) := by decide +kernel
theorem dX11_aheadOf_47 : decode cX11_aheadOf 47 = .ok (.iload 4, 2) := by decide +kernel
theorem dX11_aheadOf_49 : decode cX11_aheadOf 49 = .ok (.iload_n 1, 1) := by decide +kernel
theorem dX11_aheadOf_50 : decode cX11_aheadOf 50 = .ok (.if_icmp .ge 7, 3) := by decide +kernel
theorem dX11_aheadOf_53 : decode cX11_aheadOf 53 = .ok (.iconst 1, 1) := by decide +kernel
theorem dX11_aheadOf_54 : decode cX11_aheadOf 54 = .ok (.goto 4, 3) := by decide +kernel
theorem dX11_aheadOf_57 : decode cX11_aheadOf 57 = .ok (.iconst 0, 1) := by decide +kernel
theorem dX11_aheadOf_58 : decode cX11_aheadOf 58 = .ok (.iadd, 1) := by decide +kernel
theorem dX11_aheadOf_59 : decode cX11_aheadOf 59 = .ok (.istore_n 3, 1) := by decide +kernel
theorem dX11_aheadOf_60 : decode cX11_aheadOf 60 = .ok (.iinc 4 1, 3) := by decide +kernel
theorem dX11_aheadOf_63 : decode cX11_aheadOf 63 = .ok (.goto (-58), 3) := by decide +kernel
theorem dX11_aheadOf_66 : decode cX11_aheadOf 66 = .ok (.iload_n 3, 1) := by decide +kernel
theorem dX11_aheadOf_67 : decode cX11_aheadOf 67 = .ok (.ireturn, 1) := by decide +kernel
theorem dX11_isJust_0 : decode cX11_isJust 0 = .ok (.lload 7, 2) := by decide +kernel
theorem dX11_isJust_2 : decode cX11_isJust 2 = .ok (.lload 5, 2) := by decide +kernel
theorem dX11_isJust_4 : decode cX11_isJust 4 = .ok (.lmul, 1) := by decide +kernel
theorem dX11_isJust_5 : decode cX11_isJust 5 = .ok (.lload_n 1, 1) := by decide +kernel
theorem dX11_isJust_6 : decode cX11_isJust 6 = .ok (.lsub, 1) := by decide +kernel
theorem dX11_isJust_7 : decode cX11_isJust 7 = .ok (.lstore 9, 2) := by decide +kernel
theorem dX11_isJust_9 : decode cX11_isJust 9 = .ok (.lload 9, 2) := by decide +kernel
theorem dX11_isJust_11 : decode cX11_isJust 11 = .ok (.lconst 0, 1) := by decide +kernel
theorem dX11_isJust_12 : decode cX11_isJust 12 = .ok (.lcmp, 1) := by decide +kernel
theorem dX11_isJust_13 : decode cX11_isJust 13 = .ok (.ifCond .eq 18, 3) := by decide +kernel
theorem dX11_isJust_16 : decode cX11_isJust 16 = .ok (.lload_n 3, 1) := by decide +kernel
theorem dX11_isJust_17 : decode cX11_isJust 17 = .ok (.lconst 0, 1) := by decide +kernel
theorem dX11_isJust_18 : decode cX11_isJust 18 = .ok (.lcmp, 1) := by decide +kernel
theorem dX11_isJust_19 : decode cX11_isJust 19 = .ok (.ifCond .eq 12, 3) := by decide +kernel
theorem dX11_isJust_22 : decode cX11_isJust 22 = .ok (.aload_n 0, 1) := by decide +kernel
theorem dX11_isJust_23 : decode cX11_isJust 23 = .ok (.getfield 321, 3) := by decide +kernel
theorem dX11_isJust_26 : decode cX11_isJust 26 = .ok (.lconst 0, 1) := by decide +kernel
theorem dX11_isJust_27 : decode cX11_isJust 27 = .ok (.lcmp, 1) := by decide +kernel
theorem dX11_isJust_28 : decode cX11_isJust 28 = .ok (.ifCond .ne 31, 3) := by decide +kernel
theorem dX11_isJust_31 : decode cX11_isJust 31 = .ok (.lload 9, 2) := by decide +kernel
theorem dX11_isJust_33 : decode cX11_isJust 33 = .ok (.lconst 0, 1) := by decide +kernel
theorem dX11_isJust_34 : decode cX11_isJust 34 = .ok (.lcmp, 1) := by decide +kernel
theorem dX11_isJust_35 : decode cX11_isJust 35 = .ok (.ifCond .ne 22, 3) := by decide +kernel
theorem dX11_isJust_38 : decode cX11_isJust 38 = .ok (.lload_n 3, 1) := by decide +kernel
theorem dX11_isJust_39 : decode cX11_isJust 39 = .ok (.lconst 0, 1) := by decide +kernel
theorem dX11_isJust_40 : decode cX11_isJust 40 = .ok (.lcmp, 1) := by decide +kernel
theorem dX11_isJust_41 : decode cX11_isJust 41 = .ok (.ifCond .eq 12, 3) := by decide +kernel
theorem dX11_isJust_44 : decode cX11_isJust 44 = .ok (.aload_n 0, 1) := by decide +kernel
theorem dX11_isJust_45 : decode cX11_isJust 45 = .ok (.getfield 321, 3) := by decide +kernel
theorem dX11_isJust_48 : decode cX11_isJust 48 = .ok (.lconst 0, 1) := by decide +kernel
theorem dX11_isJust_49 : decode cX11_isJust 49 = .ok (.lcmp, 1) := by decide +kernel
theorem dX11_isJust_50 : decode cX11_isJust 50 = .ok (.ifCond .ne 7, 3) := by decide +kernel
theorem dX11_isJust_53 : decode cX11_isJust 53 = .ok (.iconst 1, 1) := by decide +kernel
theorem dX11_isJust_54 : decode cX11_isJust 54 = .ok (.goto 4, 3) := by decide +kernel
theorem dX11_isJust_57 : decode cX11_isJust 57 = .ok (.iconst 0, 1) := by decide +kernel
theorem dX11_isJust_58 : decode cX11_isJust 58 = .ok (.ireturn, 1) := by decide +kernel
theorem dX11_isJust_59 : decode cX11_isJust 59 = .ok (.lload 9, 2) := by decide +kernel
theorem dX11_isJust_61 : decode cX11_isJust 61 = .ok (.lconst 0, 1) := by decide +kernel
theorem dX11_isJust_62 : decode cX11_isJust 62 = .ok (.lcmp, 1) := by decide +kernel
theorem dX11_isJust_63 : decode cX11_isJust 63 = .ok (.ifCond .le 7, 3) := by decide +kernel
theorem dX11_isJust_66 : decode cX11_isJust 66 = .ok (.iconst 1, 1) := by decide +kernel
theorem dX11_isJust_67 : decode cX11_isJust 67 = .ok (.goto 4, 3) := by decide +kernel
theorem dX11_isJust_70 : decode cX11_isJust 70 = .ok (.iconst 0, 1) := by decide +kernel
theorem dX11_isJust_71 : decode cX11_isJust 71 = .ok (.lload_n 3, 1) := by decide +kernel
theorem dX11_isJust_72 : decode cX11_isJust 72 = .ok (.lconst 0, 1) := by decide +kernel
theorem dX11_isJust_73 : decode cX11_isJust 73 = .ok (.lcmp, 1) := by decide +kernel
theorem dX11_isJust_74 : decode cX11_isJust 74 = .ok (.ifCond .le 7, 3) := by decide +kernel
theorem dX11_isJust_77 : decode cX11_isJust 77 = .ok (.iconst 1, 1) := by decide +kernel
theorem dX11_isJust_78 : decode cX11_isJust 78 = .ok (.goto 4, 3) := by decide +kernel
theorem dX11_isJust_81 : decode cX11_isJust 81 = .ok (.iconst 0, 1) := by decide +kernel
theorem dX11_isJust_82 : decode cX11_isJust 82 = .ok (.if_icmp .ne 36, 3) := by decide +kernel
theorem dX11_isJust_85 : decode cX11_isJust 85 = .ok (.lload 9, 2) := by decide +kernel
theorem dX11_isJust_87 : decode cX11_isJust 87 = .ok (.invokestatic 7, 3) := by decide +kernel
theorem dX11_isJust_90 : decode cX11_isJust 90 = .ok (.ldc2_w 483, 3) := by decide +kernel
theorem dX11_isJust_93 : decode cX11_isJust 93 = .ok (.lcmp, 1) := by decide +kernel
theorem dX11_isJust_94 : decode cX11_isJust 94 = .ok (.ifCond .ge 24, 3) := by decide +kernel
theorem dX11_isJust_97 : decode cX11_isJust 97 = .ok (.lload 9, 2) := by decide +kernel
theorem dX11_isJust_99 : decode cX11_isJust 99 = .ok (.lload 9, 2) := by decide +kernel
theorem dX11_isJust_101 : decode cX11_isJust 101 = .ok (.lmul, 1) := by decide +kernel
theorem dX11_isJust_102 : decode cX11_isJust 102 = .ok (.lload_n 3, 1) := by decide +kernel
theorem dX11_isJust_103 : decode cX11_isJust 103 = .ok (.lload_n 3, 1) := by decide +kernel
theorem dX11_isJust_104 : decode cX11_isJust 104 = .ok (.lmul, 1) := by decide +kernel
theorem dX11_isJust_105 : decode cX11_isJust 105 = .ok (.aload_n 0, 1) := by decide +kernel
theorem dX11_isJust_106 : decode cX11_isJust 106 = .ok (.getfield 321, 3) := by decide +kernel
theorem dX11_isJust_109 : decode cX11_isJust 109 = .ok (.lmul, 1) := by decide +kernel
theorem dX11_isJust_110 : decode cX11_isJust 110 = .ok (.lcmp, 1) := by decide +kernel
theorem dX11_isJust_111 : decode cX11_isJust 111 = .ok (.ifCond .ne 7, 3) := by decide +kernel
theorem dX11_isJust_114 : decode cX11_isJust 114 = .ok (.iconst 1, 1) := by decide +kernel
theorem dX11_isJust_115 : decode cX11_isJust 115 = .ok (.goto 4, 3) := by decide +kernel
theorem dX11_isJust_118 : decode cX11_isJust 118 = .ok (.iconst 0, 1) := by decide +kernel
theorem dX11_isJust_119 : decode cX11_isJust 119 = .ok (.ireturn, 1) := by decide +kernel
theorem dX11_best_0 : decode cX11_best 0 = .ok (.aload_n 0, 1) := by decide +kernel
theorem dX11_best_1 : decode cX11_best 1 = .ok (.invokevirtual 104, 3) := by decide +kernel
theorem dX11_best_4 : decode cX11_best 4 = .ok (.aload_n 0, 1) := by decide +kernel
theorem dX11_best_5 : decode cX11_best 5 = .ok (.iload_n 1, 1) := by decide +kernel
theorem dX11_best_6 : decode cX11_best 6 = .ok (.invokevirtual 265, 3) := by decide +kernel
theorem dX11_best_9 : decode cX11_best 9 = .ok (.ifCond .eq 12, 3) := by decide +kernel
theorem dX11_best_12 : decode cX11_best 12 = .ok (.iload_n 2, 1) := by decide +kernel
theorem dX11_best_13 : decode cX11_best 13 = .ok (.iconst 0, 1) := by decide +kernel
theorem dX11_best_14 : decode cX11_best 14 = .ok (.iconst 1, 1) := by decide +kernel
theorem dX11_best_15 : decode cX11_best 15 = .ok (.invokestatic 107, 3) := by decide +kernel
theorem dX11_best_18 : decode cX11_best 18 = .ok (.ifCond .ne 9, 3) := by decide +kernel
theorem dX11_best_21 : decode cX11_best 21 = .ok (.aload_n 0, 1) := by decide +kernel
theorem dX11_best_22 : decode cX11_best 22 = .ok (.iconst 1, 1) := by decide +kernel
theorem dX11_best_23 : decode cX11_best 23 = .ok (.invokevirtual 115, 3) := by decide +kernel
theorem dX11_best_26 : decode cX11_best 26 = .ok (.ireturn, 1) := by decide +kernel
theorem dX11_best_27 : decode cX11_best 27 = .ok (.iconst (-1), 1) := by decide +kernel
theorem dX11_best_28 : decode cX11_best 28 = .ok (.istore_n 3, 1) := by decide +kernel
theorem dX11_best_29 : decode cX11_best 29 = .ok (.lconst 0, 1) := by decide +kernel
theorem dX11_best_30 : decode cX11_best 30 = .ok (.lstore 4, 2) := by decide +kernel
theorem dX11_best_32 : decode cX11_best 32 = .ok (.iconst 0, 1) := by decide +kernel
theorem dX11_best_33 : decode cX11_best 33 = .ok (.istore 6, 2) := by decide +kernel
theorem dX11_best_35 : decode cX11_best 35 = .ok (.iload 6, 2) := by decide +kernel
theorem dX11_best_37 : decode cX11_best 37 = .ok (.aload_n 0, 1) := by decide +kernel
theorem dX11_best_38 : decode cX11_best 38 = .ok (.getfield 236, 3) := by decide +kernel
theorem dX11_best_41 : decode cX11_best 41 = .ok (.if_icmp .ge 90, 3) := by decide +kernel
theorem dX11_best_44 : decode cX11_best 44 = .ok (.aload_n 0, 1) := by decide +kernel
theorem dX11_best_45 : decode cX11_best 45 = .ok (.iload_n 1, 1) := by decide +kernel
theorem dX11_best_46 : decode cX11_best 46 = .ok (.iload 6, 2) := by decide +kernel
theorem dX11_best_48 : decode cX11_best 48 = .ok (.iload_n 2, 1) := by decide +kernel
theorem dX11_best_49 : decode cX11_best 49 = .ok (.invokevirtual 427, 3) := by decide +kernel
theorem dX11_best_52 : decode cX11_best 52 = .ok (.aload_n 0, 1) := by decide +kernel
theorem dX11_best_53 : decode cX11_best 53 = .ok (.getfield 424, 3) := by decide +kernel
theorem dX11_best_56 : decode cX11_best 56 = .ok (.ifCond .eq 10, 3) := by decide +kernel
theorem dX11_best_59 : decode cX11_best 59 = .ok (.aload_n 0, 1) := by decide +kernel
theorem dX11_best_60 : decode cX11_best 60 = .ok (.getfield 239, 3) := by decide +kernel
theorem dX11_best_63 : decode cX11_best 63 = .ok (.ifCond .ne 9, 3) := by decide +kernel
theorem dX11_best_66 : decode cX11_best 66 = .ok (.aload_n 0, 1) := by decide +kernel
theorem dX11_best_67 : decode cX11_best 67 = .ok (.iconst 5, 1) := by decide +kernel
theorem dX11_best_68 : decode cX11_best 68 = .ok (.invokevirtual 115, 3) := by decide +kernel
theorem dX11_best_71 : decode cX11_best 71 = .ok (.ireturn, 1) := by decide +kernel
theorem dX11_best_72 : decode cX11_best 72 = .ok (.lconst 0, 1) := by decide +kernel
theorem dX11_best_73 : decode cX11_best 73 = .ok (.lstore 7, 2) := by decide +kernel
theorem dX11_best_75 : decode cX11_best 75 = .ok (.iconst 0, 1) := by decide +kernel
theorem dX11_best_76 : decode cX11_best 76 = .ok (.istore 9, 2) := by decide +kernel
theorem dX11_best_78 : decode cX11_best 78 = .ok (.iload 9, 2) := by decide +kernel
theorem dX11_best_80 : decode cX11_best 80 = .ok (.aload_n 0, 1) := by decide +kernel
theorem dX11_best_81 : decode cX11_best 81 = .ok (.getfield 239, 3) := by decide +kernel
theorem dX11_best_84 : decode cX11_best 84 = .ok (.if_icmp .ge 21, 3) := by decide +kernel
theorem dX11_best_87 : decode cX11_best 87 = .ok (.lload 7, 2) := by decide +kernel
theorem dX11_best_89 : decode cX11_best 89 = .ok (.aload_n 0, 1) := by decide +kernel
theorem dX11_best_90 : decode cX11_best 90 = .ok (.iload 9, 2) := by decide +kernel
theorem dX11_best_92 : decode cX11_best 92 = .ok (.invokevirtual 480, 3) := by decide +kernel
theorem dX11_best_95 : decode cX11_best 95 = .ok (.i2l, 1) := by decide +kernel
theorem dX11_best_96 : decode cX11_best 96 = .ok (.ladd, 1) := by decide +kernel
theorem dX11_best_97 : decode cX11_best 97 = .ok (.lstore 7, 2) := by decide +kernel
theorem dX11_best_99 : decode cX11_best 99 = .ok (.iinc 9 1, 3) := by decide +kernel
theorem dX11_best_102 : decode cX11_best 102 = .ok (.goto (-24), 3) := by decide +kernel
theorem dX11_best_105 : decode cX11_best 105 = .ok (.iload_n 3, 1) := by decide +kernel
theorem dX11_best_106 : decode cX11_best 106 = .ok (.iconst (-1), 1) := by decide +kernel
theorem dX11_best_107 : decode cX11_best 107 = .ok (.if_icmp .eq 11, 3) := by decide +kernel
theorem dX11_best_110 : decode cX11_best 110 = .ok (.lload 7, 2) := by decide +kernel
theorem dX11_best_112 : decode cX11_best 112 = .ok (.lload 4, 2) := by decide +kernel
theorem dX11_best_114 : decode cX11_best 114 = .ok (.lcmp, 1) := by decide +kernel
theorem dX11_best_115 : decode cX11_best 115 = .ok (.ifCond .ge 10, 3) := by decide +kernel
theorem dX11_best_118 : decode cX11_best 118 = .ok (.iload 6, 2) := by decide +kernel
theorem dX11_best_120 : decode cX11_best 120 = .ok (.istore_n 3, 1) := by decide +kernel
theorem dX11_best_121 : decode cX11_best 121 = .ok (.lload 7, 2) := by decide +kernel
theorem dX11_best_123 : decode cX11_best 123 = .ok (.lstore 4, 2) := by decide +kernel
theorem dX11_best_125 : decode cX11_best 125 = .ok (.iinc 6 1, 3) := by decide +kernel
theorem dX11_best_128 : decode cX11_best 128 = .ok (.goto (-93), 3) := by decide +kernel
theorem dX11_best_131 : decode cX11_best 131 = .ok (.iload_n 3, 1) := by decide +kernel
theorem dX11_best_132 : decode cX11_best 132 = .ok (.iconst (-1), 1) := by decide +kernel
theorem dX11_best_133 : decode cX11_best 133 = .ok (.if_icmp .ne 11, 3) := by decide +kernel
theorem dX11_best_136 : decode cX11_best 136 = .ok (.aload_n 0, 1) := by decide +kernel
theorem dX11_best_137 : decode cX11_best 137 = .ok (.iconst 5, 1) := by decide +kernel
theorem dX11_best_138 : decode cX11_best 138 = .ok (.invokevirtual 115, 3) := by decide +kernel
theorem dX11_best_141 : decode cX11_best 141 = .ok (.goto 4, 3) := by decide +kernel
theorem dX11_best_144 : decode cX11_best 144 = .ok (.iload_n 3, 1) := by decide +kernel
theorem dX11_best_145 : decode cX11_best 145 = .ok (.ireturn, 1) := by decide +kernel
theorem dX11_isPair_0 : decode cX11_isPair 0 = .ok (.iload_n 1, 1) := by decide +kernel
theorem dX11_isPair_1 : decode cX11_isPair 1 = .ok (.iconst 0, 1) := by decide +kernel
theorem dX11_isPair_2 : decode cX11_isPair 2 = .ok (.aload_n 0, 1) := by decide +kernel
theorem dX11_isPair_3 : decode cX11_isPair 3 = .ok (.getfield 242, 3) := by decide +kernel
theorem dX11_isPair_6 : decode cX11_isPair 6 = .ok (.iconst 1, 1) := by decide +kernel
theorem dX11_isPair_7 : decode cX11_isPair 7 = .ok (.isub, 1) := by decide +kernel
theorem dX11_isPair_8 : decode cX11_isPair 8 = .ok (.invokestatic 107, 3) := by decide +kernel
theorem dX11_isPair_11 : decode cX11_isPair 11 = .ok (.ireturn, 1) := by decide +kernel
theorem dX11_cosOf_0 : decode cX11_cosOf 0 = .ok (.aload_n 0, 1) := by decide +kernel
theorem dX11_cosOf_1 : decode cX11_cosOf 1 = .ok (.getfield 51, 3) := by decide +kernel
theorem dX11_cosOf_4 : decode cX11_cosOf 4 = .ok (.iconst 4, 1) := by decide +kernel
theorem dX11_cosOf_5 : decode cX11_cosOf 5 = .ok (.iload_n 1, 1) := by decide +kernel
theorem dX11_cosOf_6 : decode cX11_cosOf 6 = .ok (.imul, 1) := by decide +kernel
theorem dX11_cosOf_7 : decode cX11_cosOf 7 = .ok (.iload_n 2, 1) := by decide +kernel
theorem dX11_cosOf_8 : decode cX11_cosOf 8 = .ok (.iadd, 1) := by decide +kernel
theorem dX11_cosOf_9 : decode cX11_cosOf 9 = .ok (.iconst 1, 1) := by decide +kernel
theorem dX11_cosOf_10 : decode cX11_cosOf 10 = .ok (.iadd, 1) := by decide +kernel
theorem dX11_cosOf_11 : decode cX11_cosOf 11 = .ok (.iaload, 1) := by decide +kernel
theorem dX11_cosOf_12 : decode cX11_cosOf 12 = .ok (.aload_n 0, 1) := by decide +kernel
theorem dX11_cosOf_13 : decode cX11_cosOf 13 = .ok (.getfield 51, 3) := by decide +kernel
theorem dX11_cosOf_16 : decode cX11_cosOf 16 = .ok (.iconst 4, 1) := by decide +kernel
theorem dX11_cosOf_17 : decode cX11_cosOf 17 = .ok (.iload_n 1, 1) := by decide +kernel
theorem dX11_cosOf_18 : decode cX11_cosOf 18 = .ok (.imul, 1) := by decide +kernel
theorem dX11_cosOf_19 : decode cX11_cosOf 19 = .ok (.iload_n 2, 1) := by decide +kernel
theorem dX11_cosOf_20 : decode cX11_cosOf 20 = .ok (.iadd, 1) := by decide +kernel
theorem dX11_cosOf_21 : decode cX11_cosOf 21 = .ok (.iconst 1, 1) := by decide +kernel
theorem dX11_cosOf_22 : decode cX11_cosOf 22 = .ok (.iadd, 1) := by decide +kernel
theorem dX11_cosOf_23 : decode cX11_cosOf 23 = .ok (.iaload, 1) := by decide +kernel
theorem dX11_cosOf_24 : decode cX11_cosOf 24 = .ok (.imul, 1) := by decide +kernel
theorem dX11_cosOf_25 : decode cX11_cosOf 25 = .ok (.aload_n 0, 1) := by decide +kernel
theorem dX11_cosOf_26 : decode cX11_cosOf 26 = .ok (.getfield 51, 3) := by decide +kernel
theorem dX11_cosOf_29 : decode cX11_cosOf 29 = .ok (.iconst 4, 1) := by decide +kernel
theorem dX11_cosOf_30 : decode cX11_cosOf 30 = .ok (.iload_n 1, 1) := by decide +kernel
theorem dX11_cosOf_31 : decode cX11_cosOf 31 = .ok (.imul, 1) := by decide +kernel
theorem dX11_cosOf_32 : decode cX11_cosOf 32 = .ok (.iload_n 2, 1) := by decide +kernel
theorem dX11_cosOf_33 : decode cX11_cosOf 33 = .ok (.iadd, 1) := by decide +kernel
theorem dX11_cosOf_34 : decode cX11_cosOf 34 = .ok (.iaload, 1) := by decide +kernel
theorem dX11_cosOf_35 : decode cX11_cosOf 35 = .ok (.aload_n 0, 1) := by decide +kernel
theorem dX11_cosOf_36 : decode cX11_cosOf 36 = .ok (.getfield 51, 3) := by decide +kernel
theorem dX11_cosOf_39 : decode cX11_cosOf 39 = .ok (.iconst 4, 1) := by decide +kernel
theorem dX11_cosOf_40 : decode cX11_cosOf 40 = .ok (.iload_n 1, 1) := by decide +kernel
theorem dX11_cosOf_41 : decode cX11_cosOf 41 = .ok (.imul, 1) := by decide +kernel
theorem dX11_cosOf_42 : decode cX11_cosOf 42 = .ok (.iload_n 2, 1) := by decide +kernel
theorem dX11_cosOf_43 : decode cX11_cosOf 43 = .ok (.iadd, 1) := by decide +kernel
theorem dX11_cosOf_44 : decode cX11_cosOf 44 = .ok (.iaload, 1) := by decide +kernel
theorem dX11_cosOf_45 : decode cX11_cosOf 45 = .ok (.imul, 1) := by decide +kernel
theorem dX11_cosOf_46 : decode cX11_cosOf 46 = .ok (.isub, 1) := by decide +kernel
theorem dX11_cosOf_47 : decode cX11_cosOf 47 = .ok (.ireturn, 1) := by decide +kernel
theorem dX11_bothOf_0 : decode cX11_bothOf 0 = .ok (.aload_n 0, 1) := by decide +kernel
theorem dX11_bothOf_1 : decode cX11_bothOf 1 = .ok (.iload_n 1, 1) := by decide +kernel
theorem dX11_bothOf_2 : decode cX11_bothOf 2 = .ok (.iconst 0, 1) := by decide +kernel
theorem dX11_bothOf_3 : decode cX11_bothOf 3 = .ok (.invokevirtual 492, 3) := by decide +kernel
theorem dX11_bothOf_6 : decode cX11_bothOf 6 = .ok (.aload_n 0, 1) := by decide +kernel
theorem dX11_bothOf_7 : decode cX11_bothOf 7 = .ok (.iload_n 1, 1) := by decide +kernel
theorem dX11_bothOf_8 : decode cX11_bothOf 8 = .ok (.iconst 2, 1) := by decide +kernel
theorem dX11_bothOf_9 : decode cX11_bothOf 9 = .ok (.invokevirtual 492, 3) := by decide +kernel
theorem dX11_bothOf_12 : decode cX11_bothOf 12 = .ok (.imul, 1) := by decide +kernel
theorem dX11_bothOf_13 : decode cX11_bothOf 13 = .ok (.aload_n 0, 1) := by decide +kernel
theorem dX11_bothOf_14 : decode cX11_bothOf 14 = .ok (.iload_n 1, 1) := by decide +kernel
theorem dX11_bothOf_15 : decode cX11_bothOf 15 = .ok (.iconst 0, 1) := by decide +kernel
theorem dX11_bothOf_16 : decode cX11_bothOf 16 = .ok (.invokevirtual 495, 3) := by decide +kernel
theorem dX11_bothOf_19 : decode cX11_bothOf 19 = .ok (.aload_n 0, 1) := by decide +kernel
theorem dX11_bothOf_20 : decode cX11_bothOf 20 = .ok (.iload_n 1, 1) := by decide +kernel
theorem dX11_bothOf_21 : decode cX11_bothOf 21 = .ok (.iconst 2, 1) := by decide +kernel
theorem dX11_bothOf_22 : decode cX11_bothOf 22 = .ok (.invokevirtual 495, 3) := by decide +kernel
theorem dX11_bothOf_25 : decode cX11_bothOf 25 = .ok (.imul, 1) := by decide +kernel
theorem dX11_bothOf_26 : decode cX11_bothOf 26 = .ok (.iadd, 1) := by decide +kernel
theorem dX11_bothOf_27 : decode cX11_bothOf 27 = .ok (.ireturn, 1) := by decide +kernel
theorem dX11_byOf_0 : decode cX11_byOf 0 = .ok (.aload_n 0, 1) := by decide +kernel
theorem dX11_byOf_1 : decode cX11_byOf 1 = .ok (.iload_n 1, 1) := by decide +kernel
theorem dX11_byOf_2 : decode cX11_byOf 2 = .ok (.iconst 0, 1) := by decide +kernel
theorem dX11_byOf_3 : decode cX11_byOf 3 = .ok (.invokevirtual 498, 3) := by decide +kernel
theorem dX11_byOf_6 : decode cX11_byOf 6 = .ok (.aload_n 0, 1) := by decide +kernel
theorem dX11_byOf_7 : decode cX11_byOf 7 = .ok (.iload_n 1, 1) := by decide +kernel
theorem dX11_byOf_8 : decode cX11_byOf 8 = .ok (.iconst 2, 1) := by decide +kernel
theorem dX11_byOf_9 : decode cX11_byOf 9 = .ok (.invokevirtual 498, 3) := by decide +kernel
theorem dX11_byOf_12 : decode cX11_byOf 12 = .ok (.imul, 1) := by decide +kernel
theorem dX11_byOf_13 : decode cX11_byOf 13 = .ok (.ireturn, 1) := by decide +kernel
theorem dX11_closes_0 : decode cX11_closes 0 = .ok (.iload_n 2, 1) := by decide +kernel
theorem dX11_closes_1 : decode cX11_closes 1 = .ok (.iload_n 2, 1) := by decide +kernel
theorem dX11_closes_2 : decode cX11_closes 2 = .ok (.imul, 1) := by decide +kernel
theorem dX11_closes_3 : decode cX11_closes 3 = .ok (.iload_n 3, 1) := by decide +kernel
theorem dX11_closes_4 : decode cX11_closes 4 = .ok (.iload_n 3, 1) := by decide +kernel
theorem dX11_closes_5 : decode cX11_closes 5 = .ok (.imul, 1) := by decide +kernel
theorem dX11_closes_6 : decode cX11_closes 6 = .ok (.iadd, 1) := by decide +kernel
theorem dX11_closes_7 : decode cX11_closes 7 = .ok (.iload 5, 2) := by decide +kernel
theorem dX11_closes_9 : decode cX11_closes 9 = .ok (.iload 5, 2) := by decide +kernel
theorem dX11_closes_11 : decode cX11_closes 11 = .ok (.imul, 1) := by decide +kernel
theorem dX11_closes_12 : decode cX11_closes 12 = .ok (.iadd, 1) := by decide +kernel
theorem dX11_closes_13 : decode cX11_closes 13 = .ok (.iload 4, 2) := by decide +kernel
theorem dX11_closes_15 : decode cX11_closes 15 = .ok (.iload 4, 2) := by decide +kernel
theorem dX11_closes_17 : decode cX11_closes 17 = .ok (.imul, 1) := by decide +kernel
theorem dX11_closes_18 : decode cX11_closes 18 = .ok (.isub, 1) := by decide +kernel
theorem dX11_closes_19 : decode cX11_closes 19 = .ok (.i2l, 1) := by decide +kernel
theorem dX11_closes_20 : decode cX11_closes 20 = .ok (.lstore 6, 2) := by decide +kernel
theorem dX11_closes_22 : decode cX11_closes 22 = .ok (.lload 6, 2) := by decide +kernel
theorem dX11_closes_24 : decode cX11_closes 24 = .ok (.aload_n 0, 1) := by decide +kernel
theorem dX11_closes_25 : decode cX11_closes 25 = .ok (.iload_n 1, 1) := by decide +kernel
theorem dX11_closes_26 : decode cX11_closes 26 = .ok (.invokevirtual 501, 3) := by decide +kernel
theorem dX11_closes_29 : decode cX11_closes 29 = .ok (.i2l, 1) := by decide +kernel
theorem dX11_closes_30 : decode cX11_closes 30 = .ok (.lmul, 1) := by decide +kernel
theorem dX11_closes_31 : decode cX11_closes 31 = .ok (.ldc2_w 344, 3) := by decide +kernel
theorem dX11_closes_34 : decode cX11_closes 34 = .ok (.iload_n 2, 1) := by decide +kernel
theorem dX11_closes_35 : decode cX11_closes 35 = .ok (.i2l, 1) := by decide +kernel
theorem dX11_closes_36 : decode cX11_closes 36 = .ok (.lmul, 1) := by decide +kernel
theorem dX11_closes_37 : decode cX11_closes 37 = .ok (.iload_n 3, 1) := by decide +kernel
theorem dX11_closes_38 : decode cX11_closes 38 = .ok (.i2l, 1) := by decide +kernel
theorem dX11_closes_39 : decode cX11_closes 39 = .ok (.lmul, 1) := by decide +kernel
theorem dX11_closes_40 : decode cX11_closes 40 = .ok (.aload_n 0, 1) := by decide +kernel
theorem dX11_closes_41 : decode cX11_closes 41 = .ok (.iload_n 1, 1) := by decide +kernel
theorem dX11_closes_42 : decode cX11_closes 42 = .ok (.iconst 0, 1) := by decide +kernel
theorem dX11_closes_43 : decode cX11_closes 43 = .ok (.invokevirtual 492, 3) := by decide +kernel
theorem dX11_closes_46 : decode cX11_closes 46 = .ok (.i2l, 1) := by decide +kernel
theorem dX11_closes_47 : decode cX11_closes 47 = .ok (.lmul, 1) := by decide +kernel
theorem dX11_closes_48 : decode cX11_closes 48 = .ok (.aload_n 0, 1) := by decide +kernel
theorem dX11_closes_49 : decode cX11_closes 49 = .ok (.iload_n 1, 1) := by decide +kernel
theorem dX11_closes_50 : decode cX11_closes 50 = .ok (.iconst 2, 1) := by decide +kernel
theorem dX11_closes_51 : decode cX11_closes 51 = .ok (.invokevirtual 498, 3) := by decide +kernel
theorem dX11_closes_54 : decode cX11_closes 54 = .ok (.i2l, 1) := by decide +kernel
theorem dX11_closes_55 : decode cX11_closes 55 = .ok (.lmul, 1) := by decide +kernel
theorem dX11_closes_56 : decode cX11_closes 56 = .ok (.lsub, 1) := by decide +kernel
theorem dX11_closes_57 : decode cX11_closes 57 = .ok (.ldc2_w 344, 3) := by decide +kernel
theorem dX11_closes_60 : decode cX11_closes 60 = .ok (.iload_n 2, 1) := by decide +kernel
theorem dX11_closes_61 : decode cX11_closes 61 = .ok (.i2l, 1) := by decide +kernel
theorem dX11_closes_62 : decode cX11_closes 62 = .ok (.lmul, 1) := by decide +kernel
theorem dX11_closes_63 : decode cX11_closes 63 = .ok (.iload 5, 2) := by decide +kernel
theorem dX11_closes_65 : decode cX11_closes 65 = .ok (.i2l, 1) := by decide +kernel
theorem dX11_closes_66 : decode cX11_closes 66 = .ok (.lmul, 1) := by decide +kernel
theorem dX11_closes_67 : decode cX11_closes 67 = .ok (.aload_n 0, 1) := by decide +kernel
theorem dX11_closes_68 : decode cX11_closes 68 = .ok (.iload_n 1, 1) := by decide +kernel
theorem dX11_closes_69 : decode cX11_closes 69 = .ok (.iconst 2, 1) := by decide +kernel
theorem dX11_closes_70 : decode cX11_closes 70 = .ok (.invokevirtual 492, 3) := by decide +kernel
theorem dX11_closes_73 : decode cX11_closes 73 = .ok (.i2l, 1) := by decide +kernel
theorem dX11_closes_74 : decode cX11_closes 74 = .ok (.lmul, 1) := by decide +kernel
theorem dX11_closes_75 : decode cX11_closes 75 = .ok (.aload_n 0, 1) := by decide +kernel
theorem dX11_closes_76 : decode cX11_closes 76 = .ok (.iload_n 1, 1) := by decide +kernel
theorem dX11_closes_77 : decode cX11_closes 77 = .ok (.iconst 0, 1) := by decide +kernel
theorem dX11_closes_78 : decode cX11_closes 78 = .ok (.invokevirtual 498, 3) := by decide +kernel
theorem dX11_closes_81 : decode cX11_closes 81 = .ok (.i2l, 1) := by decide +kernel
theorem dX11_closes_82 : decode cX11_closes 82 = .ok (.lmul, 1) := by decide +kernel
theorem dX11_closes_83 : decode cX11_closes 83 = .ok (.ladd, 1) := by decide +kernel
theorem dX11_closes_84 : decode cX11_closes 84 = .ok (.ldc2_w 344, 3) := by decide +kernel
theorem dX11_closes_87 : decode cX11_closes 87 = .ok (.iload_n 3, 1) := by decide +kernel
theorem dX11_closes_88 : decode cX11_closes 88 = .ok (.i2l, 1) := by decide +kernel
theorem dX11_closes_89 : decode cX11_closes 89 = .ok (.lmul, 1) := by decide +kernel
theorem dX11_closes_90 : decode cX11_closes 90 = .ok (.iload 5, 2) := by decide +kernel
theorem dX11_closes_92 : decode cX11_closes 92 = .ok (.i2l, 1) := by decide +kernel
theorem dX11_closes_93 : decode cX11_closes 93 = .ok (.lmul, 1) := by decide +kernel
theorem dX11_closes_94 : decode cX11_closes 94 = .ok (.aload_n 0, 1) := by decide +kernel
theorem dX11_closes_95 : decode cX11_closes 95 = .ok (.iload_n 1, 1) := by decide +kernel
theorem dX11_closes_96 : decode cX11_closes 96 = .ok (.invokevirtual 504, 3) := by decide +kernel
theorem dX11_closes_99 : decode cX11_closes 99 = .ok (.i2l, 1) := by decide +kernel
theorem dX11_closes_100 : decode cX11_closes 100 = .ok (.lmul, 1) := by decide +kernel
theorem dX11_closes_101 : decode cX11_closes 101 = .ok (.lsub, 1) := by decide +kernel
theorem dX11_closes_102 : decode cX11_closes 102 = .ok (.lreturn, 1) := by decide +kernel
theorem dX11_closing_0 : decode cX11_closing 0 = .ok (.aload_n 0, 1) := by decide +kernel
theorem dX11_closing_1 : decode cX11_closing 1 = .ok (.invokevirtual 104, 3) := by decide +kernel
theorem dX11_closing_4 : decode cX11_closing 4 = .ok (.aload_n 0, 1) := by decide +kernel
theorem dX11_closing_5 : decode cX11_closing 5 = .ok (.iload_n 1, 1) := by decide +kernel
theorem dX11_closing_6 : decode cX11_closing 6 = .ok (.invokevirtual 265, 3) := by decide +kernel
theorem dX11_closing_9 : decode cX11_closing 9 = .ok (.ifCond .eq 11, 3) := by decide +kernel
theorem dX11_closing_12 : decode cX11_closing 12 = .ok (.aload_n 0, 1) := by decide +kernel
theorem dX11_closing_13 : decode cX11_closing 13 = .ok (.iload_n 2, 1) := by decide +kernel
theorem dX11_closing_14 : decode cX11_closing 14 = .ok (.invokevirtual 489, 3) := by decide +kernel
theorem dX11_closing_17 : decode cX11_closing 17 = .ok (.ifCond .ne 9, 3) := by decide +kernel
theorem dX11_closing_20 : decode cX11_closing 20 = .ok (.aload_n 0, 1) := by decide +kernel
theorem dX11_closing_21 : decode cX11_closing 21 = .ok (.iconst 1, 1) := by decide +kernel
theorem dX11_closing_22 : decode cX11_closing 22 = .ok (.invokevirtual 304, 3) := by decide +kernel
theorem dX11_closing_25 : decode cX11_closing 25 = .ok (.lreturn, 1) := by decide +kernel
theorem dX11_closing_26 : decode cX11_closing 26 = .ok (.aload_n 0, 1) := by decide +kernel
theorem dX11_closing_27 : decode cX11_closing 27 = .ok (.aload_n 0, 1) := by decide +kernel
theorem dX11_closing_28 : decode cX11_closing 28 = .ok (.iload_n 2, 1) := by decide +kernel
theorem dX11_closing_29 : decode cX11_closing 29 = .ok (.aload_n 0, 1) := by decide +kernel
theorem dX11_closing_30 : decode cX11_closing 30 = .ok (.iload_n 1, 1) := by decide +kernel
theorem dX11_closing_31 : decode cX11_closing 31 = .ok (.iconst 0, 1) := by decide +kernel
theorem dX11_closing_32 : decode cX11_closing 32 = .ok (.invokevirtual 252, 3) := by decide +kernel
theorem dX11_closing_35 : decode cX11_closing 35 = .ok (.aload_n 0, 1) := by decide +kernel
theorem dX11_closing_36 : decode cX11_closing 36 = .ok (.iload_n 1, 1) := by decide +kernel
theorem dX11_closing_37 : decode cX11_closing 37 = .ok (.iconst 1, 1) := by decide +kernel
theorem dX11_closing_38 : decode cX11_closing 38 = .ok (.invokevirtual 252, 3) := by decide +kernel
theorem dX11_closing_41 : decode cX11_closing 41 = .ok (.aload_n 0, 1) := by decide +kernel
theorem dX11_closing_42 : decode cX11_closing 42 = .ok (.iload_n 1, 1) := by decide +kernel
theorem dX11_closing_43 : decode cX11_closing 43 = .ok (.iconst 2, 1) := by decide +kernel
theorem dX11_closing_44 : decode cX11_closing 44 = .ok (.invokevirtual 252, 3) := by decide +kernel
theorem dX11_closing_47 : decode cX11_closing 47 = .ok (.aload_n 0, 1) := by decide +kernel
theorem dX11_closing_48 : decode cX11_closing 48 = .ok (.iload_n 1, 1) := by decide +kernel
theorem dX11_closing_49 : decode cX11_closing 49 = .ok (.iconst 3, 1) := by decide +kernel
theorem dX11_closing_50 : decode cX11_closing 50 = .ok (.invokevirtual 252, 3) := by decide +kernel
theorem dX11_closing_53 : decode cX11_closing 53 = .ok (.invokevirtual 507, 3) := by decide +kernel
theorem dX11_closing_56 : decode cX11_closing 56 = .ok (.aload_n 0, 1) := by decide +kernel
theorem dX11_closing_57 : decode cX11_closing 57 = .ok (.iload_n 2, 1) := by decide +kernel
theorem dX11_closing_58 : decode cX11_closing 58 = .ok (.invokevirtual 501, 3) := by decide +kernel
theorem dX11_closing_61 : decode cX11_closing 61 = .ok (.i2l, 1) := by decide +kernel
theorem dX11_closing_62 : decode cX11_closing 62 = .ok (.iload_n 3, 1) := by decide +kernel
theorem dX11_closing_63 : decode cX11_closing 63 = .ok (.invokevirtual 308, 3) := by decide +kernel
theorem dX11_closing_66 : decode cX11_closing 66 = .ok (.lreturn, 1) := by decide +kernel
theorem dX11_fits_0 : decode cX11_fits 0 = .ok (.iconst 1, 1) := by decide +kernel
theorem dX11_fits_1 : decode cX11_fits 1 = .ok (.istore_n 1, 1) := by decide +kernel
theorem dX11_fits_2 : decode cX11_fits 2 = .ok (.iconst 0, 1) := by decide +kernel
theorem dX11_fits_3 : decode cX11_fits 3 = .ok (.istore_n 2, 1) := by decide +kernel
theorem dX11_fits_4 : decode cX11_fits 4 = .ok (.iload_n 2, 1) := by decide +kernel
theorem dX11_fits_5 : decode cX11_fits 5 = .ok (.sipush 5832, 3) := by decide +kernel
theorem dX11_fits_8 : decode cX11_fits 8 = .ok (.if_icmp .ge 112, 3) := by decide +kernel
theorem dX11_fits_11 : decode cX11_fits 11 = .ok (.iload_n 2, 1) := by decide +kernel
theorem dX11_fits_12 : decode cX11_fits 12 = .ok (.sipush 324, 3) := by decide +kernel
theorem dX11_fits_15 : decode cX11_fits 15 = .ok (.idiv, 1) := by decide +kernel
theorem dX11_fits_16 : decode cX11_fits 16 = .ok (.iconst 1, 1) := by decide +kernel
theorem dX11_fits_17 : decode cX11_fits 17 = .ok (.iadd, 1) := by decide +kernel
theorem dX11_fits_18 : decode cX11_fits 18 = .ok (.istore_n 3, 1) := by decide +kernel
theorem dX11_fits_19 : decode cX11_fits 19 = .ok (.iload_n 2, 1) := by decide +kernel
theorem dX11_fits_20 : decode cX11_fits 20 = .ok (.bipush 18, 2) := by decide +kernel
theorem dX11_fits_22 : decode cX11_fits 22 = .ok (.idiv, 1) := by decide +kernel
theorem dX11_fits_23 : decode cX11_fits 23 = .ok (.bipush 18, 2) := by decide +kernel
theorem dX11_fits_25 : decode cX11_fits 25 = .ok (.irem, 1) := by decide +kernel
theorem dX11_fits_26 : decode cX11_fits 26 = .ok (.iconst 1, 1) := by decide +kernel
theorem dX11_fits_27 : decode cX11_fits 27 = .ok (.iadd, 1) := by decide +kernel
theorem dX11_fits_28 : decode cX11_fits 28 = .ok (.istore 4, 2) := by decide +kernel
theorem dX11_fits_30 : decode cX11_fits 30 = .ok (.iload_n 2, 1) := by decide +kernel
theorem dX11_fits_31 : decode cX11_fits 31 = .ok (.bipush 18, 2) := by decide +kernel
theorem dX11_fits_33 : decode cX11_fits 33 = .ok (.irem, 1) := by decide +kernel
theorem dX11_fits_34 : decode cX11_fits 34 = .ok (.iconst 1, 1) := by decide +kernel
theorem dX11_fits_35 : decode cX11_fits 35 = .ok (.iadd, 1) := by decide +kernel
theorem dX11_fits_36 : decode cX11_fits 36 = .ok (.istore 5, 2) := by decide +kernel
theorem dX11_fits_38 : decode cX11_fits 38 = .ok (.aload_n 0, 1) := by decide +kernel
theorem dX11_fits_39 : decode cX11_fits 39 = .ok (.iload_n 3, 1) := by decide +kernel
theorem dX11_fits_40 : decode cX11_fits 40 = .ok (.iload 4, 2) := by decide +kernel
theorem dX11_fits_42 : decode cX11_fits 42 = .ok (.iload 5, 2) := by decide +kernel
theorem dX11_fits_44 : decode cX11_fits 44 = .ok (.invokevirtual 517, 3) := by decide +kernel
theorem dX11_fits_47 : decode cX11_fits 47 = .ok (.iload_n 1, 1) := by decide +kernel
theorem dX11_fits_48 : decode cX11_fits 48 = .ok (.ifCond .ne 25, 3) := by decide +kernel
theorem dX11_fits_51 : decode cX11_fits 51 = .ok (.aload_n 0, 1) := by decide +kernel
theorem dX11_fits_52 : decode cX11_fits 52 = .ok (.getfield 511, 3) := by decide +kernel
theorem dX11_fits_55 : decode cX11_fits 55 = .ok (.aload_n 0, 1) := by decide +kernel
theorem dX11_fits_56 : decode cX11_fits 56 = .ok (.getfield 520, 3) := by decide +kernel
theorem dX11_fits_59 : decode cX11_fits 59 = .ok (.lmul, 1) := by decide +kernel
theorem dX11_fits_60 : decode cX11_fits 60 = .ok (.aload_n 0, 1) := by decide +kernel
theorem dX11_fits_61 : decode cX11_fits 61 = .ok (.getfield 523, 3) := by decide +kernel
theorem dX11_fits_64 : decode cX11_fits 64 = .ok (.aload_n 0, 1) := by decide +kernel
theorem dX11_fits_65 : decode cX11_fits 65 = .ok (.getfield 514, 3) := by decide +kernel
theorem dX11_fits_68 : decode cX11_fits 68 = .ok (.lmul, 1) := by decide +kernel
theorem dX11_fits_69 : decode cX11_fits 69 = .ok (.lcmp, 1) := by decide +kernel
theorem dX11_fits_70 : decode cX11_fits 70 = .ok (.ifCond .ge 44, 3) := by decide +kernel
theorem dX11_fits_73 : decode cX11_fits 73 = .ok (.iconst 0, 1) := by decide +kernel
theorem dX11_fits_74 : decode cX11_fits 74 = .ok (.istore_n 1, 1) := by decide +kernel
theorem dX11_fits_75 : decode cX11_fits 75 = .ok (.aload_n 0, 1) := by decide +kernel
theorem dX11_fits_76 : decode cX11_fits 76 = .ok (.aload_n 0, 1) := by decide +kernel
theorem dX11_fits_77 : decode cX11_fits 77 = .ok (.getfield 511, 3) := by decide +kernel
theorem dX11_fits_80 : decode cX11_fits 80 = .ok (.putfield 523, 3) := by decide +kernel
theorem dX11_fits_83 : decode cX11_fits 83 = .ok (.aload_n 0, 1) := by decide +kernel
theorem dX11_fits_84 : decode cX11_fits 84 = .ok (.aload_n 0, 1) := by decide +kernel
theorem dX11_fits_85 : decode cX11_fits 85 = .ok (.getfield 514, 3) := by decide +kernel
theorem dX11_fits_88 : decode cX11_fits 88 = .ok (.putfield 520, 3) := by decide +kernel
theorem dX11_fits_91 : decode cX11_fits 91 = .ok (.aload_n 0, 1) := by decide +kernel
theorem dX11_fits_92 : decode cX11_fits 92 = .ok (.getfield 78, 3) := by decide +kernel
theorem dX11_fits_95 : decode cX11_fits 95 = .ok (.iconst 0, 1) := by decide +kernel
theorem dX11_fits_96 : decode cX11_fits 96 = .ok (.iload_n 3, 1) := by decide +kernel
theorem dX11_fits_97 : decode cX11_fits 97 = .ok (.iastore, 1) := by decide +kernel
theorem dX11_fits_98 : decode cX11_fits 98 = .ok (.aload_n 0, 1) := by decide +kernel
theorem dX11_fits_99 : decode cX11_fits 99 = .ok (.getfield 78, 3) := by decide +kernel
theorem dX11_fits_102 : decode cX11_fits 102 = .ok (.iconst 1, 1) := by decide +kernel
theorem dX11_fits_103 : decode cX11_fits 103 = .ok (.iload 4, 2) := by decide +kernel
theorem dX11_fits_105 : decode cX11_fits 105 = .ok (.iastore, 1) := by decide +kernel
theorem dX11_fits_106 : decode cX11_fits 106 = .ok (.aload_n 0, 1) := by decide +kernel
theorem dX11_fits_107 : decode cX11_fits 107 = .ok (.getfield 78, 3) := by decide +kernel
theorem dX11_fits_110 : decode cX11_fits 110 = .ok (.iconst 2, 1) := by decide +kernel
theorem dX11_fits_111 : decode cX11_fits 111 = .ok (.iload 5, 2) := by decide +kernel
theorem dX11_fits_113 : decode cX11_fits 113 = .ok (.iastore, 1) := by decide +kernel
theorem dX11_fits_114 : decode cX11_fits 114 = .ok (.iinc 2 1, 3) := by decide +kernel
theorem dX11_fits_117 : decode cX11_fits 117 = .ok (.goto (-113), 3) := by decide +kernel
theorem dX11_fits_120 : decode cX11_fits 120 = .ok (.return_, 1) := by decide +kernel
theorem dX11_fit_0 : decode cX11_fit 0 = .ok (.aload_n 0, 1) := by decide +kernel
theorem dX11_fit_1 : decode cX11_fit 1 = .ok (.invokevirtual 104, 3) := by decide +kernel
theorem dX11_fit_4 : decode cX11_fit 4 = .ok (.aload_n 0, 1) := by decide +kernel
theorem dX11_fit_5 : decode cX11_fit 5 = .ok (.getfield 233, 3) := by decide +kernel
theorem dX11_fit_8 : decode cX11_fit 8 = .ok (.ifCond .eq 12, 3) := by decide +kernel
theorem dX11_fit_11 : decode cX11_fit 11 = .ok (.iload_n 1, 1) := by decide +kernel
theorem dX11_fit_12 : decode cX11_fit 12 = .ok (.iconst 0, 1) := by decide +kernel
theorem dX11_fit_13 : decode cX11_fit 13 = .ok (.iconst 2, 1) := by decide +kernel
theorem dX11_fit_14 : decode cX11_fit 14 = .ok (.invokestatic 107, 3) := by decide +kernel
theorem dX11_fit_17 : decode cX11_fit 17 = .ok (.ifCond .ne 9, 3) := by decide +kernel
theorem dX11_fit_20 : decode cX11_fit 20 = .ok (.aload_n 0, 1) := by decide +kernel
theorem dX11_fit_21 : decode cX11_fit 21 = .ok (.iconst 1, 1) := by decide +kernel
theorem dX11_fit_22 : decode cX11_fit 22 = .ok (.invokevirtual 115, 3) := by decide +kernel
theorem dX11_fit_25 : decode cX11_fit 25 = .ok (.ireturn, 1) := by decide +kernel
theorem dX11_fit_26 : decode cX11_fit 26 = .ok (.aload_n 0, 1) := by decide +kernel
theorem dX11_fit_27 : decode cX11_fit 27 = .ok (.getfield 242, 3) := by decide +kernel
theorem dX11_fit_30 : decode cX11_fit 30 = .ok (.ifCond .ne 9, 3) := by decide +kernel
theorem dX11_fit_33 : decode cX11_fit 33 = .ok (.aload_n 0, 1) := by decide +kernel
theorem dX11_fit_34 : decode cX11_fit 34 = .ok (.iconst 5, 1) := by decide +kernel
theorem dX11_fit_35 : decode cX11_fit 35 = .ok (.invokevirtual 115, 3) := by decide +kernel
theorem dX11_fit_38 : decode cX11_fit 38 = .ok (.ireturn, 1) := by decide +kernel
theorem dX11_fit_39 : decode cX11_fit 39 = .ok (.aload_n 0, 1) := by decide +kernel
theorem dX11_fit_40 : decode cX11_fit 40 = .ok (.invokevirtual 526, 3) := by decide +kernel
theorem dX11_fit_43 : decode cX11_fit 43 = .ok (.aload_n 0, 1) := by decide +kernel
theorem dX11_fit_44 : decode cX11_fit 44 = .ok (.getfield 78, 3) := by decide +kernel
theorem dX11_fit_47 : decode cX11_fit 47 = .ok (.iload_n 1, 1) := by decide +kernel
theorem dX11_fit_48 : decode cX11_fit 48 = .ok (.iaload, 1) := by decide +kernel
theorem dX11_fit_49 : decode cX11_fit 49 = .ok (.ireturn, 1) := by decide +kernel
theorem dX11_fitMiss_0 : decode cX11_fitMiss 0 = .ok (.aload_n 0, 1) := by decide +kernel
theorem dX11_fitMiss_1 : decode cX11_fitMiss 1 = .ok (.invokevirtual 104, 3) := by decide +kernel
theorem dX11_fitMiss_4 : decode cX11_fitMiss 4 = .ok (.aload_n 0, 1) := by decide +kernel
theorem dX11_fitMiss_5 : decode cX11_fitMiss 5 = .ok (.getfield 233, 3) := by decide +kernel
theorem dX11_fitMiss_8 : decode cX11_fitMiss 8 = .ok (.ifCond .ne 10, 3) := by decide +kernel
theorem dX11_fitMiss_11 : decode cX11_fitMiss 11 = .ok (.aload_n 0, 1) := by decide +kernel
theorem dX11_fitMiss_12 : decode cX11_fitMiss 12 = .ok (.iconst 1, 1) := by decide +kernel
theorem dX11_fitMiss_13 : decode cX11_fitMiss 13 = .ok (.invokevirtual 115, 3) := by decide +kernel
theorem dX11_fitMiss_16 : decode cX11_fitMiss 16 = .ok (.i2l, 1) := by decide +kernel
theorem dX11_fitMiss_17 : decode cX11_fitMiss 17 = .ok (.lreturn, 1) := by decide +kernel
theorem dX11_fitMiss_18 : decode cX11_fitMiss 18 = .ok (.aload_n 0, 1) := by decide +kernel
theorem dX11_fitMiss_19 : decode cX11_fitMiss 19 = .ok (.getfield 242, 3) := by decide +kernel
theorem dX11_fitMiss_22 : decode cX11_fitMiss 22 = .ok (.ifCond .ne 10, 3) := by decide +kernel
theorem dX11_fitMiss_25 : decode cX11_fitMiss 25 = .ok (.aload_n 0, 1) := by decide +kernel
theorem dX11_fitMiss_26 : decode cX11_fitMiss 26 = .ok (.iconst 5, 1) := by decide +kernel
theorem dX11_fitMiss_27 : decode cX11_fitMiss 27 = .ok (.invokevirtual 115, 3) := by decide +kernel
theorem dX11_fitMiss_30 : decode cX11_fitMiss 30 = .ok (.i2l, 1) := by decide +kernel
theorem dX11_fitMiss_31 : decode cX11_fitMiss 31 = .ok (.lreturn, 1) := by decide +kernel
theorem dX11_fitMiss_32 : decode cX11_fitMiss 32 = .ok (.aload_n 0, 1) := by decide +kernel
theorem dX11_fitMiss_33 : decode cX11_fitMiss 33 = .ok (.invokevirtual 526, 3) := by decide +kernel
theorem dX11_fitMiss_36 : decode cX11_fitMiss 36 = .ok (.aload_n 0, 1) := by decide +kernel
theorem dX11_fitMiss_37 : decode cX11_fitMiss 37 = .ok (.aload_n 0, 1) := by decide +kernel
theorem dX11_fitMiss_38 : decode cX11_fitMiss 38 = .ok (.getfield 523, 3) := by decide +kernel
theorem dX11_fitMiss_41 : decode cX11_fitMiss 41 = .ok (.aload_n 0, 1) := by decide +kernel
theorem dX11_fitMiss_42 : decode cX11_fitMiss 42 = .ok (.getfield 520, 3) := by decide +kernel
theorem dX11_fitMiss_45 : decode cX11_fitMiss 45 = .ok (.iload_n 1, 1) := by decide +kernel
theorem dX11_fitMiss_46 : decode cX11_fitMiss 46 = .ok (.invokevirtual 308, 3) := by decide +kernel
theorem dX11_fitMiss_49 : decode cX11_fitMiss 49 = .ok (.lreturn, 1) := by decide +kernel
theorem dX11_begin_0 : decode cX11_begin 0 = .ok (.aload_n 0, 1) := by decide +kernel
theorem dX11_begin_1 : decode cX11_begin 1 = .ok (.invokevirtual 104, 3) := by decide +kernel
theorem dX11_begin_4 : decode cX11_begin 4 = .ok (.aload_n 0, 1) := by decide +kernel
theorem dX11_begin_5 : decode cX11_begin 5 = .ok (.iload_n 1, 1) := by decide +kernel
theorem dX11_begin_6 : decode cX11_begin 6 = .ok (.iload_n 2, 1) := by decide +kernel
theorem dX11_begin_7 : decode cX11_begin 7 = .ok (.iload_n 3, 1) := by decide +kernel
theorem dX11_begin_8 : decode cX11_begin 8 = .ok (.invokevirtual 381, 3) := by decide +kernel
theorem dX11_begin_11 : decode cX11_begin 11 = .ok (.ifCond .ne 10, 3) := by decide +kernel
theorem dX11_begin_14 : decode cX11_begin 14 = .ok (.aload_n 0, 1) := by decide +kernel
theorem dX11_begin_15 : decode cX11_begin 15 = .ok (.iconst 1, 1) := by decide +kernel
theorem dX11_begin_16 : decode cX11_begin 16 = .ok (.putfield 11, 3) := by decide +kernel
theorem dX11_begin_19 : decode cX11_begin 19 = .ok (.iconst 0, 1) := by decide +kernel
theorem dX11_begin_20 : decode cX11_begin 20 = .ok (.ireturn, 1) := by decide +kernel
theorem dX11_begin_21 : decode cX11_begin 21 = .ok (.aload_n 0, 1) := by decide +kernel
theorem dX11_begin_22 : decode cX11_begin 22 = .ok (.iload_n 1, 1) := by decide +kernel
theorem dX11_begin_23 : decode cX11_begin 23 = .ok (.iload_n 2, 1) := by decide +kernel
theorem dX11_begin_24 : decode cX11_begin 24 = .ok (.invokevirtual 318, 3) := by decide +kernel
theorem dX11_begin_27 : decode cX11_begin 27 = .ok (.ifCond .ne 10, 3) := by decide +kernel
theorem dX11_begin_30 : decode cX11_begin 30 = .ok (.aload_n 0, 1) := by decide +kernel
theorem dX11_begin_31 : decode cX11_begin 31 = .ok (.iconst 5, 1) := by decide +kernel
theorem dX11_begin_32 : decode cX11_begin 32 = .ok (.putfield 11, 3) := by decide +kernel
theorem dX11_begin_35 : decode cX11_begin 35 = .ok (.iconst 0, 1) := by decide +kernel
theorem dX11_begin_36 : decode cX11_begin 36 = .ok (.ireturn, 1) := by decide +kernel
theorem dX11_begin_37 : decode cX11_begin 37 = .ok (.aload_n 0, 1) := by decide +kernel
theorem dX11_begin_38 : decode cX11_begin 38 = .ok (.iload_n 1, 1) := by decide +kernel
theorem dX11_begin_39 : decode cX11_begin 39 = .ok (.putfield 85, 3) := by decide +kernel
theorem dX11_begin_42 : decode cX11_begin 42 = .ok (.aload_n 0, 1) := by decide +kernel
theorem dX11_begin_43 : decode cX11_begin 43 = .ok (.iload_n 2, 1) := by decide +kernel
theorem dX11_begin_44 : decode cX11_begin 44 = .ok (.putfield 532, 3) := by decide +kernel
theorem dX11_begin_47 : decode cX11_begin 47 = .ok (.aload_n 0, 1) := by decide +kernel
theorem dX11_begin_48 : decode cX11_begin 48 = .ok (.iload_n 3, 1) := by decide +kernel
theorem dX11_begin_49 : decode cX11_begin 49 = .ok (.putfield 535, 3) := by decide +kernel
theorem dX11_begin_52 : decode cX11_begin 52 = .ok (.aload_n 0, 1) := by decide +kernel
theorem dX11_begin_53 : decode cX11_begin 53 = .ok (.iconst 0, 1) := by decide +kernel
theorem dX11_begin_54 : decode cX11_begin 54 = .ok (.putfield 538, 3) := by decide +kernel
theorem dX11_begin_57 : decode cX11_begin 57 = .ok (.iconst 1, 1) := by decide +kernel
theorem dX11_begin_58 : decode cX11_begin 58 = .ok (.ireturn, 1) := by decide +kernel
theorem dX11_isDead_0 : decode cX11_isDead 0 = .ok (.aload_n 0, 1) := by decide +kernel
theorem dX11_isDead_1 : decode cX11_isDead 1 = .ok (.aload_n 0, 1) := by decide +kernel
theorem dX11_isDead_2 : decode cX11_isDead 2 = .ok (.getfield 85, 3) := by decide +kernel
theorem dX11_isDead_5 : decode cX11_isDead 5 = .ok (.iload_n 1, 1) := by decide +kernel
theorem dX11_isDead_6 : decode cX11_isDead 6 = .ok (.invokevirtual 318, 3) := by decide +kernel
theorem dX11_isDead_9 : decode cX11_isDead 9 = .ok (.ifCond .eq 16, 3) := by decide +kernel
theorem dX11_isDead_12 : decode cX11_isDead 12 = .ok (.aload_n 0, 1) := by decide +kernel
theorem dX11_isDead_13 : decode cX11_isDead 13 = .ok (.getfield 321, 3) := by decide +kernel
theorem dX11_isDead_16 : decode cX11_isDead 16 = .ok (.lconst 0, 1) := by decide +kernel
theorem dX11_isDead_17 : decode cX11_isDead 17 = .ok (.lcmp, 1) := by decide +kernel
theorem dX11_isDead_18 : decode cX11_isDead 18 = .ok (.ifCond .ne 7, 3) := by decide +kernel
theorem dX11_isDead_21 : decode cX11_isDead 21 = .ok (.iconst 1, 1) := by decide +kernel
theorem dX11_isDead_22 : decode cX11_isDead 22 = .ok (.goto 4, 3) := by decide +kernel
theorem dX11_isDead_25 : decode cX11_isDead 25 = .ok (.iconst 0, 1) := by decide +kernel
theorem dX11_isDead_26 : decode cX11_isDead 26 = .ok (.ireturn, 1) := by decide +kernel
theorem dX11_flip_0 : decode cX11_flip 0 = .ok (.aload_n 0, 1) := by decide +kernel
theorem dX11_flip_1 : decode cX11_flip 1 = .ok (.invokevirtual 104, 3) := by decide +kernel
theorem dX11_flip_4 : decode cX11_flip 4 = .ok (.aload_n 0, 1) := by decide +kernel
theorem dX11_flip_5 : decode cX11_flip 5 = .ok (.getfield 85, 3) := by decide +kernel
theorem dX11_flip_8 : decode cX11_flip 8 = .ok (.iconst (-1), 1) := by decide +kernel
theorem dX11_flip_9 : decode cX11_flip 9 = .ok (.if_icmp .eq 14, 3) := by decide +kernel
theorem dX11_flip_12 : decode cX11_flip 12 = .ok (.aload_n 0, 1) := by decide +kernel
theorem dX11_flip_13 : decode cX11_flip 13 = .ok (.aload_n 0, 1) := by decide +kernel
theorem dX11_flip_14 : decode cX11_flip 14 = .ok (.getfield 532, 3) := by decide +kernel
theorem dX11_flip_17 : decode cX11_flip 17 = .ok (.invokevirtual 541, 3) := by decide +kernel
theorem dX11_flip_20 : decode cX11_flip 20 = .ok (.ifCond .ne 9, 3) := by decide +kernel
theorem dX11_flip_23 : decode cX11_flip 23 = .ok (.aload_n 0, 1) := by decide +kernel
theorem dX11_flip_24 : decode cX11_flip 24 = .ok (.iconst 5, 1) := by decide +kernel
theorem dX11_flip_25 : decode cX11_flip 25 = .ok (.invokevirtual 115, 3) := by decide +kernel
theorem dX11_flip_28 : decode cX11_flip 28 = .ok (.ireturn, 1) := by decide +kernel
theorem dX11_flip_29 : decode cX11_flip 29 = .ok (.aload_n 0, 1) := by decide +kernel
theorem dX11_flip_30 : decode cX11_flip 30 = .ok (.iconst 1, 1) := by decide +kernel
theorem dX11_flip_31 : decode cX11_flip 31 = .ok (.aload_n 0, 1) := by decide +kernel
theorem dX11_flip_32 : decode cX11_flip 32 = .ok (.getfield 535, 3) := by decide +kernel
theorem dX11_flip_35 : decode cX11_flip 35 = .ok (.isub, 1) := by decide +kernel
theorem dX11_flip_36 : decode cX11_flip 36 = .ok (.putfield 535, 3) := by decide +kernel
theorem dX11_flip_39 : decode cX11_flip 39 = .ok (.aload_n 0, 1) := by decide +kernel
theorem dX11_flip_40 : decode cX11_flip 40 = .ok (.dup, 1) := by decide +kernel
theorem dX11_flip_41 : decode cX11_flip 41 = .ok (.getfield 538, 3) := by decide +kernel
theorem dX11_flip_44 : decode cX11_flip 44 = .ok (.iconst 1, 1) := by decide +kernel
theorem dX11_flip_45 : decode cX11_flip 45 = .ok (.iadd, 1) := by decide +kernel
theorem dX11_flip_46 : decode cX11_flip 46 = .ok (.putfield 538, 3) := by decide +kernel
theorem dX11_flip_49 : decode cX11_flip 49 = .ok (.aload_n 0, 1) := by decide +kernel
theorem dX11_flip_50 : decode cX11_flip 50 = .ok (.getfield 535, 3) := by decide +kernel
theorem dX11_flip_53 : decode cX11_flip 53 = .ok (.ireturn, 1) := by decide +kernel
theorem dX11_away_0 : decode cX11_away 0 = .ok (.aload_n 0, 1) := by decide +kernel
theorem dX11_away_1 : decode cX11_away 1 = .ok (.invokevirtual 104, 3) := by decide +kernel
theorem dX11_away_4 : decode cX11_away 4 = .ok (.aload_n 0, 1) := by decide +kernel
theorem dX11_away_5 : decode cX11_away 5 = .ok (.getfield 85, 3) := by decide +kernel
theorem dX11_away_8 : decode cX11_away 8 = .ok (.iconst (-1), 1) := by decide +kernel
theorem dX11_away_9 : decode cX11_away 9 = .ok (.if_icmp .ne 9, 3) := by decide +kernel
theorem dX11_away_12 : decode cX11_away 12 = .ok (.aload_n 0, 1) := by decide +kernel
theorem dX11_away_13 : decode cX11_away 13 = .ok (.iconst 5, 1) := by decide +kernel
theorem dX11_away_14 : decode cX11_away 14 = .ok (.invokevirtual 115, 3) := by decide +kernel
theorem dX11_away_17 : decode cX11_away 17 = .ok (.ireturn, 1) := by decide +kernel
theorem dX11_away_18 : decode cX11_away 18 = .ok (.aload_n 0, 1) := by decide +kernel
theorem dX11_away_19 : decode cX11_away 19 = .ok (.iload_n 1, 1) := by decide +kernel
theorem dX11_away_20 : decode cX11_away 20 = .ok (.invokevirtual 334, 3) := by decide +kernel
theorem dX11_away_23 : decode cX11_away 23 = .ok (.ifCond .eq 12, 3) := by decide +kernel
theorem dX11_away_26 : decode cX11_away 26 = .ok (.iload_n 2, 1) := by decide +kernel
theorem dX11_away_27 : decode cX11_away 27 = .ok (.iconst 0, 1) := by decide +kernel
theorem dX11_away_28 : decode cX11_away 28 = .ok (.iconst 1, 1) := by decide +kernel
theorem dX11_away_29 : decode cX11_away 29 = .ok (.invokestatic 107, 3) := by decide +kernel
theorem dX11_away_32 : decode cX11_away 32 = .ok (.ifCond .ne 9, 3) := by decide +kernel
theorem dX11_away_35 : decode cX11_away 35 = .ok (.aload_n 0, 1) := by decide +kernel
theorem dX11_away_36 : decode cX11_away 36 = .ok (.iconst 1, 1) := by decide +kernel
theorem dX11_away_37 : decode cX11_away 37 = .ok (.invokevirtual 115, 3) := by decide +kernel
theorem dX11_away_40 : decode cX11_away 40 = .ok (.ireturn, 1) := by decide +kernel
theorem dX11_away_41 : decode cX11_away 41 = .ok (.iconst 0, 1) := by decide +kernel
theorem dX11_away_42 : decode cX11_away 42 = .ok (.istore_n 3, 1) := by decide +kernel
theorem dX11_away_43 : decode cX11_away 43 = .ok (.iload_n 3, 1) := by decide +kernel
theorem dX11_away_44 : decode cX11_away 44 = .ok (.sipush 128, 3) := by decide +kernel
theorem dX11_away_47 : decode cX11_away 47 = .ok (.if_icmp .ge 17, 3) := by decide +kernel
theorem dX11_away_50 : decode cX11_away 50 = .ok (.aload_n 0, 1) := by decide +kernel
theorem dX11_away_51 : decode cX11_away 51 = .ok (.getfield 88, 3) := by decide +kernel
theorem dX11_away_54 : decode cX11_away 54 = .ok (.iload_n 3, 1) := by decide +kernel
theorem dX11_away_55 : decode cX11_away 55 = .ok (.bipush (-2), 2) := by decide +kernel
theorem dX11_away_57 : decode cX11_away 57 = .ok (.iastore, 1) := by decide +kernel
theorem dX11_away_58 : decode cX11_away 58 = .ok (.iinc 3 1, 3) := by decide +kernel
theorem dX11_away_61 : decode cX11_away 61 = .ok (.goto (-18), 3) := by decide +kernel
theorem dX11_away_64 : decode cX11_away 64 = .ok (.aload_n 0, 1) := by decide +kernel
theorem dX11_away_65 : decode cX11_away 65 = .ok (.iconst 0, 1) := by decide +kernel
theorem dX11_away_66 : decode cX11_away 66 = .ok (.putfield 544, 3) := by decide +kernel
theorem dX11_away_69 : decode cX11_away 69 = .ok (.aload_n 0, 1) := by decide +kernel
theorem dX11_away_70 : decode cX11_away 70 = .ok (.iconst 2, 1) := by decide +kernel
theorem dX11_away_71 : decode cX11_away 71 = .ok (.aload_n 0, 1) := by decide +kernel
theorem dX11_away_72 : decode cX11_away 72 = .ok (.getfield 532, 3) := by decide +kernel
theorem dX11_away_75 : decode cX11_away 75 = .ok (.imul, 1) := by decide +kernel
theorem dX11_away_76 : decode cX11_away 76 = .ok (.aload_n 0, 1) := by decide +kernel
theorem dX11_away_77 : decode cX11_away 77 = .ok (.getfield 535, 3) := by decide +kernel
theorem dX11_away_80 : decode cX11_away 80 = .ok (.iadd, 1) := by decide +kernel
theorem dX11_away_81 : decode cX11_away 81 = .ok (.iconst 0, 1) := by decide +kernel
theorem dX11_away_82 : decode cX11_away 82 = .ok (.invokevirtual 547, 3) := by decide +kernel
theorem dX11_away_85 : decode cX11_away 85 = .ok (.iconst 0, 1) := by decide +kernel
theorem dX11_away_86 : decode cX11_away 86 = .ok (.istore_n 3, 1) := by decide +kernel
theorem dX11_away_87 : decode cX11_away 87 = .ok (.iload_n 3, 1) := by decide +kernel
theorem dX11_away_88 : decode cX11_away 88 = .ok (.aload_n 0, 1) := by decide +kernel
theorem dX11_away_89 : decode cX11_away 89 = .ok (.getfield 544, 3) := by decide +kernel
theorem dX11_away_92 : decode cX11_away 92 = .ok (.if_icmp .ge 102, 3) := by decide +kernel
theorem dX11_away_95 : decode cX11_away 95 = .ok (.aload_n 0, 1) := by decide +kernel
theorem dX11_away_96 : decode cX11_away 96 = .ok (.getfield 91, 3) := by decide +kernel
theorem dX11_away_99 : decode cX11_away 99 = .ok (.iload_n 3, 1) := by decide +kernel
theorem dX11_away_100 : decode cX11_away 100 = .ok (.iaload, 1) := by decide +kernel
theorem dX11_away_101 : decode cX11_away 101 = .ok (.istore 4, 2) := by decide +kernel
theorem dX11_away_103 : decode cX11_away 103 = .ok (.aload_n 0, 1) := by decide +kernel
theorem dX11_away_104 : decode cX11_away 104 = .ok (.getfield 88, 3) := by decide +kernel
theorem dX11_away_107 : decode cX11_away 107 = .ok (.iload 4, 2) := by decide +kernel
theorem dX11_away_109 : decode cX11_away 109 = .ok (.iaload, 1) := by decide +kernel
theorem dX11_away_110 : decode cX11_away 110 = .ok (.iconst 1, 1) := by decide +kernel
theorem dX11_away_111 : decode cX11_away 111 = .ok (.iadd, 1) := by decide +kernel
theorem dX11_away_112 : decode cX11_away 112 = .ok (.istore 5, 2) := by decide +kernel
theorem dX11_away_114 : decode cX11_away 114 = .ok (.aload_n 0, 1) := by decide +kernel
theorem dX11_away_115 : decode cX11_away 115 = .ok (.iconst 2, 1) := by decide +kernel
theorem dX11_away_116 : decode cX11_away 116 = .ok (.aload_n 0, 1) := by decide +kernel
theorem dX11_away_117 : decode cX11_away 117 = .ok (.iload 4, 2) := by decide +kernel
theorem dX11_away_119 : decode cX11_away 119 = .ok (.iconst 2, 1) := by decide +kernel
theorem dX11_away_120 : decode cX11_away 120 = .ok (.idiv, 1) := by decide +kernel
theorem dX11_away_121 : decode cX11_away 121 = .ok (.iconst 1, 1) := by decide +kernel
theorem dX11_away_122 : decode cX11_away 122 = .ok (.invokevirtual 337, 3) := by decide +kernel
theorem dX11_away_125 : decode cX11_away 125 = .ok (.imul, 1) := by decide +kernel
theorem dX11_away_126 : decode cX11_away 126 = .ok (.iload 4, 2) := by decide +kernel
theorem dX11_away_128 : decode cX11_away 128 = .ok (.iconst 2, 1) := by decide +kernel
theorem dX11_away_129 : decode cX11_away 129 = .ok (.irem, 1) := by decide +kernel
theorem dX11_away_130 : decode cX11_away 130 = .ok (.iadd, 1) := by decide +kernel
theorem dX11_away_131 : decode cX11_away 131 = .ok (.iload 5, 2) := by decide +kernel
theorem dX11_away_133 : decode cX11_away 133 = .ok (.invokevirtual 547, 3) := by decide +kernel
theorem dX11_away_136 : decode cX11_away 136 = .ok (.aload_n 0, 1) := by decide +kernel
theorem dX11_away_137 : decode cX11_away 137 = .ok (.iconst 2, 1) := by decide +kernel
theorem dX11_away_138 : decode cX11_away 138 = .ok (.aload_n 0, 1) := by decide +kernel
theorem dX11_away_139 : decode cX11_away 139 = .ok (.iload 4, 2) := by decide +kernel
theorem dX11_away_141 : decode cX11_away 141 = .ok (.iconst 2, 1) := by decide +kernel
theorem dX11_away_142 : decode cX11_away 142 = .ok (.idiv, 1) := by decide +kernel
theorem dX11_away_143 : decode cX11_away 143 = .ok (.iconst (-1), 1) := by decide +kernel
theorem dX11_away_144 : decode cX11_away 144 = .ok (.invokevirtual 337, 3) := by decide +kernel
theorem dX11_away_147 : decode cX11_away 147 = .ok (.imul, 1) := by decide +kernel
theorem dX11_away_148 : decode cX11_away 148 = .ok (.iload 4, 2) := by decide +kernel
theorem dX11_away_150 : decode cX11_away 150 = .ok (.iconst 2, 1) := by decide +kernel
theorem dX11_away_151 : decode cX11_away 151 = .ok (.irem, 1) := by decide +kernel
theorem dX11_away_152 : decode cX11_away 152 = .ok (.iadd, 1) := by decide +kernel
theorem dX11_away_153 : decode cX11_away 153 = .ok (.iload 5, 2) := by decide +kernel
theorem dX11_away_155 : decode cX11_away 155 = .ok (.invokevirtual 547, 3) := by decide +kernel
theorem dX11_away_158 : decode cX11_away 158 = .ok (.aload_n 0, 1) := by decide +kernel
theorem dX11_away_159 : decode cX11_away 159 = .ok (.iload 4, 2) := by decide +kernel
theorem dX11_away_161 : decode cX11_away 161 = .ok (.iconst 2, 1) := by decide +kernel
theorem dX11_away_162 : decode cX11_away 162 = .ok (.idiv, 1) := by decide +kernel
theorem dX11_away_163 : decode cX11_away 163 = .ok (.invokevirtual 541, 3) := by decide +kernel
theorem dX11_away_166 : decode cX11_away 166 = .ok (.ifCond .eq 22, 3) := by decide +kernel
theorem dX11_away_169 : decode cX11_away 169 = .ok (.aload_n 0, 1) := by decide +kernel
theorem dX11_away_170 : decode cX11_away 170 = .ok (.iload 4, 2) := by decide +kernel
theorem dX11_away_172 : decode cX11_away 172 = .ok (.iconst 2, 1) := by decide +kernel
theorem dX11_away_173 : decode cX11_away 173 = .ok (.idiv, 1) := by decide +kernel
theorem dX11_away_174 : decode cX11_away 174 = .ok (.iconst 2, 1) := by decide +kernel
theorem dX11_away_175 : decode cX11_away 175 = .ok (.imul, 1) := by decide +kernel
theorem dX11_away_176 : decode cX11_away 176 = .ok (.iconst 1, 1) := by decide +kernel
theorem dX11_away_177 : decode cX11_away 177 = .ok (.iadd, 1) := by decide +kernel
theorem dX11_away_178 : decode cX11_away 178 = .ok (.iload 4, 2) := by decide +kernel
theorem dX11_away_180 : decode cX11_away 180 = .ok (.iconst 2, 1) := by decide +kernel
theorem dX11_away_181 : decode cX11_away 181 = .ok (.irem, 1) := by decide +kernel
theorem dX11_away_182 : decode cX11_away 182 = .ok (.isub, 1) := by decide +kernel
theorem dX11_away_183 : decode cX11_away 183 = .ok (.iload 5, 2) := by decide +kernel
theorem dX11_away_185 : decode cX11_away 185 = .ok (.invokevirtual 547, 3) := by decide +kernel
theorem dX11_away_188 : decode cX11_away 188 = .ok (.iinc 3 1, 3) := by decide +kernel
theorem dX11_away_191 : decode cX11_away 191 = .ok (.goto (-104), 3) := by decide +kernel
theorem dX11_away_194 : decode cX11_away 194 = .ok (.aload_n 0, 1) := by decide +kernel
theorem dX11_away_195 : decode cX11_away 195 = .ok (.getfield 88, 3) := by decide +kernel
theorem dX11_away_198 : decode cX11_away 198 = .ok (.iconst 2, 1) := by decide +kernel
theorem dX11_away_199 : decode cX11_away 199 = .ok (.iload_n 1, 1) := by decide +kernel
theorem dX11_away_200 : decode cX11_away 200 = .ok (.imul, 1) := by decide +kernel
theorem dX11_away_201 : decode cX11_away 201 = .ok (.iload_n 2, 1) := by decide +kernel
theorem dX11_away_202 : decode cX11_away 202 = .ok (.iadd, 1) := by decide +kernel
theorem dX11_away_203 : decode cX11_away 203 = .ok (.iaload, 1) := by decide +kernel
theorem dX11_away_204 : decode cX11_away 204 = .ok (.ireturn, 1) := by decide +kernel
