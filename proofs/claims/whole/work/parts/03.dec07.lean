theorem dX10_scan_95 : decode cX10_scan 95 = .ok (.ldc2_w 247, 3) := by decide +kernel
theorem dX10_scan_98 : decode cX10_scan 98 = .ok (.invokestatic 62, 3) := by decide +kernel
theorem dX10_scan_101 : decode cX10_scan 101 = .ok (.ifCond .eq 16, 3) := by decide +kernel
theorem dX10_scan_104 : decode cX10_scan 104 = .ok (.aload_n 0, 1) := by decide +kernel
theorem dX10_scan_105 : decode cX10_scan 105 = .ok (.dup, 1) := by decide +kernel
theorem dX10_scan_106 : decode cX10_scan 106 = .ok (.getfield 236, 3) := by decide +kernel
theorem dX10_scan_109 : decode cX10_scan 109 = .ok (.iconst 1, 1) := by decide +kernel
theorem dX10_scan_110 : decode cX10_scan 110 = .ok (.iadd, 1) := by decide +kernel
theorem dX10_scan_111 : decode cX10_scan 111 = .ok (.putfield 236, 3) := by decide +kernel
theorem dX10_scan_114 : decode cX10_scan 114 = .ok (.goto (-31), 3) := by decide +kernel
theorem dX10_scan_117 : decode cX10_scan 117 = .ok (.aload_n 0, 1) := by decide +kernel
theorem dX10_scan_118 : decode cX10_scan 118 = .ok (.iconst 1, 1) := by decide +kernel
theorem dX10_scan_119 : decode cX10_scan 119 = .ok (.putfield 242, 3) := by decide +kernel
theorem dX10_scan_122 : decode cX10_scan 122 = .ok (.goto 113, 3) := by decide +kernel
theorem dX10_scan_125 : decode cX10_scan 125 = .ok (.iload_n 1, 1) := by decide +kernel
theorem dX10_scan_126 : decode cX10_scan 126 = .ok (.i2l, 1) := by decide +kernel
theorem dX10_scan_127 : decode cX10_scan 127 = .ok (.ldc2_w 249, 3) := by decide +kernel
theorem dX10_scan_130 : decode cX10_scan 130 = .ok (.ldc2_w 251, 3) := by decide +kernel
theorem dX10_scan_133 : decode cX10_scan 133 = .ok (.invokestatic 62, 3) := by decide +kernel
theorem dX10_scan_136 : decode cX10_scan 136 = .ok (.ifCond .eq 79, 3) := by decide +kernel
theorem dX10_scan_139 : decode cX10_scan 139 = .ok (.aload_n 0, 1) := by decide +kernel
theorem dX10_scan_140 : decode cX10_scan 140 = .ok (.iconst 0, 1) := by decide +kernel
theorem dX10_scan_141 : decode cX10_scan 141 = .ok (.putfield 253, 3) := by decide +kernel
theorem dX10_scan_144 : decode cX10_scan 144 = .ok (.aload_n 0, 1) := by decide +kernel
theorem dX10_scan_145 : decode cX10_scan 145 = .ok (.aload_n 0, 1) := by decide +kernel
theorem dX10_scan_146 : decode cX10_scan 146 = .ok (.getfield 236, 3) := by decide +kernel
theorem dX10_scan_149 : decode cX10_scan 149 = .ok (.invokevirtual 239, 3) := by decide +kernel
theorem dX10_scan_152 : decode cX10_scan 152 = .ok (.i2l, 1) := by decide +kernel
theorem dX10_scan_153 : decode cX10_scan 153 = .ok (.ldc2_w 249, 3) := by decide +kernel
theorem dX10_scan_156 : decode cX10_scan 156 = .ok (.ldc2_w 251, 3) := by decide +kernel
theorem dX10_scan_159 : decode cX10_scan 159 = .ok (.invokestatic 62, 3) := by decide +kernel
theorem dX10_scan_162 : decode cX10_scan 162 = .ok (.ifCond .eq 45, 3) := by decide +kernel
theorem dX10_scan_165 : decode cX10_scan 165 = .ok (.aload_n 0, 1) := by decide +kernel
theorem dX10_scan_166 : decode cX10_scan 166 = .ok (.ldc_w 256, 3) := by decide +kernel
theorem dX10_scan_169 : decode cX10_scan 169 = .ok (.bipush 10, 2) := by decide +kernel
theorem dX10_scan_171 : decode cX10_scan 171 = .ok (.aload_n 0, 1) := by decide +kernel
theorem dX10_scan_172 : decode cX10_scan 172 = .ok (.getfield 253, 3) := by decide +kernel
theorem dX10_scan_175 : decode cX10_scan 175 = .ok (.imul, 1) := by decide +kernel
theorem dX10_scan_176 : decode cX10_scan 176 = .ok (.aload_n 0, 1) := by decide +kernel
theorem dX10_scan_177 : decode cX10_scan 177 = .ok (.aload_n 0, 1) := by decide +kernel
theorem dX10_scan_178 : decode cX10_scan 178 = .ok (.getfield 236, 3) := by decide +kernel
theorem dX10_scan_181 : decode cX10_scan 181 = .ok (.invokevirtual 239, 3) := by decide +kernel
theorem dX10_scan_184 : decode cX10_scan 184 = .ok (.iadd, 1) := by decide +kernel
theorem dX10_scan_185 : decode cX10_scan 185 = .ok (.bipush 48, 2) := by decide +kernel
theorem dX10_scan_187 : decode cX10_scan 187 = .ok (.isub, 1) := by decide +kernel
theorem dX10_scan_188 : decode cX10_scan 188 = .ok (.invokestatic 170, 3) := by decide +kernel
theorem dX10_scan_191 : decode cX10_scan 191 = .ok (.putfield 253, 3) := by decide +kernel
theorem dX10_scan_194 : decode cX10_scan 194 = .ok (.aload_n 0, 1) := by decide +kernel
theorem dX10_scan_195 : decode cX10_scan 195 = .ok (.dup, 1) := by decide +kernel
theorem dX10_scan_196 : decode cX10_scan 196 = .ok (.getfield 236, 3) := by decide +kernel
theorem dX10_scan_199 : decode cX10_scan 199 = .ok (.iconst 1, 1) := by decide +kernel
theorem dX10_scan_200 : decode cX10_scan 200 = .ok (.iadd, 1) := by decide +kernel
theorem dX10_scan_201 : decode cX10_scan 201 = .ok (.putfield 236, 3) := by decide +kernel
theorem dX10_scan_204 : decode cX10_scan 204 = .ok (.goto (-60), 3) := by decide +kernel
theorem dX10_scan_207 : decode cX10_scan 207 = .ok (.aload_n 0, 1) := by decide +kernel
theorem dX10_scan_208 : decode cX10_scan 208 = .ok (.iconst 2, 1) := by decide +kernel
theorem dX10_scan_209 : decode cX10_scan 209 = .ok (.putfield 242, 3) := by decide +kernel
theorem dX10_scan_212 : decode cX10_scan 212 = .ok (.goto 23, 3) := by decide +kernel
theorem dX10_scan_215 : decode cX10_scan 215 = .ok (.aload_n 0, 1) := by decide +kernel
theorem dX10_scan_216 : decode cX10_scan 216 = .ok (.iconst 3, 1) := by decide +kernel
theorem dX10_scan_217 : decode cX10_scan 217 = .ok (.putfield 242, 3) := by decide +kernel
theorem dX10_scan_220 : decode cX10_scan 220 = .ok (.aload_n 0, 1) := by decide +kernel
theorem dX10_scan_221 : decode cX10_scan 221 = .ok (.iload_n 1, 1) := by decide +kernel
theorem dX10_scan_222 : decode cX10_scan 222 = .ok (.putfield 253, 3) := by decide +kernel
theorem dX10_scan_225 : decode cX10_scan 225 = .ok (.aload_n 0, 1) := by decide +kernel
theorem dX10_scan_226 : decode cX10_scan 226 = .ok (.dup, 1) := by decide +kernel
theorem dX10_scan_227 : decode cX10_scan 227 = .ok (.getfield 236, 3) := by decide +kernel
theorem dX10_scan_230 : decode cX10_scan 230 = .ok (.iconst 1, 1) := by decide +kernel
theorem dX10_scan_231 : decode cX10_scan 231 = .ok (.iadd, 1) := by decide +kernel
theorem dX10_scan_232 : decode cX10_scan 232 = .ok (.putfield 236, 3) := by decide +kernel
theorem dX10_scan_235 : decode cX10_scan 235 = .ok (.return_, 1) := by decide +kernel
theorem dX10_goOn_0 : decode cX10_goOn 0 = .ok (.aload_n 0, 1) := by decide +kernel
theorem dX10_goOn_1 : decode cX10_goOn 1 = .ok (.invokevirtual 226, 3) := by decide +kernel
theorem dX10_goOn_4 : decode cX10_goOn 4 = .ok (.ifCond .eq 7, 3) := by decide +kernel
theorem dX10_goOn_7 : decode cX10_goOn 7 = .ok (.aload_n 0, 1) := by decide +kernel
theorem dX10_goOn_8 : decode cX10_goOn 8 = .ok (.invokevirtual 257, 3) := by decide +kernel
theorem dX10_goOn_11 : decode cX10_goOn 11 = .ok (.return_, 1) := by decide +kernel
theorem dX10_isText_0 : decode cX10_isText 0 = .ok (.aload_n 0, 1) := by decide +kernel
theorem dX10_isText_1 : decode cX10_isText 1 = .ok (.invokevirtual 226, 3) := by decide +kernel
theorem dX10_isText_4 : decode cX10_isText 4 = .ok (.ifCond .eq 31, 3) := by decide +kernel
theorem dX10_isText_7 : decode cX10_isText 7 = .ok (.aload_n 0, 1) := by decide +kernel
theorem dX10_isText_8 : decode cX10_isText 8 = .ok (.getfield 242, 3) := by decide +kernel
theorem dX10_isText_11 : decode cX10_isText 11 = .ok (.iconst 1, 1) := by decide +kernel
theorem dX10_isText_12 : decode cX10_isText 12 = .ok (.if_icmp .ne 23, 3) := by decide +kernel
theorem dX10_isText_15 : decode cX10_isText 15 = .ok (.aload_n 0, 1) := by decide +kernel
theorem dX10_isText_16 : decode cX10_isText 16 = .ok (.getfield 236, 3) := by decide +kernel
theorem dX10_isText_19 : decode cX10_isText 19 = .ok (.aload_n 0, 1) := by decide +kernel
theorem dX10_isText_20 : decode cX10_isText 20 = .ok (.getfield 230, 3) := by decide +kernel
theorem dX10_isText_23 : decode cX10_isText 23 = .ok (.isub, 1) := by decide +kernel
theorem dX10_isText_24 : decode cX10_isText 24 = .ok (.aload_n 1, 1) := by decide +kernel
theorem dX10_isText_25 : decode cX10_isText 25 = .ok (.invokevirtual 260, 3) := by decide +kernel
theorem dX10_isText_28 : decode cX10_isText 28 = .ok (.if_icmp .ne 7, 3) := by decide +kernel
theorem dX10_isText_31 : decode cX10_isText 31 = .ok (.iconst 1, 1) := by decide +kernel
theorem dX10_isText_32 : decode cX10_isText 32 = .ok (.goto 4, 3) := by decide +kernel
theorem dX10_isText_35 : decode cX10_isText 35 = .ok (.iconst 0, 1) := by decide +kernel
theorem dX10_isText_36 : decode cX10_isText 36 = .ok (.istore_n 2, 1) := by decide +kernel
theorem dX10_isText_37 : decode cX10_isText 37 = .ok (.iconst 0, 1) := by decide +kernel
theorem dX10_isText_38 : decode cX10_isText 38 = .ok (.istore_n 3, 1) := by decide +kernel
theorem dX10_isText_39 : decode cX10_isText 39 = .ok (.iload_n 3, 1) := by decide +kernel
theorem dX10_isText_40 : decode cX10_isText 40 = .ok (.aload_n 1, 1) := by decide +kernel
theorem dX10_isText_41 : decode cX10_isText 41 = .ok (.invokevirtual 260, 3) := by decide +kernel
theorem dX10_isText_44 : decode cX10_isText 44 = .ok (.if_icmp .ge 38, 3) := by decide +kernel
theorem dX10_isText_47 : decode cX10_isText 47 = .ok (.iload_n 2, 1) := by decide +kernel
theorem dX10_isText_48 : decode cX10_isText 48 = .ok (.ifCond .eq 34, 3) := by decide +kernel
theorem dX10_isText_51 : decode cX10_isText 51 = .ok (.aload_n 0, 1) := by decide +kernel
theorem dX10_isText_52 : decode cX10_isText 52 = .ok (.getfield 46, 3) := by decide +kernel
theorem dX10_isText_55 : decode cX10_isText 55 = .ok (.aload_n 0, 1) := by decide +kernel
theorem dX10_isText_56 : decode cX10_isText 56 = .ok (.getfield 230, 3) := by decide +kernel
theorem dX10_isText_59 : decode cX10_isText 59 = .ok (.iload_n 3, 1) := by decide +kernel
theorem dX10_isText_60 : decode cX10_isText 60 = .ok (.iadd, 1) := by decide +kernel
theorem dX10_isText_61 : decode cX10_isText 61 = .ok (.baload, 1) := by decide +kernel
theorem dX10_isText_62 : decode cX10_isText 62 = .ok (.aload_n 1, 1) := by decide +kernel
theorem dX10_isText_63 : decode cX10_isText 63 = .ok (.iload_n 3, 1) := by decide +kernel
theorem dX10_isText_64 : decode cX10_isText 64 = .ok (.invokevirtual 266, 3) := by decide +kernel
theorem dX10_isText_67 : decode cX10_isText 67 = .ok (.if_icmp .ne 7, 3) := by decide +kernel
theorem dX10_isText_70 : decode cX10_isText 70 = .ok (.iconst 1, 1) := by decide +kernel
theorem dX10_isText_71 : decode cX10_isText 71 = .ok (.goto 4, 3) := by decide +kernel
theorem dX10_isText_74 : decode cX10_isText 74 = .ok (.iconst 0, 1) := by decide +kernel
theorem dX10_isText_75 : decode cX10_isText 75 = .ok (.istore_n 2, 1) := by decide +kernel
theorem dX10_isText_76 : decode cX10_isText 76 = .ok (.iinc 3 1, 3) := by decide +kernel
theorem dX10_isText_79 : decode cX10_isText 79 = .ok (.goto (-40), 3) := by decide +kernel
theorem dX10_isText_82 : decode cX10_isText 82 = .ok (.iload_n 2, 1) := by decide +kernel
theorem dX10_isText_83 : decode cX10_isText 83 = .ok (.ireturn, 1) := by decide +kernel
theorem dX10_isKeyword_0 : decode cX10_isKeyword 0 = .ok (.aload_n 0, 1) := by decide +kernel
theorem dX10_isKeyword_1 : decode cX10_isKeyword 1 = .ok (.ldc_w 270, 3) := by decide +kernel
theorem dX10_isKeyword_4 : decode cX10_isKeyword 4 = .ok (.invokevirtual 272, 3) := by decide +kernel
theorem dX10_isKeyword_7 : decode cX10_isKeyword 7 = .ok (.ifCond .ne 113, 3) := by decide +kernel
theorem dX10_isKeyword_10 : decode cX10_isKeyword 10 = .ok (.aload_n 0, 1) := by decide +kernel
theorem dX10_isKeyword_11 : decode cX10_isKeyword 11 = .ok (.ldc_w 276, 3) := by decide +kernel
theorem dX10_isKeyword_14 : decode cX10_isKeyword 14 = .ok (.invokevirtual 272, 3) := by decide +kernel
theorem dX10_isKeyword_17 : decode cX10_isKeyword 17 = .ok (.ifCond .ne 103, 3) := by decide +kernel
theorem dX10_isKeyword_20 : decode cX10_isKeyword 20 = .ok (.aload_n 0, 1) := by decide +kernel
theorem dX10_isKeyword_21 : decode cX10_isKeyword 21 = .ok (.ldc_w 278, 3) := by decide +kernel
theorem dX10_isKeyword_24 : decode cX10_isKeyword 24 = .ok (.invokevirtual 272, 3) := by decide +kernel
theorem dX10_isKeyword_27 : decode cX10_isKeyword 27 = .ok (.ifCond .ne 93, 3) := by decide +kernel
theorem dX10_isKeyword_30 : decode cX10_isKeyword 30 = .ok (.aload_n 0, 1) := by decide +kernel
theorem dX10_isKeyword_31 : decode cX10_isKeyword 31 = .ok (.ldc_w 280, 3) := by decide +kernel
theorem dX10_isKeyword_34 : decode cX10_isKeyword 34 = .ok (.invokevirtual 272, 3) := by decide +kernel
theorem dX10_isKeyword_37 : decode cX10_isKeyword 37 = .ok (.ifCond .ne 83, 3) := by decide +kernel
theorem dX10_isKeyword_40 : decode cX10_isKeyword 40 = .ok (.aload_n 0, 1) := by decide +kernel
theorem dX10_isKeyword_41 : decode cX10_isKeyword 41 = .ok (.ldc_w 282, 3) := by decide +kernel
theorem dX10_isKeyword_44 : decode cX10_isKeyword 44 = .ok (.invokevirtual 272, 3) := by decide +kernel
theorem dX10_isKeyword_47 : decode cX10_isKeyword 47 = .ok (.ifCond .ne 73, 3) := by decide +kernel
theorem dX10_isKeyword_50 : decode cX10_isKeyword 50 = .ok (.aload_n 0, 1) := by decide +kernel
theorem dX10_isKeyword_51 : decode cX10_isKeyword 51 = .ok (.ldc_w 283, 3) := by decide +kernel
theorem dX10_isKeyword_54 : decode cX10_isKeyword 54 = .ok (.invokevirtual 272, 3) := by decide +kernel
theorem dX10_isKeyword_57 : decode cX10_isKeyword 57 = .ok (.ifCond .ne 63, 3) := by decide +kernel
theorem dX10_isKeyword_60 : decode cX10_isKeyword 60 = .ok (.aload_n 0, 1) := by decide +kernel
theorem dX10_isKeyword_61 : decode cX10_isKeyword 61 = .ok (.ldc_w 285, 3) := by decide +kernel
theorem dX10_isKeyword_64 : decode cX10_isKeyword 64 = .ok (.invokevirtual 272, 3) := by decide +kernel
theorem dX10_isKeyword_67 : decode cX10_isKeyword 67 = .ok (.ifCond .ne 53, 3) := by decide +kernel
theorem dX10_isKeyword_70 : decode cX10_isKeyword 70 = .ok (.aload_n 0, 1) := by decide +kernel
theorem dX10_isKeyword_71 : decode cX10_isKeyword 71 = .ok (.ldc_w 287, 3) := by decide +kernel
theorem dX10_isKeyword_74 : decode cX10_isKeyword 74 = .ok (.invokevirtual 272, 3) := by decide +kernel
theorem dX10_isKeyword_77 : decode cX10_isKeyword 77 = .ok (.ifCond .ne 43, 3) := by decide +kernel
theorem dX10_isKeyword_80 : decode cX10_isKeyword 80 = .ok (.aload_n 0, 1) := by decide +kernel
theorem dX10_isKeyword_81 : decode cX10_isKeyword 81 = .ok (.ldc_w 289, 3) := by decide +kernel
theorem dX10_isKeyword_84 : decode cX10_isKeyword 84 = .ok (.invokevirtual 272, 3) := by decide +kernel
theorem dX10_isKeyword_87 : decode cX10_isKeyword 87 = .ok (.ifCond .ne 33, 3) := by decide +kernel
theorem dX10_isKeyword_90 : decode cX10_isKeyword 90 = .ok (.aload_n 0, 1) := by decide +kernel
theorem dX10_isKeyword_91 : decode cX10_isKeyword 91 = .ok (.ldc_w 291, 3) := by decide +kernel
theorem dX10_isKeyword_94 : decode cX10_isKeyword 94 = .ok (.invokevirtual 272, 3) := by decide +kernel
theorem dX10_isKeyword_97 : decode cX10_isKeyword 97 = .ok (.ifCond .ne 23, 3) := by decide +kernel
theorem dX10_isKeyword_100 : decode cX10_isKeyword 100 = .ok (.aload_n 0, 1) := by decide +kernel
theorem dX10_isKeyword_101 : decode cX10_isKeyword 101 = .ok (.ldc_w 293, 3) := by decide +kernel
theorem dX10_isKeyword_104 : decode cX10_isKeyword 104 = .ok (.invokevirtual 272, 3) := by decide +kernel
theorem dX10_isKeyword_107 : decode cX10_isKeyword 107 = .ok (.ifCond .ne 13, 3) := by decide +kernel
theorem dX10_isKeyword_110 : decode cX10_isKeyword 110 = .ok (.aload_n 0, 1) := by decide +kernel
theorem dX10_isKeyword_111 : decode cX10_isKeyword 111 = .ok (.ldc_w 295, 3) := by decide +kernel
theorem dX10_isKeyword_114 : decode cX10_isKeyword 114 = .ok (.invokevirtual 272, 3) := by decide +kernel
theorem dX10_isKeyword_117 : decode cX10_isKeyword 117 = .ok (.ifCond .eq 7, 3) := by decide +kernel
theorem dX10_isKeyword_120 : decode cX10_isKeyword 120 = .ok (.iconst 1, 1) := by decide +kernel
theorem dX10_isKeyword_121 : decode cX10_isKeyword 121 = .ok (.goto 4, 3) := by decide +kernel
theorem dX10_isKeyword_124 : decode cX10_isKeyword 124 = .ok (.iconst 0, 1) := by decide +kernel
theorem dX10_isKeyword_125 : decode cX10_isKeyword 125 = .ok (.istore_n 1, 1) := by decide +kernel
theorem dX10_isKeyword_126 : decode cX10_isKeyword 126 = .ok (.iload_n 1, 1) := by decide +kernel
theorem dX10_isKeyword_127 : decode cX10_isKeyword 127 = .ok (.ifCond .ne 113, 3) := by decide +kernel
theorem dX10_isKeyword_130 : decode cX10_isKeyword 130 = .ok (.aload_n 0, 1) := by decide +kernel
theorem dX10_isKeyword_131 : decode cX10_isKeyword 131 = .ok (.ldc_w 297, 3) := by decide +kernel
theorem dX10_isKeyword_134 : decode cX10_isKeyword 134 = .ok (.invokevirtual 272, 3) := by decide +kernel
theorem dX10_isKeyword_137 : decode cX10_isKeyword 137 = .ok (.ifCond .ne 103, 3) := by decide +kernel
theorem dX10_isKeyword_140 : decode cX10_isKeyword 140 = .ok (.aload_n 0, 1) := by decide +kernel
theorem dX10_isKeyword_141 : decode cX10_isKeyword 141 = .ok (.ldc_w 299, 3) := by decide +kernel
theorem dX10_isKeyword_144 : decode cX10_isKeyword 144 = .ok (.invokevirtual 272, 3) := by decide +kernel
theorem dX10_isKeyword_147 : decode cX10_isKeyword 147 = .ok (.ifCond .ne 93, 3) := by decide +kernel
theorem dX10_isKeyword_150 : decode cX10_isKeyword 150 = .ok (.aload_n 0, 1) := by decide +kernel
theorem dX10_isKeyword_151 : decode cX10_isKeyword 151 = .ok (.ldc_w 301, 3) := by decide +kernel
theorem dX10_isKeyword_154 : decode cX10_isKeyword 154 = .ok (.invokevirtual 272, 3) := by decide +kernel
theorem dX10_isKeyword_157 : decode cX10_isKeyword 157 = .ok (.ifCond .ne 83, 3) := by decide +kernel
theorem dX10_isKeyword_160 : decode cX10_isKeyword 160 = .ok (.aload_n 0, 1) := by decide +kernel
theorem dX10_isKeyword_161 : decode cX10_isKeyword 161 = .ok (.ldc_w 303, 3) := by decide +kernel
theorem dX10_isKeyword_164 : decode cX10_isKeyword 164 = .ok (.invokevirtual 272, 3) := by decide +kernel
theorem dX10_isKeyword_167 : decode cX10_isKeyword 167 = .ok (.ifCond .ne 73, 3) := by decide +kernel
theorem dX10_isKeyword_170 : decode cX10_isKeyword 170 = .ok (.aload_n 0, 1) := by decide +kernel
theorem dX10_isKeyword_171 : decode cX10_isKeyword 171 = .ok (.ldc_w 305, 3) := by decide +kernel
theorem dX10_isKeyword_174 : decode cX10_isKeyword 174 = .ok (.invokevirtual 272, 3) := by decide +kernel
theorem dX10_isKeyword_177 : decode cX10_isKeyword 177 = .ok (.ifCond .ne 63, 3) := by decide +kernel
theorem dX10_isKeyword_180 : decode cX10_isKeyword 180 = .ok (.aload_n 0, 1) := by decide +kernel
theorem dX10_isKeyword_181 : decode cX10_isKeyword 181 = .ok (.ldc_w 307, 3) := by decide +kernel
theorem dX10_isKeyword_184 : decode cX10_isKeyword 184 = .ok (.invokevirtual 272, 3) := by decide +kernel
theorem dX10_isKeyword_187 : decode cX10_isKeyword 187 = .ok (.ifCond .ne 53, 3) := by decide +kernel
theorem dX10_isKeyword_190 : decode cX10_isKeyword 190 = .ok (.aload_n 0, 1) := by decide +kernel
theorem dX10_isKeyword_191 : decode cX10_isKeyword 191 = .ok (.ldc_w 309, 3) := by decide +kernel
theorem dX10_isKeyword_194 : decode cX10_isKeyword 194 = .ok (.invokevirtual 272, 3) := by decide +kernel
theorem dX10_isKeyword_197 : decode cX10_isKeyword 197 = .ok (.ifCond .ne 43, 3) := by decide +kernel
theorem dX10_isKeyword_200 : decode cX10_isKeyword 200 = .ok (.aload_n 0, 1) := by decide +kernel
theorem dX10_isKeyword_201 : decode cX10_isKeyword 201 = .ok (.ldc_w 311, 3) := by decide +kernel
theorem dX10_isKeyword_204 : decode cX10_isKeyword 204 = .ok (.invokevirtual 272, 3) := by decide +kernel
theorem dX10_isKeyword_207 : decode cX10_isKeyword 207 = .ok (.ifCond .ne 33, 3) := by decide +kernel
theorem dX10_isKeyword_210 : decode cX10_isKeyword 210 = .ok (.aload_n 0, 1) := by decide +kernel
theorem dX10_isKeyword_211 : decode cX10_isKeyword 211 = .ok (.ldc_w 313, 3) := by decide +kernel
theorem dX10_isKeyword_214 : decode cX10_isKeyword 214 = .ok (.invokevirtual 272, 3) := by decide +kernel
theorem dX10_isKeyword_217 : decode cX10_isKeyword 217 = .ok (.ifCond .ne 23, 3) := by decide +kernel
theorem dX10_isKeyword_220 : decode cX10_isKeyword 220 = .ok (.aload_n 0, 1) := by decide +kernel
theorem dX10_isKeyword_221 : decode cX10_isKeyword 221 = .ok (.ldc_w 315, 3) := by decide +kernel
theorem dX10_isKeyword_224 : decode cX10_isKeyword 224 = .ok (.invokevirtual 272, 3) := by decide +kernel
theorem dX10_isKeyword_227 : decode cX10_isKeyword 227 = .ok (.ifCond .ne 13, 3) := by decide +kernel
theorem dX10_isKeyword_230 : decode cX10_isKeyword 230 = .ok (.aload_n 0, 1) := by decide +kernel
theorem dX10_isKeyword_231 : decode cX10_isKeyword 231 = .ok (.ldc_w 316, 3) := by decide +kernel
theorem dX10_isKeyword_234 : decode cX10_isKeyword 234 = .ok (.invokevirtual 272, 3) := by decide +kernel
theorem dX10_isKeyword_237 : decode cX10_isKeyword 237 = .ok (.ifCond .eq 7, 3) := by decide +kernel
theorem dX10_isKeyword_240 : decode cX10_isKeyword 240 = .ok (.iconst 1, 1) := by decide +kernel
theorem dX10_isKeyword_241 : decode cX10_isKeyword 241 = .ok (.goto 4, 3) := by decide +kernel
theorem dX10_isKeyword_244 : decode cX10_isKeyword 244 = .ok (.iconst 0, 1) := by decide +kernel
theorem dX10_isKeyword_245 : decode cX10_isKeyword 245 = .ok (.ireturn, 1) := by decide +kernel
theorem dX10_word_0 : decode cX10_word 0 = .ok (.aload_n 0, 1) := by decide +kernel
theorem dX10_word_1 : decode cX10_word 1 = .ok (.aload_n 1, 1) := by decide +kernel
theorem dX10_word_2 : decode cX10_word 2 = .ok (.invokevirtual 272, 3) := by decide +kernel
theorem dX10_word_5 : decode cX10_word 5 = .ok (.ifCond .ne 8, 3) := by decide +kernel
theorem dX10_word_8 : decode cX10_word 8 = .ok (.aload_n 0, 1) := by decide +kernel
theorem dX10_word_9 : decode cX10_word 9 = .ok (.iconst 1, 1) := by decide +kernel
theorem dX10_word_10 : decode cX10_word 10 = .ok (.invokevirtual 317, 3) := by decide +kernel
theorem dX10_word_13 : decode cX10_word 13 = .ok (.aload_n 0, 1) := by decide +kernel
theorem dX10_word_14 : decode cX10_word 14 = .ok (.invokevirtual 320, 3) := by decide +kernel
theorem dX10_word_17 : decode cX10_word 17 = .ok (.return_, 1) := by decide +kernel
theorem dX10_numberHere_0 : decode cX10_numberHere 0 = .ok (.aload_n 0, 1) := by decide +kernel
theorem dX10_numberHere_1 : decode cX10_numberHere 1 = .ok (.invokevirtual 226, 3) := by decide +kernel
theorem dX10_numberHere_4 : decode cX10_numberHere 4 = .ok (.ifCond .eq 16, 3) := by decide +kernel
theorem dX10_numberHere_7 : decode cX10_numberHere 7 = .ok (.aload_n 0, 1) := by decide +kernel
theorem dX10_numberHere_8 : decode cX10_numberHere 8 = .ok (.getfield 242, 3) := by decide +kernel
theorem dX10_numberHere_11 : decode cX10_numberHere 11 = .ok (.iconst 2, 1) := by decide +kernel
theorem dX10_numberHere_12 : decode cX10_numberHere 12 = .ok (.if_icmp .eq 8, 3) := by decide +kernel
theorem dX10_numberHere_15 : decode cX10_numberHere 15 = .ok (.aload_n 0, 1) := by decide +kernel
theorem dX10_numberHere_16 : decode cX10_numberHere 16 = .ok (.iconst 1, 1) := by decide +kernel
theorem dX10_numberHere_17 : decode cX10_numberHere 17 = .ok (.invokevirtual 317, 3) := by decide +kernel
theorem dX10_numberHere_20 : decode cX10_numberHere 20 = .ok (.aload_n 0, 1) := by decide +kernel
theorem dX10_numberHere_21 : decode cX10_numberHere 21 = .ok (.invokevirtual 226, 3) := by decide +kernel
theorem dX10_numberHere_24 : decode cX10_numberHere 24 = .ok (.ifCond .eq 23, 3) := by decide +kernel
theorem dX10_numberHere_27 : decode cX10_numberHere 27 = .ok (.aload_n 0, 1) := by decide +kernel
theorem dX10_numberHere_28 : decode cX10_numberHere 28 = .ok (.getfield 253, 3) := by decide +kernel
theorem dX10_numberHere_31 : decode cX10_numberHere 31 = .ok (.i2l, 1) := by decide +kernel
theorem dX10_numberHere_32 : decode cX10_numberHere 32 = .ok (.iload_n 1, 1) := by decide +kernel
theorem dX10_numberHere_33 : decode cX10_numberHere 33 = .ok (.i2l, 1) := by decide +kernel
theorem dX10_numberHere_34 : decode cX10_numberHere 34 = .ok (.iload_n 2, 1) := by decide +kernel
theorem dX10_numberHere_35 : decode cX10_numberHere 35 = .ok (.i2l, 1) := by decide +kernel
theorem dX10_numberHere_36 : decode cX10_numberHere 36 = .ok (.invokestatic 62, 3) := by decide +kernel
theorem dX10_numberHere_39 : decode cX10_numberHere 39 = .ok (.ifCond .ne 8, 3) := by decide +kernel
theorem dX10_numberHere_42 : decode cX10_numberHere 42 = .ok (.aload_n 0, 1) := by decide +kernel
theorem dX10_numberHere_43 : decode cX10_numberHere 43 = .ok (.iconst 2, 1) := by decide +kernel
theorem dX10_numberHere_44 : decode cX10_numberHere 44 = .ok (.invokevirtual 317, 3) := by decide +kernel
theorem dX10_numberHere_47 : decode cX10_numberHere 47 = .ok (.aload_n 0, 1) := by decide +kernel
theorem dX10_numberHere_48 : decode cX10_numberHere 48 = .ok (.invokevirtual 226, 3) := by decide +kernel
theorem dX10_numberHere_51 : decode cX10_numberHere 51 = .ok (.ifCond .eq 10, 3) := by decide +kernel
theorem dX10_numberHere_54 : decode cX10_numberHere 54 = .ok (.aload_n 0, 1) := by decide +kernel
theorem dX10_numberHere_55 : decode cX10_numberHere 55 = .ok (.getfield 253, 3) := by decide +kernel
theorem dX10_numberHere_58 : decode cX10_numberHere 58 = .ok (.goto 4, 3) := by decide +kernel
theorem dX10_numberHere_61 : decode cX10_numberHere 61 = .ok (.iload_n 1, 1) := by decide +kernel
theorem dX10_numberHere_62 : decode cX10_numberHere 62 = .ok (.ireturn, 1) := by decide +kernel
theorem dX10_numberAfter_0 : decode cX10_numberAfter 0 = .ok (.aload_n 0, 1) := by decide +kernel
theorem dX10_numberAfter_1 : decode cX10_numberAfter 1 = .ok (.aload_n 1, 1) := by decide +kernel
theorem dX10_numberAfter_2 : decode cX10_numberAfter 2 = .ok (.invokevirtual 323, 3) := by decide +kernel
theorem dX10_numberAfter_5 : decode cX10_numberAfter 5 = .ok (.aload_n 0, 1) := by decide +kernel
theorem dX10_numberAfter_6 : decode cX10_numberAfter 6 = .ok (.iload_n 2, 1) := by decide +kernel
theorem dX10_numberAfter_7 : decode cX10_numberAfter 7 = .ok (.iload_n 3, 1) := by decide +kernel
theorem dX10_numberAfter_8 : decode cX10_numberAfter 8 = .ok (.invokevirtual 327, 3) := by decide +kernel
theorem dX10_numberAfter_11 : decode cX10_numberAfter 11 = .ok (.istore 4, 2) := by decide +kernel
theorem dX10_numberAfter_13 : decode cX10_numberAfter 13 = .ok (.aload_n 0, 1) := by decide +kernel
theorem dX10_numberAfter_14 : decode cX10_numberAfter 14 = .ok (.invokevirtual 320, 3) := by decide +kernel
theorem dX10_numberAfter_17 : decode cX10_numberAfter 17 = .ok (.iload 4, 2) := by decide +kernel
theorem dX10_numberAfter_19 : decode cX10_numberAfter 19 = .ok (.ireturn, 1) := by decide +kernel
theorem dX10_letter_0 : decode cX10_letter 0 = .ok (.iload_n 1, 1) := by decide +kernel
theorem dX10_letter_1 : decode cX10_letter 1 = .ok (.aload_n 0, 1) := by decide +kernel
theorem dX10_letter_2 : decode cX10_letter 2 = .ok (.getfield 236, 3) := by decide +kernel
theorem dX10_letter_5 : decode cX10_letter 5 = .ok (.aload_n 0, 1) := by decide +kernel
theorem dX10_letter_6 : decode cX10_letter 6 = .ok (.getfield 230, 3) := by decide +kernel
theorem dX10_letter_9 : decode cX10_letter 9 = .ok (.isub, 1) := by decide +kernel
theorem dX10_letter_10 : decode cX10_letter 10 = .ok (.if_icmp .ge 17, 3) := by decide +kernel
theorem dX10_letter_13 : decode cX10_letter 13 = .ok (.aload_n 0, 1) := by decide +kernel
theorem dX10_letter_14 : decode cX10_letter 14 = .ok (.getfield 46, 3) := by decide +kernel
theorem dX10_letter_17 : decode cX10_letter 17 = .ok (.aload_n 0, 1) := by decide +kernel
theorem dX10_letter_18 : decode cX10_letter 18 = .ok (.getfield 230, 3) := by decide +kernel
theorem dX10_letter_21 : decode cX10_letter 21 = .ok (.iload_n 1, 1) := by decide +kernel
theorem dX10_letter_22 : decode cX10_letter 22 = .ok (.iadd, 1) := by decide +kernel
theorem dX10_letter_23 : decode cX10_letter 23 = .ok (.baload, 1) := by decide +kernel
theorem dX10_letter_24 : decode cX10_letter 24 = .ok (.goto 4, 3) := by decide +kernel
theorem dX10_letter_27 : decode cX10_letter 27 = .ok (.iconst 0, 1) := by decide +kernel
theorem dX10_letter_28 : decode cX10_letter 28 = .ok (.ireturn, 1) := by decide +kernel
theorem dX10_named_0 : decode cX10_named 0 = .ok (.iconst 0, 1) := by decide +kernel
theorem dX10_named_1 : decode cX10_named 1 = .ok (.istore 5, 2) := by decide +kernel
theorem dX10_named_3 : decode cX10_named 3 = .ok (.iload 5, 2) := by decide +kernel
theorem dX10_named_5 : decode cX10_named 5 = .ok (.iload 4, 2) := by decide +kernel
theorem dX10_named_7 : decode cX10_named 7 = .ok (.if_icmp .ge 91, 3) := by decide +kernel
theorem dX10_named_10 : decode cX10_named 10 = .ok (.aload_n 0, 1) := by decide +kernel
theorem dX10_named_11 : decode cX10_named 11 = .ok (.getfield 236, 3) := by decide +kernel
theorem dX10_named_14 : decode cX10_named 14 = .ok (.aload_n 0, 1) := by decide +kernel
theorem dX10_named_15 : decode cX10_named 15 = .ok (.getfield 230, 3) := by decide +kernel
theorem dX10_named_18 : decode cX10_named 18 = .ok (.isub, 1) := by decide +kernel
theorem dX10_named_19 : decode cX10_named 19 = .ok (.bipush 6, 2) := by decide +kernel
theorem dX10_named_21 : decode cX10_named 21 = .ok (.if_icmp .gt 7, 3) := by decide +kernel
theorem dX10_named_24 : decode cX10_named 24 = .ok (.iconst 1, 1) := by decide +kernel
theorem dX10_named_25 : decode cX10_named 25 = .ok (.goto 4, 3) := by decide +kernel
theorem dX10_named_28 : decode cX10_named 28 = .ok (.iconst 0, 1) := by decide +kernel
theorem dX10_named_29 : decode cX10_named 29 = .ok (.istore 6, 2) := by decide +kernel
theorem dX10_named_31 : decode cX10_named 31 = .ok (.iconst 0, 1) := by decide +kernel
theorem dX10_named_32 : decode cX10_named 32 = .ok (.istore 7, 2) := by decide +kernel
theorem dX10_named_34 : decode cX10_named 34 = .ok (.iload 7, 2) := by decide +kernel
theorem dX10_named_36 : decode cX10_named 36 = .ok (.bipush 6, 2) := by decide +kernel
theorem dX10_named_38 : decode cX10_named 38 = .ok (.if_icmp .ge 46, 3) := by decide +kernel
theorem dX10_named_41 : decode cX10_named 41 = .ok (.iload 6, 2) := by decide +kernel
theorem dX10_named_43 : decode cX10_named 43 = .ok (.ifCond .eq 41, 3) := by decide +kernel
theorem dX10_named_46 : decode cX10_named 46 = .ok (.aload_n 0, 1) := by decide +kernel
theorem dX10_named_47 : decode cX10_named 47 = .ok (.getfield 24, 3) := by decide +kernel
theorem dX10_named_50 : decode cX10_named 50 = .ok (.iload_n 1, 1) := by decide +kernel
theorem dX10_named_51 : decode cX10_named 51 = .ok (.iload_n 2, 1) := by decide +kernel
theorem dX10_named_52 : decode cX10_named 52 = .ok (.iload 5, 2) := by decide +kernel
theorem dX10_named_54 : decode cX10_named 54 = .ok (.imul, 1) := by decide +kernel
theorem dX10_named_55 : decode cX10_named 55 = .ok (.iadd, 1) := by decide +kernel
theorem dX10_named_56 : decode cX10_named 56 = .ok (.iload_n 3, 1) := by decide +kernel
theorem dX10_named_57 : decode cX10_named 57 = .ok (.iadd, 1) := by decide +kernel
theorem dX10_named_58 : decode cX10_named 58 = .ok (.iload 7, 2) := by decide +kernel
theorem dX10_named_60 : decode cX10_named 60 = .ok (.iadd, 1) := by decide +kernel
theorem dX10_named_61 : decode cX10_named 61 = .ok (.iaload, 1) := by decide +kernel
theorem dX10_named_62 : decode cX10_named 62 = .ok (.aload_n 0, 1) := by decide +kernel
theorem dX10_named_63 : decode cX10_named 63 = .ok (.iload 7, 2) := by decide +kernel
theorem dX10_named_65 : decode cX10_named 65 = .ok (.invokevirtual 330, 3) := by decide +kernel
theorem dX10_named_68 : decode cX10_named 68 = .ok (.if_icmp .ne 7, 3) := by decide +kernel
theorem dX10_named_71 : decode cX10_named 71 = .ok (.iconst 1, 1) := by decide +kernel
theorem dX10_named_72 : decode cX10_named 72 = .ok (.goto 4, 3) := by decide +kernel
theorem dX10_named_75 : decode cX10_named 75 = .ok (.iconst 0, 1) := by decide +kernel
theorem dX10_named_76 : decode cX10_named 76 = .ok (.istore 6, 2) := by decide +kernel
theorem dX10_named_78 : decode cX10_named 78 = .ok (.iinc 7 1, 3) := by decide +kernel
theorem dX10_named_81 : decode cX10_named 81 = .ok (.goto (-47), 3) := by decide +kernel
theorem dX10_named_84 : decode cX10_named 84 = .ok (.iload 6, 2) := by decide +kernel
theorem dX10_named_86 : decode cX10_named 86 = .ok (.ifCond .eq 6, 3) := by decide +kernel
theorem dX10_named_89 : decode cX10_named 89 = .ok (.iload 5, 2) := by decide +kernel
theorem dX10_named_91 : decode cX10_named 91 = .ok (.ireturn, 1) := by decide +kernel
theorem dX10_named_92 : decode cX10_named 92 = .ok (.iinc 5 1, 3) := by decide +kernel
theorem dX10_named_95 : decode cX10_named 95 = .ok (.goto (-92), 3) := by decide +kernel
theorem dX10_named_98 : decode cX10_named 98 = .ok (.iconst (-1), 1) := by decide +kernel
theorem dX10_named_99 : decode cX10_named 99 = .ok (.ireturn, 1) := by decide +kernel
theorem dX10_kindNamed_0 : decode cX10_kindNamed 0 = .ok (.iload_n 1, 1) := by decide +kernel
theorem dX10_kindNamed_1 : decode cX10_kindNamed 1 = .ok (.ifCond .ne 21, 3) := by decide +kernel
theorem dX10_kindNamed_4 : decode cX10_kindNamed 4 = .ok (.aload_n 0, 1) := by decide +kernel
theorem dX10_kindNamed_5 : decode cX10_kindNamed 5 = .ok (.bipush 10, 2) := by decide +kernel
theorem dX10_kindNamed_7 : decode cX10_kindNamed 7 = .ok (.bipush 12, 2) := by decide +kernel
theorem dX10_kindNamed_9 : decode cX10_kindNamed 9 = .ok (.bipush 6, 2) := by decide +kernel
theorem dX10_kindNamed_11 : decode cX10_kindNamed 11 = .ok (.aload_n 0, 1) := by decide +kernel
theorem dX10_kindNamed_12 : decode cX10_kindNamed 12 = .ok (.getfield 24, 3) := by decide +kernel
theorem dX10_kindNamed_15 : decode cX10_kindNamed 15 = .ok (.bipush 6, 2) := by decide +kernel
theorem dX10_kindNamed_17 : decode cX10_kindNamed 17 = .ok (.iaload, 1) := by decide +kernel
theorem dX10_kindNamed_18 : decode cX10_kindNamed 18 = .ok (.invokevirtual 333, 3) := by decide +kernel
theorem dX10_kindNamed_21 : decode cX10_kindNamed 21 = .ok (.ireturn, 1) := by decide +kernel
theorem dX10_kindNamed_22 : decode cX10_kindNamed 22 = .ok (.iload_n 1, 1) := by decide +kernel
theorem dX10_kindNamed_23 : decode cX10_kindNamed 23 = .ok (.iconst 1, 1) := by decide +kernel
theorem dX10_kindNamed_24 : decode cX10_kindNamed 24 = .ok (.if_icmp .ne 23, 3) := by decide +kernel
theorem dX10_kindNamed_27 : decode cX10_kindNamed 27 = .ok (.aload_n 0, 1) := by decide +kernel
theorem dX10_kindNamed_28 : decode cX10_kindNamed 28 = .ok (.sipush 202, 3) := by decide +kernel
theorem dX10_kindNamed_31 : decode cX10_kindNamed 31 = .ok (.bipush 11, 2) := by decide +kernel
theorem dX10_kindNamed_33 : decode cX10_kindNamed 33 = .ok (.iconst 5, 1) := by decide +kernel
theorem dX10_kindNamed_34 : decode cX10_kindNamed 34 = .ok (.aload_n 0, 1) := by decide +kernel
theorem dX10_kindNamed_35 : decode cX10_kindNamed 35 = .ok (.getfield 24, 3) := by decide +kernel
theorem dX10_kindNamed_38 : decode cX10_kindNamed 38 = .ok (.bipush 7, 2) := by decide +kernel
theorem dX10_kindNamed_40 : decode cX10_kindNamed 40 = .ok (.iaload, 1) := by decide +kernel
theorem dX10_kindNamed_41 : decode cX10_kindNamed 41 = .ok (.invokevirtual 333, 3) := by decide +kernel
theorem dX10_kindNamed_44 : decode cX10_kindNamed 44 = .ok (.goto 21, 3) := by decide +kernel
theorem dX10_kindNamed_47 : decode cX10_kindNamed 47 = .ok (.aload_n 0, 1) := by decide +kernel
theorem dX10_kindNamed_48 : decode cX10_kindNamed 48 = .ok (.sipush 268, 3) := by decide +kernel
theorem dX10_kindNamed_51 : decode cX10_kindNamed 51 = .ok (.bipush 23, 2) := by decide +kernel
theorem dX10_kindNamed_53 : decode cX10_kindNamed 53 = .ok (.bipush 17, 2) := by decide +kernel
theorem dX10_kindNamed_55 : decode cX10_kindNamed 55 = .ok (.aload_n 0, 1) := by decide +kernel
theorem dX10_kindNamed_56 : decode cX10_kindNamed 56 = .ok (.getfield 24, 3) := by decide +kernel
theorem dX10_kindNamed_59 : decode cX10_kindNamed 59 = .ok (.bipush 8, 2) := by decide +kernel
theorem dX10_kindNamed_61 : decode cX10_kindNamed 61 = .ok (.iaload, 1) := by decide +kernel
theorem dX10_kindNamed_62 : decode cX10_kindNamed 62 = .ok (.invokevirtual 333, 3) := by decide +kernel
theorem dX10_kindNamed_65 : decode cX10_kindNamed 65 = .ok (.ireturn, 1) := by decide +kernel
theorem dX10_checkName_0 : decode cX10_checkName 0 = .ok (.aload_n 0, 1) := by decide +kernel
theorem dX10_checkName_1 : decode cX10_checkName 1 = .ok (.invokevirtual 226, 3) := by decide +kernel
theorem dX10_checkName_4 : decode cX10_checkName 4 = .ok (.ifCond .eq 37, 3) := by decide +kernel
theorem dX10_checkName_7 : decode cX10_checkName 7 = .ok (.aload_n 0, 1) := by decide +kernel
theorem dX10_checkName_8 : decode cX10_checkName 8 = .ok (.getfield 242, 3) := by decide +kernel
theorem dX10_checkName_11 : decode cX10_checkName 11 = .ok (.iconst 1, 1) := by decide +kernel
theorem dX10_checkName_12 : decode cX10_checkName 12 = .ok (.if_icmp .ne 24, 3) := by decide +kernel
theorem dX10_checkName_15 : decode cX10_checkName 15 = .ok (.aload_n 0, 1) := by decide +kernel
theorem dX10_checkName_16 : decode cX10_checkName 16 = .ok (.getfield 236, 3) := by decide +kernel
theorem dX10_checkName_19 : decode cX10_checkName 19 = .ok (.aload_n 0, 1) := by decide +kernel
theorem dX10_checkName_20 : decode cX10_checkName 20 = .ok (.getfield 230, 3) := by decide +kernel
theorem dX10_checkName_23 : decode cX10_checkName 23 = .ok (.isub, 1) := by decide +kernel
theorem dX10_checkName_24 : decode cX10_checkName 24 = .ok (.bipush 6, 2) := by decide +kernel
theorem dX10_checkName_26 : decode cX10_checkName 26 = .ok (.if_icmp .gt 10, 3) := by decide +kernel
theorem dX10_checkName_29 : decode cX10_checkName 29 = .ok (.aload_n 0, 1) := by decide +kernel
theorem dX10_checkName_30 : decode cX10_checkName 30 = .ok (.invokevirtual 337, 3) := by decide +kernel
theorem dX10_checkName_33 : decode cX10_checkName 33 = .ok (.ifCond .eq 8, 3) := by decide +kernel
theorem dX10_checkName_36 : decode cX10_checkName 36 = .ok (.aload_n 0, 1) := by decide +kernel
theorem dX10_checkName_37 : decode cX10_checkName 37 = .ok (.iconst 1, 1) := by decide +kernel
theorem dX10_checkName_38 : decode cX10_checkName 38 = .ok (.invokevirtual 317, 3) := by decide +kernel
theorem dX10_checkName_41 : decode cX10_checkName 41 = .ok (.return_, 1) := by decide +kernel
theorem dX10_newName_0 : decode cX10_newName 0 = .ok (.aload_n 0, 1) := by decide +kernel
theorem dX10_newName_1 : decode cX10_newName 1 = .ok (.invokevirtual 340, 3) := by decide +kernel
theorem dX10_newName_4 : decode cX10_newName 4 = .ok (.aload_n 0, 1) := by decide +kernel
theorem dX10_newName_5 : decode cX10_newName 5 = .ok (.invokevirtual 226, 3) := by decide +kernel
theorem dX10_newName_8 : decode cX10_newName 8 = .ok (.ifCond .eq 17, 3) := by decide +kernel
theorem dX10_newName_11 : decode cX10_newName 11 = .ok (.aload_n 0, 1) := by decide +kernel
theorem dX10_newName_12 : decode cX10_newName 12 = .ok (.iload_n 1, 1) := by decide +kernel
theorem dX10_newName_13 : decode cX10_newName 13 = .ok (.invokevirtual 343, 3) := by decide +kernel
theorem dX10_newName_16 : decode cX10_newName 16 = .ok (.iconst (-1), 1) := by decide +kernel
theorem dX10_newName_17 : decode cX10_newName 17 = .ok (.if_icmp .eq 8, 3) := by decide +kernel
theorem dX10_newName_20 : decode cX10_newName 20 = .ok (.aload_n 0, 1) := by decide +kernel
theorem dX10_newName_21 : decode cX10_newName 21 = .ok (.iconst 3, 1) := by decide +kernel
theorem dX10_newName_22 : decode cX10_newName 22 = .ok (.invokevirtual 317, 3) := by decide +kernel
theorem dX10_newName_25 : decode cX10_newName 25 = .ok (.iconst 0, 1) := by decide +kernel
theorem dX10_newName_26 : decode cX10_newName 26 = .ok (.istore_n 3, 1) := by decide +kernel
theorem dX10_newName_27 : decode cX10_newName 27 = .ok (.iload_n 3, 1) := by decide +kernel
theorem dX10_newName_28 : decode cX10_newName 28 = .ok (.bipush 6, 2) := by decide +kernel
theorem dX10_newName_30 : decode cX10_newName 30 = .ok (.if_icmp .ge 22, 3) := by decide +kernel
theorem dX10_newName_33 : decode cX10_newName 33 = .ok (.aload_n 0, 1) := by decide +kernel
theorem dX10_newName_34 : decode cX10_newName 34 = .ok (.getfield 24, 3) := by decide +kernel
theorem dX10_newName_37 : decode cX10_newName 37 = .ok (.iload_n 2, 1) := by decide +kernel
theorem dX10_newName_38 : decode cX10_newName 38 = .ok (.iload_n 3, 1) := by decide +kernel
theorem dX10_newName_39 : decode cX10_newName 39 = .ok (.iadd, 1) := by decide +kernel
theorem dX10_newName_40 : decode cX10_newName 40 = .ok (.aload_n 0, 1) := by decide +kernel
theorem dX10_newName_41 : decode cX10_newName 41 = .ok (.iload_n 3, 1) := by decide +kernel
theorem dX10_newName_42 : decode cX10_newName 42 = .ok (.invokevirtual 330, 3) := by decide +kernel
theorem dX10_newName_45 : decode cX10_newName 45 = .ok (.iastore, 1) := by decide +kernel
theorem dX10_newName_46 : decode cX10_newName 46 = .ok (.iinc 3 1, 3) := by decide +kernel
theorem dX10_newName_49 : decode cX10_newName 49 = .ok (.goto (-22), 3) := by decide +kernel
theorem dX10_newName_52 : decode cX10_newName 52 = .ok (.aload_n 0, 1) := by decide +kernel
theorem dX10_newName_53 : decode cX10_newName 53 = .ok (.invokevirtual 320, 3) := by decide +kernel
theorem dX10_newName_56 : decode cX10_newName 56 = .ok (.return_, 1) := by decide +kernel
theorem dX10_begins_0 : decode cX10_begins 0 = .ok (.iload_n 1, 1) := by decide +kernel
theorem dX10_begins_1 : decode cX10_begins 1 = .ok (.ifCond .ne 8, 3) := by decide +kernel
theorem dX10_begins_4 : decode cX10_begins 4 = .ok (.aload_n 0, 1) := by decide +kernel
theorem dX10_begins_5 : decode cX10_begins 5 = .ok (.iconst 4, 1) := by decide +kernel
theorem dX10_begins_6 : decode cX10_begins 6 = .ok (.invokevirtual 317, 3) := by decide +kernel
theorem dX10_begins_9 : decode cX10_begins 9 = .ok (.aload_n 0, 1) := by decide +kernel
theorem dX10_begins_10 : decode cX10_begins 10 = .ok (.invokevirtual 320, 3) := by decide +kernel
theorem dX10_begins_13 : decode cX10_begins 13 = .ok (.aload_n 0, 1) := by decide +kernel
theorem dX10_begins_14 : decode cX10_begins 14 = .ok (.invokevirtual 226, 3) := by decide +kernel
theorem dX10_begins_17 : decode cX10_begins 17 = .ok (.ireturn, 1) := by decide +kernel
theorem dX10_isTakenPosition_0 : decode cX10_isTakenPosition 0 = .ok (.iconst 0, 1) := by decide +kernel
theorem dX10_isTakenPosition_1 : decode cX10_isTakenPosition 1 = .ok (.istore_n 2, 1) := by decide +kernel
theorem dX10_isTakenPosition_2 : decode cX10_isTakenPosition 2 = .ok (.iconst 0, 1) := by decide +kernel
theorem dX10_isTakenPosition_3 : decode cX10_isTakenPosition 3 = .ok (.istore_n 3, 1) := by decide +kernel
theorem dX10_isTakenPosition_4 : decode cX10_isTakenPosition 4 = .ok (.iload_n 3, 1) := by decide +kernel
theorem dX10_isTakenPosition_5 : decode cX10_isTakenPosition 5 = .ok (.aload_n 0, 1) := by decide +kernel
theorem dX10_isTakenPosition_6 : decode cX10_isTakenPosition 6 = .ok (.getfield 24, 3) := by decide +kernel
theorem dX10_isTakenPosition_9 : decode cX10_isTakenPosition 9 = .ok (.bipush 6, 2) := by decide +kernel
theorem dX10_isTakenPosition_11 : decode cX10_isTakenPosition 11 = .ok (.iaload, 1) := by decide +kernel
theorem dX10_isTakenPosition_12 : decode cX10_isTakenPosition 12 = .ok (.if_icmp .ge 29, 3) := by decide +kernel
theorem dX10_isTakenPosition_15 : decode cX10_isTakenPosition 15 = .ok (.iload_n 2, 1) := by decide +kernel
theorem dX10_isTakenPosition_16 : decode cX10_isTakenPosition 16 = .ok (.ifCond .ne 13, 3) := by decide +kernel
theorem dX10_isTakenPosition_19 : decode cX10_isTakenPosition 19 = .ok (.aload_n 0, 1) := by decide +kernel
theorem dX10_isTakenPosition_20 : decode cX10_isTakenPosition 20 = .ok (.iload_n 3, 1) := by decide +kernel
theorem dX10_isTakenPosition_21 : decode cX10_isTakenPosition 21 = .ok (.iconst 0, 1) := by decide +kernel
theorem dX10_isTakenPosition_22 : decode cX10_isTakenPosition 22 = .ok (.invokevirtual 77, 3) := by decide +kernel
theorem dX10_isTakenPosition_25 : decode cX10_isTakenPosition 25 = .ok (.iload_n 1, 1) := by decide +kernel
theorem dX10_isTakenPosition_26 : decode cX10_isTakenPosition 26 = .ok (.if_icmp .ne 7, 3) := by decide +kernel
theorem dX10_isTakenPosition_29 : decode cX10_isTakenPosition 29 = .ok (.iconst 1, 1) := by decide +kernel
theorem dX10_isTakenPosition_30 : decode cX10_isTakenPosition 30 = .ok (.goto 4, 3) := by decide +kernel
theorem dX10_isTakenPosition_33 : decode cX10_isTakenPosition 33 = .ok (.iconst 0, 1) := by decide +kernel
theorem dX10_isTakenPosition_34 : decode cX10_isTakenPosition 34 = .ok (.istore_n 2, 1) := by decide +kernel
theorem dX10_isTakenPosition_35 : decode cX10_isTakenPosition 35 = .ok (.iinc 3 1, 3) := by decide +kernel
theorem dX10_isTakenPosition_38 : decode cX10_isTakenPosition 38 = .ok (.goto (-34), 3) := by decide +kernel
theorem dX10_isTakenPosition_41 : decode cX10_isTakenPosition 41 = .ok (.iload_n 2, 1) := by decide +kernel
theorem dX10_isTakenPosition_42 : decode cX10_isTakenPosition 42 = .ok (.ireturn, 1) := by decide +kernel
theorem dX10_parseNode_0 : decode cX10_parseNode 0 = .ok (.aload_n 0, 1) := by decide +kernel
theorem dX10_parseNode_1 : decode cX10_parseNode 1 = .ok (.aload_n 0, 1) := by decide +kernel
theorem dX10_parseNode_2 : decode cX10_parseNode 2 = .ok (.getfield 24, 3) := by decide +kernel
theorem dX10_parseNode_5 : decode cX10_parseNode 5 = .ok (.bipush 6, 2) := by decide +kernel
theorem dX10_parseNode_7 : decode cX10_parseNode 7 = .ok (.iaload, 1) := by decide +kernel
theorem dX10_parseNode_8 : decode cX10_parseNode 8 = .ok (.bipush 16, 2) := by decide +kernel
theorem dX10_parseNode_10 : decode cX10_parseNode 10 = .ok (.if_icmp .ge 7, 3) := by decide +kernel
theorem dX10_parseNode_13 : decode cX10_parseNode 13 = .ok (.iconst 1, 1) := by decide +kernel
theorem dX10_parseNode_14 : decode cX10_parseNode 14 = .ok (.goto 4, 3) := by decide +kernel
theorem dX10_parseNode_17 : decode cX10_parseNode 17 = .ok (.iconst 0, 1) := by decide +kernel
theorem dX10_parseNode_18 : decode cX10_parseNode 18 = .ok (.invokevirtual 346, 3) := by decide +kernel
theorem dX10_parseNode_21 : decode cX10_parseNode 21 = .ok (.ifCond .ne 4, 3) := by decide +kernel
theorem dX10_parseNode_24 : decode cX10_parseNode 24 = .ok (.return_, 1) := by decide +kernel
theorem dX10_parseNode_25 : decode cX10_parseNode 25 = .ok (.bipush 10, 2) := by decide +kernel
theorem dX10_parseNode_27 : decode cX10_parseNode 27 = .ok (.bipush 12, 2) := by decide +kernel
theorem dX10_parseNode_29 : decode cX10_parseNode 29 = .ok (.aload_n 0, 1) := by decide +kernel
theorem dX10_parseNode_30 : decode cX10_parseNode 30 = .ok (.getfield 24, 3) := by decide +kernel
theorem dX10_parseNode_33 : decode cX10_parseNode 33 = .ok (.bipush 6, 2) := by decide +kernel
theorem dX10_parseNode_35 : decode cX10_parseNode 35 = .ok (.iaload, 1) := by decide +kernel
theorem dX10_parseNode_36 : decode cX10_parseNode 36 = .ok (.imul, 1) := by decide +kernel
theorem dX10_parseNode_37 : decode cX10_parseNode 37 = .ok (.iadd, 1) := by decide +kernel
theorem dX10_parseNode_38 : decode cX10_parseNode 38 = .ok (.istore_n 1, 1) := by decide +kernel
theorem dX10_parseNode_39 : decode cX10_parseNode 39 = .ok (.aload_n 0, 1) := by decide +kernel
theorem dX10_parseNode_40 : decode cX10_parseNode 40 = .ok (.iconst 0, 1) := by decide +kernel
theorem dX10_parseNode_41 : decode cX10_parseNode 41 = .ok (.iload_n 1, 1) := by decide +kernel
theorem dX10_parseNode_42 : decode cX10_parseNode 42 = .ok (.bipush 6, 2) := by decide +kernel
theorem dX10_parseNode_44 : decode cX10_parseNode 44 = .ok (.iadd, 1) := by decide +kernel
theorem dX10_parseNode_45 : decode cX10_parseNode 45 = .ok (.invokevirtual 349, 3) := by decide +kernel
theorem dX10_parseNode_48 : decode cX10_parseNode 48 = .ok (.aload_n 0, 1) := by decide +kernel
theorem dX10_parseNode_49 : decode cX10_parseNode 49 = .ok (.ldc_w 291, 3) := by decide +kernel
theorem dX10_parseNode_52 : decode cX10_parseNode 52 = .ok (.invokevirtual 323, 3) := by decide +kernel
theorem dX10_parseNode_55 : decode cX10_parseNode 55 = .ok (.aload_n 0, 1) := by decide +kernel
theorem dX10_parseNode_56 : decode cX10_parseNode 56 = .ok (.getfield 24, 3) := by decide +kernel
theorem dX10_parseNode_59 : decode cX10_parseNode 59 = .ok (.iload_n 1, 1) := by decide +kernel
theorem dX10_parseNode_60 : decode cX10_parseNode 60 = .ok (.iconst 0, 1) := by decide +kernel
theorem dX10_parseNode_61 : decode cX10_parseNode 61 = .ok (.iadd, 1) := by decide +kernel
theorem dX10_parseNode_62 : decode cX10_parseNode 62 = .ok (.aload_n 0, 1) := by decide +kernel
theorem dX10_parseNode_63 : decode cX10_parseNode 63 = .ok (.iconst 0, 1) := by decide +kernel
theorem dX10_parseNode_64 : decode cX10_parseNode 64 = .ok (.sipush 9999, 3) := by decide +kernel
theorem dX10_parseNode_67 : decode cX10_parseNode 67 = .ok (.invokevirtual 327, 3) := by decide +kernel
theorem dX10_parseNode_70 : decode cX10_parseNode 70 = .ok (.iastore, 1) := by decide +kernel
theorem dX10_parseNode_71 : decode cX10_parseNode 71 = .ok (.aload_n 0, 1) := by decide +kernel
theorem dX10_parseNode_72 : decode cX10_parseNode 72 = .ok (.invokevirtual 226, 3) := by decide +kernel
theorem dX10_parseNode_75 : decode cX10_parseNode 75 = .ok (.ifCond .eq 23, 3) := by decide +kernel
theorem dX10_parseNode_78 : decode cX10_parseNode 78 = .ok (.aload_n 0, 1) := by decide +kernel
theorem dX10_parseNode_79 : decode cX10_parseNode 79 = .ok (.aload_n 0, 1) := by decide +kernel
theorem dX10_parseNode_80 : decode cX10_parseNode 80 = .ok (.getfield 24, 3) := by decide +kernel
theorem dX10_parseNode_83 : decode cX10_parseNode 83 = .ok (.iload_n 1, 1) := by decide +kernel
theorem dX10_parseNode_84 : decode cX10_parseNode 84 = .ok (.iconst 0, 1) := by decide +kernel
theorem dX10_parseNode_85 : decode cX10_parseNode 85 = .ok (.iadd, 1) := by decide +kernel
theorem dX10_parseNode_86 : decode cX10_parseNode 86 = .ok (.iaload, 1) := by decide +kernel
theorem dX10_parseNode_87 : decode cX10_parseNode 87 = .ok (.invokevirtual 352, 3) := by decide +kernel
theorem dX10_parseNode_90 : decode cX10_parseNode 90 = .ok (.ifCond .eq 8, 3) := by decide +kernel
theorem dX10_parseNode_93 : decode cX10_parseNode 93 = .ok (.aload_n 0, 1) := by decide +kernel
theorem dX10_parseNode_94 : decode cX10_parseNode 94 = .ok (.iconst 3, 1) := by decide +kernel
theorem dX10_parseNode_95 : decode cX10_parseNode 95 = .ok (.invokevirtual 317, 3) := by decide +kernel
theorem dX10_parseNode_98 : decode cX10_parseNode 98 = .ok (.aload_n 0, 1) := by decide +kernel
theorem dX10_parseNode_99 : decode cX10_parseNode 99 = .ok (.invokevirtual 320, 3) := by decide +kernel
theorem dX10_parseNode_102 : decode cX10_parseNode 102 = .ok (.aload_n 0, 1) := by decide +kernel
theorem dX10_parseNode_103 : decode cX10_parseNode 103 = .ok (.getfield 24, 3) := by decide +kernel
theorem dX10_parseNode_106 : decode cX10_parseNode 106 = .ok (.iload_n 1, 1) := by decide +kernel
theorem dX10_parseNode_107 : decode cX10_parseNode 107 = .ok (.iconst 1, 1) := by decide +kernel
theorem dX10_parseNode_108 : decode cX10_parseNode 108 = .ok (.iadd, 1) := by decide +kernel
theorem dX10_parseNode_109 : decode cX10_parseNode 109 = .ok (.aload_n 0, 1) := by decide +kernel
theorem dX10_parseNode_110 : decode cX10_parseNode 110 = .ok (.ldc_w 293, 3) := by decide +kernel
theorem dX10_parseNode_113 : decode cX10_parseNode 113 = .ok (.iconst 0, 1) := by decide +kernel
theorem dX10_parseNode_114 : decode cX10_parseNode 114 = .ok (.bipush 9, 2) := by decide +kernel
theorem dX10_parseNode_116 : decode cX10_parseNode 116 = .ok (.invokevirtual 355, 3) := by decide +kernel
theorem dX10_parseNode_119 : decode cX10_parseNode 119 = .ok (.iastore, 1) := by decide +kernel
theorem dX10_parseNode_120 : decode cX10_parseNode 120 = .ok (.aload_n 0, 1) := by decide +kernel
theorem dX10_parseNode_121 : decode cX10_parseNode 121 = .ok (.getfield 24, 3) := by decide +kernel
theorem dX10_parseNode_124 : decode cX10_parseNode 124 = .ok (.iload_n 1, 1) := by decide +kernel
theorem dX10_parseNode_125 : decode cX10_parseNode 125 = .ok (.iconst 2, 1) := by decide +kernel
theorem dX10_parseNode_126 : decode cX10_parseNode 126 = .ok (.iadd, 1) := by decide +kernel
theorem dX10_parseNode_127 : decode cX10_parseNode 127 = .ok (.aload_n 0, 1) := by decide +kernel
theorem dX10_parseNode_128 : decode cX10_parseNode 128 = .ok (.ldc_w 295, 3) := by decide +kernel
theorem dX10_parseNode_131 : decode cX10_parseNode 131 = .ok (.iconst 0, 1) := by decide +kernel
theorem dX10_parseNode_132 : decode cX10_parseNode 132 = .ok (.sipush 999, 3) := by decide +kernel
theorem dX10_parseNode_135 : decode cX10_parseNode 135 = .ok (.invokevirtual 355, 3) := by decide +kernel
theorem dX10_parseNode_138 : decode cX10_parseNode 138 = .ok (.iastore, 1) := by decide +kernel
theorem dX10_parseNode_139 : decode cX10_parseNode 139 = .ok (.aload_n 0, 1) := by decide +kernel
theorem dX10_parseNode_140 : decode cX10_parseNode 140 = .ok (.getfield 24, 3) := by decide +kernel
theorem dX10_parseNode_143 : decode cX10_parseNode 143 = .ok (.iload_n 1, 1) := by decide +kernel
theorem dX10_parseNode_144 : decode cX10_parseNode 144 = .ok (.iconst 3, 1) := by decide +kernel
theorem dX10_parseNode_145 : decode cX10_parseNode 145 = .ok (.iadd, 1) := by decide +kernel
theorem dX10_parseNode_146 : decode cX10_parseNode 146 = .ok (.aload_n 0, 1) := by decide +kernel
theorem dX10_parseNode_147 : decode cX10_parseNode 147 = .ok (.ldc_w 297, 3) := by decide +kernel
theorem dX10_parseNode_150 : decode cX10_parseNode 150 = .ok (.iconst 1, 1) := by decide +kernel
theorem dX10_parseNode_151 : decode cX10_parseNode 151 = .ok (.bipush 50, 2) := by decide +kernel
theorem dX10_parseNode_153 : decode cX10_parseNode 153 = .ok (.invokevirtual 355, 3) := by decide +kernel
theorem dX10_parseNode_156 : decode cX10_parseNode 156 = .ok (.iastore, 1) := by decide +kernel
theorem dX10_parseNode_157 : decode cX10_parseNode 157 = .ok (.aload_n 0, 1) := by decide +kernel
theorem dX10_parseNode_158 : decode cX10_parseNode 158 = .ok (.getfield 24, 3) := by decide +kernel
theorem dX10_parseNode_161 : decode cX10_parseNode 161 = .ok (.bipush 6, 2) := by decide +kernel
theorem dX10_parseNode_163 : decode cX10_parseNode 163 = .ok (.dup2, 1) := by decide +kernel
theorem dX10_parseNode_164 : decode cX10_parseNode 164 = .ok (.iaload, 1) := by decide +kernel
theorem dX10_parseNode_165 : decode cX10_parseNode 165 = .ok (.iconst 1, 1) := by decide +kernel
theorem dX10_parseNode_166 : decode cX10_parseNode 166 = .ok (.iadd, 1) := by decide +kernel
theorem dX10_parseNode_167 : decode cX10_parseNode 167 = .ok (.iastore, 1) := by decide +kernel
theorem dX10_parseNode_168 : decode cX10_parseNode 168 = .ok (.return_, 1) := by decide +kernel
theorem dX10_parseTenant_0 : decode cX10_parseTenant 0 = .ok (.aload_n 0, 1) := by decide +kernel
theorem dX10_parseTenant_1 : decode cX10_parseTenant 1 = .ok (.aload_n 0, 1) := by decide +kernel
theorem dX10_parseTenant_2 : decode cX10_parseTenant 2 = .ok (.getfield 24, 3) := by decide +kernel
theorem dX10_parseTenant_5 : decode cX10_parseTenant 5 = .ok (.bipush 7, 2) := by decide +kernel
theorem dX10_parseTenant_7 : decode cX10_parseTenant 7 = .ok (.iaload, 1) := by decide +kernel
theorem dX10_parseTenant_8 : decode cX10_parseTenant 8 = .ok (.bipush 6, 2) := by decide +kernel
theorem dX10_parseTenant_10 : decode cX10_parseTenant 10 = .ok (.if_icmp .ge 7, 3) := by decide +kernel
theorem dX10_parseTenant_13 : decode cX10_parseTenant 13 = .ok (.iconst 1, 1) := by decide +kernel
theorem dX10_parseTenant_14 : decode cX10_parseTenant 14 = .ok (.goto 4, 3) := by decide +kernel
theorem dX10_parseTenant_17 : decode cX10_parseTenant 17 = .ok (.iconst 0, 1) := by decide +kernel
theorem dX10_parseTenant_18 : decode cX10_parseTenant 18 = .ok (.invokevirtual 346, 3) := by decide +kernel
theorem dX10_parseTenant_21 : decode cX10_parseTenant 21 = .ok (.ifCond .ne 4, 3) := by decide +kernel
theorem dX10_parseTenant_24 : decode cX10_parseTenant 24 = .ok (.return_, 1) := by decide +kernel
theorem dX10_parseTenant_25 : decode cX10_parseTenant 25 = .ok (.sipush 202, 3) := by decide +kernel
theorem dX10_parseTenant_28 : decode cX10_parseTenant 28 = .ok (.bipush 11, 2) := by decide +kernel
theorem dX10_parseTenant_30 : decode cX10_parseTenant 30 = .ok (.aload_n 0, 1) := by decide +kernel
theorem dX10_parseTenant_31 : decode cX10_parseTenant 31 = .ok (.getfield 24, 3) := by decide +kernel
theorem dX10_parseTenant_34 : decode cX10_parseTenant 34 = .ok (.bipush 7, 2) := by decide +kernel
theorem dX10_parseTenant_36 : decode cX10_parseTenant 36 = .ok (.iaload, 1) := by decide +kernel
theorem dX10_parseTenant_37 : decode cX10_parseTenant 37 = .ok (.imul, 1) := by decide +kernel
theorem dX10_parseTenant_38 : decode cX10_parseTenant 38 = .ok (.iadd, 1) := by decide +kernel
theorem dX10_parseTenant_39 : decode cX10_parseTenant 39 = .ok (.istore_n 1, 1) := by decide +kernel
theorem dX10_parseTenant_40 : decode cX10_parseTenant 40 = .ok (.aload_n 0, 1) := by decide +kernel
theorem dX10_parseTenant_41 : decode cX10_parseTenant 41 = .ok (.iconst 1, 1) := by decide +kernel
theorem dX10_parseTenant_42 : decode cX10_parseTenant 42 = .ok (.iload_n 1, 1) := by decide +kernel
theorem dX10_parseTenant_43 : decode cX10_parseTenant 43 = .ok (.iconst 5, 1) := by decide +kernel
theorem dX10_parseTenant_44 : decode cX10_parseTenant 44 = .ok (.iadd, 1) := by decide +kernel
theorem dX10_parseTenant_45 : decode cX10_parseTenant 45 = .ok (.invokevirtual 349, 3) := by decide +kernel
theorem dX10_parseTenant_48 : decode cX10_parseTenant 48 = .ok (.aload_n 0, 1) := by decide +kernel
theorem dX10_parseTenant_49 : decode cX10_parseTenant 49 = .ok (.getfield 24, 3) := by decide +kernel
theorem dX10_parseTenant_52 : decode cX10_parseTenant 52 = .ok (.iload_n 1, 1) := by decide +kernel
theorem dX10_parseTenant_53 : decode cX10_parseTenant 53 = .ok (.iconst 0, 1) := by decide +kernel
theorem dX10_parseTenant_54 : decode cX10_parseTenant 54 = .ok (.iadd, 1) := by decide +kernel
theorem dX10_parseTenant_55 : decode cX10_parseTenant 55 = .ok (.aload_n 0, 1) := by decide +kernel
theorem dX10_parseTenant_56 : decode cX10_parseTenant 56 = .ok (.ldc_w 301, 3) := by decide +kernel
theorem dX10_parseTenant_59 : decode cX10_parseTenant 59 = .ok (.iconst 0, 1) := by decide +kernel
theorem dX10_parseTenant_60 : decode cX10_parseTenant 60 = .ok (.ldc_w 359, 3) := by decide +kernel
theorem dX10_parseTenant_63 : decode cX10_parseTenant 63 = .ok (.invokevirtual 355, 3) := by decide +kernel
theorem dX10_parseTenant_66 : decode cX10_parseTenant 66 = .ok (.iastore, 1) := by decide +kernel
theorem dX10_parseTenant_67 : decode cX10_parseTenant 67 = .ok (.aload_n 0, 1) := by decide +kernel
theorem dX10_parseTenant_68 : decode cX10_parseTenant 68 = .ok (.getfield 24, 3) := by decide +kernel
theorem dX10_parseTenant_71 : decode cX10_parseTenant 71 = .ok (.iload_n 1, 1) := by decide +kernel
theorem dX10_parseTenant_72 : decode cX10_parseTenant 72 = .ok (.iconst 1, 1) := by decide +kernel
theorem dX10_parseTenant_73 : decode cX10_parseTenant 73 = .ok (.iadd, 1) := by decide +kernel
theorem dX10_parseTenant_74 : decode cX10_parseTenant 74 = .ok (.aload_n 0, 1) := by decide +kernel
theorem dX10_parseTenant_75 : decode cX10_parseTenant 75 = .ok (.ldc_w 303, 3) := by decide +kernel
theorem dX10_parseTenant_78 : decode cX10_parseTenant 78 = .ok (.iconst 0, 1) := by decide +kernel
theorem dX10_parseTenant_79 : decode cX10_parseTenant 79 = .ok (.ldc_w 359, 3) := by decide +kernel
theorem dX10_parseTenant_82 : decode cX10_parseTenant 82 = .ok (.invokevirtual 355, 3) := by decide +kernel
theorem dX10_parseTenant_85 : decode cX10_parseTenant 85 = .ok (.iastore, 1) := by decide +kernel
theorem dX10_parseTenant_86 : decode cX10_parseTenant 86 = .ok (.aload_n 0, 1) := by decide +kernel
theorem dX10_parseTenant_87 : decode cX10_parseTenant 87 = .ok (.getfield 24, 3) := by decide +kernel
theorem dX10_parseTenant_90 : decode cX10_parseTenant 90 = .ok (.bipush 7, 2) := by decide +kernel
theorem dX10_parseTenant_92 : decode cX10_parseTenant 92 = .ok (.dup2, 1) := by decide +kernel
theorem dX10_parseTenant_93 : decode cX10_parseTenant 93 = .ok (.iaload, 1) := by decide +kernel
theorem dX10_parseTenant_94 : decode cX10_parseTenant 94 = .ok (.iconst 1, 1) := by decide +kernel
theorem dX10_parseTenant_95 : decode cX10_parseTenant 95 = .ok (.iadd, 1) := by decide +kernel
theorem dX10_parseTenant_96 : decode cX10_parseTenant 96 = .ok (.iastore, 1) := by decide +kernel
theorem dX10_parseTenant_97 : decode cX10_parseTenant 97 = .ok (.return_, 1) := by decide +kernel
theorem dX10_isPlaced_0 : decode cX10_isPlaced 0 = .ok (.aload_n 0, 1) := by decide +kernel
theorem dX10_isPlaced_1 : decode cX10_isPlaced 1 = .ok (.iload_n 1, 1) := by decide +kernel
theorem dX10_isPlaced_2 : decode cX10_isPlaced 2 = .ok (.iconst 1, 1) := by decide +kernel
theorem dX10_isPlaced_3 : decode cX10_isPlaced 3 = .ok (.invokevirtual 66, 3) := by decide +kernel
theorem dX10_isPlaced_6 : decode cX10_isPlaced 6 = .ok (.istore_n 2, 1) := by decide +kernel
theorem dX10_isPlaced_7 : decode cX10_isPlaced 7 = .ok (.iconst 0, 1) := by decide +kernel
theorem dX10_isPlaced_8 : decode cX10_isPlaced 8 = .ok (.istore_n 3, 1) := by decide +kernel
theorem dX10_isPlaced_9 : decode cX10_isPlaced 9 = .ok (.iload_n 3, 1) := by decide +kernel
theorem dX10_isPlaced_10 : decode cX10_isPlaced 10 = .ok (.aload_n 0, 1) := by decide +kernel
theorem dX10_isPlaced_11 : decode cX10_isPlaced 11 = .ok (.iload_n 1, 1) := by decide +kernel
theorem dX10_isPlaced_12 : decode cX10_isPlaced 12 = .ok (.invokevirtual 70, 3) := by decide +kernel
theorem dX10_isPlaced_15 : decode cX10_isPlaced 15 = .ok (.if_icmp .ge 72, 3) := by decide +kernel
theorem dX10_isPlaced_18 : decode cX10_isPlaced 18 = .ok (.aload_n 0, 1) := by decide +kernel
theorem dX10_isPlaced_19 : decode cX10_isPlaced 19 = .ok (.getfield 24, 3) := by decide +kernel
theorem dX10_isPlaced_22 : decode cX10_isPlaced 22 = .ok (.bipush 6, 2) := by decide +kernel
theorem dX10_isPlaced_24 : decode cX10_isPlaced 24 = .ok (.iaload, 1) := by decide +kernel
theorem dX10_isPlaced_25 : decode cX10_isPlaced 25 = .ok (.ifCond .ne 7, 3) := by decide +kernel
theorem dX10_isPlaced_28 : decode cX10_isPlaced 28 = .ok (.iconst (-1), 1) := by decide +kernel
theorem dX10_isPlaced_29 : decode cX10_isPlaced 29 = .ok (.goto 12, 3) := by decide +kernel
theorem dX10_isPlaced_32 : decode cX10_isPlaced 32 = .ok (.aload_n 0, 1) := by decide +kernel
theorem dX10_isPlaced_33 : decode cX10_isPlaced 33 = .ok (.iload_n 1, 1) := by decide +kernel
theorem dX10_isPlaced_34 : decode cX10_isPlaced 34 = .ok (.iload_n 3, 1) := by decide +kernel
theorem dX10_isPlaced_35 : decode cX10_isPlaced 35 = .ok (.iconst (-1), 1) := by decide +kernel
theorem dX10_isPlaced_36 : decode cX10_isPlaced 36 = .ok (.iload_n 2, 1) := by decide +kernel
theorem dX10_isPlaced_37 : decode cX10_isPlaced 37 = .ok (.iconst 1, 1) := by decide +kernel
theorem dX10_isPlaced_38 : decode cX10_isPlaced 38 = .ok (.invokevirtual 95, 3) := by decide +kernel
theorem dX10_isPlaced_41 : decode cX10_isPlaced 41 = .ok (.istore 4, 2) := by decide +kernel
theorem dX10_isPlaced_43 : decode cX10_isPlaced 43 = .ok (.iload 4, 2) := by decide +kernel
theorem dX10_isPlaced_45 : decode cX10_isPlaced 45 = .ok (.iconst (-1), 1) := by decide +kernel
theorem dX10_isPlaced_46 : decode cX10_isPlaced 46 = .ok (.if_icmp .ne 5, 3) := by decide +kernel
theorem dX10_isPlaced_49 : decode cX10_isPlaced 49 = .ok (.iconst 0, 1) := by decide +kernel
theorem dX10_isPlaced_50 : decode cX10_isPlaced 50 = .ok (.ireturn, 1) := by decide +kernel
theorem dX10_isPlaced_51 : decode cX10_isPlaced 51 = .ok (.aload_n 0, 1) := by decide +kernel
theorem dX10_isPlaced_52 : decode cX10_isPlaced 52 = .ok (.getfield 24, 3) := by decide +kernel
theorem dX10_isPlaced_55 : decode cX10_isPlaced 55 = .ok (.sipush 268, 3) := by decide +kernel
theorem dX10_isPlaced_58 : decode cX10_isPlaced 58 = .ok (.bipush 23, 2) := by decide +kernel
theorem dX10_isPlaced_60 : decode cX10_isPlaced 60 = .ok (.iload_n 1, 1) := by decide +kernel
theorem dX10_isPlaced_61 : decode cX10_isPlaced 61 = .ok (.imul, 1) := by decide +kernel
theorem dX10_isPlaced_62 : decode cX10_isPlaced 62 = .ok (.iadd, 1) := by decide +kernel
theorem dX10_isPlaced_63 : decode cX10_isPlaced 63 = .ok (.bipush 7, 2) := by decide +kernel
theorem dX10_isPlaced_65 : decode cX10_isPlaced 65 = .ok (.iadd, 1) := by decide +kernel
theorem dX10_isPlaced_66 : decode cX10_isPlaced 66 = .ok (.iload_n 3, 1) := by decide +kernel
theorem dX10_isPlaced_67 : decode cX10_isPlaced 67 = .ok (.iadd, 1) := by decide +kernel
theorem dX10_isPlaced_68 : decode cX10_isPlaced 68 = .ok (.iload 4, 2) := by decide +kernel
theorem dX10_isPlaced_70 : decode cX10_isPlaced 70 = .ok (.iastore, 1) := by decide +kernel
theorem dX10_isPlaced_71 : decode cX10_isPlaced 71 = .ok (.aload_n 0, 1) := by decide +kernel
theorem dX10_isPlaced_72 : decode cX10_isPlaced 72 = .ok (.iload 4, 2) := by decide +kernel
theorem dX10_isPlaced_74 : decode cX10_isPlaced 74 = .ok (.iconst 0, 1) := by decide +kernel
theorem dX10_isPlaced_75 : decode cX10_isPlaced 75 = .ok (.invokevirtual 77, 3) := by decide +kernel
theorem dX10_isPlaced_78 : decode cX10_isPlaced 78 = .ok (.iconst 1, 1) := by decide +kernel
theorem dX10_isPlaced_79 : decode cX10_isPlaced 79 = .ok (.iadd, 1) := by decide +kernel
theorem dX10_isPlaced_80 : decode cX10_isPlaced 80 = .ok (.istore_n 2, 1) := by decide +kernel
theorem dX10_isPlaced_81 : decode cX10_isPlaced 81 = .ok (.iinc 3 1, 3) := by decide +kernel
theorem dX10_isPlaced_84 : decode cX10_isPlaced 84 = .ok (.goto (-75), 3) := by decide +kernel
theorem dX10_isPlaced_87 : decode cX10_isPlaced 87 = .ok (.iconst 1, 1) := by decide +kernel
theorem dX10_isPlaced_88 : decode cX10_isPlaced 88 = .ok (.ireturn, 1) := by decide +kernel
theorem dX10_parseGroup_0 : decode cX10_parseGroup 0 = .ok (.aload_n 0, 1) := by decide +kernel
theorem dX10_parseGroup_1 : decode cX10_parseGroup 1 = .ok (.aload_n 0, 1) := by decide +kernel
theorem dX10_parseGroup_2 : decode cX10_parseGroup 2 = .ok (.getfield 24, 3) := by decide +kernel
theorem dX10_parseGroup_5 : decode cX10_parseGroup 5 = .ok (.bipush 8, 2) := by decide +kernel
theorem dX10_parseGroup_7 : decode cX10_parseGroup 7 = .ok (.iaload, 1) := by decide +kernel
theorem dX10_parseGroup_8 : decode cX10_parseGroup 8 = .ok (.bipush 10, 2) := by decide +kernel
theorem dX10_parseGroup_10 : decode cX10_parseGroup 10 = .ok (.if_icmp .ge 7, 3) := by decide +kernel
theorem dX10_parseGroup_13 : decode cX10_parseGroup 13 = .ok (.iconst 1, 1) := by decide +kernel
theorem dX10_parseGroup_14 : decode cX10_parseGroup 14 = .ok (.goto 4, 3) := by decide +kernel
theorem dX10_parseGroup_17 : decode cX10_parseGroup 17 = .ok (.iconst 0, 1) := by decide +kernel
theorem dX10_parseGroup_18 : decode cX10_parseGroup 18 = .ok (.invokevirtual 346, 3) := by decide +kernel
theorem dX10_parseGroup_21 : decode cX10_parseGroup 21 = .ok (.ifCond .ne 4, 3) := by decide +kernel
theorem dX10_parseGroup_24 : decode cX10_parseGroup 24 = .ok (.return_, 1) := by decide +kernel
theorem dX10_parseGroup_25 : decode cX10_parseGroup 25 = .ok (.aload_n 0, 1) := by decide +kernel
theorem dX10_parseGroup_26 : decode cX10_parseGroup 26 = .ok (.getfield 24, 3) := by decide +kernel
theorem dX10_parseGroup_29 : decode cX10_parseGroup 29 = .ok (.bipush 8, 2) := by decide +kernel
theorem dX10_parseGroup_31 : decode cX10_parseGroup 31 = .ok (.iaload, 1) := by decide +kernel
theorem dX10_parseGroup_32 : decode cX10_parseGroup 32 = .ok (.istore_n 1, 1) := by decide +kernel
theorem dX10_parseGroup_33 : decode cX10_parseGroup 33 = .ok (.sipush 268, 3) := by decide +kernel
theorem dX10_parseGroup_36 : decode cX10_parseGroup 36 = .ok (.bipush 23, 2) := by decide +kernel
theorem dX10_parseGroup_38 : decode cX10_parseGroup 38 = .ok (.iload_n 1, 1) := by decide +kernel
theorem dX10_parseGroup_39 : decode cX10_parseGroup 39 = .ok (.imul, 1) := by decide +kernel
theorem dX10_parseGroup_40 : decode cX10_parseGroup 40 = .ok (.iadd, 1) := by decide +kernel
theorem dX10_parseGroup_41 : decode cX10_parseGroup 41 = .ok (.istore_n 2, 1) := by decide +kernel
theorem dX10_parseGroup_42 : decode cX10_parseGroup 42 = .ok (.aload_n 0, 1) := by decide +kernel
theorem dX10_parseGroup_43 : decode cX10_parseGroup 43 = .ok (.iconst 2, 1) := by decide +kernel
theorem dX10_parseGroup_44 : decode cX10_parseGroup 44 = .ok (.iload_n 2, 1) := by decide +kernel
theorem dX10_parseGroup_45 : decode cX10_parseGroup 45 = .ok (.bipush 17, 2) := by decide +kernel
theorem dX10_parseGroup_47 : decode cX10_parseGroup 47 = .ok (.iadd, 1) := by decide +kernel
theorem dX10_parseGroup_48 : decode cX10_parseGroup 48 = .ok (.invokevirtual 349, 3) := by decide +kernel
theorem dX10_parseGroup_51 : decode cX10_parseGroup 51 = .ok (.aload_n 0, 1) := by decide +kernel
theorem dX10_parseGroup_52 : decode cX10_parseGroup 52 = .ok (.ldc_w 307, 3) := by decide +kernel
theorem dX10_parseGroup_55 : decode cX10_parseGroup 55 = .ok (.invokevirtual 323, 3) := by decide +kernel
theorem dX10_parseGroup_58 : decode cX10_parseGroup 58 = .ok (.aload_n 0, 1) := by decide +kernel
theorem dX10_parseGroup_59 : decode cX10_parseGroup 59 = .ok (.invokevirtual 340, 3) := by decide +kernel
theorem dX10_parseGroup_62 : decode cX10_parseGroup 62 = .ok (.aload_n 0, 1) := by decide +kernel
theorem dX10_parseGroup_63 : decode cX10_parseGroup 63 = .ok (.getfield 24, 3) := by decide +kernel
theorem dX10_parseGroup_66 : decode cX10_parseGroup 66 = .ok (.iload_n 2, 1) := by decide +kernel
theorem dX10_parseGroup_67 : decode cX10_parseGroup 67 = .ok (.iconst 0, 1) := by decide +kernel
theorem dX10_parseGroup_68 : decode cX10_parseGroup 68 = .ok (.iadd, 1) := by decide +kernel
theorem dX10_parseGroup_69 : decode cX10_parseGroup 69 = .ok (.aload_n 0, 1) := by decide +kernel
theorem dX10_parseGroup_70 : decode cX10_parseGroup 70 = .ok (.invokevirtual 226, 3) := by decide +kernel
theorem dX10_parseGroup_73 : decode cX10_parseGroup 73 = .ok (.ifCond .eq 11, 3) := by decide +kernel
theorem dX10_parseGroup_76 : decode cX10_parseGroup 76 = .ok (.aload_n 0, 1) := by decide +kernel
theorem dX10_parseGroup_77 : decode cX10_parseGroup 77 = .ok (.iconst 1, 1) := by decide +kernel
theorem dX10_parseGroup_78 : decode cX10_parseGroup 78 = .ok (.invokevirtual 343, 3) := by decide +kernel
theorem dX10_parseGroup_81 : decode cX10_parseGroup 81 = .ok (.goto 4, 3) := by decide +kernel
theorem dX10_parseGroup_84 : decode cX10_parseGroup 84 = .ok (.iconst 0, 1) := by decide +kernel
theorem dX10_parseGroup_85 : decode cX10_parseGroup 85 = .ok (.iastore, 1) := by decide +kernel
theorem dX10_parseGroup_86 : decode cX10_parseGroup 86 = .ok (.aload_n 0, 1) := by decide +kernel
theorem dX10_parseGroup_87 : decode cX10_parseGroup 87 = .ok (.invokevirtual 226, 3) := by decide +kernel
theorem dX10_parseGroup_90 : decode cX10_parseGroup 90 = .ok (.ifCond .eq 20, 3) := by decide +kernel
theorem dX10_parseGroup_93 : decode cX10_parseGroup 93 = .ok (.aload_n 0, 1) := by decide +kernel
theorem dX10_parseGroup_94 : decode cX10_parseGroup 94 = .ok (.getfield 24, 3) := by decide +kernel
theorem dX10_parseGroup_97 : decode cX10_parseGroup 97 = .ok (.iload_n 2, 1) := by decide +kernel
theorem dX10_parseGroup_98 : decode cX10_parseGroup 98 = .ok (.iconst 0, 1) := by decide +kernel
theorem dX10_parseGroup_99 : decode cX10_parseGroup 99 = .ok (.iadd, 1) := by decide +kernel
theorem dX10_parseGroup_100 : decode cX10_parseGroup 100 = .ok (.iaload, 1) := by decide +kernel
theorem dX10_parseGroup_101 : decode cX10_parseGroup 101 = .ok (.iconst (-1), 1) := by decide +kernel
theorem dX10_parseGroup_102 : decode cX10_parseGroup 102 = .ok (.if_icmp .ne 8, 3) := by decide +kernel
theorem dX10_parseGroup_105 : decode cX10_parseGroup 105 = .ok (.aload_n 0, 1) := by decide +kernel
theorem dX10_parseGroup_106 : decode cX10_parseGroup 106 = .ok (.iconst 3, 1) := by decide +kernel
theorem dX10_parseGroup_107 : decode cX10_parseGroup 107 = .ok (.invokevirtual 317, 3) := by decide +kernel
theorem dX10_parseGroup_110 : decode cX10_parseGroup 110 = .ok (.aload_n 0, 1) := by decide +kernel
theorem dX10_parseGroup_111 : decode cX10_parseGroup 111 = .ok (.invokevirtual 320, 3) := by decide +kernel
theorem dX10_parseGroup_114 : decode cX10_parseGroup 114 = .ok (.aload_n 0, 1) := by decide +kernel
theorem dX10_parseGroup_115 : decode cX10_parseGroup 115 = .ok (.getfield 24, 3) := by decide +kernel
theorem dX10_parseGroup_118 : decode cX10_parseGroup 118 = .ok (.iload_n 2, 1) := by decide +kernel
theorem dX10_parseGroup_119 : decode cX10_parseGroup 119 = .ok (.iconst 1, 1) := by decide +kernel
theorem dX10_parseGroup_120 : decode cX10_parseGroup 120 = .ok (.iadd, 1) := by decide +kernel
theorem dX10_parseGroup_121 : decode cX10_parseGroup 121 = .ok (.aload_n 0, 1) := by decide +kernel
theorem dX10_parseGroup_122 : decode cX10_parseGroup 122 = .ok (.ldc_w 309, 3) := by decide +kernel
theorem dX10_parseGroup_125 : decode cX10_parseGroup 125 = .ok (.iconst 0, 1) := by decide +kernel
theorem dX10_parseGroup_126 : decode cX10_parseGroup 126 = .ok (.sipush 9999, 3) := by decide +kernel
theorem dX10_parseGroup_129 : decode cX10_parseGroup 129 = .ok (.invokevirtual 355, 3) := by decide +kernel
theorem dX10_parseGroup_132 : decode cX10_parseGroup 132 = .ok (.iastore, 1) := by decide +kernel
theorem dX10_parseGroup_133 : decode cX10_parseGroup 133 = .ok (.aload_n 0, 1) := by decide +kernel
theorem dX10_parseGroup_134 : decode cX10_parseGroup 134 = .ok (.getfield 24, 3) := by decide +kernel
theorem dX10_parseGroup_137 : decode cX10_parseGroup 137 = .ok (.iload_n 2, 1) := by decide +kernel
theorem dX10_parseGroup_138 : decode cX10_parseGroup 138 = .ok (.iconst 2, 1) := by decide +kernel
theorem dX10_parseGroup_139 : decode cX10_parseGroup 139 = .ok (.iadd, 1) := by decide +kernel
theorem dX10_parseGroup_140 : decode cX10_parseGroup 140 = .ok (.aload_n 0, 1) := by decide +kernel
theorem dX10_parseGroup_141 : decode cX10_parseGroup 141 = .ok (.ldc_w 311, 3) := by decide +kernel
theorem dX10_parseGroup_144 : decode cX10_parseGroup 144 = .ok (.iconst 1, 1) := by decide +kernel
theorem dX10_parseGroup_145 : decode cX10_parseGroup 145 = .ok (.bipush 6, 2) := by decide +kernel
theorem dX10_parseGroup_147 : decode cX10_parseGroup 147 = .ok (.invokevirtual 355, 3) := by decide +kernel
theorem dX10_parseGroup_150 : decode cX10_parseGroup 150 = .ok (.iastore, 1) := by decide +kernel
theorem dX10_parseGroup_151 : decode cX10_parseGroup 151 = .ok (.aload_n 0, 1) := by decide +kernel
theorem dX10_parseGroup_152 : decode cX10_parseGroup 152 = .ok (.getfield 24, 3) := by decide +kernel
theorem dX10_parseGroup_155 : decode cX10_parseGroup 155 = .ok (.iload_n 2, 1) := by decide +kernel
theorem dX10_parseGroup_156 : decode cX10_parseGroup 156 = .ok (.iconst 3, 1) := by decide +kernel
theorem dX10_parseGroup_157 : decode cX10_parseGroup 157 = .ok (.iadd, 1) := by decide +kernel
theorem dX10_parseGroup_158 : decode cX10_parseGroup 158 = .ok (.aload_n 0, 1) := by decide +kernel
theorem dX10_parseGroup_159 : decode cX10_parseGroup 159 = .ok (.ldc_w 313, 3) := by decide +kernel
theorem dX10_parseGroup_162 : decode cX10_parseGroup 162 = .ok (.iconst 1, 1) := by decide +kernel
theorem dX10_parseGroup_163 : decode cX10_parseGroup 163 = .ok (.iconst 4, 1) := by decide +kernel
theorem dX10_parseGroup_164 : decode cX10_parseGroup 164 = .ok (.invokevirtual 355, 3) := by decide +kernel
theorem dX10_parseGroup_167 : decode cX10_parseGroup 167 = .ok (.iastore, 1) := by decide +kernel
theorem dX10_parseGroup_168 : decode cX10_parseGroup 168 = .ok (.aload_n 0, 1) := by decide +kernel
theorem dX10_parseGroup_169 : decode cX10_parseGroup 169 = .ok (.getfield 24, 3) := by decide +kernel
theorem dX10_parseGroup_172 : decode cX10_parseGroup 172 = .ok (.iload_n 2, 1) := by decide +kernel
theorem dX10_parseGroup_173 : decode cX10_parseGroup 173 = .ok (.iconst 4, 1) := by decide +kernel
theorem dX10_parseGroup_174 : decode cX10_parseGroup 174 = .ok (.iadd, 1) := by decide +kernel
theorem dX10_parseGroup_175 : decode cX10_parseGroup 175 = .ok (.aload_n 0, 1) := by decide +kernel
theorem dX10_parseGroup_176 : decode cX10_parseGroup 176 = .ok (.ldc_w 315, 3) := by decide +kernel
theorem dX10_parseGroup_179 : decode cX10_parseGroup 179 = .ok (.iconst 1, 1) := by decide +kernel
theorem dX10_parseGroup_180 : decode cX10_parseGroup 180 = .ok (.bipush 100, 2) := by decide +kernel
theorem dX10_parseGroup_182 : decode cX10_parseGroup 182 = .ok (.invokevirtual 355, 3) := by decide +kernel
theorem dX10_parseGroup_185 : decode cX10_parseGroup 185 = .ok (.iastore, 1) := by decide +kernel
theorem dX10_parseGroup_186 : decode cX10_parseGroup 186 = .ok (.aload_n 0, 1) := by decide +kernel
theorem dX10_parseGroup_187 : decode cX10_parseGroup 187 = .ok (.getfield 24, 3) := by decide +kernel
theorem dX10_parseGroup_190 : decode cX10_parseGroup 190 = .ok (.iload_n 2, 1) := by decide +kernel
theorem dX10_parseGroup_191 : decode cX10_parseGroup 191 = .ok (.iconst 5, 1) := by decide +kernel
theorem dX10_parseGroup_192 : decode cX10_parseGroup 192 = .ok (.iadd, 1) := by decide +kernel
theorem dX10_parseGroup_193 : decode cX10_parseGroup 193 = .ok (.aload_n 0, 1) := by decide +kernel
theorem dX10_parseGroup_194 : decode cX10_parseGroup 194 = .ok (.ldc_w 316, 3) := by decide +kernel
theorem dX10_parseGroup_197 : decode cX10_parseGroup 197 = .ok (.iconst 1, 1) := by decide +kernel
theorem dX10_parseGroup_198 : decode cX10_parseGroup 198 = .ok (.sipush 9999, 3) := by decide +kernel
theorem dX10_parseGroup_201 : decode cX10_parseGroup 201 = .ok (.invokevirtual 355, 3) := by decide +kernel
theorem dX10_parseGroup_204 : decode cX10_parseGroup 204 = .ok (.iastore, 1) := by decide +kernel
theorem dX10_parseGroup_205 : decode cX10_parseGroup 205 = .ok (.aload_n 0, 1) := by decide +kernel
theorem dX10_parseGroup_206 : decode cX10_parseGroup 206 = .ok (.invokevirtual 226, 3) := by decide +kernel
theorem dX10_parseGroup_209 : decode cX10_parseGroup 209 = .ok (.ifCond .eq 33, 3) := by decide +kernel
theorem dX10_parseGroup_212 : decode cX10_parseGroup 212 = .ok (.aload_n 0, 1) := by decide +kernel
theorem dX10_parseGroup_213 : decode cX10_parseGroup 213 = .ok (.getfield 242, 3) := by decide +kernel
theorem dX10_parseGroup_216 : decode cX10_parseGroup 216 = .ok (.iconst 3, 1) := by decide +kernel
theorem dX10_parseGroup_217 : decode cX10_parseGroup 217 = .ok (.if_icmp .ne 25, 3) := by decide +kernel
theorem dX10_parseGroup_220 : decode cX10_parseGroup 220 = .ok (.aload_n 0, 1) := by decide +kernel
theorem dX10_parseGroup_221 : decode cX10_parseGroup 221 = .ok (.getfield 253, 3) := by decide +kernel
theorem dX10_parseGroup_224 : decode cX10_parseGroup 224 = .ok (.bipush 59, 2) := by decide +kernel
theorem dX10_parseGroup_226 : decode cX10_parseGroup 226 = .ok (.if_icmp .ne 16, 3) := by decide +kernel
theorem dX10_parseGroup_229 : decode cX10_parseGroup 229 = .ok (.aload_n 0, 1) := by decide +kernel
theorem dX10_parseGroup_230 : decode cX10_parseGroup 230 = .ok (.iload_n 1, 1) := by decide +kernel
theorem dX10_parseGroup_231 : decode cX10_parseGroup 231 = .ok (.invokevirtual 360, 3) := by decide +kernel
theorem dX10_parseGroup_234 : decode cX10_parseGroup 234 = .ok (.ifCond .ne 8, 3) := by decide +kernel
theorem dX10_parseGroup_237 : decode cX10_parseGroup 237 = .ok (.aload_n 0, 1) := by decide +kernel
theorem dX10_parseGroup_238 : decode cX10_parseGroup 238 = .ok (.iconst 5, 1) := by decide +kernel
theorem dX10_parseGroup_239 : decode cX10_parseGroup 239 = .ok (.invokevirtual 317, 3) := by decide +kernel
theorem dX10_parseGroup_242 : decode cX10_parseGroup 242 = .ok (.aload_n 0, 1) := by decide +kernel
theorem dX10_parseGroup_243 : decode cX10_parseGroup 243 = .ok (.invokevirtual 226, 3) := by decide +kernel
theorem dX10_parseGroup_246 : decode cX10_parseGroup 246 = .ok (.ifCond .eq 14, 3) := by decide +kernel
theorem dX10_parseGroup_249 : decode cX10_parseGroup 249 = .ok (.aload_n 0, 1) := by decide +kernel
theorem dX10_parseGroup_250 : decode cX10_parseGroup 250 = .ok (.getfield 24, 3) := by decide +kernel
theorem dX10_parseGroup_253 : decode cX10_parseGroup 253 = .ok (.bipush 8, 2) := by decide +kernel
theorem dX10_parseGroup_255 : decode cX10_parseGroup 255 = .ok (.dup2, 1) := by decide +kernel
theorem dX10_parseGroup_256 : decode cX10_parseGroup 256 = .ok (.iaload, 1) := by decide +kernel
theorem dX10_parseGroup_257 : decode cX10_parseGroup 257 = .ok (.iconst 1, 1) := by decide +kernel
theorem dX10_parseGroup_258 : decode cX10_parseGroup 258 = .ok (.iadd, 1) := by decide +kernel
theorem dX10_parseGroup_259 : decode cX10_parseGroup 259 = .ok (.iastore, 1) := by decide +kernel
theorem dX10_parseGroup_260 : decode cX10_parseGroup 260 = .ok (.return_, 1) := by decide +kernel
theorem dX10_parseRing_0 : decode cX10_parseRing 0 = .ok (.aload_n 0, 1) := by decide +kernel
theorem dX10_parseRing_1 : decode cX10_parseRing 1 = .ok (.ldc_w 270, 3) := by decide +kernel
theorem dX10_parseRing_4 : decode cX10_parseRing 4 = .ok (.invokevirtual 323, 3) := by decide +kernel
theorem dX10_parseRing_7 : decode cX10_parseRing 7 = .ok (.aload_n 0, 1) := by decide +kernel
theorem dX10_parseRing_8 : decode cX10_parseRing 8 = .ok (.getfield 24, 3) := by decide +kernel
theorem dX10_parseRing_11 : decode cX10_parseRing 11 = .ok (.iconst 0, 1) := by decide +kernel
theorem dX10_parseRing_12 : decode cX10_parseRing 12 = .ok (.aload_n 0, 1) := by decide +kernel
theorem dX10_parseRing_13 : decode cX10_parseRing 13 = .ok (.ldc_w 276, 3) := by decide +kernel
theorem dX10_parseRing_16 : decode cX10_parseRing 16 = .ok (.iconst 1, 1) := by decide +kernel
theorem dX10_parseRing_17 : decode cX10_parseRing 17 = .ok (.ldc_w 363, 3) := by decide +kernel
theorem dX10_parseRing_20 : decode cX10_parseRing 20 = .ok (.invokevirtual 355, 3) := by decide +kernel
theorem dX10_parseRing_23 : decode cX10_parseRing 23 = .ok (.iastore, 1) := by decide +kernel
theorem dX10_parseRing_24 : decode cX10_parseRing 24 = .ok (.aload_n 0, 1) := by decide +kernel
theorem dX10_parseRing_25 : decode cX10_parseRing 25 = .ok (.getfield 24, 3) := by decide +kernel
theorem dX10_parseRing_28 : decode cX10_parseRing 28 = .ok (.iconst 1, 1) := by decide +kernel
theorem dX10_parseRing_29 : decode cX10_parseRing 29 = .ok (.aload_n 0, 1) := by decide +kernel
theorem dX10_parseRing_30 : decode cX10_parseRing 30 = .ok (.ldc_w 278, 3) := by decide +kernel
theorem dX10_parseRing_33 : decode cX10_parseRing 33 = .ok (.iconst 0, 1) := by decide +kernel
theorem dX10_parseRing_34 : decode cX10_parseRing 34 = .ok (.ldc_w 363, 3) := by decide +kernel
theorem dX10_parseRing_37 : decode cX10_parseRing 37 = .ok (.invokevirtual 355, 3) := by decide +kernel
theorem dX10_parseRing_40 : decode cX10_parseRing 40 = .ok (.iastore, 1) := by decide +kernel
theorem dX10_parseRing_41 : decode cX10_parseRing 41 = .ok (.aload_n 0, 1) := by decide +kernel
theorem dX10_parseRing_42 : decode cX10_parseRing 42 = .ok (.getfield 24, 3) := by decide +kernel
theorem dX10_parseRing_45 : decode cX10_parseRing 45 = .ok (.iconst 2, 1) := by decide +kernel
theorem dX10_parseRing_46 : decode cX10_parseRing 46 = .ok (.aload_n 0, 1) := by decide +kernel
theorem dX10_parseRing_47 : decode cX10_parseRing 47 = .ok (.ldc_w 280, 3) := by decide +kernel
theorem dX10_parseRing_50 : decode cX10_parseRing 50 = .ok (.iconst 0, 1) := by decide +kernel
theorem dX10_parseRing_51 : decode cX10_parseRing 51 = .ok (.sipush 9999, 3) := by decide +kernel
theorem dX10_parseRing_54 : decode cX10_parseRing 54 = .ok (.invokevirtual 355, 3) := by decide +kernel
theorem dX10_parseRing_57 : decode cX10_parseRing 57 = .ok (.iastore, 1) := by decide +kernel
theorem dX10_parseRing_58 : decode cX10_parseRing 58 = .ok (.aload_n 0, 1) := by decide +kernel
theorem dX10_parseRing_59 : decode cX10_parseRing 59 = .ok (.ldc_w 282, 3) := by decide +kernel
theorem dX10_parseRing_62 : decode cX10_parseRing 62 = .ok (.invokevirtual 323, 3) := by decide +kernel
theorem dX10_parseRing_65 : decode cX10_parseRing 65 = .ok (.aload_n 0, 1) := by decide +kernel
theorem dX10_parseRing_66 : decode cX10_parseRing 66 = .ok (.getfield 24, 3) := by decide +kernel
theorem dX10_parseRing_69 : decode cX10_parseRing 69 = .ok (.iconst 3, 1) := by decide +kernel
theorem dX10_parseRing_70 : decode cX10_parseRing 70 = .ok (.aload_n 0, 1) := by decide +kernel
theorem dX10_parseRing_71 : decode cX10_parseRing 71 = .ok (.ldc_w 283, 3) := by decide +kernel
theorem dX10_parseRing_74 : decode cX10_parseRing 74 = .ok (.invokevirtual 272, 3) := by decide +kernel
theorem dX10_parseRing_77 : decode cX10_parseRing 77 = .ok (.ifCond .eq 7, 3) := by decide +kernel
theorem dX10_parseRing_80 : decode cX10_parseRing 80 = .ok (.iconst 0, 1) := by decide +kernel
theorem dX10_parseRing_81 : decode cX10_parseRing 81 = .ok (.goto 32, 3) := by decide +kernel
theorem dX10_parseRing_84 : decode cX10_parseRing 84 = .ok (.aload_n 0, 1) := by decide +kernel
theorem dX10_parseRing_85 : decode cX10_parseRing 85 = .ok (.ldc_w 285, 3) := by decide +kernel
theorem dX10_parseRing_88 : decode cX10_parseRing 88 = .ok (.invokevirtual 272, 3) := by decide +kernel
theorem dX10_parseRing_91 : decode cX10_parseRing 91 = .ok (.ifCond .eq 7, 3) := by decide +kernel
theorem dX10_parseRing_94 : decode cX10_parseRing 94 = .ok (.iconst 1, 1) := by decide +kernel
theorem dX10_parseRing_95 : decode cX10_parseRing 95 = .ok (.goto 18, 3) := by decide +kernel
theorem dX10_parseRing_98 : decode cX10_parseRing 98 = .ok (.aload_n 0, 1) := by decide +kernel
theorem dX10_parseRing_99 : decode cX10_parseRing 99 = .ok (.ldc_w 287, 3) := by decide +kernel
theorem dX10_parseRing_102 : decode cX10_parseRing 102 = .ok (.invokevirtual 272, 3) := by decide +kernel
theorem dX10_parseRing_105 : decode cX10_parseRing 105 = .ok (.ifCond .eq 7, 3) := by decide +kernel
theorem dX10_parseRing_108 : decode cX10_parseRing 108 = .ok (.iconst 2, 1) := by decide +kernel
theorem dX10_parseRing_109 : decode cX10_parseRing 109 = .ok (.goto 4, 3) := by decide +kernel
theorem dX10_parseRing_112 : decode cX10_parseRing 112 = .ok (.iconst (-1), 1) := by decide +kernel
theorem dX10_parseRing_113 : decode cX10_parseRing 113 = .ok (.iastore, 1) := by decide +kernel
theorem dX10_parseRing_114 : decode cX10_parseRing 114 = .ok (.aload_n 0, 1) := by decide +kernel
theorem dX10_parseRing_115 : decode cX10_parseRing 115 = .ok (.getfield 24, 3) := by decide +kernel
theorem dX10_parseRing_118 : decode cX10_parseRing 118 = .ok (.iconst 3, 1) := by decide +kernel
theorem dX10_parseRing_119 : decode cX10_parseRing 119 = .ok (.iaload, 1) := by decide +kernel
theorem dX10_parseRing_120 : decode cX10_parseRing 120 = .ok (.iconst (-1), 1) := by decide +kernel
theorem dX10_parseRing_121 : decode cX10_parseRing 121 = .ok (.if_icmp .ne 8, 3) := by decide +kernel
theorem dX10_parseRing_124 : decode cX10_parseRing 124 = .ok (.aload_n 0, 1) := by decide +kernel
theorem dX10_parseRing_125 : decode cX10_parseRing 125 = .ok (.iconst 1, 1) := by decide +kernel
theorem dX10_parseRing_126 : decode cX10_parseRing 126 = .ok (.invokevirtual 317, 3) := by decide +kernel
theorem dX10_parseRing_129 : decode cX10_parseRing 129 = .ok (.aload_n 0, 1) := by decide +kernel
theorem dX10_parseRing_130 : decode cX10_parseRing 130 = .ok (.invokevirtual 320, 3) := by decide +kernel
theorem dX10_parseRing_133 : decode cX10_parseRing 133 = .ok (.return_, 1) := by decide +kernel
theorem dX10_semicolon_0 : decode cX10_semicolon 0 = .ok (.aload_n 0, 1) := by decide +kernel
theorem dX10_semicolon_1 : decode cX10_semicolon 1 = .ok (.invokevirtual 226, 3) := by decide +kernel
theorem dX10_semicolon_4 : decode cX10_semicolon 4 = .ok (.ifCond .eq 25, 3) := by decide +kernel
theorem dX10_semicolon_7 : decode cX10_semicolon 7 = .ok (.aload_n 0, 1) := by decide +kernel
theorem dX10_semicolon_8 : decode cX10_semicolon 8 = .ok (.getfield 242, 3) := by decide +kernel
theorem dX10_semicolon_11 : decode cX10_semicolon 11 = .ok (.iconst 3, 1) := by decide +kernel
theorem dX10_semicolon_12 : decode cX10_semicolon 12 = .ok (.if_icmp .ne 12, 3) := by decide +kernel
theorem dX10_semicolon_15 : decode cX10_semicolon 15 = .ok (.aload_n 0, 1) := by decide +kernel
theorem dX10_semicolon_16 : decode cX10_semicolon 16 = .ok (.getfield 253, 3) := by decide +kernel
theorem dX10_semicolon_19 : decode cX10_semicolon 19 = .ok (.bipush 59, 2) := by decide +kernel
theorem dX10_semicolon_21 : decode cX10_semicolon 21 = .ok (.if_icmp .eq 8, 3) := by decide +kernel
theorem dX10_semicolon_24 : decode cX10_semicolon 24 = .ok (.aload_n 0, 1) := by decide +kernel
theorem dX10_semicolon_25 : decode cX10_semicolon 25 = .ok (.iconst 1, 1) := by decide +kernel
theorem dX10_semicolon_26 : decode cX10_semicolon 26 = .ok (.invokevirtual 317, 3) := by decide +kernel
theorem dX10_semicolon_29 : decode cX10_semicolon 29 = .ok (.aload_n 0, 1) := by decide +kernel
theorem dX10_semicolon_30 : decode cX10_semicolon 30 = .ok (.invokevirtual 320, 3) := by decide +kernel
theorem dX10_semicolon_33 : decode cX10_semicolon 33 = .ok (.return_, 1) := by decide +kernel
theorem dX10_parseStatement_0 : decode cX10_parseStatement 0 = .ok (.aload_n 0, 1) := by decide +kernel
theorem dX10_parseStatement_1 : decode cX10_parseStatement 1 = .ok (.ldc_w 289, 3) := by decide +kernel
theorem dX10_parseStatement_4 : decode cX10_parseStatement 4 = .ok (.invokevirtual 272, 3) := by decide +kernel
theorem dX10_parseStatement_7 : decode cX10_parseStatement 7 = .ok (.ifCond .eq 10, 3) := by decide +kernel
theorem dX10_parseStatement_10 : decode cX10_parseStatement 10 = .ok (.aload_n 0, 1) := by decide +kernel
theorem dX10_parseStatement_11 : decode cX10_parseStatement 11 = .ok (.invokevirtual 364, 3) := by decide +kernel
theorem dX10_parseStatement_14 : decode cX10_parseStatement 14 = .ok (.goto 42, 3) := by decide +kernel
theorem dX10_parseStatement_17 : decode cX10_parseStatement 17 = .ok (.aload_n 0, 1) := by decide +kernel
theorem dX10_parseStatement_18 : decode cX10_parseStatement 18 = .ok (.ldc_w 299, 3) := by decide +kernel
theorem dX10_parseStatement_21 : decode cX10_parseStatement 21 = .ok (.invokevirtual 272, 3) := by decide +kernel
theorem dX10_parseStatement_24 : decode cX10_parseStatement 24 = .ok (.ifCond .eq 10, 3) := by decide +kernel
theorem dX10_parseStatement_27 : decode cX10_parseStatement 27 = .ok (.aload_n 0, 1) := by decide +kernel
theorem dX10_parseStatement_28 : decode cX10_parseStatement 28 = .ok (.invokevirtual 367, 3) := by decide +kernel
theorem dX10_parseStatement_31 : decode cX10_parseStatement 31 = .ok (.goto 25, 3) := by decide +kernel
theorem dX10_parseStatement_34 : decode cX10_parseStatement 34 = .ok (.aload_n 0, 1) := by decide +kernel
theorem dX10_parseStatement_35 : decode cX10_parseStatement 35 = .ok (.ldc_w 305, 3) := by decide +kernel
theorem dX10_parseStatement_38 : decode cX10_parseStatement 38 = .ok (.invokevirtual 272, 3) := by decide +kernel
theorem dX10_parseStatement_41 : decode cX10_parseStatement 41 = .ok (.ifCond .eq 10, 3) := by decide +kernel
theorem dX10_parseStatement_44 : decode cX10_parseStatement 44 = .ok (.aload_n 0, 1) := by decide +kernel
theorem dX10_parseStatement_45 : decode cX10_parseStatement 45 = .ok (.invokevirtual 370, 3) := by decide +kernel
theorem dX10_parseStatement_48 : decode cX10_parseStatement 48 = .ok (.goto 8, 3) := by decide +kernel
theorem dX10_parseStatement_51 : decode cX10_parseStatement 51 = .ok (.aload_n 0, 1) := by decide +kernel
theorem dX10_parseStatement_52 : decode cX10_parseStatement 52 = .ok (.iconst 1, 1) := by decide +kernel
theorem dX10_parseStatement_53 : decode cX10_parseStatement 53 = .ok (.invokevirtual 317, 3) := by decide +kernel
theorem dX10_parseStatement_56 : decode cX10_parseStatement 56 = .ok (.aload_n 0, 1) := by decide +kernel
theorem dX10_parseStatement_57 : decode cX10_parseStatement 57 = .ok (.invokevirtual 373, 3) := by decide +kernel
theorem dX10_parseStatement_60 : decode cX10_parseStatement 60 = .ok (.return_, 1) := by decide +kernel
theorem dX10_load_0 : decode cX10_load 0 = .ok (.aload_n 0, 1) := by decide +kernel
theorem dX10_load_1 : decode cX10_load 1 = .ok (.iconst 0, 1) := by decide +kernel
theorem dX10_load_2 : decode cX10_load 2 = .ok (.putfield 3, 3) := by decide +kernel
theorem dX10_load_5 : decode cX10_load 5 = .ok (.aload_n 0, 1) := by decide +kernel
theorem dX10_load_6 : decode cX10_load 6 = .ok (.aload_n 0, 1) := by decide +kernel
theorem dX10_load_7 : decode cX10_load 7 = .ok (.getfield 213, 3) := by decide +kernel
theorem dX10_load_10 : decode cX10_load 10 = .ok (.putfield 233, 3) := by decide +kernel
theorem dX10_load_13 : decode cX10_load 13 = .ok (.aload_n 0, 1) := by decide +kernel
theorem dX10_load_14 : decode cX10_load 14 = .ok (.iconst 0, 1) := by decide +kernel
theorem dX10_load_15 : decode cX10_load 15 = .ok (.putfield 213, 3) := by decide +kernel
theorem dX10_load_18 : decode cX10_load 18 = .ok (.aload_n 0, 1) := by decide +kernel
theorem dX10_load_19 : decode cX10_load 19 = .ok (.iconst 0, 1) := by decide +kernel
theorem dX10_load_20 : decode cX10_load 20 = .ok (.putfield 236, 3) := by decide +kernel
theorem dX10_load_23 : decode cX10_load 23 = .ok (.aload_n 0, 1) := by decide +kernel
theorem dX10_load_24 : decode cX10_load 24 = .ok (.iconst 0, 1) := by decide +kernel
theorem dX10_load_25 : decode cX10_load 25 = .ok (.putfield 223, 3) := by decide +kernel
theorem dX10_load_28 : decode cX10_load 28 = .ok (.aload_n 0, 1) := by decide +kernel
theorem dX10_load_29 : decode cX10_load 29 = .ok (.iconst (-1), 1) := by decide +kernel
theorem dX10_load_30 : decode cX10_load 30 = .ok (.putfield 50, 3) := by decide +kernel
theorem dX10_load_33 : decode cX10_load 33 = .ok (.aload_n 0, 1) := by decide +kernel
theorem dX10_load_34 : decode cX10_load 34 = .ok (.iconst 0, 1) := by decide +kernel
theorem dX10_load_35 : decode cX10_load 35 = .ok (.putfield 99, 3) := by decide +kernel
theorem dX10_load_38 : decode cX10_load 38 = .ok (.iconst 0, 1) := by decide +kernel
theorem dX10_load_39 : decode cX10_load 39 = .ok (.istore_n 1, 1) := by decide +kernel
theorem dX10_load_40 : decode cX10_load 40 = .ok (.iload_n 1, 1) := by decide +kernel
theorem dX10_load_41 : decode cX10_load 41 = .ok (.sipush 698, 3) := by decide +kernel
theorem dX10_load_44 : decode cX10_load 44 = .ok (.if_icmp .ge 16, 3) := by decide +kernel
theorem dX10_load_47 : decode cX10_load 47 = .ok (.aload_n 0, 1) := by decide +kernel
theorem dX10_load_48 : decode cX10_load 48 = .ok (.getfield 21, 3) := by decide +kernel
theorem dX10_load_51 : decode cX10_load 51 = .ok (.iload_n 1, 1) := by decide +kernel
theorem dX10_load_52 : decode cX10_load 52 = .ok (.iconst 0, 1) := by decide +kernel
theorem dX10_load_53 : decode cX10_load 53 = .ok (.iastore, 1) := by decide +kernel
theorem dX10_load_54 : decode cX10_load 54 = .ok (.iinc 1 1, 3) := by decide +kernel
theorem dX10_load_57 : decode cX10_load 57 = .ok (.goto (-17), 3) := by decide +kernel
theorem dX10_load_60 : decode cX10_load 60 = .ok (.aload_n 0, 1) := by decide +kernel
theorem dX10_load_61 : decode cX10_load 61 = .ok (.aload_n 0, 1) := by decide +kernel
theorem dX10_load_62 : decode cX10_load 62 = .ok (.getfield 21, 3) := by decide +kernel
theorem dX10_load_65 : decode cX10_load 65 = .ok (.putfield 24, 3) := by decide +kernel
theorem dX10_load_68 : decode cX10_load 68 = .ok (.aload_n 0, 1) := by decide +kernel
theorem dX10_load_69 : decode cX10_load 69 = .ok (.invokevirtual 257, 3) := by decide +kernel
theorem dX10_load_72 : decode cX10_load 72 = .ok (.aload_n 0, 1) := by decide +kernel
theorem dX10_load_73 : decode cX10_load 73 = .ok (.invokevirtual 376, 3) := by decide +kernel
theorem dX10_load_76 : decode cX10_load 76 = .ok (.aload_n 0, 1) := by decide +kernel
theorem dX10_load_77 : decode cX10_load 77 = .ok (.invokevirtual 373, 3) := by decide +kernel
theorem dX10_load_80 : decode cX10_load 80 = .ok (.aload_n 0, 1) := by decide +kernel
theorem dX10_load_81 : decode cX10_load 81 = .ok (.invokevirtual 226, 3) := by decide +kernel
theorem dX10_load_84 : decode cX10_load 84 = .ok (.ifCond .eq 17, 3) := by decide +kernel
theorem dX10_load_87 : decode cX10_load 87 = .ok (.aload_n 0, 1) := by decide +kernel
theorem dX10_load_88 : decode cX10_load 88 = .ok (.getfield 242, 3) := by decide +kernel
theorem dX10_load_91 : decode cX10_load 91 = .ok (.ifCond .eq 10, 3) := by decide +kernel
theorem dX10_load_94 : decode cX10_load 94 = .ok (.aload_n 0, 1) := by decide +kernel
theorem dX10_load_95 : decode cX10_load 95 = .ok (.invokevirtual 379, 3) := by decide +kernel
theorem dX10_load_98 : decode cX10_load 98 = .ok (.goto (-18), 3) := by decide +kernel
theorem dX10_load_101 : decode cX10_load 101 = .ok (.aload_n 0, 1) := by decide +kernel
theorem dX10_load_102 : decode cX10_load 102 = .ok (.aload_n 0, 1) := by decide +kernel
theorem dX10_load_103 : decode cX10_load 103 = .ok (.getfield 17, 3) := by decide +kernel
theorem dX10_load_106 : decode cX10_load 106 = .ok (.putfield 24, 3) := by decide +kernel
theorem dX10_load_109 : decode cX10_load 109 = .ok (.aload_n 0, 1) := by decide +kernel
theorem dX10_load_110 : decode cX10_load 110 = .ok (.invokevirtual 226, 3) := by decide +kernel
theorem dX10_load_113 : decode cX10_load 113 = .ok (.ifCond .ne 6, 3) := by decide +kernel
theorem dX10_load_116 : decode cX10_load 116 = .ok (.bipush (-4), 2) := by decide +kernel
theorem dX10_load_118 : decode cX10_load 118 = .ok (.ireturn, 1) := by decide +kernel
theorem dX10_load_119 : decode cX10_load 119 = .ok (.aload_n 0, 1) := by decide +kernel
theorem dX10_load_120 : decode cX10_load 120 = .ok (.invokevirtual 382, 3) := by decide +kernel
theorem dX10_load_123 : decode cX10_load 123 = .ok (.iconst 0, 1) := by decide +kernel
theorem dX10_load_124 : decode cX10_load 124 = .ok (.istore_n 1, 1) := by decide +kernel
theorem dX10_load_125 : decode cX10_load 125 = .ok (.iload_n 1, 1) := by decide +kernel
theorem dX10_load_126 : decode cX10_load 126 = .ok (.sipush 698, 3) := by decide +kernel
theorem dX10_load_129 : decode cX10_load 129 = .ok (.if_icmp .ge 21, 3) := by decide +kernel
theorem dX10_load_132 : decode cX10_load 132 = .ok (.aload_n 0, 1) := by decide +kernel
theorem dX10_load_133 : decode cX10_load 133 = .ok (.getfield 17, 3) := by decide +kernel
theorem dX10_load_136 : decode cX10_load 136 = .ok (.iload_n 1, 1) := by decide +kernel
theorem dX10_load_137 : decode cX10_load 137 = .ok (.aload_n 0, 1) := by decide +kernel
theorem dX10_load_138 : decode cX10_load 138 = .ok (.getfield 21, 3) := by decide +kernel
theorem dX10_load_141 : decode cX10_load 141 = .ok (.iload_n 1, 1) := by decide +kernel
theorem dX10_load_142 : decode cX10_load 142 = .ok (.iaload, 1) := by decide +kernel
theorem dX10_load_143 : decode cX10_load 143 = .ok (.iastore, 1) := by decide +kernel
theorem dX10_load_144 : decode cX10_load 144 = .ok (.iinc 1 1, 3) := by decide +kernel
theorem dX10_load_147 : decode cX10_load 147 = .ok (.goto (-22), 3) := by decide +kernel
theorem dX10_load_150 : decode cX10_load 150 = .ok (.aload_n 0, 1) := by decide +kernel
theorem dX10_load_151 : decode cX10_load 151 = .ok (.getfield 17, 3) := by decide +kernel
theorem dX10_load_154 : decode cX10_load 154 = .ok (.bipush 8, 2) := by decide +kernel
theorem dX10_load_156 : decode cX10_load 156 = .ok (.iaload, 1) := by decide +kernel
theorem dX10_load_157 : decode cX10_load 157 = .ok (.ireturn, 1) := by decide +kernel
theorem dX10_errorCode_0 : decode cX10_errorCode 0 = .ok (.aload_n 0, 1) := by decide +kernel
theorem dX10_errorCode_1 : decode cX10_errorCode 1 = .ok (.iconst 0, 1) := by decide +kernel
theorem dX10_errorCode_2 : decode cX10_errorCode 2 = .ok (.putfield 3, 3) := by decide +kernel
theorem dX10_errorCode_5 : decode cX10_errorCode 5 = .ok (.aload_n 0, 1) := by decide +kernel
theorem dX10_errorCode_6 : decode cX10_errorCode 6 = .ok (.getfield 223, 3) := by decide +kernel
theorem dX10_errorCode_9 : decode cX10_errorCode 9 = .ok (.ireturn, 1) := by decide +kernel
theorem dX10_errorPosition_0 : decode cX10_errorPosition 0 = .ok (.aload_n 0, 1) := by decide +kernel
theorem dX10_errorPosition_1 : decode cX10_errorPosition 1 = .ok (.iconst 0, 1) := by decide +kernel
theorem dX10_errorPosition_2 : decode cX10_errorPosition 2 = .ok (.putfield 3, 3) := by decide +kernel
theorem dX10_errorPosition_5 : decode cX10_errorPosition 5 = .ok (.aload_n 0, 1) := by decide +kernel
theorem dX10_errorPosition_6 : decode cX10_errorPosition 6 = .ok (.getfield 50, 3) := by decide +kernel
theorem dX10_errorPosition_9 : decode cX10_errorPosition 9 = .ok (.ireturn, 1) := by decide +kernel
theorem dX10_isInputWord_0 : decode cX10_isInputWord 0 = .ok (.aload_n 0, 1) := by decide +kernel
theorem dX10_isInputWord_1 : decode cX10_isInputWord 1 = .ok (.iconst 0, 1) := by decide +kernel
theorem dX10_isInputWord_2 : decode cX10_isInputWord 2 = .ok (.putfield 230, 3) := by decide +kernel
theorem dX10_isInputWord_5 : decode cX10_isInputWord 5 = .ok (.aload_n 0, 1) := by decide +kernel
theorem dX10_isInputWord_6 : decode cX10_isInputWord 6 = .ok (.aload_n 0, 1) := by decide +kernel
theorem dX10_isInputWord_7 : decode cX10_isInputWord 7 = .ok (.getfield 213, 3) := by decide +kernel
theorem dX10_isInputWord_10 : decode cX10_isInputWord 10 = .ok (.putfield 236, 3) := by decide +kernel
theorem dX10_isInputWord_13 : decode cX10_isInputWord 13 = .ok (.aload_n 0, 1) := by decide +kernel
theorem dX10_isInputWord_14 : decode cX10_isInputWord 14 = .ok (.getfield 236, 3) := by decide +kernel
theorem dX10_isInputWord_17 : decode cX10_isInputWord 17 = .ok (.ifCond .le 7, 3) := by decide +kernel
theorem dX10_isInputWord_20 : decode cX10_isInputWord 20 = .ok (.iconst 1, 1) := by decide +kernel
theorem dX10_isInputWord_21 : decode cX10_isInputWord 21 = .ok (.goto 4, 3) := by decide +kernel
theorem dX10_isInputWord_24 : decode cX10_isInputWord 24 = .ok (.iconst 0, 1) := by decide +kernel
theorem dX10_isInputWord_25 : decode cX10_isInputWord 25 = .ok (.istore_n 1, 1) := by decide +kernel
theorem dX10_isInputWord_26 : decode cX10_isInputWord 26 = .ok (.iconst 0, 1) := by decide +kernel
theorem dX10_isInputWord_27 : decode cX10_isInputWord 27 = .ok (.istore_n 2, 1) := by decide +kernel
theorem dX10_isInputWord_28 : decode cX10_isInputWord 28 = .ok (.iload_n 2, 1) := by decide +kernel
theorem dX10_isInputWord_29 : decode cX10_isInputWord 29 = .ok (.aload_n 0, 1) := by decide +kernel
theorem dX10_isInputWord_30 : decode cX10_isInputWord 30 = .ok (.getfield 236, 3) := by decide +kernel
theorem dX10_isInputWord_33 : decode cX10_isInputWord 33 = .ok (.if_icmp .ge 30, 3) := by decide +kernel
theorem dX10_isInputWord_36 : decode cX10_isInputWord 36 = .ok (.iload_n 1, 1) := by decide +kernel
theorem dX10_isInputWord_37 : decode cX10_isInputWord 37 = .ok (.ifCond .eq 26, 3) := by decide +kernel
theorem dX10_isInputWord_40 : decode cX10_isInputWord 40 = .ok (.aload_n 0, 1) := by decide +kernel
theorem dX10_isInputWord_41 : decode cX10_isInputWord 41 = .ok (.getfield 46, 3) := by decide +kernel
theorem dX10_isInputWord_44 : decode cX10_isInputWord 44 = .ok (.iload_n 2, 1) := by decide +kernel
theorem dX10_isInputWord_45 : decode cX10_isInputWord 45 = .ok (.baload, 1) := by decide +kernel
theorem dX10_isInputWord_46 : decode cX10_isInputWord 46 = .ok (.i2l, 1) := by decide +kernel
theorem dX10_isInputWord_47 : decode cX10_isInputWord 47 = .ok (.ldc2_w 245, 3) := by decide +kernel
theorem dX10_isInputWord_50 : decode cX10_isInputWord 50 = .ok (.ldc2_w 247, 3) := by decide +kernel
theorem dX10_isInputWord_53 : decode cX10_isInputWord 53 = .ok (.invokestatic 62, 3) := by decide +kernel
theorem dX10_isInputWord_56 : decode cX10_isInputWord 56 = .ok (.istore_n 1, 1) := by decide +kernel
theorem dX10_isInputWord_57 : decode cX10_isInputWord 57 = .ok (.iinc 2 1, 3) := by decide +kernel
theorem dX10_isInputWord_60 : decode cX10_isInputWord 60 = .ok (.goto (-32), 3) := by decide +kernel
theorem dX10_isInputWord_63 : decode cX10_isInputWord 63 = .ok (.iload_n 1, 1) := by decide +kernel
theorem dX10_isInputWord_64 : decode cX10_isInputWord 64 = .ok (.ireturn, 1) := by decide +kernel
theorem dX10_find_0 : decode cX10_find 0 = .ok (.aload_n 0, 1) := by decide +kernel
theorem dX10_find_1 : decode cX10_find 1 = .ok (.iload_n 1, 1) := by decide +kernel
theorem dX10_find_2 : decode cX10_find 2 = .ok (.i2l, 1) := by decide +kernel
theorem dX10_find_3 : decode cX10_find 3 = .ok (.lconst 0, 1) := by decide +kernel
theorem dX10_find_4 : decode cX10_find 4 = .ok (.ldc2_w 385, 3) := by decide +kernel
theorem dX10_find_7 : decode cX10_find 7 = .ok (.invokestatic 62, 3) := by decide +kernel
theorem dX10_find_10 : decode cX10_find 10 = .ok (.invokevirtual 216, 3) := by decide +kernel
theorem dX10_find_13 : decode cX10_find 13 = .ok (.ifCond .ne 5, 3) := by decide +kernel
theorem dX10_find_16 : decode cX10_find 16 = .ok (.iconst 0, 1) := by decide +kernel
theorem dX10_find_17 : decode cX10_find 17 = .ok (.ireturn, 1) := by decide +kernel
theorem dX10_find_18 : decode cX10_find 18 = .ok (.aload_n 0, 1) := by decide +kernel
theorem dX10_find_19 : decode cX10_find 19 = .ok (.invokevirtual 387, 3) := by decide +kernel
theorem dX10_find_22 : decode cX10_find 22 = .ok (.istore_n 2, 1) := by decide +kernel
theorem dX10_find_23 : decode cX10_find 23 = .ok (.aload_n 0, 1) := by decide +kernel
theorem dX10_find_24 : decode cX10_find 24 = .ok (.iconst 0, 1) := by decide +kernel
theorem dX10_find_25 : decode cX10_find 25 = .ok (.putfield 213, 3) := by decide +kernel
theorem dX10_find_28 : decode cX10_find 28 = .ok (.iload_n 2, 1) := by decide +kernel
theorem dX10_find_29 : decode cX10_find 29 = .ok (.ifCond .eq 11, 3) := by decide +kernel
theorem dX10_find_32 : decode cX10_find 32 = .ok (.aload_n 0, 1) := by decide +kernel
theorem dX10_find_33 : decode cX10_find 33 = .ok (.iload_n 1, 1) := by decide +kernel
theorem dX10_find_34 : decode cX10_find 34 = .ok (.invokevirtual 343, 3) := by decide +kernel
theorem dX10_find_37 : decode cX10_find 37 = .ok (.goto 4, 3) := by decide +kernel
theorem dX10_find_40 : decode cX10_find 40 = .ok (.iconst (-1), 1) := by decide +kernel
theorem dX10_find_41 : decode cX10_find 41 = .ok (.ireturn, 1) := by decide +kernel
theorem dX10_count_0 : decode cX10_count 0 = .ok (.aload_n 0, 1) := by decide +kernel
theorem dX10_count_1 : decode cX10_count 1 = .ok (.iload_n 1, 1) := by decide +kernel
theorem dX10_count_2 : decode cX10_count 2 = .ok (.i2l, 1) := by decide +kernel
theorem dX10_count_3 : decode cX10_count 3 = .ok (.lconst 0, 1) := by decide +kernel
theorem dX10_count_4 : decode cX10_count 4 = .ok (.ldc2_w 385, 3) := by decide +kernel
theorem dX10_count_7 : decode cX10_count 7 = .ok (.invokestatic 62, 3) := by decide +kernel
theorem dX10_count_10 : decode cX10_count 10 = .ok (.invokevirtual 216, 3) := by decide +kernel
theorem dX10_count_13 : decode cX10_count 13 = .ok (.ifCond .eq 15, 3) := by decide +kernel
theorem dX10_count_16 : decode cX10_count 16 = .ok (.aload_n 0, 1) := by decide +kernel
theorem dX10_count_17 : decode cX10_count 17 = .ok (.getfield 17, 3) := by decide +kernel
theorem dX10_count_20 : decode cX10_count 20 = .ok (.bipush 6, 2) := by decide +kernel
theorem dX10_count_22 : decode cX10_count 22 = .ok (.iload_n 1, 1) := by decide +kernel
theorem dX10_count_23 : decode cX10_count 23 = .ok (.iadd, 1) := by decide +kernel
theorem dX10_count_24 : decode cX10_count 24 = .ok (.iaload, 1) := by decide +kernel
theorem dX10_count_25 : decode cX10_count 25 = .ok (.goto 4, 3) := by decide +kernel
theorem dX10_count_28 : decode cX10_count 28 = .ok (.iconst 0, 1) := by decide +kernel
theorem dX10_count_29 : decode cX10_count 29 = .ok (.ireturn, 1) := by decide +kernel
theorem dX10_node_0 : decode cX10_node 0 = .ok (.aload_n 0, 1) := by decide +kernel
theorem dX10_node_1 : decode cX10_node 1 = .ok (.aload_n 0, 1) := by decide +kernel
theorem dX10_node_2 : decode cX10_node 2 = .ok (.iload_n 1, 1) := by decide +kernel
theorem dX10_node_3 : decode cX10_node 3 = .ok (.invokevirtual 390, 3) := by decide +kernel
theorem dX10_node_6 : decode cX10_node 6 = .ok (.iload_n 2, 1) := by decide +kernel
theorem dX10_node_7 : decode cX10_node 7 = .ok (.i2l, 1) := by decide +kernel
theorem dX10_node_8 : decode cX10_node 8 = .ok (.lconst 0, 1) := by decide +kernel
theorem dX10_node_9 : decode cX10_node 9 = .ok (.ldc2_w 393, 3) := by decide +kernel
theorem dX10_node_12 : decode cX10_node 12 = .ok (.invokestatic 62, 3) := by decide +kernel
theorem dX10_node_15 : decode cX10_node 15 = .ok (.invokevirtual 395, 3) := by decide +kernel
theorem dX10_node_18 : decode cX10_node 18 = .ok (.ifCond .ne 5, 3) := by decide +kernel
theorem dX10_node_21 : decode cX10_node 21 = .ok (.iconst 0, 1) := by decide +kernel
theorem dX10_node_22 : decode cX10_node 22 = .ok (.ireturn, 1) := by decide +kernel
theorem dX10_node_23 : decode cX10_node 23 = .ok (.iload_n 2, 1) := by decide +kernel
theorem dX10_node_24 : decode cX10_node 24 = .ok (.iconst 4, 1) := by decide +kernel
theorem dX10_node_25 : decode cX10_node 25 = .ok (.if_icmp .ne 13, 3) := by decide +kernel
theorem dX10_node_28 : decode cX10_node 28 = .ok (.aload_n 0, 1) := by decide +kernel
theorem dX10_node_29 : decode cX10_node 29 = .ok (.iload_n 1, 1) := by decide +kernel
theorem dX10_node_30 : decode cX10_node 30 = .ok (.iconst 0, 1) := by decide +kernel
theorem dX10_node_31 : decode cX10_node 31 = .ok (.iconst 0, 1) := by decide +kernel
theorem dX10_node_32 : decode cX10_node 32 = .ok (.invokevirtual 87, 3) := by decide +kernel
theorem dX10_node_35 : decode cX10_node 35 = .ok (.goto 20, 3) := by decide +kernel
theorem dX10_node_38 : decode cX10_node 38 = .ok (.aload_n 0, 1) := by decide +kernel
theorem dX10_node_39 : decode cX10_node 39 = .ok (.iload_n 1, 1) := by decide +kernel
theorem dX10_node_40 : decode cX10_node 40 = .ok (.iload_n 2, 1) := by decide +kernel
theorem dX10_node_41 : decode cX10_node 41 = .ok (.iconst 4, 1) := by decide +kernel
theorem dX10_node_42 : decode cX10_node 42 = .ok (.if_icmp .ge 7, 3) := by decide +kernel
theorem dX10_node_45 : decode cX10_node 45 = .ok (.iload_n 2, 1) := by decide +kernel
theorem dX10_node_46 : decode cX10_node 46 = .ok (.goto 6, 3) := by decide +kernel
theorem dX10_node_49 : decode cX10_node 49 = .ok (.iload_n 2, 1) := by decide +kernel
theorem dX10_node_50 : decode cX10_node 50 = .ok (.iconst 1, 1) := by decide +kernel
theorem dX10_node_51 : decode cX10_node 51 = .ok (.isub, 1) := by decide +kernel
theorem dX10_node_52 : decode cX10_node 52 = .ok (.invokevirtual 77, 3) := by decide +kernel
theorem dX10_node_55 : decode cX10_node 55 = .ok (.ireturn, 1) := by decide +kernel
theorem dX10_groupsOn_0 : decode cX10_groupsOn 0 = .ok (.aload_n 0, 1) := by decide +kernel
theorem dX10_groupsOn_1 : decode cX10_groupsOn 1 = .ok (.aload_n 0, 1) := by decide +kernel
theorem dX10_groupsOn_2 : decode cX10_groupsOn 2 = .ok (.iload_n 1, 1) := by decide +kernel
theorem dX10_groupsOn_3 : decode cX10_groupsOn 3 = .ok (.invokevirtual 390, 3) := by decide +kernel
theorem dX10_groupsOn_6 : decode cX10_groupsOn 6 = .ok (.invokevirtual 216, 3) := by decide +kernel
theorem dX10_groupsOn_9 : decode cX10_groupsOn 9 = .ok (.ifCond .ne 5, 3) := by decide +kernel
theorem dX10_groupsOn_12 : decode cX10_groupsOn 12 = .ok (.iconst 0, 1) := by decide +kernel
theorem dX10_groupsOn_13 : decode cX10_groupsOn 13 = .ok (.ireturn, 1) := by decide +kernel
theorem dX10_groupsOn_14 : decode cX10_groupsOn 14 = .ok (.iconst 0, 1) := by decide +kernel
theorem dX10_groupsOn_15 : decode cX10_groupsOn 15 = .ok (.istore_n 2, 1) := by decide +kernel
theorem dX10_groupsOn_16 : decode cX10_groupsOn 16 = .ok (.iconst 0, 1) := by decide +kernel
theorem dX10_groupsOn_17 : decode cX10_groupsOn 17 = .ok (.istore_n 3, 1) := by decide +kernel
theorem dX10_groupsOn_18 : decode cX10_groupsOn 18 = .ok (.iload_n 3, 1) := by decide +kernel
theorem dX10_groupsOn_19 : decode cX10_groupsOn 19 = .ok (.aload_n 0, 1) := by decide +kernel
theorem dX10_groupsOn_20 : decode cX10_groupsOn 20 = .ok (.getfield 17, 3) := by decide +kernel
theorem dX10_groupsOn_23 : decode cX10_groupsOn 23 = .ok (.bipush 8, 2) := by decide +kernel
theorem dX10_groupsOn_25 : decode cX10_groupsOn 25 = .ok (.iaload, 1) := by decide +kernel
theorem dX10_groupsOn_26 : decode cX10_groupsOn 26 = .ok (.if_icmp .ge 33, 3) := by decide +kernel
theorem dX10_groupsOn_29 : decode cX10_groupsOn 29 = .ok (.iload_n 2, 1) := by decide +kernel
theorem dX10_groupsOn_30 : decode cX10_groupsOn 30 = .ok (.aload_n 0, 1) := by decide +kernel
theorem dX10_groupsOn_31 : decode cX10_groupsOn 31 = .ok (.iload_n 3, 1) := by decide +kernel
theorem dX10_groupsOn_32 : decode cX10_groupsOn 32 = .ok (.aload_n 0, 1) := by decide +kernel
theorem dX10_groupsOn_33 : decode cX10_groupsOn 33 = .ok (.iload_n 3, 1) := by decide +kernel
theorem dX10_groupsOn_34 : decode cX10_groupsOn 34 = .ok (.invokevirtual 70, 3) := by decide +kernel
theorem dX10_groupsOn_37 : decode cX10_groupsOn 37 = .ok (.iload_n 1, 1) := by decide +kernel
theorem dX10_groupsOn_38 : decode cX10_groupsOn 38 = .ok (.invokevirtual 83, 3) := by decide +kernel
theorem dX10_groupsOn_41 : decode cX10_groupsOn 41 = .ok (.ifCond .eq 9, 3) := by decide +kernel
theorem dX10_groupsOn_44 : decode cX10_groupsOn 44 = .ok (.iconst 1, 1) := by decide +kernel
theorem dX10_groupsOn_45 : decode cX10_groupsOn 45 = .ok (.iload_n 3, 1) := by decide +kernel
theorem dX10_groupsOn_46 : decode cX10_groupsOn 46 = .ok (.ishl, 1) := by decide +kernel
theorem dX10_groupsOn_47 : decode cX10_groupsOn 47 = .ok (.goto 4, 3) := by decide +kernel
theorem dX10_groupsOn_50 : decode cX10_groupsOn 50 = .ok (.iconst 0, 1) := by decide +kernel
theorem dX10_groupsOn_51 : decode cX10_groupsOn 51 = .ok (.ior, 1) := by decide +kernel
theorem dX10_groupsOn_52 : decode cX10_groupsOn 52 = .ok (.istore_n 2, 1) := by decide +kernel
theorem dX10_groupsOn_53 : decode cX10_groupsOn 53 = .ok (.iinc 3 1, 3) := by decide +kernel
theorem dX10_groupsOn_56 : decode cX10_groupsOn 56 = .ok (.goto (-38), 3) := by decide +kernel
theorem dX10_groupsOn_59 : decode cX10_groupsOn 59 = .ok (.iload_n 2, 1) := by decide +kernel
theorem dX10_groupsOn_60 : decode cX10_groupsOn 60 = .ok (.ireturn, 1) := by decide +kernel
theorem dX10_nodeFrom_0 : decode cX10_nodeFrom 0 = .ok (.aload_n 0, 1) := by decide +kernel
theorem dX10_nodeFrom_1 : decode cX10_nodeFrom 1 = .ok (.iload_n 1, 1) := by decide +kernel
theorem dX10_nodeFrom_2 : decode cX10_nodeFrom 2 = .ok (.i2l, 1) := by decide +kernel
theorem dX10_nodeFrom_3 : decode cX10_nodeFrom 3 = .ok (.lconst 0, 1) := by decide +kernel
theorem dX10_nodeFrom_4 : decode cX10_nodeFrom 4 = .ok (.ldc2_w 141, 3) := by decide +kernel
theorem dX10_nodeFrom_7 : decode cX10_nodeFrom 7 = .ok (.invokestatic 62, 3) := by decide +kernel
theorem dX10_nodeFrom_10 : decode cX10_nodeFrom 10 = .ok (.invokevirtual 216, 3) := by decide +kernel
theorem dX10_nodeFrom_13 : decode cX10_nodeFrom 13 = .ok (.ifCond .eq 11, 3) := by decide +kernel
theorem dX10_nodeFrom_16 : decode cX10_nodeFrom 16 = .ok (.aload_n 0, 1) := by decide +kernel
theorem dX10_nodeFrom_17 : decode cX10_nodeFrom 17 = .ok (.iload_n 1, 1) := by decide +kernel
theorem dX10_nodeFrom_18 : decode cX10_nodeFrom 18 = .ok (.invokevirtual 80, 3) := by decide +kernel
theorem dX10_nodeFrom_21 : decode cX10_nodeFrom 21 = .ok (.goto 4, 3) := by decide +kernel
theorem dX10_nodeFrom_24 : decode cX10_nodeFrom 24 = .ok (.iconst 0, 1) := by decide +kernel
theorem dX10_nodeFrom_25 : decode cX10_nodeFrom 25 = .ok (.ireturn, 1) := by decide +kernel
theorem dX10_clockwise_0 : decode cX10_clockwise 0 = .ok (.aload_n 0, 1) := by decide +kernel
theorem dX10_clockwise_1 : decode cX10_clockwise 1 = .ok (.aload_n 0, 1) := by decide +kernel
theorem dX10_clockwise_2 : decode cX10_clockwise 2 = .ok (.iload_n 1, 1) := by decide +kernel
theorem dX10_clockwise_3 : decode cX10_clockwise 3 = .ok (.invokevirtual 390, 3) := by decide +kernel
theorem dX10_clockwise_6 : decode cX10_clockwise 6 = .ok (.ifCond .eq 15, 3) := by decide +kernel
theorem dX10_clockwise_9 : decode cX10_clockwise 9 = .ok (.aload_n 0, 1) := by decide +kernel
theorem dX10_clockwise_10 : decode cX10_clockwise 10 = .ok (.iload_n 2, 1) := by decide +kernel
theorem dX10_clockwise_11 : decode cX10_clockwise 11 = .ok (.invokevirtual 390, 3) := by decide +kernel
theorem dX10_clockwise_14 : decode cX10_clockwise 14 = .ok (.ifCond .eq 7, 3) := by decide +kernel
theorem dX10_clockwise_17 : decode cX10_clockwise 17 = .ok (.iconst 1, 1) := by decide +kernel
theorem dX10_clockwise_18 : decode cX10_clockwise 18 = .ok (.goto 4, 3) := by decide +kernel
theorem dX10_clockwise_21 : decode cX10_clockwise 21 = .ok (.iconst 0, 1) := by decide +kernel
theorem dX10_clockwise_22 : decode cX10_clockwise 22 = .ok (.invokevirtual 216, 3) := by decide +kernel
theorem dX10_clockwise_25 : decode cX10_clockwise 25 = .ok (.ifCond .eq 27, 3) := by decide +kernel
theorem dX10_clockwise_28 : decode cX10_clockwise 28 = .ok (.aload_n 0, 1) := by decide +kernel
theorem dX10_clockwise_29 : decode cX10_clockwise 29 = .ok (.iload_n 2, 1) := by decide +kernel
theorem dX10_clockwise_30 : decode cX10_clockwise 30 = .ok (.iconst 0, 1) := by decide +kernel
theorem dX10_clockwise_31 : decode cX10_clockwise 31 = .ok (.invokevirtual 77, 3) := by decide +kernel
theorem dX10_clockwise_34 : decode cX10_clockwise 34 = .ok (.aload_n 0, 1) := by decide +kernel
theorem dX10_clockwise_35 : decode cX10_clockwise 35 = .ok (.iload_n 1, 1) := by decide +kernel
theorem dX10_clockwise_36 : decode cX10_clockwise 36 = .ok (.iconst 0, 1) := by decide +kernel
theorem dX10_clockwise_37 : decode cX10_clockwise 37 = .ok (.invokevirtual 77, 3) := by decide +kernel
theorem dX10_clockwise_40 : decode cX10_clockwise 40 = .ok (.isub, 1) := by decide +kernel
theorem dX10_clockwise_41 : decode cX10_clockwise 41 = .ok (.sipush 10000, 3) := by decide +kernel
theorem dX10_clockwise_44 : decode cX10_clockwise 44 = .ok (.iadd, 1) := by decide +kernel
theorem dX10_clockwise_45 : decode cX10_clockwise 45 = .ok (.sipush 10000, 3) := by decide +kernel
theorem dX10_clockwise_48 : decode cX10_clockwise 48 = .ok (.irem, 1) := by decide +kernel
theorem dX10_clockwise_49 : decode cX10_clockwise 49 = .ok (.goto 4, 3) := by decide +kernel
theorem dX10_clockwise_52 : decode cX10_clockwise 52 = .ok (.iconst 0, 1) := by decide +kernel
theorem dX10_clockwise_53 : decode cX10_clockwise 53 = .ok (.ireturn, 1) := by decide +kernel
theorem dX10_zoneShards_0 : decode cX10_zoneShards 0 = .ok (.aload_n 0, 1) := by decide +kernel
theorem dX10_zoneShards_1 : decode cX10_zoneShards 1 = .ok (.iload_n 1, 1) := by decide +kernel
theorem dX10_zoneShards_2 : decode cX10_zoneShards 2 = .ok (.i2l, 1) := by decide +kernel
theorem dX10_zoneShards_3 : decode cX10_zoneShards 3 = .ok (.lconst 0, 1) := by decide +kernel
theorem dX10_zoneShards_4 : decode cX10_zoneShards 4 = .ok (.ldc2_w 399, 3) := by decide +kernel
theorem dX10_zoneShards_7 : decode cX10_zoneShards 7 = .ok (.invokestatic 62, 3) := by decide +kernel
theorem dX10_zoneShards_10 : decode cX10_zoneShards 10 = .ok (.invokevirtual 216, 3) := by decide +kernel
theorem dX10_zoneShards_13 : decode cX10_zoneShards 13 = .ok (.ifCond .ne 5, 3) := by decide +kernel
theorem dX10_zoneShards_16 : decode cX10_zoneShards 16 = .ok (.iconst 0, 1) := by decide +kernel
theorem dX10_zoneShards_17 : decode cX10_zoneShards 17 = .ok (.ireturn, 1) := by decide +kernel
theorem dX10_zoneShards_18 : decode cX10_zoneShards 18 = .ok (.iconst 0, 1) := by decide +kernel
theorem dX10_zoneShards_19 : decode cX10_zoneShards 19 = .ok (.istore_n 2, 1) := by decide +kernel
theorem dX10_zoneShards_20 : decode cX10_zoneShards 20 = .ok (.iconst 0, 1) := by decide +kernel
theorem dX10_zoneShards_21 : decode cX10_zoneShards 21 = .ok (.istore_n 3, 1) := by decide +kernel
theorem dX10_zoneShards_22 : decode cX10_zoneShards 22 = .ok (.iload_n 3, 1) := by decide +kernel
theorem dX10_zoneShards_23 : decode cX10_zoneShards 23 = .ok (.aload_n 0, 1) := by decide +kernel
theorem dX10_zoneShards_24 : decode cX10_zoneShards 24 = .ok (.getfield 17, 3) := by decide +kernel
theorem dX10_zoneShards_27 : decode cX10_zoneShards 27 = .ok (.bipush 6, 2) := by decide +kernel
theorem dX10_zoneShards_29 : decode cX10_zoneShards 29 = .ok (.iaload, 1) := by decide +kernel
theorem dX10_zoneShards_30 : decode cX10_zoneShards 30 = .ok (.if_icmp .ge 33, 3) := by decide +kernel
theorem dX10_zoneShards_33 : decode cX10_zoneShards 33 = .ok (.iload_n 2, 1) := by decide +kernel
theorem dX10_zoneShards_34 : decode cX10_zoneShards 34 = .ok (.aload_n 0, 1) := by decide +kernel
theorem dX10_zoneShards_35 : decode cX10_zoneShards 35 = .ok (.iload_n 3, 1) := by decide +kernel
theorem dX10_zoneShards_36 : decode cX10_zoneShards 36 = .ok (.iconst 1, 1) := by decide +kernel
theorem dX10_zoneShards_37 : decode cX10_zoneShards 37 = .ok (.invokevirtual 77, 3) := by decide +kernel
theorem dX10_zoneShards_40 : decode cX10_zoneShards 40 = .ok (.iload_n 1, 1) := by decide +kernel
theorem dX10_zoneShards_41 : decode cX10_zoneShards 41 = .ok (.if_icmp .ne 13, 3) := by decide +kernel
theorem dX10_zoneShards_44 : decode cX10_zoneShards 44 = .ok (.aload_n 0, 1) := by decide +kernel
theorem dX10_zoneShards_45 : decode cX10_zoneShards 45 = .ok (.iload_n 3, 1) := by decide +kernel
theorem dX10_zoneShards_46 : decode cX10_zoneShards 46 = .ok (.iconst 0, 1) := by decide +kernel
theorem dX10_zoneShards_47 : decode cX10_zoneShards 47 = .ok (.iconst 0, 1) := by decide +kernel
theorem dX10_zoneShards_48 : decode cX10_zoneShards 48 = .ok (.invokevirtual 87, 3) := by decide +kernel
theorem dX10_zoneShards_51 : decode cX10_zoneShards 51 = .ok (.goto 4, 3) := by decide +kernel
theorem dX10_zoneShards_54 : decode cX10_zoneShards 54 = .ok (.iconst 0, 1) := by decide +kernel
theorem dX10_zoneShards_55 : decode cX10_zoneShards 55 = .ok (.iadd, 1) := by decide +kernel
theorem dX10_zoneShards_56 : decode cX10_zoneShards 56 = .ok (.istore_n 2, 1) := by decide +kernel
theorem dX10_zoneShards_57 : decode cX10_zoneShards 57 = .ok (.iinc 3 1, 3) := by decide +kernel
theorem dX10_zoneShards_60 : decode cX10_zoneShards 60 = .ok (.goto (-38), 3) := by decide +kernel
theorem dX10_zoneShards_63 : decode cX10_zoneShards 63 = .ok (.iload_n 2, 1) := by decide +kernel
theorem dX10_zoneShards_64 : decode cX10_zoneShards 64 = .ok (.ireturn, 1) := by decide +kernel
theorem dX10_tenant_0 : decode cX10_tenant 0 = .ok (.aload_n 0, 1) := by decide +kernel
theorem dX10_tenant_1 : decode cX10_tenant 1 = .ok (.aload_n 0, 1) := by decide +kernel
theorem dX10_tenant_2 : decode cX10_tenant 2 = .ok (.iload_n 1, 1) := by decide +kernel
theorem dX10_tenant_3 : decode cX10_tenant 3 = .ok (.invokevirtual 401, 3) := by decide +kernel
theorem dX10_tenant_6 : decode cX10_tenant 6 = .ok (.iload_n 2, 1) := by decide +kernel
theorem dX10_tenant_7 : decode cX10_tenant 7 = .ok (.i2l, 1) := by decide +kernel
theorem dX10_tenant_8 : decode cX10_tenant 8 = .ok (.lconst 0, 1) := by decide +kernel
theorem dX10_tenant_9 : decode cX10_tenant 9 = .ok (.ldc2_w 404, 3) := by decide +kernel
theorem dX10_tenant_12 : decode cX10_tenant 12 = .ok (.invokestatic 62, 3) := by decide +kernel
theorem dX10_tenant_15 : decode cX10_tenant 15 = .ok (.invokevirtual 395, 3) := by decide +kernel
theorem dX10_tenant_18 : decode cX10_tenant 18 = .ok (.ifCond .eq 12, 3) := by decide +kernel
theorem dX10_tenant_21 : decode cX10_tenant 21 = .ok (.aload_n 0, 1) := by decide +kernel
theorem dX10_tenant_22 : decode cX10_tenant 22 = .ok (.iload_n 1, 1) := by decide +kernel
theorem dX10_tenant_23 : decode cX10_tenant 23 = .ok (.iload_n 2, 1) := by decide +kernel
theorem dX10_tenant_24 : decode cX10_tenant 24 = .ok (.invokevirtual 167, 3) := by decide +kernel
theorem dX10_tenant_27 : decode cX10_tenant 27 = .ok (.goto 4, 3) := by decide +kernel
theorem dX10_tenant_30 : decode cX10_tenant 30 = .ok (.iconst 0, 1) := by decide +kernel
theorem dX10_tenant_31 : decode cX10_tenant 31 = .ok (.ireturn, 1) := by decide +kernel
theorem dX10_share_0 : decode cX10_share 0 = .ok (.aload_n 0, 1) := by decide +kernel
theorem dX10_share_1 : decode cX10_share 1 = .ok (.aload_n 0, 1) := by decide +kernel
theorem dX10_share_2 : decode cX10_share 2 = .ok (.iload_n 1, 1) := by decide +kernel
theorem dX10_share_3 : decode cX10_share 3 = .ok (.invokevirtual 401, 3) := by decide +kernel
theorem dX10_share_6 : decode cX10_share 6 = .ok (.invokevirtual 216, 3) := by decide +kernel
theorem dX10_share_9 : decode cX10_share 9 = .ok (.ifCond .ne 5, 3) := by decide +kernel
theorem dX10_share_12 : decode cX10_share 12 = .ok (.dconst 0, 1) := by decide +kernel
theorem dX10_share_13 : decode cX10_share 13 = .ok (.dreturn, 1) := by decide +kernel
theorem dX10_share_14 : decode cX10_share 14 = .ok (.lconst 0, 1) := by decide +kernel
theorem dX10_share_15 : decode cX10_share 15 = .ok (.lstore_n 2, 1) := by decide +kernel
theorem dX10_share_16 : decode cX10_share 16 = .ok (.iconst 0, 1) := by decide +kernel
theorem dX10_share_17 : decode cX10_share 17 = .ok (.istore 4, 2) := by decide +kernel
theorem dX10_share_19 : decode cX10_share 19 = .ok (.iload 4, 2) := by decide +kernel
theorem dX10_share_21 : decode cX10_share 21 = .ok (.aload_n 0, 1) := by decide +kernel
theorem dX10_share_22 : decode cX10_share 22 = .ok (.getfield 17, 3) := by decide +kernel
theorem dX10_share_25 : decode cX10_share 25 = .ok (.bipush 7, 2) := by decide +kernel
theorem dX10_share_27 : decode cX10_share 27 = .ok (.iaload, 1) := by decide +kernel
theorem dX10_share_28 : decode cX10_share 28 = .ok (.if_icmp .ge 20, 3) := by decide +kernel
theorem dX10_share_31 : decode cX10_share 31 = .ok (.lload_n 2, 1) := by decide +kernel
theorem dX10_share_32 : decode cX10_share 32 = .ok (.aload_n 0, 1) := by decide +kernel
theorem dX10_share_33 : decode cX10_share 33 = .ok (.iload 4, 2) := by decide +kernel
theorem dX10_share_35 : decode cX10_share 35 = .ok (.iconst 3, 1) := by decide +kernel
theorem dX10_share_36 : decode cX10_share 36 = .ok (.invokevirtual 167, 3) := by decide +kernel
theorem dX10_share_39 : decode cX10_share 39 = .ok (.i2l, 1) := by decide +kernel
theorem dX10_share_40 : decode cX10_share 40 = .ok (.ladd, 1) := by decide +kernel
theorem dX10_share_41 : decode cX10_share 41 = .ok (.lstore_n 2, 1) := by decide +kernel
theorem dX10_share_42 : decode cX10_share 42 = .ok (.iinc 4 1, 3) := by decide +kernel
theorem dX10_share_45 : decode cX10_share 45 = .ok (.goto (-26), 3) := by decide +kernel
theorem dX10_share_48 : decode cX10_share 48 = .ok (.lload_n 2, 1) := by decide +kernel
theorem dX10_share_49 : decode cX10_share 49 = .ok (.lconst 0, 1) := by decide +kernel
theorem dX10_share_50 : decode cX10_share 50 = .ok (.lcmp, 1) := by decide +kernel
theorem dX10_share_51 : decode cX10_share 51 = .ok (.ifCond .ne 7, 3) := by decide +kernel
theorem dX10_share_54 : decode cX10_share 54 = .ok (.dconst 0, 1) := by decide +kernel
theorem dX10_share_55 : decode cX10_share 55 = .ok (.goto 13, 3) := by decide +kernel
theorem dX10_share_58 : decode cX10_share 58 = .ok (.aload_n 0, 1) := by decide +kernel
theorem dX10_share_59 : decode cX10_share 59 = .ok (.iload_n 1, 1) := by decide +kernel
theorem dX10_share_60 : decode cX10_share 60 = .ok (.iconst 3, 1) := by decide +kernel
theorem dX10_share_61 : decode cX10_share 61 = .ok (.invokevirtual 167, 3) := by decide +kernel
theorem dX10_share_64 : decode cX10_share 64 = .ok (.i2d, 1) := by decide +kernel
theorem dX10_share_65 : decode cX10_share 65 = .ok (.lload_n 2, 1) := by decide +kernel
theorem dX10_share_66 : decode cX10_share 66 = .ok (.l2d, 1) := by decide +kernel
theorem dX10_share_67 : decode cX10_share 67 = .ok (.ddiv, 1) := by decide +kernel
theorem dX10_share_68 : decode cX10_share 68 = .ok (.dreturn, 1) := by decide +kernel
theorem dX10_group_0 : decode cX10_group 0 = .ok (.aload_n 0, 1) := by decide +kernel
theorem dX10_group_1 : decode cX10_group 1 = .ok (.aload_n 0, 1) := by decide +kernel
theorem dX10_group_2 : decode cX10_group 2 = .ok (.iload_n 1, 1) := by decide +kernel
theorem dX10_group_3 : decode cX10_group 3 = .ok (.invokevirtual 406, 3) := by decide +kernel
theorem dX10_group_6 : decode cX10_group 6 = .ok (.iload_n 2, 1) := by decide +kernel
theorem dX10_group_7 : decode cX10_group 7 = .ok (.i2l, 1) := by decide +kernel
theorem dX10_group_8 : decode cX10_group 8 = .ok (.lconst 0, 1) := by decide +kernel
theorem dX10_group_9 : decode cX10_group 9 = .ok (.ldc2_w 409, 3) := by decide +kernel
theorem dX10_group_12 : decode cX10_group 12 = .ok (.invokestatic 62, 3) := by decide +kernel
theorem dX10_group_15 : decode cX10_group 15 = .ok (.invokevirtual 395, 3) := by decide +kernel
theorem dX10_group_18 : decode cX10_group 18 = .ok (.ifCond .ne 5, 3) := by decide +kernel
theorem dX10_group_21 : decode cX10_group 21 = .ok (.iconst 0, 1) := by decide +kernel
theorem dX10_group_22 : decode cX10_group 22 = .ok (.ireturn, 1) := by decide +kernel
theorem dX10_group_23 : decode cX10_group 23 = .ok (.iload_n 2, 1) := by decide +kernel
theorem dX10_group_24 : decode cX10_group 24 = .ok (.bipush 7, 2) := by decide +kernel
theorem dX10_group_26 : decode cX10_group 26 = .ok (.if_icmp .ge 12, 3) := by decide +kernel
theorem dX10_group_29 : decode cX10_group 29 = .ok (.aload_n 0, 1) := by decide +kernel
theorem dX10_group_30 : decode cX10_group 30 = .ok (.iload_n 1, 1) := by decide +kernel
theorem dX10_group_31 : decode cX10_group 31 = .ok (.iload_n 2, 1) := by decide +kernel
theorem dX10_group_32 : decode cX10_group 32 = .ok (.invokevirtual 66, 3) := by decide +kernel
theorem dX10_group_35 : decode cX10_group 35 = .ok (.goto 22, 3) := by decide +kernel
theorem dX10_group_38 : decode cX10_group 38 = .ok (.iload_n 2, 1) := by decide +kernel
theorem dX10_group_39 : decode cX10_group 39 = .ok (.bipush 7, 2) := by decide +kernel
theorem dX10_group_41 : decode cX10_group 41 = .ok (.if_icmp .ne 11, 3) := by decide +kernel
theorem dX10_group_44 : decode cX10_group 44 = .ok (.aload_n 0, 1) := by decide +kernel
theorem dX10_group_45 : decode cX10_group 45 = .ok (.iload_n 1, 1) := by decide +kernel
theorem dX10_group_46 : decode cX10_group 46 = .ok (.invokevirtual 133, 3) := by decide +kernel
theorem dX10_group_49 : decode cX10_group 49 = .ok (.goto 8, 3) := by decide +kernel
theorem dX10_group_52 : decode cX10_group 52 = .ok (.aload_n 0, 1) := by decide +kernel
theorem dX10_group_53 : decode cX10_group 53 = .ok (.iload_n 1, 1) := by decide +kernel
theorem dX10_group_54 : decode cX10_group 54 = .ok (.invokevirtual 152, 3) := by decide +kernel
theorem dX10_group_57 : decode cX10_group 57 = .ok (.ireturn, 1) := by decide +kernel
theorem dX10_nodeOf_0 : decode cX10_nodeOf 0 = .ok (.aload_n 0, 1) := by decide +kernel
theorem dX10_nodeOf_1 : decode cX10_nodeOf 1 = .ok (.aload_n 0, 1) := by decide +kernel
theorem dX10_nodeOf_2 : decode cX10_nodeOf 2 = .ok (.iload_n 1, 1) := by decide +kernel
theorem dX10_nodeOf_3 : decode cX10_nodeOf 3 = .ok (.invokevirtual 406, 3) := by decide +kernel
theorem dX10_nodeOf_6 : decode cX10_nodeOf 6 = .ok (.ifCond .eq 24, 3) := by decide +kernel
theorem dX10_nodeOf_9 : decode cX10_nodeOf 9 = .ok (.iload_n 2, 1) := by decide +kernel
theorem dX10_nodeOf_10 : decode cX10_nodeOf 10 = .ok (.i2l, 1) := by decide +kernel
theorem dX10_nodeOf_11 : decode cX10_nodeOf 11 = .ok (.lconst 0, 1) := by decide +kernel
theorem dX10_nodeOf_12 : decode cX10_nodeOf 12 = .ok (.aload_n 0, 1) := by decide +kernel
theorem dX10_nodeOf_13 : decode cX10_nodeOf 13 = .ok (.iload_n 1, 1) := by decide +kernel
theorem dX10_nodeOf_14 : decode cX10_nodeOf 14 = .ok (.invokevirtual 70, 3) := by decide +kernel
theorem dX10_nodeOf_17 : decode cX10_nodeOf 17 = .ok (.iconst 1, 1) := by decide +kernel
theorem dX10_nodeOf_18 : decode cX10_nodeOf 18 = .ok (.isub, 1) := by decide +kernel
theorem dX10_nodeOf_19 : decode cX10_nodeOf 19 = .ok (.i2l, 1) := by decide +kernel
theorem dX10_nodeOf_20 : decode cX10_nodeOf 20 = .ok (.invokestatic 62, 3) := by decide +kernel
theorem dX10_nodeOf_23 : decode cX10_nodeOf 23 = .ok (.ifCond .eq 7, 3) := by decide +kernel
theorem dX10_nodeOf_26 : decode cX10_nodeOf 26 = .ok (.iconst 1, 1) := by decide +kernel
theorem dX10_nodeOf_27 : decode cX10_nodeOf 27 = .ok (.goto 4, 3) := by decide +kernel
theorem dX10_nodeOf_30 : decode cX10_nodeOf 30 = .ok (.iconst 0, 1) := by decide +kernel
theorem dX10_nodeOf_31 : decode cX10_nodeOf 31 = .ok (.invokevirtual 216, 3) := by decide +kernel
theorem dX10_nodeOf_34 : decode cX10_nodeOf 34 = .ok (.ifCond .eq 12, 3) := by decide +kernel
theorem dX10_nodeOf_37 : decode cX10_nodeOf 37 = .ok (.aload_n 0, 1) := by decide +kernel
theorem dX10_nodeOf_38 : decode cX10_nodeOf 38 = .ok (.iload_n 1, 1) := by decide +kernel
theorem dX10_nodeOf_39 : decode cX10_nodeOf 39 = .ok (.iload_n 2, 1) := by decide +kernel
theorem dX10_nodeOf_40 : decode cX10_nodeOf 40 = .ok (.invokevirtual 74, 3) := by decide +kernel
theorem dX10_nodeOf_43 : decode cX10_nodeOf 43 = .ok (.goto 4, 3) := by decide +kernel
theorem dX10_nodeOf_46 : decode cX10_nodeOf 46 = .ok (.iconst 0, 1) := by decide +kernel
theorem dX10_nodeOf_47 : decode cX10_nodeOf 47 = .ok (.ireturn, 1) := by decide +kernel
theorem dX10_missing_0 : decode cX10_missing 0 = .ok (.aload_n 0, 1) := by decide +kernel
theorem dX10_missing_1 : decode cX10_missing 1 = .ok (.aload_n 0, 1) := by decide +kernel
theorem dX10_missing_2 : decode cX10_missing 2 = .ok (.iload_n 1, 1) := by decide +kernel
theorem dX10_missing_3 : decode cX10_missing 3 = .ok (.invokevirtual 406, 3) := by decide +kernel
theorem dX10_missing_6 : decode cX10_missing 6 = .ok (.invokevirtual 216, 3) := by decide +kernel
theorem dX10_missing_9 : decode cX10_missing 9 = .ok (.ifCond .eq 11, 3) := by decide +kernel
theorem dX10_missing_12 : decode cX10_missing 12 = .ok (.aload_n 0, 1) := by decide +kernel
theorem dX10_missing_13 : decode cX10_missing 13 = .ok (.iload_n 1, 1) := by decide +kernel
theorem dX10_missing_14 : decode cX10_missing 14 = .ok (.invokevirtual 109, 3) := by decide +kernel
theorem dX10_missing_17 : decode cX10_missing 17 = .ok (.goto 4, 3) := by decide +kernel
theorem dX10_missing_20 : decode cX10_missing 20 = .ok (.iconst 0, 1) := by decide +kernel
theorem dX10_missing_21 : decode cX10_missing 21 = .ok (.ireturn, 1) := by decide +kernel
theorem dX10_zonesOf_0 : decode cX10_zonesOf 0 = .ok (.aload_n 0, 1) := by decide +kernel
theorem dX10_zonesOf_1 : decode cX10_zonesOf 1 = .ok (.aload_n 0, 1) := by decide +kernel
theorem dX10_zonesOf_2 : decode cX10_zonesOf 2 = .ok (.iload_n 1, 1) := by decide +kernel
theorem dX10_zonesOf_3 : decode cX10_zonesOf 3 = .ok (.invokevirtual 406, 3) := by decide +kernel
theorem dX10_zonesOf_6 : decode cX10_zonesOf 6 = .ok (.invokevirtual 216, 3) := by decide +kernel
theorem dX10_zonesOf_9 : decode cX10_zonesOf 9 = .ok (.ifCond .ne 5, 3) := by decide +kernel
theorem dX10_zonesOf_12 : decode cX10_zonesOf 12 = .ok (.iconst 0, 1) := by decide +kernel
theorem dX10_zonesOf_13 : decode cX10_zonesOf 13 = .ok (.ireturn, 1) := by decide +kernel
theorem dX10_zonesOf_14 : decode cX10_zonesOf 14 = .ok (.iconst 0, 1) := by decide +kernel
theorem dX10_zonesOf_15 : decode cX10_zonesOf 15 = .ok (.istore_n 2, 1) := by decide +kernel
theorem dX10_zonesOf_16 : decode cX10_zonesOf 16 = .ok (.iconst 0, 1) := by decide +kernel
theorem dX10_zonesOf_17 : decode cX10_zonesOf 17 = .ok (.istore_n 3, 1) := by decide +kernel
theorem dX10_zonesOf_18 : decode cX10_zonesOf 18 = .ok (.iload_n 3, 1) := by decide +kernel
theorem dX10_zonesOf_19 : decode cX10_zonesOf 19 = .ok (.aload_n 0, 1) := by decide +kernel
theorem dX10_zonesOf_20 : decode cX10_zonesOf 20 = .ok (.iload_n 1, 1) := by decide +kernel
theorem dX10_zonesOf_21 : decode cX10_zonesOf 21 = .ok (.invokevirtual 70, 3) := by decide +kernel
theorem dX10_zonesOf_24 : decode cX10_zonesOf 24 = .ok (.if_icmp .ge 38, 3) := by decide +kernel
theorem dX10_zonesOf_27 : decode cX10_zonesOf 27 = .ok (.iload_n 2, 1) := by decide +kernel
theorem dX10_zonesOf_28 : decode cX10_zonesOf 28 = .ok (.aload_n 0, 1) := by decide +kernel
theorem dX10_zonesOf_29 : decode cX10_zonesOf 29 = .ok (.iload_n 1, 1) := by decide +kernel
theorem dX10_zonesOf_30 : decode cX10_zonesOf 30 = .ok (.iload_n 3, 1) := by decide +kernel
theorem dX10_zonesOf_31 : decode cX10_zonesOf 31 = .ok (.invokevirtual 106, 3) := by decide +kernel
theorem dX10_zonesOf_34 : decode cX10_zonesOf 34 = .ok (.ifCond .eq 19, 3) := by decide +kernel
theorem dX10_zonesOf_37 : decode cX10_zonesOf 37 = .ok (.iconst 1, 1) := by decide +kernel
theorem dX10_zonesOf_38 : decode cX10_zonesOf 38 = .ok (.aload_n 0, 1) := by decide +kernel
theorem dX10_zonesOf_39 : decode cX10_zonesOf 39 = .ok (.aload_n 0, 1) := by decide +kernel
theorem dX10_zonesOf_40 : decode cX10_zonesOf 40 = .ok (.iload_n 1, 1) := by decide +kernel
theorem dX10_zonesOf_41 : decode cX10_zonesOf 41 = .ok (.iload_n 3, 1) := by decide +kernel
theorem dX10_zonesOf_42 : decode cX10_zonesOf 42 = .ok (.invokevirtual 74, 3) := by decide +kernel
theorem dX10_zonesOf_45 : decode cX10_zonesOf 45 = .ok (.iconst 1, 1) := by decide +kernel
theorem dX10_zonesOf_46 : decode cX10_zonesOf 46 = .ok (.invokevirtual 77, 3) := by decide +kernel
theorem dX10_zonesOf_49 : decode cX10_zonesOf 49 = .ok (.ishl, 1) := by decide +kernel
theorem dX10_zonesOf_50 : decode cX10_zonesOf 50 = .ok (.goto 4, 3) := by decide +kernel
theorem dX10_zonesOf_53 : decode cX10_zonesOf 53 = .ok (.iconst 0, 1) := by decide +kernel
theorem dX10_zonesOf_54 : decode cX10_zonesOf 54 = .ok (.ior, 1) := by decide +kernel
theorem dX10_zonesOf_55 : decode cX10_zonesOf 55 = .ok (.istore_n 2, 1) := by decide +kernel
theorem dX10_zonesOf_56 : decode cX10_zonesOf 56 = .ok (.iinc 3 1, 3) := by decide +kernel
theorem dX10_zonesOf_59 : decode cX10_zonesOf 59 = .ok (.goto (-41), 3) := by decide +kernel
theorem dX10_zonesOf_62 : decode cX10_zonesOf 62 = .ok (.iload_n 2, 1) := by decide +kernel
theorem dX10_zonesOf_63 : decode cX10_zonesOf 63 = .ok (.invokestatic 112, 3) := by decide +kernel
theorem dX10_zonesOf_66 : decode cX10_zonesOf 66 = .ok (.ireturn, 1) := by decide +kernel
theorem dX10_damaged_0 : decode cX10_damaged 0 = .ok (.aload_n 0, 1) := by decide +kernel
theorem dX10_damaged_1 : decode cX10_damaged 1 = .ok (.iconst 0, 1) := by decide +kernel
theorem dX10_damaged_2 : decode cX10_damaged 2 = .ok (.putfield 3, 3) := by decide +kernel
theorem dX10_damaged_5 : decode cX10_damaged 5 = .ok (.iconst 0, 1) := by decide +kernel
theorem dX10_damaged_6 : decode cX10_damaged 6 = .ok (.istore_n 1, 1) := by decide +kernel
theorem dX10_damaged_7 : decode cX10_damaged 7 = .ok (.iconst 0, 1) := by decide +kernel
theorem dX10_damaged_8 : decode cX10_damaged 8 = .ok (.istore_n 2, 1) := by decide +kernel
theorem dX10_damaged_9 : decode cX10_damaged 9 = .ok (.iload_n 2, 1) := by decide +kernel
theorem dX10_damaged_10 : decode cX10_damaged 10 = .ok (.aload_n 0, 1) := by decide +kernel
theorem dX10_damaged_11 : decode cX10_damaged 11 = .ok (.getfield 17, 3) := by decide +kernel
theorem dX10_damaged_14 : decode cX10_damaged 14 = .ok (.bipush 8, 2) := by decide +kernel
theorem dX10_damaged_16 : decode cX10_damaged 16 = .ok (.iaload, 1) := by decide +kernel
theorem dX10_damaged_17 : decode cX10_damaged 17 = .ok (.if_icmp .ge 27, 3) := by decide +kernel
theorem dX10_damaged_20 : decode cX10_damaged 20 = .ok (.iload_n 1, 1) := by decide +kernel
theorem dX10_damaged_21 : decode cX10_damaged 21 = .ok (.aload_n 0, 1) := by decide +kernel
theorem dX10_damaged_22 : decode cX10_damaged 22 = .ok (.iload_n 2, 1) := by decide +kernel
theorem dX10_damaged_23 : decode cX10_damaged 23 = .ok (.invokevirtual 149, 3) := by decide +kernel
theorem dX10_damaged_26 : decode cX10_damaged 26 = .ok (.ifCond .eq 9, 3) := by decide +kernel
theorem dX10_damaged_29 : decode cX10_damaged 29 = .ok (.iconst 1, 1) := by decide +kernel
theorem dX10_damaged_30 : decode cX10_damaged 30 = .ok (.iload_n 2, 1) := by decide +kernel
theorem dX10_damaged_31 : decode cX10_damaged 31 = .ok (.ishl, 1) := by decide +kernel
theorem dX10_damaged_32 : decode cX10_damaged 32 = .ok (.goto 4, 3) := by decide +kernel
theorem dX10_damaged_35 : decode cX10_damaged 35 = .ok (.iconst 0, 1) := by decide +kernel
theorem dX10_damaged_36 : decode cX10_damaged 36 = .ok (.ior, 1) := by decide +kernel
theorem dX10_damaged_37 : decode cX10_damaged 37 = .ok (.istore_n 1, 1) := by decide +kernel
theorem dX10_damaged_38 : decode cX10_damaged 38 = .ok (.iinc 2 1, 3) := by decide +kernel
theorem dX10_damaged_41 : decode cX10_damaged 41 = .ok (.goto (-32), 3) := by decide +kernel
theorem dX10_damaged_44 : decode cX10_damaged 44 = .ok (.iload_n 1, 1) := by decide +kernel
theorem dX10_damaged_45 : decode cX10_damaged 45 = .ok (.ireturn, 1) := by decide +kernel
theorem dX10_lost_0 : decode cX10_lost 0 = .ok (.aload_n 0, 1) := by decide +kernel
theorem dX10_lost_1 : decode cX10_lost 1 = .ok (.iconst 0, 1) := by decide +kernel
theorem dX10_lost_2 : decode cX10_lost 2 = .ok (.putfield 3, 3) := by decide +kernel
theorem dX10_lost_5 : decode cX10_lost 5 = .ok (.aload_n 0, 1) := by decide +kernel
theorem dX10_lost_6 : decode cX10_lost 6 = .ok (.invokevirtual 411, 3) := by decide +kernel
theorem dX10_lost_9 : decode cX10_lost 9 = .ok (.ireturn, 1) := by decide +kernel
theorem dX10_loss_0 : decode cX10_loss 0 = .ok (.aload_n 0, 1) := by decide +kernel
theorem dX10_loss_1 : decode cX10_loss 1 = .ok (.aload_n 0, 1) := by decide +kernel
theorem dX10_loss_2 : decode cX10_loss 2 = .ok (.iload_n 1, 1) := by decide +kernel
theorem dX10_loss_3 : decode cX10_loss 3 = .ok (.invokevirtual 406, 3) := by decide +kernel
theorem dX10_loss_6 : decode cX10_loss 6 = .ok (.invokevirtual 216, 3) := by decide +kernel
theorem dX10_loss_9 : decode cX10_loss 9 = .ok (.ifCond .eq 11, 3) := by decide +kernel
theorem dX10_loss_12 : decode cX10_loss 12 = .ok (.aload_n 0, 1) := by decide +kernel
theorem dX10_loss_13 : decode cX10_loss 13 = .ok (.iload_n 1, 1) := by decide +kernel
theorem dX10_loss_14 : decode cX10_loss 14 = .ok (.invokevirtual 130, 3) := by decide +kernel
theorem dX10_loss_17 : decode cX10_loss 17 = .ok (.goto 4, 3) := by decide +kernel
theorem dX10_loss_20 : decode cX10_loss 20 = .ok (.iconst 0, 1) := by decide +kernel
theorem dX10_loss_21 : decode cX10_loss 21 = .ok (.ireturn, 1) := by decide +kernel
theorem dX10_lossWithout_0 : decode cX10_lossWithout 0 = .ok (.aload_n 0, 1) := by decide +kernel
theorem dX10_lossWithout_1 : decode cX10_lossWithout 1 = .ok (.aload_n 0, 1) := by decide +kernel
theorem dX10_lossWithout_2 : decode cX10_lossWithout 2 = .ok (.iload_n 1, 1) := by decide +kernel
theorem dX10_lossWithout_3 : decode cX10_lossWithout 3 = .ok (.invokevirtual 406, 3) := by decide +kernel
theorem dX10_lossWithout_6 : decode cX10_lossWithout 6 = .ok (.ifCond .eq 15, 3) := by decide +kernel
theorem dX10_lossWithout_9 : decode cX10_lossWithout 9 = .ok (.aload_n 0, 1) := by decide +kernel
theorem dX10_lossWithout_10 : decode cX10_lossWithout 10 = .ok (.iload_n 2, 1) := by decide +kernel
theorem dX10_lossWithout_11 : decode cX10_lossWithout 11 = .ok (.invokevirtual 390, 3) := by decide +kernel
theorem dX10_lossWithout_14 : decode cX10_lossWithout 14 = .ok (.ifCond .eq 7, 3) := by decide +kernel
theorem dX10_lossWithout_17 : decode cX10_lossWithout 17 = .ok (.iconst 1, 1) := by decide +kernel
theorem dX10_lossWithout_18 : decode cX10_lossWithout 18 = .ok (.goto 4, 3) := by decide +kernel
theorem dX10_lossWithout_21 : decode cX10_lossWithout 21 = .ok (.iconst 0, 1) := by decide +kernel
theorem dX10_lossWithout_22 : decode cX10_lossWithout 22 = .ok (.invokevirtual 216, 3) := by decide +kernel
theorem dX10_lossWithout_25 : decode cX10_lossWithout 25 = .ok (.ifCond .ne 5, 3) := by decide +kernel
theorem dX10_lossWithout_28 : decode cX10_lossWithout 28 = .ok (.iconst 0, 1) := by decide +kernel
theorem dX10_lossWithout_29 : decode cX10_lossWithout 29 = .ok (.ireturn, 1) := by decide +kernel
theorem dX10_lossWithout_30 : decode cX10_lossWithout 30 = .ok (.aload_n 0, 1) := by decide +kernel
theorem dX10_lossWithout_31 : decode cX10_lossWithout 31 = .ok (.iconst 1, 1) := by decide +kernel
theorem dX10_lossWithout_32 : decode cX10_lossWithout 32 = .ok (.iload_n 2, 1) := by decide +kernel
theorem dX10_lossWithout_33 : decode cX10_lossWithout 33 = .ok (.ishl, 1) := by decide +kernel
theorem dX10_lossWithout_34 : decode cX10_lossWithout 34 = .ok (.putfield 99, 3) := by decide +kernel
theorem dX10_lossWithout_37 : decode cX10_lossWithout 37 = .ok (.aload_n 0, 1) := by decide +kernel
theorem dX10_lossWithout_38 : decode cX10_lossWithout 38 = .ok (.iload_n 1, 1) := by decide +kernel
theorem dX10_lossWithout_39 : decode cX10_lossWithout 39 = .ok (.invokevirtual 130, 3) := by decide +kernel
theorem dX10_lossWithout_42 : decode cX10_lossWithout 42 = .ok (.istore_n 3, 1) := by decide +kernel
theorem dX10_lossWithout_43 : decode cX10_lossWithout 43 = .ok (.aload_n 0, 1) := by decide +kernel
theorem dX10_lossWithout_44 : decode cX10_lossWithout 44 = .ok (.iconst 0, 1) := by decide +kernel
theorem dX10_lossWithout_45 : decode cX10_lossWithout 45 = .ok (.putfield 99, 3) := by decide +kernel
theorem dX10_lossWithout_48 : decode cX10_lossWithout 48 = .ok (.iload_n 3, 1) := by decide +kernel
theorem dX10_lossWithout_49 : decode cX10_lossWithout 49 = .ok (.ireturn, 1) := by decide +kernel
theorem dX10_expectedLoss_0 : decode cX10_expectedLoss 0 = .ok (.aload_n 0, 1) := by decide +kernel
theorem dX10_expectedLoss_1 : decode cX10_expectedLoss 1 = .ok (.iconst 0, 1) := by decide +kernel
theorem dX10_expectedLoss_2 : decode cX10_expectedLoss 2 = .ok (.putfield 3, 3) := by decide +kernel
theorem dX10_expectedLoss_5 : decode cX10_expectedLoss 5 = .ok (.dconst 0, 1) := by decide +kernel
theorem dX10_expectedLoss_6 : decode cX10_expectedLoss 6 = .ok (.dstore_n 1, 1) := by decide +kernel
theorem dX10_expectedLoss_7 : decode cX10_expectedLoss 7 = .ok (.iconst 0, 1) := by decide +kernel
theorem dX10_expectedLoss_8 : decode cX10_expectedLoss 8 = .ok (.istore_n 3, 1) := by decide +kernel
theorem dX10_expectedLoss_9 : decode cX10_expectedLoss 9 = .ok (.iload_n 3, 1) := by decide +kernel
theorem dX10_expectedLoss_10 : decode cX10_expectedLoss 10 = .ok (.aload_n 0, 1) := by decide +kernel
theorem dX10_expectedLoss_11 : decode cX10_expectedLoss 11 = .ok (.getfield 17, 3) := by decide +kernel
theorem dX10_expectedLoss_14 : decode cX10_expectedLoss 14 = .ok (.bipush 8, 2) := by decide +kernel
theorem dX10_expectedLoss_16 : decode cX10_expectedLoss 16 = .ok (.iaload, 1) := by decide +kernel
theorem dX10_expectedLoss_17 : decode cX10_expectedLoss 17 = .ok (.if_icmp .ge 31, 3) := by decide +kernel
theorem dX10_expectedLoss_20 : decode cX10_expectedLoss 20 = .ok (.dload_n 1, 1) := by decide +kernel
theorem dX10_expectedLoss_21 : decode cX10_expectedLoss 21 = .ok (.aload_n 0, 1) := by decide +kernel
theorem dX10_expectedLoss_22 : decode cX10_expectedLoss 22 = .ok (.iload_n 3, 1) := by decide +kernel
theorem dX10_expectedLoss_23 : decode cX10_expectedLoss 23 = .ok (.iconst 5, 1) := by decide +kernel
theorem dX10_expectedLoss_24 : decode cX10_expectedLoss 24 = .ok (.invokevirtual 66, 3) := by decide +kernel
theorem dX10_expectedLoss_27 : decode cX10_expectedLoss 27 = .ok (.i2l, 1) := by decide +kernel
theorem dX10_expectedLoss_28 : decode cX10_expectedLoss 28 = .ok (.aload_n 0, 1) := by decide +kernel
theorem dX10_expectedLoss_29 : decode cX10_expectedLoss 29 = .ok (.iload_n 3, 1) := by decide +kernel
theorem dX10_expectedLoss_30 : decode cX10_expectedLoss 30 = .ok (.invokevirtual 130, 3) := by decide +kernel
theorem dX10_expectedLoss_33 : decode cX10_expectedLoss 33 = .ok (.i2l, 1) := by decide +kernel
theorem dX10_expectedLoss_34 : decode cX10_expectedLoss 34 = .ok (.lmul, 1) := by decide +kernel
theorem dX10_expectedLoss_35 : decode cX10_expectedLoss 35 = .ok (.l2d, 1) := by decide +kernel
theorem dX10_expectedLoss_36 : decode cX10_expectedLoss 36 = .ok (.ldc2_w 414, 3) := by decide +kernel
theorem dX10_expectedLoss_39 : decode cX10_expectedLoss 39 = .ok (.ddiv, 1) := by decide +kernel
theorem dX10_expectedLoss_40 : decode cX10_expectedLoss 40 = .ok (.dadd, 1) := by decide +kernel
theorem dX10_expectedLoss_41 : decode cX10_expectedLoss 41 = .ok (.dstore_n 1, 1) := by decide +kernel
theorem dX10_expectedLoss_42 : decode cX10_expectedLoss 42 = .ok (.iinc 3 1, 3) := by decide +kernel
theorem dX10_expectedLoss_45 : decode cX10_expectedLoss 45 = .ok (.goto (-36), 3) := by decide +kernel
theorem dX10_expectedLoss_48 : decode cX10_expectedLoss 48 = .ok (.dload_n 1, 1) := by decide +kernel
theorem dX10_expectedLoss_49 : decode cX10_expectedLoss 49 = .ok (.dreturn, 1) := by decide +kernel
theorem dX10_worstNode_0 : decode cX10_worstNode 0 = .ok (.aload_n 0, 1) := by decide +kernel
theorem dX10_worstNode_1 : decode cX10_worstNode 1 = .ok (.iconst 0, 1) := by decide +kernel
theorem dX10_worstNode_2 : decode cX10_worstNode 2 = .ok (.putfield 3, 3) := by decide +kernel
theorem dX10_worstNode_5 : decode cX10_worstNode 5 = .ok (.iconst (-1), 1) := by decide +kernel
theorem dX10_worstNode_6 : decode cX10_worstNode 6 = .ok (.istore_n 1, 1) := by decide +kernel
theorem dX10_worstNode_7 : decode cX10_worstNode 7 = .ok (.lconst 0, 1) := by decide +kernel
theorem dX10_worstNode_8 : decode cX10_worstNode 8 = .ok (.lstore_n 2, 1) := by decide +kernel
theorem dX10_worstNode_9 : decode cX10_worstNode 9 = .ok (.iconst 0, 1) := by decide +kernel
theorem dX10_worstNode_10 : decode cX10_worstNode 10 = .ok (.istore 4, 2) := by decide +kernel
theorem dX10_worstNode_12 : decode cX10_worstNode 12 = .ok (.iload 4, 2) := by decide +kernel
theorem dX10_worstNode_14 : decode cX10_worstNode 14 = .ok (.aload_n 0, 1) := by decide +kernel
theorem dX10_worstNode_15 : decode cX10_worstNode 15 = .ok (.getfield 17, 3) := by decide +kernel
theorem dX10_worstNode_18 : decode cX10_worstNode 18 = .ok (.bipush 6, 2) := by decide +kernel
theorem dX10_worstNode_20 : decode cX10_worstNode 20 = .ok (.iaload, 1) := by decide +kernel
theorem dX10_worstNode_21 : decode cX10_worstNode 21 = .ok (.if_icmp .ge 58, 3) := by decide +kernel
theorem dX10_worstNode_24 : decode cX10_worstNode 24 = .ok (.aload_n 0, 1) := by decide +kernel
theorem dX10_worstNode_25 : decode cX10_worstNode 25 = .ok (.iload 4, 2) := by decide +kernel
theorem dX10_worstNode_27 : decode cX10_worstNode 27 = .ok (.iconst 4, 1) := by decide +kernel
theorem dX10_worstNode_28 : decode cX10_worstNode 28 = .ok (.invokevirtual 77, 3) := by decide +kernel
theorem dX10_worstNode_31 : decode cX10_worstNode 31 = .ok (.iconst 1, 1) := by decide +kernel
theorem dX10_worstNode_32 : decode cX10_worstNode 32 = .ok (.if_icmp .ne 6, 3) := by decide +kernel
theorem dX10_worstNode_35 : decode cX10_worstNode 35 = .ok (.goto 38, 3) := by decide +kernel
theorem dX10_worstNode_38 : decode cX10_worstNode 38 = .ok (.aload_n 0, 1) := by decide +kernel
theorem dX10_worstNode_39 : decode cX10_worstNode 39 = .ok (.iconst 1, 1) := by decide +kernel
theorem dX10_worstNode_40 : decode cX10_worstNode 40 = .ok (.iload 4, 2) := by decide +kernel
theorem dX10_worstNode_42 : decode cX10_worstNode 42 = .ok (.ishl, 1) := by decide +kernel
theorem dX10_worstNode_43 : decode cX10_worstNode 43 = .ok (.putfield 99, 3) := by decide +kernel
theorem dX10_worstNode_46 : decode cX10_worstNode 46 = .ok (.aload_n 0, 1) := by decide +kernel
theorem dX10_worstNode_47 : decode cX10_worstNode 47 = .ok (.invokevirtual 416, 3) := by decide +kernel
theorem dX10_worstNode_50 : decode cX10_worstNode 50 = .ok (.lstore 5, 2) := by decide +kernel
theorem dX10_worstNode_52 : decode cX10_worstNode 52 = .ok (.iload_n 1, 1) := by decide +kernel
theorem dX10_worstNode_53 : decode cX10_worstNode 53 = .ok (.iconst (-1), 1) := by decide +kernel
theorem dX10_worstNode_54 : decode cX10_worstNode 54 = .ok (.if_icmp .eq 13, 3) := by decide +kernel
theorem dX10_worstNode_57 : decode cX10_worstNode 57 = .ok (.lload 5, 2) := by decide +kernel
theorem dX10_worstNode_59 : decode cX10_worstNode 59 = .ok (.lload_n 2, 1) := by decide +kernel
theorem dX10_worstNode_60 : decode cX10_worstNode 60 = .ok (.lcmp, 1) := by decide +kernel
theorem dX10_worstNode_61 : decode cX10_worstNode 61 = .ok (.ifCond .gt 6, 3) := by decide +kernel
