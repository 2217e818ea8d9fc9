theorem dX12_read_128 : decode cX12_read 128 = .ok (.ifCond .eq 20, 3) := by decide +kernel
theorem dX12_read_131 : decode cX12_read 131 = .ok (.aload_n 0, 1) := by decide +kernel
theorem dX12_read_132 : decode cX12_read 132 = .ok (.iload_n 1, 1) := by decide +kernel
theorem dX12_read_133 : decode cX12_read 133 = .ok (.invokevirtual 307, 3) := by decide +kernel
theorem dX12_read_136 : decode cX12_read 136 = .ok (.ifCond .eq 12, 3) := by decide +kernel
theorem dX12_read_139 : decode cX12_read 139 = .ok (.aload_n 0, 1) := by decide +kernel
theorem dX12_read_140 : decode cX12_read 140 = .ok (.bipush (-2), 2) := by decide +kernel
theorem dX12_read_142 : decode cX12_read 142 = .ok (.iload 4, 2) := by decide +kernel
theorem dX12_read_144 : decode cX12_read 144 = .ok (.invokevirtual 123, 3) := by decide +kernel
theorem dX12_read_147 : decode cX12_read 147 = .ok (.return_, 1) := by decide +kernel
theorem dX12_read_148 : decode cX12_read 148 = .ok (.aload_n 0, 1) := by decide +kernel
theorem dX12_read_149 : decode cX12_read 149 = .ok (.invokevirtual 116, 3) := by decide +kernel
theorem dX12_read_152 : decode cX12_read 152 = .ok (.ifCond .ne 4, 3) := by decide +kernel
theorem dX12_read_155 : decode cX12_read 155 = .ok (.return_, 1) := by decide +kernel
theorem dX12_read_156 : decode cX12_read 156 = .ok (.aload_n 0, 1) := by decide +kernel
theorem dX12_read_157 : decode cX12_read 157 = .ok (.getfield 94, 3) := by decide +kernel
theorem dX12_read_160 : decode cX12_read 160 = .ok (.istore 4, 2) := by decide +kernel
theorem dX12_read_162 : decode cX12_read 162 = .ok (.aload_n 0, 1) := by decide +kernel
theorem dX12_read_163 : decode cX12_read 163 = .ok (.invokevirtual 131, 3) := by decide +kernel
theorem dX12_read_166 : decode cX12_read 166 = .ok (.istore 5, 2) := by decide +kernel
theorem dX12_read_168 : decode cX12_read 168 = .ok (.aload_n 0, 1) := by decide +kernel
theorem dX12_read_169 : decode cX12_read 169 = .ok (.iload 5, 2) := by decide +kernel
theorem dX12_read_171 : decode cX12_read 171 = .ok (.putfield 94, 3) := by decide +kernel
theorem dX12_read_174 : decode cX12_read 174 = .ok (.aload_n 0, 1) := by decide +kernel
theorem dX12_read_175 : decode cX12_read 175 = .ok (.iload 4, 2) := by decide +kernel
theorem dX12_read_177 : decode cX12_read 177 = .ok (.putfield 304, 3) := by decide +kernel
theorem dX12_read_180 : decode cX12_read 180 = .ok (.iload 5, 2) := by decide +kernel
theorem dX12_read_182 : decode cX12_read 182 = .ok (.iload 4, 2) := by decide +kernel
theorem dX12_read_184 : decode cX12_read 184 = .ok (.if_icmp .eq 36, 3) := by decide +kernel
theorem dX12_read_187 : decode cX12_read 187 = .ok (.aload_n 0, 1) := by decide +kernel
theorem dX12_read_188 : decode cX12_read 188 = .ok (.iload 4, 2) := by decide +kernel
theorem dX12_read_190 : decode cX12_read 190 = .ok (.iload 5, 2) := by decide +kernel
theorem dX12_read_192 : decode cX12_read 192 = .ok (.invokevirtual 310, 3) := by decide +kernel
theorem dX12_read_195 : decode cX12_read 195 = .ok (.ifCond .ne 34, 3) := by decide +kernel
theorem dX12_read_198 : decode cX12_read 198 = .ok (.aload_n 0, 1) := by decide +kernel
theorem dX12_read_199 : decode cX12_read 199 = .ok (.iload 4, 2) := by decide +kernel
theorem dX12_read_201 : decode cX12_read 201 = .ok (.iload 5, 2) := by decide +kernel
theorem dX12_read_203 : decode cX12_read 203 = .ok (.invokevirtual 313, 3) := by decide +kernel
theorem dX12_read_206 : decode cX12_read 206 = .ok (.ifCond .ne 23, 3) := by decide +kernel
theorem dX12_read_209 : decode cX12_read 209 = .ok (.aload_n 0, 1) := by decide +kernel
theorem dX12_read_210 : decode cX12_read 210 = .ok (.iload 4, 2) := by decide +kernel
theorem dX12_read_212 : decode cX12_read 212 = .ok (.iload 5, 2) := by decide +kernel
theorem dX12_read_214 : decode cX12_read 214 = .ok (.invokevirtual 316, 3) := by decide +kernel
theorem dX12_read_217 : decode cX12_read 217 = .ok (.ifCond .ne 12, 3) := by decide +kernel
theorem dX12_read_220 : decode cX12_read 220 = .ok (.aload_n 0, 1) := by decide +kernel
theorem dX12_read_221 : decode cX12_read 221 = .ok (.bipush (-3), 2) := by decide +kernel
theorem dX12_read_223 : decode cX12_read 223 = .ok (.iload 4, 2) := by decide +kernel
theorem dX12_read_225 : decode cX12_read 225 = .ok (.invokevirtual 123, 3) := by decide +kernel
theorem dX12_read_228 : decode cX12_read 228 = .ok (.return_, 1) := by decide +kernel
theorem dX12_read_229 : decode cX12_read 229 = .ok (.aload_n 0, 1) := by decide +kernel
theorem dX12_read_230 : decode cX12_read 230 = .ok (.getfield 100, 3) := by decide +kernel
theorem dX12_read_233 : decode cX12_read 233 = .ok (.ifCond .ne 20, 3) := by decide +kernel
theorem dX12_read_236 : decode cX12_read 236 = .ok (.aload_n 0, 1) := by decide +kernel
theorem dX12_read_237 : decode cX12_read 237 = .ok (.invokevirtual 116, 3) := by decide +kernel
theorem dX12_read_240 : decode cX12_read 240 = .ok (.ifCond .eq 13, 3) := by decide +kernel
theorem dX12_read_243 : decode cX12_read 243 = .ok (.aload_n 0, 1) := by decide +kernel
theorem dX12_read_244 : decode cX12_read 244 = .ok (.bipush (-3), 2) := by decide +kernel
theorem dX12_read_246 : decode cX12_read 246 = .ok (.aload_n 0, 1) := by decide +kernel
theorem dX12_read_247 : decode cX12_read 247 = .ok (.getfield 94, 3) := by decide +kernel
theorem dX12_read_250 : decode cX12_read 250 = .ok (.invokevirtual 123, 3) := by decide +kernel
theorem dX12_read_253 : decode cX12_read 253 = .ok (.return_, 1) := by decide +kernel
theorem dX12_labelOf_0 : decode cX12_labelOf 0 = .ok (.iload 4, 2) := by decide +kernel
theorem dX12_labelOf_2 : decode cX12_labelOf 2 = .ok (.ifCond .ne 10, 3) := by decide +kernel
theorem dX12_labelOf_5 : decode cX12_labelOf 5 = .ok (.aload_n 0, 1) := by decide +kernel
theorem dX12_labelOf_6 : decode cX12_labelOf 6 = .ok (.getfield 319, 3) := by decide +kernel
theorem dX12_labelOf_9 : decode cX12_labelOf 9 = .ok (.goto 7, 3) := by decide +kernel
theorem dX12_labelOf_12 : decode cX12_labelOf 12 = .ok (.aload_n 0, 1) := by decide +kernel
theorem dX12_labelOf_13 : decode cX12_labelOf 13 = .ok (.getfield 322, 3) := by decide +kernel
theorem dX12_labelOf_16 : decode cX12_labelOf 16 = .ok (.istore 5, 2) := by decide +kernel
theorem dX12_labelOf_18 : decode cX12_labelOf 18 = .ok (.iload 4, 2) := by decide +kernel
theorem dX12_labelOf_20 : decode cX12_labelOf 20 = .ok (.istore 6, 2) := by decide +kernel
theorem dX12_labelOf_22 : decode cX12_labelOf 22 = .ok (.iload 6, 2) := by decide +kernel
theorem dX12_labelOf_24 : decode cX12_labelOf 24 = .ok (.iload 4, 2) := by decide +kernel
theorem dX12_labelOf_26 : decode cX12_labelOf 26 = .ok (.iload 5, 2) := by decide +kernel
theorem dX12_labelOf_28 : decode cX12_labelOf 28 = .ok (.iadd, 1) := by decide +kernel
theorem dX12_labelOf_29 : decode cX12_labelOf 29 = .ok (.if_icmp .ge 100, 3) := by decide +kernel
theorem dX12_labelOf_32 : decode cX12_labelOf 32 = .ok (.aload_n 0, 1) := by decide +kernel
theorem dX12_labelOf_33 : decode cX12_labelOf 33 = .ok (.getfield 26, 3) := by decide +kernel
theorem dX12_labelOf_36 : decode cX12_labelOf 36 = .ok (.iload 6, 2) := by decide +kernel
theorem dX12_labelOf_38 : decode cX12_labelOf 38 = .ok (.iaload, 1) := by decide +kernel
theorem dX12_labelOf_39 : decode cX12_labelOf 39 = .ok (.iload_n 1, 1) := by decide +kernel
theorem dX12_labelOf_40 : decode cX12_labelOf 40 = .ok (.if_icmp .ne 7, 3) := by decide +kernel
theorem dX12_labelOf_43 : decode cX12_labelOf 43 = .ok (.iconst 1, 1) := by decide +kernel
theorem dX12_labelOf_44 : decode cX12_labelOf 44 = .ok (.goto 4, 3) := by decide +kernel
theorem dX12_labelOf_47 : decode cX12_labelOf 47 = .ok (.iconst 0, 1) := by decide +kernel
theorem dX12_labelOf_48 : decode cX12_labelOf 48 = .ok (.istore 7, 2) := by decide +kernel
theorem dX12_labelOf_50 : decode cX12_labelOf 50 = .ok (.iconst 0, 1) := by decide +kernel
theorem dX12_labelOf_51 : decode cX12_labelOf 51 = .ok (.istore 8, 2) := by decide +kernel
theorem dX12_labelOf_53 : decode cX12_labelOf 53 = .ok (.iload 8, 2) := by decide +kernel
theorem dX12_labelOf_55 : decode cX12_labelOf 55 = .ok (.bipush 6, 2) := by decide +kernel
theorem dX12_labelOf_57 : decode cX12_labelOf 57 = .ok (.if_icmp .ge 58, 3) := by decide +kernel
theorem dX12_labelOf_60 : decode cX12_labelOf 60 = .ok (.iload 7, 2) := by decide +kernel
theorem dX12_labelOf_62 : decode cX12_labelOf 62 = .ok (.ifCond .eq 53, 3) := by decide +kernel
theorem dX12_labelOf_65 : decode cX12_labelOf 65 = .ok (.aload_n 0, 1) := by decide +kernel
theorem dX12_labelOf_66 : decode cX12_labelOf 66 = .ok (.getfield 23, 3) := by decide +kernel
theorem dX12_labelOf_69 : decode cX12_labelOf 69 = .ok (.bipush 6, 2) := by decide +kernel
theorem dX12_labelOf_71 : decode cX12_labelOf 71 = .ok (.iload 6, 2) := by decide +kernel
theorem dX12_labelOf_73 : decode cX12_labelOf 73 = .ok (.imul, 1) := by decide +kernel
theorem dX12_labelOf_74 : decode cX12_labelOf 74 = .ok (.iload 8, 2) := by decide +kernel
theorem dX12_labelOf_76 : decode cX12_labelOf 76 = .ok (.iadd, 1) := by decide +kernel
theorem dX12_labelOf_77 : decode cX12_labelOf 77 = .ok (.caload, 1) := by decide +kernel
theorem dX12_labelOf_78 : decode cX12_labelOf 78 = .ok (.iload_n 2, 1) := by decide +kernel
theorem dX12_labelOf_79 : decode cX12_labelOf 79 = .ok (.iload 8, 2) := by decide +kernel
theorem dX12_labelOf_81 : decode cX12_labelOf 81 = .ok (.iadd, 1) := by decide +kernel
theorem dX12_labelOf_82 : decode cX12_labelOf 82 = .ok (.iload_n 3, 1) := by decide +kernel
theorem dX12_labelOf_83 : decode cX12_labelOf 83 = .ok (.if_icmp .ge 15, 3) := by decide +kernel
theorem dX12_labelOf_86 : decode cX12_labelOf 86 = .ok (.aload_n 0, 1) := by decide +kernel
theorem dX12_labelOf_87 : decode cX12_labelOf 87 = .ok (.getfield 20, 3) := by decide +kernel
theorem dX12_labelOf_90 : decode cX12_labelOf 90 = .ok (.iload_n 2, 1) := by decide +kernel
theorem dX12_labelOf_91 : decode cX12_labelOf 91 = .ok (.iload 8, 2) := by decide +kernel
theorem dX12_labelOf_93 : decode cX12_labelOf 93 = .ok (.iadd, 1) := by decide +kernel
theorem dX12_labelOf_94 : decode cX12_labelOf 94 = .ok (.caload, 1) := by decide +kernel
theorem dX12_labelOf_95 : decode cX12_labelOf 95 = .ok (.goto 4, 3) := by decide +kernel
theorem dX12_labelOf_98 : decode cX12_labelOf 98 = .ok (.iconst 0, 1) := by decide +kernel
theorem dX12_labelOf_99 : decode cX12_labelOf 99 = .ok (.if_icmp .ne 7, 3) := by decide +kernel
theorem dX12_labelOf_102 : decode cX12_labelOf 102 = .ok (.iconst 1, 1) := by decide +kernel
theorem dX12_labelOf_103 : decode cX12_labelOf 103 = .ok (.goto 4, 3) := by decide +kernel
theorem dX12_labelOf_106 : decode cX12_labelOf 106 = .ok (.iconst 0, 1) := by decide +kernel
theorem dX12_labelOf_107 : decode cX12_labelOf 107 = .ok (.istore 7, 2) := by decide +kernel
theorem dX12_labelOf_109 : decode cX12_labelOf 109 = .ok (.iinc 8 1, 3) := by decide +kernel
theorem dX12_labelOf_112 : decode cX12_labelOf 112 = .ok (.goto (-59), 3) := by decide +kernel
theorem dX12_labelOf_115 : decode cX12_labelOf 115 = .ok (.iload 7, 2) := by decide +kernel
theorem dX12_labelOf_117 : decode cX12_labelOf 117 = .ok (.ifCond .eq 6, 3) := by decide +kernel
theorem dX12_labelOf_120 : decode cX12_labelOf 120 = .ok (.iload 6, 2) := by decide +kernel
theorem dX12_labelOf_122 : decode cX12_labelOf 122 = .ok (.ireturn, 1) := by decide +kernel
theorem dX12_labelOf_123 : decode cX12_labelOf 123 = .ok (.iinc 6 1, 3) := by decide +kernel
theorem dX12_labelOf_126 : decode cX12_labelOf 126 = .ok (.goto (-104), 3) := by decide +kernel
theorem dX12_labelOf_129 : decode cX12_labelOf 129 = .ok (.iconst (-1), 1) := by decide +kernel
theorem dX12_labelOf_130 : decode cX12_labelOf 130 = .ok (.ireturn, 1) := by decide +kernel
theorem dX12_addLabel_0 : decode cX12_addLabel 0 = .ok (.aload_n 0, 1) := by decide +kernel
theorem dX12_addLabel_1 : decode cX12_addLabel 1 = .ok (.getfield 26, 3) := by decide +kernel
theorem dX12_addLabel_4 : decode cX12_addLabel 4 = .ok (.aload_n 0, 1) := by decide +kernel
theorem dX12_addLabel_5 : decode cX12_addLabel 5 = .ok (.getfield 319, 3) := by decide +kernel
theorem dX12_addLabel_8 : decode cX12_addLabel 8 = .ok (.iload_n 1, 1) := by decide +kernel
theorem dX12_addLabel_9 : decode cX12_addLabel 9 = .ok (.iastore, 1) := by decide +kernel
theorem dX12_addLabel_10 : decode cX12_addLabel 10 = .ok (.aload_n 0, 1) := by decide +kernel
theorem dX12_addLabel_11 : decode cX12_addLabel 11 = .ok (.getfield 29, 3) := by decide +kernel
theorem dX12_addLabel_14 : decode cX12_addLabel 14 = .ok (.aload_n 0, 1) := by decide +kernel
theorem dX12_addLabel_15 : decode cX12_addLabel 15 = .ok (.getfield 319, 3) := by decide +kernel
theorem dX12_addLabel_18 : decode cX12_addLabel 18 = .ok (.aload_n 0, 1) := by decide +kernel
theorem dX12_addLabel_19 : decode cX12_addLabel 19 = .ok (.getfield 325, 3) := by decide +kernel
theorem dX12_addLabel_22 : decode cX12_addLabel 22 = .ok (.iastore, 1) := by decide +kernel
theorem dX12_addLabel_23 : decode cX12_addLabel 23 = .ok (.aload_n 0, 1) := by decide +kernel
theorem dX12_addLabel_24 : decode cX12_addLabel 24 = .ok (.getfield 32, 3) := by decide +kernel
theorem dX12_addLabel_27 : decode cX12_addLabel 27 = .ok (.aload_n 0, 1) := by decide +kernel
theorem dX12_addLabel_28 : decode cX12_addLabel 28 = .ok (.getfield 319, 3) := by decide +kernel
theorem dX12_addLabel_31 : decode cX12_addLabel 31 = .ok (.aload_n 0, 1) := by decide +kernel
theorem dX12_addLabel_32 : decode cX12_addLabel 32 = .ok (.getfield 39, 3) := by decide +kernel
theorem dX12_addLabel_35 : decode cX12_addLabel 35 = .ok (.iconst 3, 1) := by decide +kernel
theorem dX12_addLabel_36 : decode cX12_addLabel 36 = .ok (.iload_n 1, 1) := by decide +kernel
theorem dX12_addLabel_37 : decode cX12_addLabel 37 = .ok (.imul, 1) := by decide +kernel
theorem dX12_addLabel_38 : decode cX12_addLabel 38 = .ok (.aload_n 0, 1) := by decide +kernel
theorem dX12_addLabel_39 : decode cX12_addLabel 39 = .ok (.getfield 325, 3) := by decide +kernel
theorem dX12_addLabel_42 : decode cX12_addLabel 42 = .ok (.iadd, 1) := by decide +kernel
theorem dX12_addLabel_43 : decode cX12_addLabel 43 = .ok (.iaload, 1) := by decide +kernel
theorem dX12_addLabel_44 : decode cX12_addLabel 44 = .ok (.iastore, 1) := by decide +kernel
theorem dX12_addLabel_45 : decode cX12_addLabel 45 = .ok (.aload_n 0, 1) := by decide +kernel
theorem dX12_addLabel_46 : decode cX12_addLabel 46 = .ok (.getfield 35, 3) := by decide +kernel
theorem dX12_addLabel_49 : decode cX12_addLabel 49 = .ok (.aload_n 0, 1) := by decide +kernel
theorem dX12_addLabel_50 : decode cX12_addLabel 50 = .ok (.getfield 319, 3) := by decide +kernel
theorem dX12_addLabel_53 : decode cX12_addLabel 53 = .ok (.iconst 0, 1) := by decide +kernel
theorem dX12_addLabel_54 : decode cX12_addLabel 54 = .ok (.bastore, 1) := by decide +kernel
theorem dX12_addLabel_55 : decode cX12_addLabel 55 = .ok (.iconst 0, 1) := by decide +kernel
theorem dX12_addLabel_56 : decode cX12_addLabel 56 = .ok (.istore_n 2, 1) := by decide +kernel
theorem dX12_addLabel_57 : decode cX12_addLabel 57 = .ok (.iload_n 2, 1) := by decide +kernel
theorem dX12_addLabel_58 : decode cX12_addLabel 58 = .ok (.bipush 6, 2) := by decide +kernel
theorem dX12_addLabel_60 : decode cX12_addLabel 60 = .ok (.if_icmp .ge 51, 3) := by decide +kernel
theorem dX12_addLabel_63 : decode cX12_addLabel 63 = .ok (.aload_n 0, 1) := by decide +kernel
theorem dX12_addLabel_64 : decode cX12_addLabel 64 = .ok (.getfield 23, 3) := by decide +kernel
theorem dX12_addLabel_67 : decode cX12_addLabel 67 = .ok (.bipush 6, 2) := by decide +kernel
theorem dX12_addLabel_69 : decode cX12_addLabel 69 = .ok (.aload_n 0, 1) := by decide +kernel
theorem dX12_addLabel_70 : decode cX12_addLabel 70 = .ok (.getfield 319, 3) := by decide +kernel
theorem dX12_addLabel_73 : decode cX12_addLabel 73 = .ok (.imul, 1) := by decide +kernel
theorem dX12_addLabel_74 : decode cX12_addLabel 74 = .ok (.iload_n 2, 1) := by decide +kernel
theorem dX12_addLabel_75 : decode cX12_addLabel 75 = .ok (.iadd, 1) := by decide +kernel
theorem dX12_addLabel_76 : decode cX12_addLabel 76 = .ok (.aload_n 0, 1) := by decide +kernel
theorem dX12_addLabel_77 : decode cX12_addLabel 77 = .ok (.getfield 294, 3) := by decide +kernel
theorem dX12_addLabel_80 : decode cX12_addLabel 80 = .ok (.iload_n 2, 1) := by decide +kernel
theorem dX12_addLabel_81 : decode cX12_addLabel 81 = .ok (.iadd, 1) := by decide +kernel
theorem dX12_addLabel_82 : decode cX12_addLabel 82 = .ok (.aload_n 0, 1) := by decide +kernel
theorem dX12_addLabel_83 : decode cX12_addLabel 83 = .ok (.getfield 297, 3) := by decide +kernel
theorem dX12_addLabel_86 : decode cX12_addLabel 86 = .ok (.if_icmp .ge 17, 3) := by decide +kernel
theorem dX12_addLabel_89 : decode cX12_addLabel 89 = .ok (.aload_n 0, 1) := by decide +kernel
theorem dX12_addLabel_90 : decode cX12_addLabel 90 = .ok (.getfield 20, 3) := by decide +kernel
theorem dX12_addLabel_93 : decode cX12_addLabel 93 = .ok (.aload_n 0, 1) := by decide +kernel
theorem dX12_addLabel_94 : decode cX12_addLabel 94 = .ok (.getfield 294, 3) := by decide +kernel
theorem dX12_addLabel_97 : decode cX12_addLabel 97 = .ok (.iload_n 2, 1) := by decide +kernel
theorem dX12_addLabel_98 : decode cX12_addLabel 98 = .ok (.iadd, 1) := by decide +kernel
theorem dX12_addLabel_99 : decode cX12_addLabel 99 = .ok (.caload, 1) := by decide +kernel
theorem dX12_addLabel_100 : decode cX12_addLabel 100 = .ok (.goto 4, 3) := by decide +kernel
theorem dX12_addLabel_103 : decode cX12_addLabel 103 = .ok (.iconst 0, 1) := by decide +kernel
theorem dX12_addLabel_104 : decode cX12_addLabel 104 = .ok (.castore, 1) := by decide +kernel
theorem dX12_addLabel_105 : decode cX12_addLabel 105 = .ok (.iinc 2 1, 3) := by decide +kernel
theorem dX12_addLabel_108 : decode cX12_addLabel 108 = .ok (.goto (-51), 3) := by decide +kernel
theorem dX12_addLabel_111 : decode cX12_addLabel 111 = .ok (.aload_n 0, 1) := by decide +kernel
theorem dX12_addLabel_112 : decode cX12_addLabel 112 = .ok (.dup, 1) := by decide +kernel
theorem dX12_addLabel_113 : decode cX12_addLabel 113 = .ok (.getfield 319, 3) := by decide +kernel
theorem dX12_addLabel_116 : decode cX12_addLabel 116 = .ok (.iconst 1, 1) := by decide +kernel
theorem dX12_addLabel_117 : decode cX12_addLabel 117 = .ok (.iadd, 1) := by decide +kernel
theorem dX12_addLabel_118 : decode cX12_addLabel 118 = .ok (.putfield 319, 3) := by decide +kernel
theorem dX12_addLabel_121 : decode cX12_addLabel 121 = .ok (.return_, 1) := by decide +kernel
theorem dX12_putByte_0 : decode cX12_putByte 0 = .ok (.aload_n 0, 1) := by decide +kernel
theorem dX12_putByte_1 : decode cX12_putByte 1 = .ok (.getfield 39, 3) := by decide +kernel
theorem dX12_putByte_4 : decode cX12_putByte 4 = .ok (.iload_n 1, 1) := by decide +kernel
theorem dX12_putByte_5 : decode cX12_putByte 5 = .ok (.iaload, 1) := by decide +kernel
theorem dX12_putByte_6 : decode cX12_putByte 6 = .ok (.sipush 1024, 3) := by decide +kernel
theorem dX12_putByte_9 : decode cX12_putByte 9 = .ok (.if_icmp .ge 25, 3) := by decide +kernel
theorem dX12_putByte_12 : decode cX12_putByte 12 = .ok (.aload_n 0, 1) := by decide +kernel
theorem dX12_putByte_13 : decode cX12_putByte 13 = .ok (.getfield 48, 3) := by decide +kernel
theorem dX12_putByte_16 : decode cX12_putByte 16 = .ok (.sipush 1024, 3) := by decide +kernel
theorem dX12_putByte_19 : decode cX12_putByte 19 = .ok (.iload_n 1, 1) := by decide +kernel
theorem dX12_putByte_20 : decode cX12_putByte 20 = .ok (.imul, 1) := by decide +kernel
theorem dX12_putByte_21 : decode cX12_putByte 21 = .ok (.aload_n 0, 1) := by decide +kernel
theorem dX12_putByte_22 : decode cX12_putByte 22 = .ok (.getfield 39, 3) := by decide +kernel
theorem dX12_putByte_25 : decode cX12_putByte 25 = .ok (.iload_n 1, 1) := by decide +kernel
theorem dX12_putByte_26 : decode cX12_putByte 26 = .ok (.iaload, 1) := by decide +kernel
theorem dX12_putByte_27 : decode cX12_putByte 27 = .ok (.iadd, 1) := by decide +kernel
theorem dX12_putByte_28 : decode cX12_putByte 28 = .ok (.iload_n 2, 1) := by decide +kernel
theorem dX12_putByte_29 : decode cX12_putByte 29 = .ok (.sipush 255, 3) := by decide +kernel
theorem dX12_putByte_32 : decode cX12_putByte 32 = .ok (.iand, 1) := by decide +kernel
theorem dX12_putByte_33 : decode cX12_putByte 33 = .ok (.iastore, 1) := by decide +kernel
theorem dX12_putByte_34 : decode cX12_putByte 34 = .ok (.aload_n 0, 1) := by decide +kernel
theorem dX12_putByte_35 : decode cX12_putByte 35 = .ok (.getfield 39, 3) := by decide +kernel
theorem dX12_putByte_38 : decode cX12_putByte 38 = .ok (.iload_n 1, 1) := by decide +kernel
theorem dX12_putByte_39 : decode cX12_putByte 39 = .ok (.dup2, 1) := by decide +kernel
theorem dX12_putByte_40 : decode cX12_putByte 40 = .ok (.iaload, 1) := by decide +kernel
theorem dX12_putByte_41 : decode cX12_putByte 41 = .ok (.iconst 1, 1) := by decide +kernel
theorem dX12_putByte_42 : decode cX12_putByte 42 = .ok (.iadd, 1) := by decide +kernel
theorem dX12_putByte_43 : decode cX12_putByte 43 = .ok (.iastore, 1) := by decide +kernel
theorem dX12_putByte_44 : decode cX12_putByte 44 = .ok (.return_, 1) := by decide +kernel
theorem dX12_putMany_0 : decode cX12_putMany 0 = .ok (.iconst 0, 1) := by decide +kernel
theorem dX12_putMany_1 : decode cX12_putMany 1 = .ok (.istore 4, 2) := by decide +kernel
theorem dX12_putMany_3 : decode cX12_putMany 3 = .ok (.iload 4, 2) := by decide +kernel
theorem dX12_putMany_5 : decode cX12_putMany 5 = .ok (.iload_n 3, 1) := by decide +kernel
theorem dX12_putMany_6 : decode cX12_putMany 6 = .ok (.if_icmp .ge 21, 3) := by decide +kernel
theorem dX12_putMany_9 : decode cX12_putMany 9 = .ok (.aload_n 0, 1) := by decide +kernel
theorem dX12_putMany_10 : decode cX12_putMany 10 = .ok (.iload_n 1, 1) := by decide +kernel
theorem dX12_putMany_11 : decode cX12_putMany 11 = .ok (.iload_n 2, 1) := by decide +kernel
theorem dX12_putMany_12 : decode cX12_putMany 12 = .ok (.bipush 8, 2) := by decide +kernel
theorem dX12_putMany_14 : decode cX12_putMany 14 = .ok (.iload 4, 2) := by decide +kernel
theorem dX12_putMany_16 : decode cX12_putMany 16 = .ok (.imul, 1) := by decide +kernel
theorem dX12_putMany_17 : decode cX12_putMany 17 = .ok (.ishr, 1) := by decide +kernel
theorem dX12_putMany_18 : decode cX12_putMany 18 = .ok (.invokevirtual 328, 3) := by decide +kernel
theorem dX12_putMany_21 : decode cX12_putMany 21 = .ok (.iinc 4 1, 3) := by decide +kernel
theorem dX12_putMany_24 : decode cX12_putMany 24 = .ok (.goto (-21), 3) := by decide +kernel
theorem dX12_putMany_27 : decode cX12_putMany 27 = .ok (.return_, 1) := by decide +kernel
theorem dX12_lay_0 : decode cX12_lay 0 = .ok (.aload_n 0, 1) := by decide +kernel
theorem dX12_lay_1 : decode cX12_lay 1 = .ok (.getfield 156, 3) := by decide +kernel
theorem dX12_lay_4 : decode cX12_lay 4 = .ok (.iconst 1, 1) := by decide +kernel
theorem dX12_lay_5 : decode cX12_lay 5 = .ok (.if_icmp .lt 23, 3) := by decide +kernel
theorem dX12_lay_8 : decode cX12_lay 8 = .ok (.aload_n 0, 1) := by decide +kernel
theorem dX12_lay_9 : decode cX12_lay 9 = .ok (.getfield 156, 3) := by decide +kernel
theorem dX12_lay_12 : decode cX12_lay 12 = .ok (.iconst 4, 1) := by decide +kernel
theorem dX12_lay_13 : decode cX12_lay 13 = .ok (.if_icmp .ge 15, 3) := by decide +kernel
theorem dX12_lay_16 : decode cX12_lay 16 = .ok (.aload_n 0, 1) := by decide +kernel
theorem dX12_lay_17 : decode cX12_lay 17 = .ok (.aload_n 0, 1) := by decide +kernel
theorem dX12_lay_18 : decode cX12_lay 18 = .ok (.getfield 156, 3) := by decide +kernel
theorem dX12_lay_21 : decode cX12_lay 21 = .ok (.iconst 1, 1) := by decide +kernel
theorem dX12_lay_22 : decode cX12_lay 22 = .ok (.isub, 1) := by decide +kernel
theorem dX12_lay_23 : decode cX12_lay 23 = .ok (.putfield 325, 3) := by decide +kernel
theorem dX12_lay_26 : decode cX12_lay 26 = .ok (.iconst 0, 1) := by decide +kernel
theorem dX12_lay_27 : decode cX12_lay 27 = .ok (.ireturn, 1) := by decide +kernel
theorem dX12_lay_28 : decode cX12_lay 28 = .ok (.aload_n 0, 1) := by decide +kernel
theorem dX12_lay_29 : decode cX12_lay 29 = .ok (.getfield 156, 3) := by decide +kernel
theorem dX12_lay_32 : decode cX12_lay 32 = .ok (.ifCond .eq 11, 3) := by decide +kernel
theorem dX12_lay_35 : decode cX12_lay 35 = .ok (.aload_n 0, 1) := by decide +kernel
theorem dX12_lay_36 : decode cX12_lay 36 = .ok (.getfield 156, 3) := by decide +kernel
theorem dX12_lay_39 : decode cX12_lay 39 = .ok (.iconst 4, 1) := by decide +kernel
theorem dX12_lay_40 : decode cX12_lay 40 = .ok (.if_icmp .ne 5, 3) := by decide +kernel
theorem dX12_lay_43 : decode cX12_lay 43 = .ok (.iconst 0, 1) := by decide +kernel
theorem dX12_lay_44 : decode cX12_lay 44 = .ok (.ireturn, 1) := by decide +kernel
theorem dX12_lay_45 : decode cX12_lay 45 = .ok (.iconst 3, 1) := by decide +kernel
theorem dX12_lay_46 : decode cX12_lay 46 = .ok (.iload_n 1, 1) := by decide +kernel
theorem dX12_lay_47 : decode cX12_lay 47 = .ok (.imul, 1) := by decide +kernel
theorem dX12_lay_48 : decode cX12_lay 48 = .ok (.aload_n 0, 1) := by decide +kernel
theorem dX12_lay_49 : decode cX12_lay 49 = .ok (.getfield 325, 3) := by decide +kernel
theorem dX12_lay_52 : decode cX12_lay 52 = .ok (.iadd, 1) := by decide +kernel
theorem dX12_lay_53 : decode cX12_lay 53 = .ok (.istore_n 2, 1) := by decide +kernel
theorem dX12_lay_54 : decode cX12_lay 54 = .ok (.aload_n 0, 1) := by decide +kernel
theorem dX12_lay_55 : decode cX12_lay 55 = .ok (.getfield 156, 3) := by decide +kernel
theorem dX12_lay_58 : decode cX12_lay 58 = .ok (.bipush 10, 2) := by decide +kernel
theorem dX12_lay_60 : decode cX12_lay 60 = .ok (.if_icmp .lt 7, 3) := by decide +kernel
theorem dX12_lay_63 : decode cX12_lay 63 = .ok (.iconst 1, 1) := by decide +kernel
theorem dX12_lay_64 : decode cX12_lay 64 = .ok (.goto 4, 3) := by decide +kernel
theorem dX12_lay_67 : decode cX12_lay 67 = .ok (.iconst 0, 1) := by decide +kernel
theorem dX12_lay_68 : decode cX12_lay 68 = .ok (.istore_n 3, 1) := by decide +kernel
theorem dX12_lay_69 : decode cX12_lay 69 = .ok (.aload_n 0, 1) := by decide +kernel
theorem dX12_lay_70 : decode cX12_lay 70 = .ok (.getfield 156, 3) := by decide +kernel
theorem dX12_lay_73 : decode cX12_lay 73 = .ok (.bipush 8, 2) := by decide +kernel
theorem dX12_lay_75 : decode cX12_lay 75 = .ok (.if_icmp .eq 12, 3) := by decide +kernel
theorem dX12_lay_78 : decode cX12_lay 78 = .ok (.aload_n 0, 1) := by decide +kernel
theorem dX12_lay_79 : decode cX12_lay 79 = .ok (.getfield 156, 3) := by decide +kernel
theorem dX12_lay_82 : decode cX12_lay 82 = .ok (.bipush 9, 2) := by decide +kernel
theorem dX12_lay_84 : decode cX12_lay 84 = .ok (.if_icmp .ne 7, 3) := by decide +kernel
theorem dX12_lay_87 : decode cX12_lay 87 = .ok (.iconst 1, 1) := by decide +kernel
theorem dX12_lay_88 : decode cX12_lay 88 = .ok (.goto 4, 3) := by decide +kernel
theorem dX12_lay_91 : decode cX12_lay 91 = .ok (.iconst 0, 1) := by decide +kernel
theorem dX12_lay_92 : decode cX12_lay 92 = .ok (.istore 4, 2) := by decide +kernel
theorem dX12_lay_94 : decode cX12_lay 94 = .ok (.iload_n 3, 1) := by decide +kernel
theorem dX12_lay_95 : decode cX12_lay 95 = .ok (.ifCond .eq 13, 3) := by decide +kernel
theorem dX12_lay_98 : decode cX12_lay 98 = .ok (.aload_n 0, 1) := by decide +kernel
theorem dX12_lay_99 : decode cX12_lay 99 = .ok (.getfield 325, 3) := by decide +kernel
theorem dX12_lay_102 : decode cX12_lay 102 = .ok (.ifCond .eq 22, 3) := by decide +kernel
theorem dX12_lay_105 : decode cX12_lay 105 = .ok (.goto 16, 3) := by decide +kernel
theorem dX12_lay_108 : decode cX12_lay 108 = .ok (.aload_n 0, 1) := by decide +kernel
theorem dX12_lay_109 : decode cX12_lay 109 = .ok (.getfield 325, 3) := by decide +kernel
theorem dX12_lay_112 : decode cX12_lay 112 = .ok (.iconst 2, 1) := by decide +kernel
theorem dX12_lay_113 : decode cX12_lay 113 = .ok (.if_icmp .ne 11, 3) := by decide +kernel
theorem dX12_lay_116 : decode cX12_lay 116 = .ok (.iload 4, 2) := by decide +kernel
theorem dX12_lay_118 : decode cX12_lay 118 = .ok (.ifCond .ne 6, 3) := by decide +kernel
theorem dX12_lay_121 : decode cX12_lay 121 = .ok (.bipush (-5), 2) := by decide +kernel
theorem dX12_lay_123 : decode cX12_lay 123 = .ok (.ireturn, 1) := by decide +kernel
theorem dX12_lay_124 : decode cX12_lay 124 = .ok (.aload_n 0, 1) := by decide +kernel
theorem dX12_lay_125 : decode cX12_lay 125 = .ok (.getfield 156, 3) := by decide +kernel
theorem dX12_lay_128 : decode cX12_lay 128 = .ok (.iconst 5, 1) := by decide +kernel
theorem dX12_lay_129 : decode cX12_lay 129 = .ok (.if_icmp .eq 12, 3) := by decide +kernel
theorem dX12_lay_132 : decode cX12_lay 132 = .ok (.aload_n 0, 1) := by decide +kernel
theorem dX12_lay_133 : decode cX12_lay 133 = .ok (.getfield 156, 3) := by decide +kernel
theorem dX12_lay_136 : decode cX12_lay 136 = .ok (.bipush 6, 2) := by decide +kernel
theorem dX12_lay_138 : decode cX12_lay 138 = .ok (.if_icmp .ne 7, 3) := by decide +kernel
theorem dX12_lay_141 : decode cX12_lay 141 = .ok (.iconst 1, 1) := by decide +kernel
theorem dX12_lay_142 : decode cX12_lay 142 = .ok (.goto 4, 3) := by decide +kernel
theorem dX12_lay_145 : decode cX12_lay 145 = .ok (.iconst 0, 1) := by decide +kernel
theorem dX12_lay_146 : decode cX12_lay 146 = .ok (.istore 5, 2) := by decide +kernel
theorem dX12_lay_148 : decode cX12_lay 148 = .ok (.iload_n 3, 1) := by decide +kernel
theorem dX12_lay_149 : decode cX12_lay 149 = .ok (.ifCond .eq 14, 3) := by decide +kernel
theorem dX12_lay_152 : decode cX12_lay 152 = .ok (.aload_n 0, 1) := by decide +kernel
theorem dX12_lay_153 : decode cX12_lay 153 = .ok (.getfield 39, 3) := by decide +kernel
theorem dX12_lay_156 : decode cX12_lay 156 = .ok (.iload_n 2, 1) := by decide +kernel
theorem dX12_lay_157 : decode cX12_lay 157 = .ok (.iaload, 1) := by decide +kernel
theorem dX12_lay_158 : decode cX12_lay 158 = .ok (.iconst 2, 1) := by decide +kernel
theorem dX12_lay_159 : decode cX12_lay 159 = .ok (.irem, 1) := by decide +kernel
theorem dX12_lay_160 : decode cX12_lay 160 = .ok (.ifCond .ne 19, 3) := by decide +kernel
theorem dX12_lay_163 : decode cX12_lay 163 = .ok (.iload 5, 2) := by decide +kernel
theorem dX12_lay_165 : decode cX12_lay 165 = .ok (.ifCond .eq 17, 3) := by decide +kernel
theorem dX12_lay_168 : decode cX12_lay 168 = .ok (.aload_n 0, 1) := by decide +kernel
theorem dX12_lay_169 : decode cX12_lay 169 = .ok (.getfield 39, 3) := by decide +kernel
theorem dX12_lay_172 : decode cX12_lay 172 = .ok (.iload_n 2, 1) := by decide +kernel
theorem dX12_lay_173 : decode cX12_lay 173 = .ok (.iaload, 1) := by decide +kernel
theorem dX12_lay_174 : decode cX12_lay 174 = .ok (.iconst 4, 1) := by decide +kernel
theorem dX12_lay_175 : decode cX12_lay 175 = .ok (.irem, 1) := by decide +kernel
theorem dX12_lay_176 : decode cX12_lay 176 = .ok (.ifCond .eq 6, 3) := by decide +kernel
theorem dX12_lay_179 : decode cX12_lay 179 = .ok (.bipush (-6), 2) := by decide +kernel
theorem dX12_lay_181 : decode cX12_lay 181 = .ok (.ireturn, 1) := by decide +kernel
theorem dX12_lay_182 : decode cX12_lay 182 = .ok (.aload_n 0, 1) := by decide +kernel
theorem dX12_lay_183 : decode cX12_lay 183 = .ok (.getfield 156, 3) := by decide +kernel
theorem dX12_lay_186 : decode cX12_lay 186 = .ok (.bipush 9, 2) := by decide +kernel
theorem dX12_lay_188 : decode cX12_lay 188 = .ok (.if_icmp .ne 23, 3) := by decide +kernel
theorem dX12_lay_191 : decode cX12_lay 191 = .ok (.aload_n 0, 1) := by decide +kernel
theorem dX12_lay_192 : decode cX12_lay 192 = .ok (.getfield 39, 3) := by decide +kernel
theorem dX12_lay_195 : decode cX12_lay 195 = .ok (.iload_n 2, 1) := by decide +kernel
theorem dX12_lay_196 : decode cX12_lay 196 = .ok (.iaload, 1) := by decide +kernel
theorem dX12_lay_197 : decode cX12_lay 197 = .ok (.iconst 4, 1) := by decide +kernel
theorem dX12_lay_198 : decode cX12_lay 198 = .ok (.irem, 1) := by decide +kernel
theorem dX12_lay_199 : decode cX12_lay 199 = .ok (.ifCond .eq 110, 3) := by decide +kernel
theorem dX12_lay_202 : decode cX12_lay 202 = .ok (.aload_n 0, 1) := by decide +kernel
theorem dX12_lay_203 : decode cX12_lay 203 = .ok (.iload_n 2, 1) := by decide +kernel
theorem dX12_lay_204 : decode cX12_lay 204 = .ok (.iconst 0, 1) := by decide +kernel
theorem dX12_lay_205 : decode cX12_lay 205 = .ok (.invokevirtual 328, 3) := by decide +kernel
theorem dX12_lay_208 : decode cX12_lay 208 = .ok (.goto (-17), 3) := by decide +kernel
theorem dX12_lay_211 : decode cX12_lay 211 = .ok (.aload_n 0, 1) := by decide +kernel
theorem dX12_lay_212 : decode cX12_lay 212 = .ok (.getfield 156, 3) := by decide +kernel
theorem dX12_lay_215 : decode cX12_lay 215 = .ok (.bipush 8, 2) := by decide +kernel
theorem dX12_lay_217 : decode cX12_lay 217 = .ok (.if_icmp .ne 30, 3) := by decide +kernel
theorem dX12_lay_220 : decode cX12_lay 220 = .ok (.iconst 0, 1) := by decide +kernel
theorem dX12_lay_221 : decode cX12_lay 221 = .ok (.istore 6, 2) := by decide +kernel
theorem dX12_lay_223 : decode cX12_lay 223 = .ok (.iload 6, 2) := by decide +kernel
theorem dX12_lay_225 : decode cX12_lay 225 = .ok (.aload_n 0, 1) := by decide +kernel
theorem dX12_lay_226 : decode cX12_lay 226 = .ok (.getfield 193, 3) := by decide +kernel
theorem dX12_lay_229 : decode cX12_lay 229 = .ok (.if_icmp .ge 15, 3) := by decide +kernel
theorem dX12_lay_232 : decode cX12_lay 232 = .ok (.aload_n 0, 1) := by decide +kernel
theorem dX12_lay_233 : decode cX12_lay 233 = .ok (.iload_n 2, 1) := by decide +kernel
theorem dX12_lay_234 : decode cX12_lay 234 = .ok (.iconst 0, 1) := by decide +kernel
theorem dX12_lay_235 : decode cX12_lay 235 = .ok (.invokevirtual 328, 3) := by decide +kernel
theorem dX12_lay_238 : decode cX12_lay 238 = .ok (.iinc 6 1, 3) := by decide +kernel
theorem dX12_lay_241 : decode cX12_lay 241 = .ok (.goto (-18), 3) := by decide +kernel
theorem dX12_lay_244 : decode cX12_lay 244 = .ok (.goto 65, 3) := by decide +kernel
theorem dX12_lay_247 : decode cX12_lay 247 = .ok (.aload_n 0, 1) := by decide +kernel
theorem dX12_lay_248 : decode cX12_lay 248 = .ok (.getfield 156, 3) := by decide +kernel
theorem dX12_lay_251 : decode cX12_lay 251 = .ok (.bipush 7, 2) := by decide +kernel
theorem dX12_lay_253 : decode cX12_lay 253 = .ok (.if_icmp .ne 15, 3) := by decide +kernel
theorem dX12_lay_256 : decode cX12_lay 256 = .ok (.aload_n 0, 1) := by decide +kernel
theorem dX12_lay_257 : decode cX12_lay 257 = .ok (.iload_n 2, 1) := by decide +kernel
theorem dX12_lay_258 : decode cX12_lay 258 = .ok (.aload_n 0, 1) := by decide +kernel
theorem dX12_lay_259 : decode cX12_lay 259 = .ok (.getfield 193, 3) := by decide +kernel
theorem dX12_lay_262 : decode cX12_lay 262 = .ok (.invokevirtual 328, 3) := by decide +kernel
theorem dX12_lay_265 : decode cX12_lay 265 = .ok (.goto 44, 3) := by decide +kernel
theorem dX12_lay_268 : decode cX12_lay 268 = .ok (.iload 5, 2) := by decide +kernel
theorem dX12_lay_270 : decode cX12_lay 270 = .ok (.ifCond .eq 16, 3) := by decide +kernel
theorem dX12_lay_273 : decode cX12_lay 273 = .ok (.aload_n 0, 1) := by decide +kernel
theorem dX12_lay_274 : decode cX12_lay 274 = .ok (.iload_n 2, 1) := by decide +kernel
theorem dX12_lay_275 : decode cX12_lay 275 = .ok (.aload_n 0, 1) := by decide +kernel
theorem dX12_lay_276 : decode cX12_lay 276 = .ok (.getfield 193, 3) := by decide +kernel
theorem dX12_lay_279 : decode cX12_lay 279 = .ok (.iconst 4, 1) := by decide +kernel
theorem dX12_lay_280 : decode cX12_lay 280 = .ok (.invokevirtual 331, 3) := by decide +kernel
theorem dX12_lay_283 : decode cX12_lay 283 = .ok (.goto 26, 3) := by decide +kernel
theorem dX12_lay_286 : decode cX12_lay 286 = .ok (.aload_n 0, 1) := by decide +kernel
theorem dX12_lay_287 : decode cX12_lay 287 = .ok (.iload_n 2, 1) := by decide +kernel
theorem dX12_lay_288 : decode cX12_lay 288 = .ok (.aload_n 0, 1) := by decide +kernel
theorem dX12_lay_289 : decode cX12_lay 289 = .ok (.getfield 159, 3) := by decide +kernel
theorem dX12_lay_292 : decode cX12_lay 292 = .ok (.aload_n 0, 1) := by decide +kernel
theorem dX12_lay_293 : decode cX12_lay 293 = .ok (.getfield 156, 3) := by decide +kernel
theorem dX12_lay_296 : decode cX12_lay 296 = .ok (.bipush 13, 2) := by decide +kernel
theorem dX12_lay_298 : decode cX12_lay 298 = .ok (.if_icmp .ne 7, 3) := by decide +kernel
theorem dX12_lay_301 : decode cX12_lay 301 = .ok (.iconst 4, 1) := by decide +kernel
theorem dX12_lay_302 : decode cX12_lay 302 = .ok (.goto 4, 3) := by decide +kernel
theorem dX12_lay_305 : decode cX12_lay 305 = .ok (.iconst 2, 1) := by decide +kernel
theorem dX12_lay_306 : decode cX12_lay 306 = .ok (.invokevirtual 331, 3) := by decide +kernel
theorem dX12_lay_309 : decode cX12_lay 309 = .ok (.aload_n 0, 1) := by decide +kernel
theorem dX12_lay_310 : decode cX12_lay 310 = .ok (.getfield 39, 3) := by decide +kernel
theorem dX12_lay_313 : decode cX12_lay 313 = .ok (.iload_n 2, 1) := by decide +kernel
theorem dX12_lay_314 : decode cX12_lay 314 = .ok (.iaload, 1) := by decide +kernel
theorem dX12_lay_315 : decode cX12_lay 315 = .ok (.sipush 1024, 3) := by decide +kernel
theorem dX12_lay_318 : decode cX12_lay 318 = .ok (.if_icmp .le 8, 3) := by decide +kernel
theorem dX12_lay_321 : decode cX12_lay 321 = .ok (.bipush (-7), 2) := by decide +kernel
theorem dX12_lay_323 : decode cX12_lay 323 = .ok (.goto 4, 3) := by decide +kernel
theorem dX12_lay_326 : decode cX12_lay 326 = .ok (.iconst 0, 1) := by decide +kernel
theorem dX12_lay_327 : decode cX12_lay 327 = .ok (.ireturn, 1) := by decide +kernel
theorem dX12_report_0 : decode cX12_report 0 = .ok (.aload_n 0, 1) := by decide +kernel
theorem dX12_report_1 : decode cX12_report 1 = .ok (.getfield 60, 3) := by decide +kernel
theorem dX12_report_4 : decode cX12_report 4 = .ok (.iconst 0, 1) := by decide +kernel
theorem dX12_report_5 : decode cX12_report 5 = .ok (.iload_n 2, 1) := by decide +kernel
theorem dX12_report_6 : decode cX12_report 6 = .ok (.iastore, 1) := by decide +kernel
theorem dX12_report_7 : decode cX12_report 7 = .ok (.aload_n 0, 1) := by decide +kernel
theorem dX12_report_8 : decode cX12_report 8 = .ok (.getfield 60, 3) := by decide +kernel
theorem dX12_report_11 : decode cX12_report 11 = .ok (.iconst 1, 1) := by decide +kernel
theorem dX12_report_12 : decode cX12_report 12 = .ok (.iload_n 3, 1) := by decide +kernel
theorem dX12_report_13 : decode cX12_report 13 = .ok (.iastore, 1) := by decide +kernel
theorem dX12_report_14 : decode cX12_report 14 = .ok (.aload_n 0, 1) := by decide +kernel
theorem dX12_report_15 : decode cX12_report 15 = .ok (.getfield 60, 3) := by decide +kernel
theorem dX12_report_18 : decode cX12_report 18 = .ok (.iconst 2, 1) := by decide +kernel
theorem dX12_report_19 : decode cX12_report 19 = .ok (.iload 4, 2) := by decide +kernel
theorem dX12_report_21 : decode cX12_report 21 = .ok (.iastore, 1) := by decide +kernel
theorem dX12_report_22 : decode cX12_report 22 = .ok (.iload_n 1, 1) := by decide +kernel
theorem dX12_report_23 : decode cX12_report 23 = .ok (.ireturn, 1) := by decide +kernel
theorem dX12_firstPass_0 : decode cX12_firstPass 0 = .ok (.aload_n 0, 1) := by decide +kernel
theorem dX12_firstPass_1 : decode cX12_firstPass 1 = .ok (.iconst 0, 1) := by decide +kernel
theorem dX12_firstPass_2 : decode cX12_firstPass 2 = .ok (.putfield 319, 3) := by decide +kernel
theorem dX12_firstPass_5 : decode cX12_firstPass 5 = .ok (.iconst 0, 1) := by decide +kernel
theorem dX12_firstPass_6 : decode cX12_firstPass 6 = .ok (.istore_n 1, 1) := by decide +kernel
theorem dX12_firstPass_7 : decode cX12_firstPass 7 = .ok (.iload_n 1, 1) := by decide +kernel
theorem dX12_firstPass_8 : decode cX12_firstPass 8 = .ok (.bipush 12, 2) := by decide +kernel
theorem dX12_firstPass_10 : decode cX12_firstPass 10 = .ok (.if_icmp .ge 16, 3) := by decide +kernel
theorem dX12_firstPass_13 : decode cX12_firstPass 13 = .ok (.aload_n 0, 1) := by decide +kernel
theorem dX12_firstPass_14 : decode cX12_firstPass 14 = .ok (.getfield 39, 3) := by decide +kernel
theorem dX12_firstPass_17 : decode cX12_firstPass 17 = .ok (.iload_n 1, 1) := by decide +kernel
theorem dX12_firstPass_18 : decode cX12_firstPass 18 = .ok (.iconst 0, 1) := by decide +kernel
theorem dX12_firstPass_19 : decode cX12_firstPass 19 = .ok (.iastore, 1) := by decide +kernel
theorem dX12_firstPass_20 : decode cX12_firstPass 20 = .ok (.iinc 1 1, 3) := by decide +kernel
theorem dX12_firstPass_23 : decode cX12_firstPass 23 = .ok (.goto (-16), 3) := by decide +kernel
theorem dX12_firstPass_26 : decode cX12_firstPass 26 = .ok (.iconst 0, 1) := by decide +kernel
theorem dX12_firstPass_27 : decode cX12_firstPass 27 = .ok (.istore_n 1, 1) := by decide +kernel
theorem dX12_firstPass_28 : decode cX12_firstPass 28 = .ok (.iload_n 1, 1) := by decide +kernel
theorem dX12_firstPass_29 : decode cX12_firstPass 29 = .ok (.iconst 4, 1) := by decide +kernel
theorem dX12_firstPass_30 : decode cX12_firstPass 30 = .ok (.if_icmp .ge 103, 3) := by decide +kernel
theorem dX12_firstPass_33 : decode cX12_firstPass 33 = .ok (.aload_n 0, 1) := by decide +kernel
theorem dX12_firstPass_34 : decode cX12_firstPass 34 = .ok (.iconst 0, 1) := by decide +kernel
theorem dX12_firstPass_35 : decode cX12_firstPass 35 = .ok (.putfield 325, 3) := by decide +kernel
theorem dX12_firstPass_38 : decode cX12_firstPass 38 = .ok (.iconst 0, 1) := by decide +kernel
theorem dX12_firstPass_39 : decode cX12_firstPass 39 = .ok (.istore_n 2, 1) := by decide +kernel
theorem dX12_firstPass_40 : decode cX12_firstPass 40 = .ok (.iload_n 2, 1) := by decide +kernel
theorem dX12_firstPass_41 : decode cX12_firstPass 41 = .ok (.aload_n 0, 1) := by decide +kernel
theorem dX12_firstPass_42 : decode cX12_firstPass 42 = .ok (.getfield 13, 3) := by decide +kernel
theorem dX12_firstPass_45 : decode cX12_firstPass 45 = .ok (.iload_n 1, 1) := by decide +kernel
theorem dX12_firstPass_46 : decode cX12_firstPass 46 = .ok (.iaload, 1) := by decide +kernel
theorem dX12_firstPass_47 : decode cX12_firstPass 47 = .ok (.if_icmp .ge 80, 3) := by decide +kernel
theorem dX12_firstPass_50 : decode cX12_firstPass 50 = .ok (.aload_n 0, 1) := by decide +kernel
theorem dX12_firstPass_51 : decode cX12_firstPass 51 = .ok (.iload_n 1, 1) := by decide +kernel
theorem dX12_firstPass_52 : decode cX12_firstPass 52 = .ok (.iload_n 2, 1) := by decide +kernel
theorem dX12_firstPass_53 : decode cX12_firstPass 53 = .ok (.iconst 1, 1) := by decide +kernel
theorem dX12_firstPass_54 : decode cX12_firstPass 54 = .ok (.invokevirtual 334, 3) := by decide +kernel
theorem dX12_firstPass_57 : decode cX12_firstPass 57 = .ok (.aload_n 0, 1) := by decide +kernel
theorem dX12_firstPass_58 : decode cX12_firstPass 58 = .ok (.getfield 100, 3) := by decide +kernel
theorem dX12_firstPass_61 : decode cX12_firstPass 61 = .ok (.ifCond .eq 18, 3) := by decide +kernel
theorem dX12_firstPass_64 : decode cX12_firstPass 64 = .ok (.aload_n 0, 1) := by decide +kernel
theorem dX12_firstPass_65 : decode cX12_firstPass 65 = .ok (.aload_n 0, 1) := by decide +kernel
theorem dX12_firstPass_66 : decode cX12_firstPass 66 = .ok (.getfield 100, 3) := by decide +kernel
theorem dX12_firstPass_69 : decode cX12_firstPass 69 = .ok (.iload_n 1, 1) := by decide +kernel
theorem dX12_firstPass_70 : decode cX12_firstPass 70 = .ok (.iload_n 2, 1) := by decide +kernel
theorem dX12_firstPass_71 : decode cX12_firstPass 71 = .ok (.aload_n 0, 1) := by decide +kernel
theorem dX12_firstPass_72 : decode cX12_firstPass 72 = .ok (.getfield 106, 3) := by decide +kernel
theorem dX12_firstPass_75 : decode cX12_firstPass 75 = .ok (.invokevirtual 337, 3) := by decide +kernel
theorem dX12_firstPass_78 : decode cX12_firstPass 78 = .ok (.ireturn, 1) := by decide +kernel
theorem dX12_firstPass_79 : decode cX12_firstPass 79 = .ok (.aload_n 0, 1) := by decide +kernel
theorem dX12_firstPass_80 : decode cX12_firstPass 80 = .ok (.getfield 294, 3) := by decide +kernel
theorem dX12_firstPass_83 : decode cX12_firstPass 83 = .ok (.ifCond .lt 8, 3) := by decide +kernel
theorem dX12_firstPass_86 : decode cX12_firstPass 86 = .ok (.aload_n 0, 1) := by decide +kernel
theorem dX12_firstPass_87 : decode cX12_firstPass 87 = .ok (.iload_n 1, 1) := by decide +kernel
theorem dX12_firstPass_88 : decode cX12_firstPass 88 = .ok (.invokevirtual 340, 3) := by decide +kernel
theorem dX12_firstPass_91 : decode cX12_firstPass 91 = .ok (.aload_n 0, 1) := by decide +kernel
theorem dX12_firstPass_92 : decode cX12_firstPass 92 = .ok (.iload_n 1, 1) := by decide +kernel
theorem dX12_firstPass_93 : decode cX12_firstPass 93 = .ok (.invokevirtual 343, 3) := by decide +kernel
theorem dX12_firstPass_96 : decode cX12_firstPass 96 = .ok (.istore_n 3, 1) := by decide +kernel
theorem dX12_firstPass_97 : decode cX12_firstPass 97 = .ok (.iload_n 3, 1) := by decide +kernel
theorem dX12_firstPass_98 : decode cX12_firstPass 98 = .ok (.ifCond .eq 23, 3) := by decide +kernel
theorem dX12_firstPass_101 : decode cX12_firstPass 101 = .ok (.aload_n 0, 1) := by decide +kernel
theorem dX12_firstPass_102 : decode cX12_firstPass 102 = .ok (.iload_n 3, 1) := by decide +kernel
theorem dX12_firstPass_103 : decode cX12_firstPass 103 = .ok (.iload_n 1, 1) := by decide +kernel
theorem dX12_firstPass_104 : decode cX12_firstPass 104 = .ok (.iload_n 2, 1) := by decide +kernel
theorem dX12_firstPass_105 : decode cX12_firstPass 105 = .ok (.aload_n 0, 1) := by decide +kernel
theorem dX12_firstPass_106 : decode cX12_firstPass 106 = .ok (.getfield 304, 3) := by decide +kernel
theorem dX12_firstPass_109 : decode cX12_firstPass 109 = .ok (.bipush 48, 2) := by decide +kernel
theorem dX12_firstPass_111 : decode cX12_firstPass 111 = .ok (.aload_n 0, 1) := by decide +kernel
theorem dX12_firstPass_112 : decode cX12_firstPass 112 = .ok (.getfield 103, 3) := by decide +kernel
theorem dX12_firstPass_115 : decode cX12_firstPass 115 = .ok (.imul, 1) := by decide +kernel
theorem dX12_firstPass_116 : decode cX12_firstPass 116 = .ok (.isub, 1) := by decide +kernel
theorem dX12_firstPass_117 : decode cX12_firstPass 117 = .ok (.invokevirtual 337, 3) := by decide +kernel
theorem dX12_firstPass_120 : decode cX12_firstPass 120 = .ok (.ireturn, 1) := by decide +kernel
theorem dX12_firstPass_121 : decode cX12_firstPass 121 = .ok (.iinc 2 1, 3) := by decide +kernel
theorem dX12_firstPass_124 : decode cX12_firstPass 124 = .ok (.goto (-84), 3) := by decide +kernel
theorem dX12_firstPass_127 : decode cX12_firstPass 127 = .ok (.iinc 1 1, 3) := by decide +kernel
theorem dX12_firstPass_130 : decode cX12_firstPass 130 = .ok (.goto (-102), 3) := by decide +kernel
theorem dX12_firstPass_133 : decode cX12_firstPass 133 = .ok (.iconst 0, 1) := by decide +kernel
theorem dX12_firstPass_134 : decode cX12_firstPass 134 = .ok (.ireturn, 1) := by decide +kernel
theorem dX12_isGlobalName_0 : decode cX12_isGlobalName 0 = .ok (.aload_n 0, 1) := by decide +kernel
theorem dX12_isGlobalName_1 : decode cX12_isGlobalName 1 = .ok (.iload_n 1, 1) := by decide +kernel
theorem dX12_isGlobalName_2 : decode cX12_isGlobalName 2 = .ok (.iload_n 2, 1) := by decide +kernel
theorem dX12_isGlobalName_3 : decode cX12_isGlobalName 3 = .ok (.invokevirtual 347, 3) := by decide +kernel
theorem dX12_isGlobalName_6 : decode cX12_isGlobalName 6 = .ok (.ifCond .lt 7, 3) := by decide +kernel
theorem dX12_isGlobalName_9 : decode cX12_isGlobalName 9 = .ok (.iconst 1, 1) := by decide +kernel
theorem dX12_isGlobalName_10 : decode cX12_isGlobalName 10 = .ok (.goto 4, 3) := by decide +kernel
theorem dX12_isGlobalName_13 : decode cX12_isGlobalName 13 = .ok (.iconst 0, 1) := by decide +kernel
theorem dX12_isGlobalName_14 : decode cX12_isGlobalName 14 = .ok (.ireturn, 1) := by decide +kernel
theorem dX12_globalOf_0 : decode cX12_globalOf 0 = .ok (.iconst 0, 1) := by decide +kernel
theorem dX12_globalOf_1 : decode cX12_globalOf 1 = .ok (.istore_n 3, 1) := by decide +kernel
theorem dX12_globalOf_2 : decode cX12_globalOf 2 = .ok (.iload_n 3, 1) := by decide +kernel
theorem dX12_globalOf_3 : decode cX12_globalOf 3 = .ok (.iconst 4, 1) := by decide +kernel
theorem dX12_globalOf_4 : decode cX12_globalOf 4 = .ok (.if_icmp .ge 37, 3) := by decide +kernel
theorem dX12_globalOf_7 : decode cX12_globalOf 7 = .ok (.aload_n 0, 1) := by decide +kernel
theorem dX12_globalOf_8 : decode cX12_globalOf 8 = .ok (.iload_n 3, 1) := by decide +kernel
theorem dX12_globalOf_9 : decode cX12_globalOf 9 = .ok (.iload_n 1, 1) := by decide +kernel
theorem dX12_globalOf_10 : decode cX12_globalOf 10 = .ok (.iload_n 2, 1) := by decide +kernel
theorem dX12_globalOf_11 : decode cX12_globalOf 11 = .ok (.iconst 0, 1) := by decide +kernel
theorem dX12_globalOf_12 : decode cX12_globalOf 12 = .ok (.invokevirtual 300, 3) := by decide +kernel
theorem dX12_globalOf_15 : decode cX12_globalOf 15 = .ok (.istore 4, 2) := by decide +kernel
theorem dX12_globalOf_17 : decode cX12_globalOf 17 = .ok (.iload 4, 2) := by decide +kernel
theorem dX12_globalOf_19 : decode cX12_globalOf 19 = .ok (.ifCond .lt 16, 3) := by decide +kernel
theorem dX12_globalOf_22 : decode cX12_globalOf 22 = .ok (.aload_n 0, 1) := by decide +kernel
theorem dX12_globalOf_23 : decode cX12_globalOf 23 = .ok (.getfield 35, 3) := by decide +kernel
theorem dX12_globalOf_26 : decode cX12_globalOf 26 = .ok (.iload 4, 2) := by decide +kernel
theorem dX12_globalOf_28 : decode cX12_globalOf 28 = .ok (.baload, 1) := by decide +kernel
theorem dX12_globalOf_29 : decode cX12_globalOf 29 = .ok (.ifCond .eq 6, 3) := by decide +kernel
theorem dX12_globalOf_32 : decode cX12_globalOf 32 = .ok (.iload 4, 2) := by decide +kernel
theorem dX12_globalOf_34 : decode cX12_globalOf 34 = .ok (.ireturn, 1) := by decide +kernel
theorem dX12_globalOf_35 : decode cX12_globalOf 35 = .ok (.iinc 3 1, 3) := by decide +kernel
theorem dX12_globalOf_38 : decode cX12_globalOf 38 = .ok (.goto (-36), 3) := by decide +kernel
theorem dX12_globalOf_41 : decode cX12_globalOf 41 = .ok (.iconst (-1), 1) := by decide +kernel
theorem dX12_globalOf_42 : decode cX12_globalOf 42 = .ok (.ireturn, 1) := by decide +kernel
theorem dX12_secondPass_0 : decode cX12_secondPass 0 = .ok (.iconst 0, 1) := by decide +kernel
theorem dX12_secondPass_1 : decode cX12_secondPass 1 = .ok (.istore_n 1, 1) := by decide +kernel
theorem dX12_secondPass_2 : decode cX12_secondPass 2 = .ok (.iload_n 1, 1) := by decide +kernel
theorem dX12_secondPass_3 : decode cX12_secondPass 3 = .ok (.iconst 4, 1) := by decide +kernel
theorem dX12_secondPass_4 : decode cX12_secondPass 4 = .ok (.if_icmp .ge 116, 3) := by decide +kernel
theorem dX12_secondPass_7 : decode cX12_secondPass 7 = .ok (.iconst 0, 1) := by decide +kernel
theorem dX12_secondPass_8 : decode cX12_secondPass 8 = .ok (.istore_n 2, 1) := by decide +kernel
theorem dX12_secondPass_9 : decode cX12_secondPass 9 = .ok (.iload_n 2, 1) := by decide +kernel
theorem dX12_secondPass_10 : decode cX12_secondPass 10 = .ok (.aload_n 0, 1) := by decide +kernel
theorem dX12_secondPass_11 : decode cX12_secondPass 11 = .ok (.getfield 13, 3) := by decide +kernel
theorem dX12_secondPass_14 : decode cX12_secondPass 14 = .ok (.iload_n 1, 1) := by decide +kernel
theorem dX12_secondPass_15 : decode cX12_secondPass 15 = .ok (.iaload, 1) := by decide +kernel
theorem dX12_secondPass_16 : decode cX12_secondPass 16 = .ok (.if_icmp .ge 98, 3) := by decide +kernel
theorem dX12_secondPass_19 : decode cX12_secondPass 19 = .ok (.aload_n 0, 1) := by decide +kernel
theorem dX12_secondPass_20 : decode cX12_secondPass 20 = .ok (.iload_n 1, 1) := by decide +kernel
theorem dX12_secondPass_21 : decode cX12_secondPass 21 = .ok (.iload_n 2, 1) := by decide +kernel
theorem dX12_secondPass_22 : decode cX12_secondPass 22 = .ok (.iconst 0, 1) := by decide +kernel
theorem dX12_secondPass_23 : decode cX12_secondPass 23 = .ok (.invokevirtual 334, 3) := by decide +kernel
theorem dX12_secondPass_26 : decode cX12_secondPass 26 = .ok (.aload_n 0, 1) := by decide +kernel
theorem dX12_secondPass_27 : decode cX12_secondPass 27 = .ok (.getfield 156, 3) := by decide +kernel
theorem dX12_secondPass_30 : decode cX12_secondPass 30 = .ok (.iconst 4, 1) := by decide +kernel
theorem dX12_secondPass_31 : decode cX12_secondPass 31 = .ok (.if_icmp .eq 6, 3) := by decide +kernel
theorem dX12_secondPass_34 : decode cX12_secondPass 34 = .ok (.goto 74, 3) := by decide +kernel
theorem dX12_secondPass_37 : decode cX12_secondPass 37 = .ok (.aload_n 0, 1) := by decide +kernel
theorem dX12_secondPass_38 : decode cX12_secondPass 38 = .ok (.iload_n 1, 1) := by decide +kernel
theorem dX12_secondPass_39 : decode cX12_secondPass 39 = .ok (.aload_n 0, 1) := by decide +kernel
theorem dX12_secondPass_40 : decode cX12_secondPass 40 = .ok (.getfield 142, 3) := by decide +kernel
theorem dX12_secondPass_43 : decode cX12_secondPass 43 = .ok (.aload_n 0, 1) := by decide +kernel
theorem dX12_secondPass_44 : decode cX12_secondPass 44 = .ok (.getfield 145, 3) := by decide +kernel
theorem dX12_secondPass_47 : decode cX12_secondPass 47 = .ok (.iconst 0, 1) := by decide +kernel
theorem dX12_secondPass_48 : decode cX12_secondPass 48 = .ok (.invokevirtual 300, 3) := by decide +kernel
theorem dX12_secondPass_51 : decode cX12_secondPass 51 = .ok (.istore_n 3, 1) := by decide +kernel
theorem dX12_secondPass_52 : decode cX12_secondPass 52 = .ok (.iload_n 3, 1) := by decide +kernel
theorem dX12_secondPass_53 : decode cX12_secondPass 53 = .ok (.ifCond .lt 18, 3) := by decide +kernel
theorem dX12_secondPass_56 : decode cX12_secondPass 56 = .ok (.aload_n 0, 1) := by decide +kernel
theorem dX12_secondPass_57 : decode cX12_secondPass 57 = .ok (.aload_n 0, 1) := by decide +kernel
theorem dX12_secondPass_58 : decode cX12_secondPass 58 = .ok (.getfield 142, 3) := by decide +kernel
theorem dX12_secondPass_61 : decode cX12_secondPass 61 = .ok (.aload_n 0, 1) := by decide +kernel
theorem dX12_secondPass_62 : decode cX12_secondPass 62 = .ok (.getfield 145, 3) := by decide +kernel
theorem dX12_secondPass_65 : decode cX12_secondPass 65 = .ok (.invokevirtual 350, 3) := by decide +kernel
theorem dX12_secondPass_68 : decode cX12_secondPass 68 = .ok (.ifCond .eq 33, 3) := by decide +kernel
theorem dX12_secondPass_71 : decode cX12_secondPass 71 = .ok (.aload_n 0, 1) := by decide +kernel
theorem dX12_secondPass_72 : decode cX12_secondPass 72 = .ok (.iload_n 3, 1) := by decide +kernel
theorem dX12_secondPass_73 : decode cX12_secondPass 73 = .ok (.ifCond .ge 8, 3) := by decide +kernel
theorem dX12_secondPass_76 : decode cX12_secondPass 76 = .ok (.bipush (-8), 2) := by decide +kernel
theorem dX12_secondPass_78 : decode cX12_secondPass 78 = .ok (.goto 5, 3) := by decide +kernel
theorem dX12_secondPass_81 : decode cX12_secondPass 81 = .ok (.bipush (-2), 2) := by decide +kernel
theorem dX12_secondPass_83 : decode cX12_secondPass 83 = .ok (.iload_n 1, 1) := by decide +kernel
theorem dX12_secondPass_84 : decode cX12_secondPass 84 = .ok (.iload_n 2, 1) := by decide +kernel
theorem dX12_secondPass_85 : decode cX12_secondPass 85 = .ok (.aload_n 0, 1) := by decide +kernel
theorem dX12_secondPass_86 : decode cX12_secondPass 86 = .ok (.getfield 142, 3) := by decide +kernel
theorem dX12_secondPass_89 : decode cX12_secondPass 89 = .ok (.bipush 48, 2) := by decide +kernel
theorem dX12_secondPass_91 : decode cX12_secondPass 91 = .ok (.aload_n 0, 1) := by decide +kernel
theorem dX12_secondPass_92 : decode cX12_secondPass 92 = .ok (.getfield 103, 3) := by decide +kernel
theorem dX12_secondPass_95 : decode cX12_secondPass 95 = .ok (.imul, 1) := by decide +kernel
theorem dX12_secondPass_96 : decode cX12_secondPass 96 = .ok (.isub, 1) := by decide +kernel
theorem dX12_secondPass_97 : decode cX12_secondPass 97 = .ok (.invokevirtual 337, 3) := by decide +kernel
theorem dX12_secondPass_100 : decode cX12_secondPass 100 = .ok (.ireturn, 1) := by decide +kernel
theorem dX12_secondPass_101 : decode cX12_secondPass 101 = .ok (.aload_n 0, 1) := by decide +kernel
theorem dX12_secondPass_102 : decode cX12_secondPass 102 = .ok (.getfield 35, 3) := by decide +kernel
theorem dX12_secondPass_105 : decode cX12_secondPass 105 = .ok (.iload_n 3, 1) := by decide +kernel
theorem dX12_secondPass_106 : decode cX12_secondPass 106 = .ok (.iconst 1, 1) := by decide +kernel
theorem dX12_secondPass_107 : decode cX12_secondPass 107 = .ok (.bastore, 1) := by decide +kernel
theorem dX12_secondPass_108 : decode cX12_secondPass 108 = .ok (.iinc 2 1, 3) := by decide +kernel
theorem dX12_secondPass_111 : decode cX12_secondPass 111 = .ok (.goto (-102), 3) := by decide +kernel
theorem dX12_secondPass_114 : decode cX12_secondPass 114 = .ok (.iinc 1 1, 3) := by decide +kernel
theorem dX12_secondPass_117 : decode cX12_secondPass 117 = .ok (.goto (-115), 3) := by decide +kernel
theorem dX12_secondPass_120 : decode cX12_secondPass 120 = .ok (.iconst 0, 1) := by decide +kernel
theorem dX12_secondPass_121 : decode cX12_secondPass 121 = .ok (.ireturn, 1) := by decide +kernel
theorem dX12_up_0 : decode cX12_up 0 = .ok (.iload_n 0, 1) := by decide +kernel
theorem dX12_up_1 : decode cX12_up 1 = .ok (.iconst 3, 1) := by decide +kernel
theorem dX12_up_2 : decode cX12_up 2 = .ok (.iadd, 1) := by decide +kernel
theorem dX12_up_3 : decode cX12_up 3 = .ok (.iconst 4, 1) := by decide +kernel
theorem dX12_up_4 : decode cX12_up 4 = .ok (.idiv, 1) := by decide +kernel
theorem dX12_up_5 : decode cX12_up 5 = .ok (.iconst 4, 1) := by decide +kernel
theorem dX12_up_6 : decode cX12_up 6 = .ok (.imul, 1) := by decide +kernel
theorem dX12_up_7 : decode cX12_up 7 = .ok (.ireturn, 1) := by decide +kernel
theorem dX12_place_0 : decode cX12_place 0 = .ok (.iload_n 2, 1) := by decide +kernel
theorem dX12_place_1 : decode cX12_place 1 = .ok (.istore 4, 2) := by decide +kernel
theorem dX12_place_3 : decode cX12_place 3 = .ok (.iconst 0, 1) := by decide +kernel
theorem dX12_place_4 : decode cX12_place 4 = .ok (.istore 5, 2) := by decide +kernel
theorem dX12_place_6 : decode cX12_place 6 = .ok (.iload 5, 2) := by decide +kernel
theorem dX12_place_8 : decode cX12_place 8 = .ok (.iconst 4, 1) := by decide +kernel
theorem dX12_place_9 : decode cX12_place 9 = .ok (.if_icmp .ge 78, 3) := by decide +kernel
theorem dX12_place_12 : decode cX12_place 12 = .ok (.iconst 3, 1) := by decide +kernel
theorem dX12_place_13 : decode cX12_place 13 = .ok (.iload 5, 2) := by decide +kernel
theorem dX12_place_15 : decode cX12_place 15 = .ok (.imul, 1) := by decide +kernel
theorem dX12_place_16 : decode cX12_place 16 = .ok (.iload_n 1, 1) := by decide +kernel
theorem dX12_place_17 : decode cX12_place 17 = .ok (.iadd, 1) := by decide +kernel
theorem dX12_place_18 : decode cX12_place 18 = .ok (.istore 6, 2) := by decide +kernel
theorem dX12_place_20 : decode cX12_place 20 = .ok (.iload_n 3, 1) := by decide +kernel
theorem dX12_place_21 : decode cX12_place 21 = .ok (.ifCond .eq 18, 3) := by decide +kernel
theorem dX12_place_24 : decode cX12_place 24 = .ok (.aload_n 0, 1) := by decide +kernel
theorem dX12_place_25 : decode cX12_place 25 = .ok (.getfield 45, 3) := by decide +kernel
theorem dX12_place_28 : decode cX12_place 28 = .ok (.iload 6, 2) := by decide +kernel
theorem dX12_place_30 : decode cX12_place 30 = .ok (.iload 4, 2) := by decide +kernel
theorem dX12_place_32 : decode cX12_place 32 = .ok (.invokestatic 353, 3) := by decide +kernel
theorem dX12_place_35 : decode cX12_place 35 = .ok (.iastore, 1) := by decide +kernel
theorem dX12_place_36 : decode cX12_place 36 = .ok (.goto 15, 3) := by decide +kernel
theorem dX12_place_39 : decode cX12_place 39 = .ok (.aload_n 0, 1) := by decide +kernel
theorem dX12_place_40 : decode cX12_place 40 = .ok (.getfield 42, 3) := by decide +kernel
theorem dX12_place_43 : decode cX12_place 43 = .ok (.iload 6, 2) := by decide +kernel
theorem dX12_place_45 : decode cX12_place 45 = .ok (.iload 4, 2) := by decide +kernel
theorem dX12_place_47 : decode cX12_place 47 = .ok (.invokestatic 353, 3) := by decide +kernel
theorem dX12_place_50 : decode cX12_place 50 = .ok (.iastore, 1) := by decide +kernel
theorem dX12_place_51 : decode cX12_place 51 = .ok (.aload_n 0, 1) := by decide +kernel
theorem dX12_place_52 : decode cX12_place 52 = .ok (.getfield 39, 3) := by decide +kernel
theorem dX12_place_55 : decode cX12_place 55 = .ok (.iload 6, 2) := by decide +kernel
theorem dX12_place_57 : decode cX12_place 57 = .ok (.iaload, 1) := by decide +kernel
theorem dX12_place_58 : decode cX12_place 58 = .ok (.ifCond .le 19, 3) := by decide +kernel
theorem dX12_place_61 : decode cX12_place 61 = .ok (.iload 4, 2) := by decide +kernel
theorem dX12_place_63 : decode cX12_place 63 = .ok (.invokestatic 353, 3) := by decide +kernel
theorem dX12_place_66 : decode cX12_place 66 = .ok (.aload_n 0, 1) := by decide +kernel
theorem dX12_place_67 : decode cX12_place 67 = .ok (.getfield 39, 3) := by decide +kernel
theorem dX12_place_70 : decode cX12_place 70 = .ok (.iload 6, 2) := by decide +kernel
theorem dX12_place_72 : decode cX12_place 72 = .ok (.iaload, 1) := by decide +kernel
theorem dX12_place_73 : decode cX12_place 73 = .ok (.iadd, 1) := by decide +kernel
theorem dX12_place_74 : decode cX12_place 74 = .ok (.goto 5, 3) := by decide +kernel
theorem dX12_place_77 : decode cX12_place 77 = .ok (.iload 4, 2) := by decide +kernel
theorem dX12_place_79 : decode cX12_place 79 = .ok (.istore 4, 2) := by decide +kernel
theorem dX12_place_81 : decode cX12_place 81 = .ok (.iinc 5 1, 3) := by decide +kernel
theorem dX12_place_84 : decode cX12_place 84 = .ok (.goto (-78), 3) := by decide +kernel
theorem dX12_place_87 : decode cX12_place 87 = .ok (.iload 4, 2) := by decide +kernel
theorem dX12_place_89 : decode cX12_place 89 = .ok (.ireturn, 1) := by decide +kernel
theorem dX12_addressOf_0 : decode cX12_addressOf 0 = .ok (.aload_n 0, 1) := by decide +kernel
theorem dX12_addressOf_1 : decode cX12_addressOf 1 = .ok (.getfield 42, 3) := by decide +kernel
theorem dX12_addressOf_4 : decode cX12_addressOf 4 = .ok (.iconst 3, 1) := by decide +kernel
theorem dX12_addressOf_5 : decode cX12_addressOf 5 = .ok (.aload_n 0, 1) := by decide +kernel
theorem dX12_addressOf_6 : decode cX12_addressOf 6 = .ok (.getfield 26, 3) := by decide +kernel
theorem dX12_addressOf_9 : decode cX12_addressOf 9 = .ok (.iload_n 1, 1) := by decide +kernel
theorem dX12_addressOf_10 : decode cX12_addressOf 10 = .ok (.iaload, 1) := by decide +kernel
theorem dX12_addressOf_11 : decode cX12_addressOf 11 = .ok (.imul, 1) := by decide +kernel
theorem dX12_addressOf_12 : decode cX12_addressOf 12 = .ok (.aload_n 0, 1) := by decide +kernel
theorem dX12_addressOf_13 : decode cX12_addressOf 13 = .ok (.getfield 29, 3) := by decide +kernel
theorem dX12_addressOf_16 : decode cX12_addressOf 16 = .ok (.iload_n 1, 1) := by decide +kernel
theorem dX12_addressOf_17 : decode cX12_addressOf 17 = .ok (.iaload, 1) := by decide +kernel
theorem dX12_addressOf_18 : decode cX12_addressOf 18 = .ok (.iadd, 1) := by decide +kernel
theorem dX12_addressOf_19 : decode cX12_addressOf 19 = .ok (.iaload, 1) := by decide +kernel
theorem dX12_addressOf_20 : decode cX12_addressOf 20 = .ok (.aload_n 0, 1) := by decide +kernel
theorem dX12_addressOf_21 : decode cX12_addressOf 21 = .ok (.getfield 32, 3) := by decide +kernel
theorem dX12_addressOf_24 : decode cX12_addressOf 24 = .ok (.iload_n 1, 1) := by decide +kernel
theorem dX12_addressOf_25 : decode cX12_addressOf 25 = .ok (.iaload, 1) := by decide +kernel
theorem dX12_addressOf_26 : decode cX12_addressOf 26 = .ok (.iadd, 1) := by decide +kernel
theorem dX12_addressOf_27 : decode cX12_addressOf 27 = .ok (.ireturn, 1) := by decide +kernel
theorem dX12_setHalf_0 : decode cX12_setHalf 0 = .ok (.aload_n 0, 1) := by decide +kernel
theorem dX12_setHalf_1 : decode cX12_setHalf 1 = .ok (.getfield 48, 3) := by decide +kernel
theorem dX12_setHalf_4 : decode cX12_setHalf 4 = .ok (.sipush 1024, 3) := by decide +kernel
theorem dX12_setHalf_7 : decode cX12_setHalf 7 = .ok (.iload_n 1, 1) := by decide +kernel
theorem dX12_setHalf_8 : decode cX12_setHalf 8 = .ok (.imul, 1) := by decide +kernel
theorem dX12_setHalf_9 : decode cX12_setHalf 9 = .ok (.iload_n 2, 1) := by decide +kernel
theorem dX12_setHalf_10 : decode cX12_setHalf 10 = .ok (.iadd, 1) := by decide +kernel
theorem dX12_setHalf_11 : decode cX12_setHalf 11 = .ok (.iload_n 3, 1) := by decide +kernel
theorem dX12_setHalf_12 : decode cX12_setHalf 12 = .ok (.sipush 255, 3) := by decide +kernel
theorem dX12_setHalf_15 : decode cX12_setHalf 15 = .ok (.iand, 1) := by decide +kernel
theorem dX12_setHalf_16 : decode cX12_setHalf 16 = .ok (.iastore, 1) := by decide +kernel
theorem dX12_setHalf_17 : decode cX12_setHalf 17 = .ok (.aload_n 0, 1) := by decide +kernel
theorem dX12_setHalf_18 : decode cX12_setHalf 18 = .ok (.getfield 48, 3) := by decide +kernel
theorem dX12_setHalf_21 : decode cX12_setHalf 21 = .ok (.sipush 1024, 3) := by decide +kernel
theorem dX12_setHalf_24 : decode cX12_setHalf 24 = .ok (.iload_n 1, 1) := by decide +kernel
theorem dX12_setHalf_25 : decode cX12_setHalf 25 = .ok (.imul, 1) := by decide +kernel
theorem dX12_setHalf_26 : decode cX12_setHalf 26 = .ok (.iload_n 2, 1) := by decide +kernel
theorem dX12_setHalf_27 : decode cX12_setHalf 27 = .ok (.iadd, 1) := by decide +kernel
theorem dX12_setHalf_28 : decode cX12_setHalf 28 = .ok (.iconst 1, 1) := by decide +kernel
theorem dX12_setHalf_29 : decode cX12_setHalf 29 = .ok (.iadd, 1) := by decide +kernel
theorem dX12_setHalf_30 : decode cX12_setHalf 30 = .ok (.iload_n 3, 1) := by decide +kernel
theorem dX12_setHalf_31 : decode cX12_setHalf 31 = .ok (.bipush 8, 2) := by decide +kernel
theorem dX12_setHalf_33 : decode cX12_setHalf 33 = .ok (.ishr, 1) := by decide +kernel
theorem dX12_setHalf_34 : decode cX12_setHalf 34 = .ok (.sipush 255, 3) := by decide +kernel
theorem dX12_setHalf_37 : decode cX12_setHalf 37 = .ok (.iand, 1) := by decide +kernel
theorem dX12_setHalf_38 : decode cX12_setHalf 38 = .ok (.iastore, 1) := by decide +kernel
theorem dX12_setHalf_39 : decode cX12_setHalf 39 = .ok (.return_, 1) := by decide +kernel
theorem dX12_resolve_0 : decode cX12_resolve 0 = .ok (.aload_n 0, 1) := by decide +kernel
theorem dX12_resolve_1 : decode cX12_resolve 1 = .ok (.iload 4, 2) := by decide +kernel
theorem dX12_resolve_3 : decode cX12_resolve 3 = .ok (.invokevirtual 356, 3) := by decide +kernel
theorem dX12_resolve_6 : decode cX12_resolve 6 = .ok (.istore 5, 2) := by decide +kernel
theorem dX12_resolve_8 : decode cX12_resolve 8 = .ok (.aload_n 0, 1) := by decide +kernel
theorem dX12_resolve_9 : decode cX12_resolve 9 = .ok (.getfield 156, 3) := by decide +kernel
theorem dX12_resolve_12 : decode cX12_resolve 12 = .ok (.bipush 6, 2) := by decide +kernel
theorem dX12_resolve_14 : decode cX12_resolve 14 = .ok (.if_icmp .ne 35, 3) := by decide +kernel
theorem dX12_resolve_17 : decode cX12_resolve 17 = .ok (.iload 5, 2) := by decide +kernel
theorem dX12_resolve_19 : decode cX12_resolve 19 = .ok (.aload_n 0, 1) := by decide +kernel
theorem dX12_resolve_20 : decode cX12_resolve 20 = .ok (.getfield 193, 3) := by decide +kernel
theorem dX12_resolve_23 : decode cX12_resolve 23 = .ok (.iadd, 1) := by decide +kernel
theorem dX12_resolve_24 : decode cX12_resolve 24 = .ok (.istore 6, 2) := by decide +kernel
theorem dX12_resolve_26 : decode cX12_resolve 26 = .ok (.aload_n 0, 1) := by decide +kernel
theorem dX12_resolve_27 : decode cX12_resolve 27 = .ok (.iload_n 2, 1) := by decide +kernel
theorem dX12_resolve_28 : decode cX12_resolve 28 = .ok (.iload_n 3, 1) := by decide +kernel
theorem dX12_resolve_29 : decode cX12_resolve 29 = .ok (.iload 6, 2) := by decide +kernel
theorem dX12_resolve_31 : decode cX12_resolve 31 = .ok (.invokevirtual 359, 3) := by decide +kernel
theorem dX12_resolve_34 : decode cX12_resolve 34 = .ok (.aload_n 0, 1) := by decide +kernel
theorem dX12_resolve_35 : decode cX12_resolve 35 = .ok (.iload_n 2, 1) := by decide +kernel
theorem dX12_resolve_36 : decode cX12_resolve 36 = .ok (.iload_n 3, 1) := by decide +kernel
theorem dX12_resolve_37 : decode cX12_resolve 37 = .ok (.iconst 2, 1) := by decide +kernel
theorem dX12_resolve_38 : decode cX12_resolve 38 = .ok (.iadd, 1) := by decide +kernel
theorem dX12_resolve_39 : decode cX12_resolve 39 = .ok (.iload 6, 2) := by decide +kernel
theorem dX12_resolve_41 : decode cX12_resolve 41 = .ok (.bipush 16, 2) := by decide +kernel
theorem dX12_resolve_43 : decode cX12_resolve 43 = .ok (.ishr, 1) := by decide +kernel
theorem dX12_resolve_44 : decode cX12_resolve 44 = .ok (.invokevirtual 359, 3) := by decide +kernel
theorem dX12_resolve_47 : decode cX12_resolve 47 = .ok (.iconst 1, 1) := by decide +kernel
theorem dX12_resolve_48 : decode cX12_resolve 48 = .ok (.ireturn, 1) := by decide +kernel
theorem dX12_resolve_49 : decode cX12_resolve 49 = .ok (.aload_n 0, 1) := by decide +kernel
theorem dX12_resolve_50 : decode cX12_resolve 50 = .ok (.getfield 26, 3) := by decide +kernel
theorem dX12_resolve_53 : decode cX12_resolve 53 = .ok (.iload 4, 2) := by decide +kernel
theorem dX12_resolve_55 : decode cX12_resolve 55 = .ok (.iaload, 1) := by decide +kernel
theorem dX12_resolve_56 : decode cX12_resolve 56 = .ok (.iload_n 1, 1) := by decide +kernel
theorem dX12_resolve_57 : decode cX12_resolve 57 = .ok (.if_icmp .ne 17, 3) := by decide +kernel
theorem dX12_resolve_60 : decode cX12_resolve 60 = .ok (.aload_n 0, 1) := by decide +kernel
theorem dX12_resolve_61 : decode cX12_resolve 61 = .ok (.getfield 29, 3) := by decide +kernel
theorem dX12_resolve_64 : decode cX12_resolve 64 = .ok (.iload 4, 2) := by decide +kernel
theorem dX12_resolve_66 : decode cX12_resolve 66 = .ok (.iaload, 1) := by decide +kernel
theorem dX12_resolve_67 : decode cX12_resolve 67 = .ok (.ifCond .ne 7, 3) := by decide +kernel
theorem dX12_resolve_70 : decode cX12_resolve 70 = .ok (.iconst 1, 1) := by decide +kernel
theorem dX12_resolve_71 : decode cX12_resolve 71 = .ok (.goto 4, 3) := by decide +kernel
theorem dX12_resolve_74 : decode cX12_resolve 74 = .ok (.iconst 0, 1) := by decide +kernel
theorem dX12_resolve_75 : decode cX12_resolve 75 = .ok (.istore 6, 2) := by decide +kernel
theorem dX12_resolve_77 : decode cX12_resolve 77 = .ok (.aload_n 0, 1) := by decide +kernel
theorem dX12_resolve_78 : decode cX12_resolve 78 = .ok (.getfield 42, 3) := by decide +kernel
theorem dX12_resolve_81 : decode cX12_resolve 81 = .ok (.iload_n 2, 1) := by decide +kernel
theorem dX12_resolve_82 : decode cX12_resolve 82 = .ok (.iaload, 1) := by decide +kernel
theorem dX12_resolve_83 : decode cX12_resolve 83 = .ok (.iload_n 3, 1) := by decide +kernel
theorem dX12_resolve_84 : decode cX12_resolve 84 = .ok (.iadd, 1) := by decide +kernel
theorem dX12_resolve_85 : decode cX12_resolve 85 = .ok (.istore 7, 2) := by decide +kernel
theorem dX12_resolve_87 : decode cX12_resolve 87 = .ok (.aload_n 0, 1) := by decide +kernel
theorem dX12_resolve_88 : decode cX12_resolve 88 = .ok (.getfield 156, 3) := by decide +kernel
theorem dX12_resolve_91 : decode cX12_resolve 91 = .ok (.bipush 14, 2) := by decide +kernel
theorem dX12_resolve_93 : decode cX12_resolve 93 = .ok (.if_icmp .ne 66, 3) := by decide +kernel
theorem dX12_resolve_96 : decode cX12_resolve 96 = .ok (.iload 5, 2) := by decide +kernel
theorem dX12_resolve_98 : decode cX12_resolve 98 = .ok (.iload 7, 2) := by decide +kernel
theorem dX12_resolve_100 : decode cX12_resolve 100 = .ok (.iconst 4, 1) := by decide +kernel
theorem dX12_resolve_101 : decode cX12_resolve 101 = .ok (.idiv, 1) := by decide +kernel
theorem dX12_resolve_102 : decode cX12_resolve 102 = .ok (.iconst 4, 1) := by decide +kernel
theorem dX12_resolve_103 : decode cX12_resolve 103 = .ok (.imul, 1) := by decide +kernel
theorem dX12_resolve_104 : decode cX12_resolve 104 = .ok (.isub, 1) := by decide +kernel
theorem dX12_resolve_105 : decode cX12_resolve 105 = .ok (.iconst 4, 1) := by decide +kernel
theorem dX12_resolve_106 : decode cX12_resolve 106 = .ok (.isub, 1) := by decide +kernel
theorem dX12_resolve_107 : decode cX12_resolve 107 = .ok (.istore 8, 2) := by decide +kernel
theorem dX12_resolve_109 : decode cX12_resolve 109 = .ok (.aload_n 0, 1) := by decide +kernel
theorem dX12_resolve_110 : decode cX12_resolve 110 = .ok (.iload_n 2, 1) := by decide +kernel
theorem dX12_resolve_111 : decode cX12_resolve 111 = .ok (.iload_n 3, 1) := by decide +kernel
theorem dX12_resolve_112 : decode cX12_resolve 112 = .ok (.aload_n 0, 1) := by decide +kernel
theorem dX12_resolve_113 : decode cX12_resolve 113 = .ok (.getfield 159, 3) := by decide +kernel
theorem dX12_resolve_116 : decode cX12_resolve 116 = .ok (.iload 8, 2) := by decide +kernel
theorem dX12_resolve_118 : decode cX12_resolve 118 = .ok (.iconst 4, 1) := by decide +kernel
theorem dX12_resolve_119 : decode cX12_resolve 119 = .ok (.idiv, 1) := by decide +kernel
theorem dX12_resolve_120 : decode cX12_resolve 120 = .ok (.sipush 255, 3) := by decide +kernel
theorem dX12_resolve_123 : decode cX12_resolve 123 = .ok (.iand, 1) := by decide +kernel
theorem dX12_resolve_124 : decode cX12_resolve 124 = .ok (.iadd, 1) := by decide +kernel
theorem dX12_resolve_125 : decode cX12_resolve 125 = .ok (.invokevirtual 359, 3) := by decide +kernel
theorem dX12_resolve_128 : decode cX12_resolve 128 = .ok (.iload 6, 2) := by decide +kernel
theorem dX12_resolve_130 : decode cX12_resolve 130 = .ok (.ifCond .eq 27, 3) := by decide +kernel
theorem dX12_resolve_133 : decode cX12_resolve 133 = .ok (.iload 8, 2) := by decide +kernel
theorem dX12_resolve_135 : decode cX12_resolve 135 = .ok (.ifCond .lt 22, 3) := by decide +kernel
theorem dX12_resolve_138 : decode cX12_resolve 138 = .ok (.iload 8, 2) := by decide +kernel
theorem dX12_resolve_140 : decode cX12_resolve 140 = .ok (.sipush 1020, 3) := by decide +kernel
theorem dX12_resolve_143 : decode cX12_resolve 143 = .ok (.if_icmp .gt 14, 3) := by decide +kernel
theorem dX12_resolve_146 : decode cX12_resolve 146 = .ok (.iload 8, 2) := by decide +kernel
theorem dX12_resolve_148 : decode cX12_resolve 148 = .ok (.iconst 4, 1) := by decide +kernel
theorem dX12_resolve_149 : decode cX12_resolve 149 = .ok (.irem, 1) := by decide +kernel
theorem dX12_resolve_150 : decode cX12_resolve 150 = .ok (.ifCond .ne 7, 3) := by decide +kernel
theorem dX12_resolve_153 : decode cX12_resolve 153 = .ok (.iconst 1, 1) := by decide +kernel
theorem dX12_resolve_154 : decode cX12_resolve 154 = .ok (.goto 4, 3) := by decide +kernel
theorem dX12_resolve_157 : decode cX12_resolve 157 = .ok (.iconst 0, 1) := by decide +kernel
theorem dX12_resolve_158 : decode cX12_resolve 158 = .ok (.ireturn, 1) := by decide +kernel
theorem dX12_resolve_159 : decode cX12_resolve 159 = .ok (.iload 5, 2) := by decide +kernel
theorem dX12_resolve_161 : decode cX12_resolve 161 = .ok (.iload 7, 2) := by decide +kernel
theorem dX12_resolve_163 : decode cX12_resolve 163 = .ok (.isub, 1) := by decide +kernel
theorem dX12_resolve_164 : decode cX12_resolve 164 = .ok (.iconst 4, 1) := by decide +kernel
theorem dX12_resolve_165 : decode cX12_resolve 165 = .ok (.isub, 1) := by decide +kernel
theorem dX12_resolve_166 : decode cX12_resolve 166 = .ok (.istore 8, 2) := by decide +kernel
theorem dX12_resolve_168 : decode cX12_resolve 168 = .ok (.iload 8, 2) := by decide +kernel
theorem dX12_resolve_170 : decode cX12_resolve 170 = .ok (.iconst 2, 1) := by decide +kernel
theorem dX12_resolve_171 : decode cX12_resolve 171 = .ok (.irem, 1) := by decide +kernel
theorem dX12_resolve_172 : decode cX12_resolve 172 = .ok (.ifCond .eq 5, 3) := by decide +kernel
theorem dX12_resolve_175 : decode cX12_resolve 175 = .ok (.iconst 0, 1) := by decide +kernel
theorem dX12_resolve_176 : decode cX12_resolve 176 = .ok (.ireturn, 1) := by decide +kernel
theorem dX12_resolve_177 : decode cX12_resolve 177 = .ok (.iload 8, 2) := by decide +kernel
theorem dX12_resolve_179 : decode cX12_resolve 179 = .ok (.iconst 1, 1) := by decide +kernel
theorem dX12_resolve_180 : decode cX12_resolve 180 = .ok (.ishr, 1) := by decide +kernel
theorem dX12_resolve_181 : decode cX12_resolve 181 = .ok (.istore 9, 2) := by decide +kernel
theorem dX12_resolve_183 : decode cX12_resolve 183 = .ok (.aload_n 0, 1) := by decide +kernel
theorem dX12_resolve_184 : decode cX12_resolve 184 = .ok (.getfield 156, 3) := by decide +kernel
theorem dX12_resolve_187 : decode cX12_resolve 187 = .ok (.bipush 11, 2) := by decide +kernel
theorem dX12_resolve_189 : decode cX12_resolve 189 = .ok (.if_icmp .ne 42, 3) := by decide +kernel
theorem dX12_resolve_192 : decode cX12_resolve 192 = .ok (.aload_n 0, 1) := by decide +kernel
theorem dX12_resolve_193 : decode cX12_resolve 193 = .ok (.iload_n 2, 1) := by decide +kernel
theorem dX12_resolve_194 : decode cX12_resolve 194 = .ok (.iload_n 3, 1) := by decide +kernel
theorem dX12_resolve_195 : decode cX12_resolve 195 = .ok (.aload_n 0, 1) := by decide +kernel
theorem dX12_resolve_196 : decode cX12_resolve 196 = .ok (.getfield 159, 3) := by decide +kernel
theorem dX12_resolve_199 : decode cX12_resolve 199 = .ok (.iload 9, 2) := by decide +kernel
theorem dX12_resolve_201 : decode cX12_resolve 201 = .ok (.sipush 2047, 3) := by decide +kernel
theorem dX12_resolve_204 : decode cX12_resolve 204 = .ok (.iand, 1) := by decide +kernel
theorem dX12_resolve_205 : decode cX12_resolve 205 = .ok (.iadd, 1) := by decide +kernel
theorem dX12_resolve_206 : decode cX12_resolve 206 = .ok (.invokevirtual 359, 3) := by decide +kernel
theorem dX12_resolve_209 : decode cX12_resolve 209 = .ok (.iload 8, 2) := by decide +kernel
theorem dX12_resolve_211 : decode cX12_resolve 211 = .ok (.sipush (-2048), 3) := by decide +kernel
theorem dX12_resolve_214 : decode cX12_resolve 214 = .ok (.if_icmp .lt 15, 3) := by decide +kernel
theorem dX12_resolve_217 : decode cX12_resolve 217 = .ok (.iload 8, 2) := by decide +kernel
theorem dX12_resolve_219 : decode cX12_resolve 219 = .ok (.sipush 2046, 3) := by decide +kernel
theorem dX12_resolve_222 : decode cX12_resolve 222 = .ok (.if_icmp .gt 7, 3) := by decide +kernel
theorem dX12_resolve_225 : decode cX12_resolve 225 = .ok (.iconst 1, 1) := by decide +kernel
theorem dX12_resolve_226 : decode cX12_resolve 226 = .ok (.goto 4, 3) := by decide +kernel
theorem dX12_resolve_229 : decode cX12_resolve 229 = .ok (.iconst 0, 1) := by decide +kernel
theorem dX12_resolve_230 : decode cX12_resolve 230 = .ok (.ireturn, 1) := by decide +kernel
theorem dX12_resolve_231 : decode cX12_resolve 231 = .ok (.aload_n 0, 1) := by decide +kernel
theorem dX12_resolve_232 : decode cX12_resolve 232 = .ok (.getfield 156, 3) := by decide +kernel
theorem dX12_resolve_235 : decode cX12_resolve 235 = .ok (.bipush 12, 2) := by decide +kernel
theorem dX12_resolve_237 : decode cX12_resolve 237 = .ok (.if_icmp .ne 47, 3) := by decide +kernel
theorem dX12_resolve_240 : decode cX12_resolve 240 = .ok (.aload_n 0, 1) := by decide +kernel
theorem dX12_resolve_241 : decode cX12_resolve 241 = .ok (.iload_n 2, 1) := by decide +kernel
theorem dX12_resolve_242 : decode cX12_resolve 242 = .ok (.iload_n 3, 1) := by decide +kernel
theorem dX12_resolve_243 : decode cX12_resolve 243 = .ok (.aload_n 0, 1) := by decide +kernel
theorem dX12_resolve_244 : decode cX12_resolve 244 = .ok (.getfield 159, 3) := by decide +kernel
theorem dX12_resolve_247 : decode cX12_resolve 247 = .ok (.iload 9, 2) := by decide +kernel
theorem dX12_resolve_249 : decode cX12_resolve 249 = .ok (.sipush 255, 3) := by decide +kernel
theorem dX12_resolve_252 : decode cX12_resolve 252 = .ok (.iand, 1) := by decide +kernel
theorem dX12_resolve_253 : decode cX12_resolve 253 = .ok (.iadd, 1) := by decide +kernel
theorem dX12_resolve_254 : decode cX12_resolve 254 = .ok (.invokevirtual 359, 3) := by decide +kernel
theorem dX12_resolve_257 : decode cX12_resolve 257 = .ok (.iload 6, 2) := by decide +kernel
theorem dX12_resolve_259 : decode cX12_resolve 259 = .ok (.ifCond .eq 23, 3) := by decide +kernel
theorem dX12_resolve_262 : decode cX12_resolve 262 = .ok (.iload 8, 2) := by decide +kernel
theorem dX12_resolve_264 : decode cX12_resolve 264 = .ok (.sipush (-256), 3) := by decide +kernel
theorem dX12_resolve_267 : decode cX12_resolve 267 = .ok (.if_icmp .lt 15, 3) := by decide +kernel
theorem dX12_resolve_270 : decode cX12_resolve 270 = .ok (.iload 8, 2) := by decide +kernel
theorem dX12_resolve_272 : decode cX12_resolve 272 = .ok (.sipush 254, 3) := by decide +kernel
theorem dX12_resolve_275 : decode cX12_resolve 275 = .ok (.if_icmp .gt 7, 3) := by decide +kernel
theorem dX12_resolve_278 : decode cX12_resolve 278 = .ok (.iconst 1, 1) := by decide +kernel
theorem dX12_resolve_279 : decode cX12_resolve 279 = .ok (.goto 4, 3) := by decide +kernel
theorem dX12_resolve_282 : decode cX12_resolve 282 = .ok (.iconst 0, 1) := by decide +kernel
theorem dX12_resolve_283 : decode cX12_resolve 283 = .ok (.ireturn, 1) := by decide +kernel
theorem dX12_resolve_284 : decode cX12_resolve 284 = .ok (.iload 9, 2) := by decide +kernel
theorem dX12_resolve_286 : decode cX12_resolve 286 = .ok (.bipush 23, 2) := by decide +kernel
theorem dX12_resolve_288 : decode cX12_resolve 288 = .ok (.ishr, 1) := by decide +kernel
theorem dX12_resolve_289 : decode cX12_resolve 289 = .ok (.iconst 1, 1) := by decide +kernel
theorem dX12_resolve_290 : decode cX12_resolve 290 = .ok (.iand, 1) := by decide +kernel
theorem dX12_resolve_291 : decode cX12_resolve 291 = .ok (.istore 10, 2) := by decide +kernel
theorem dX12_resolve_293 : decode cX12_resolve 293 = .ok (.aload_n 0, 1) := by decide +kernel
theorem dX12_resolve_294 : decode cX12_resolve 294 = .ok (.iload_n 2, 1) := by decide +kernel
theorem dX12_resolve_295 : decode cX12_resolve 295 = .ok (.iload_n 3, 1) := by decide +kernel
theorem dX12_resolve_296 : decode cX12_resolve 296 = .ok (.ldc_w 362, 3) := by decide +kernel
theorem dX12_resolve_299 : decode cX12_resolve 299 = .ok (.sipush 1024, 3) := by decide +kernel
theorem dX12_resolve_302 : decode cX12_resolve 302 = .ok (.iload 10, 2) := by decide +kernel
theorem dX12_resolve_304 : decode cX12_resolve 304 = .ok (.imul, 1) := by decide +kernel
theorem dX12_resolve_305 : decode cX12_resolve 305 = .ok (.iadd, 1) := by decide +kernel
theorem dX12_resolve_306 : decode cX12_resolve 306 = .ok (.iload 9, 2) := by decide +kernel
theorem dX12_resolve_308 : decode cX12_resolve 308 = .ok (.bipush 11, 2) := by decide +kernel
theorem dX12_resolve_310 : decode cX12_resolve 310 = .ok (.ishr, 1) := by decide +kernel
theorem dX12_resolve_311 : decode cX12_resolve 311 = .ok (.sipush 1023, 3) := by decide +kernel
theorem dX12_resolve_314 : decode cX12_resolve 314 = .ok (.iand, 1) := by decide +kernel
theorem dX12_resolve_315 : decode cX12_resolve 315 = .ok (.iadd, 1) := by decide +kernel
theorem dX12_resolve_316 : decode cX12_resolve 316 = .ok (.invokevirtual 359, 3) := by decide +kernel
theorem dX12_resolve_319 : decode cX12_resolve 319 = .ok (.aload_n 0, 1) := by decide +kernel
theorem dX12_resolve_320 : decode cX12_resolve 320 = .ok (.iload_n 2, 1) := by decide +kernel
theorem dX12_resolve_321 : decode cX12_resolve 321 = .ok (.iload_n 3, 1) := by decide +kernel
theorem dX12_resolve_322 : decode cX12_resolve 322 = .ok (.iconst 2, 1) := by decide +kernel
theorem dX12_resolve_323 : decode cX12_resolve 323 = .ok (.iadd, 1) := by decide +kernel
theorem dX12_resolve_324 : decode cX12_resolve 324 = .ok (.ldc_w 293, 3) := by decide +kernel
theorem dX12_resolve_327 : decode cX12_resolve 327 = .ok (.iload 9, 2) := by decide +kernel
theorem dX12_resolve_329 : decode cX12_resolve 329 = .ok (.bipush 22, 2) := by decide +kernel
theorem dX12_resolve_331 : decode cX12_resolve 331 = .ok (.ishr, 1) := by decide +kernel
theorem dX12_resolve_332 : decode cX12_resolve 332 = .ok (.iconst 1, 1) := by decide +kernel
theorem dX12_resolve_333 : decode cX12_resolve 333 = .ok (.iand, 1) := by decide +kernel
theorem dX12_resolve_334 : decode cX12_resolve 334 = .ok (.iload 10, 2) := by decide +kernel
theorem dX12_resolve_336 : decode cX12_resolve 336 = .ok (.if_icmp .ne 9, 3) := by decide +kernel
theorem dX12_resolve_339 : decode cX12_resolve 339 = .ok (.sipush 8192, 3) := by decide +kernel
theorem dX12_resolve_342 : decode cX12_resolve 342 = .ok (.goto 4, 3) := by decide +kernel
theorem dX12_resolve_345 : decode cX12_resolve 345 = .ok (.iconst 0, 1) := by decide +kernel
theorem dX12_resolve_346 : decode cX12_resolve 346 = .ok (.iadd, 1) := by decide +kernel
theorem dX12_resolve_347 : decode cX12_resolve 347 = .ok (.iload 9, 2) := by decide +kernel
theorem dX12_resolve_349 : decode cX12_resolve 349 = .ok (.bipush 21, 2) := by decide +kernel
theorem dX12_resolve_351 : decode cX12_resolve 351 = .ok (.ishr, 1) := by decide +kernel
theorem dX12_resolve_352 : decode cX12_resolve 352 = .ok (.iconst 1, 1) := by decide +kernel
theorem dX12_resolve_353 : decode cX12_resolve 353 = .ok (.iand, 1) := by decide +kernel
theorem dX12_resolve_354 : decode cX12_resolve 354 = .ok (.iload 10, 2) := by decide +kernel
theorem dX12_resolve_356 : decode cX12_resolve 356 = .ok (.if_icmp .ne 9, 3) := by decide +kernel
theorem dX12_resolve_359 : decode cX12_resolve 359 = .ok (.sipush 2048, 3) := by decide +kernel
theorem dX12_resolve_362 : decode cX12_resolve 362 = .ok (.goto 4, 3) := by decide +kernel
theorem dX12_resolve_365 : decode cX12_resolve 365 = .ok (.iconst 0, 1) := by decide +kernel
theorem dX12_resolve_366 : decode cX12_resolve 366 = .ok (.iadd, 1) := by decide +kernel
theorem dX12_resolve_367 : decode cX12_resolve 367 = .ok (.iload 9, 2) := by decide +kernel
theorem dX12_resolve_369 : decode cX12_resolve 369 = .ok (.sipush 2047, 3) := by decide +kernel
theorem dX12_resolve_372 : decode cX12_resolve 372 = .ok (.iand, 1) := by decide +kernel
theorem dX12_resolve_373 : decode cX12_resolve 373 = .ok (.iadd, 1) := by decide +kernel
theorem dX12_resolve_374 : decode cX12_resolve 374 = .ok (.invokevirtual 359, 3) := by decide +kernel
theorem dX12_resolve_377 : decode cX12_resolve 377 = .ok (.iload 8, 2) := by decide +kernel
theorem dX12_resolve_379 : decode cX12_resolve 379 = .ok (.ldc_w 363, 3) := by decide +kernel
theorem dX12_resolve_382 : decode cX12_resolve 382 = .ok (.if_icmp .lt 15, 3) := by decide +kernel
theorem dX12_resolve_385 : decode cX12_resolve 385 = .ok (.iload 8, 2) := by decide +kernel
theorem dX12_resolve_387 : decode cX12_resolve 387 = .ok (.ldc_w 364, 3) := by decide +kernel
theorem dX12_resolve_390 : decode cX12_resolve 390 = .ok (.if_icmp .gt 7, 3) := by decide +kernel
theorem dX12_resolve_393 : decode cX12_resolve 393 = .ok (.iconst 1, 1) := by decide +kernel
theorem dX12_resolve_394 : decode cX12_resolve 394 = .ok (.goto 4, 3) := by decide +kernel
theorem dX12_resolve_397 : decode cX12_resolve 397 = .ok (.iconst 0, 1) := by decide +kernel
theorem dX12_resolve_398 : decode cX12_resolve 398 = .ok (.ireturn, 1) := by decide +kernel
theorem dX12_thirdPass_0 : decode cX12_thirdPass 0 = .ok (.iconst 0, 1) := by decide +kernel
theorem dX12_thirdPass_1 : decode cX12_thirdPass 1 = .ok (.istore_n 1, 1) := by decide +kernel
theorem dX12_thirdPass_2 : decode cX12_thirdPass 2 = .ok (.iload_n 1, 1) := by decide +kernel
theorem dX12_thirdPass_3 : decode cX12_thirdPass 3 = .ok (.bipush 12, 2) := by decide +kernel
theorem dX12_thirdPass_5 : decode cX12_thirdPass 5 = .ok (.if_icmp .ge 16, 3) := by decide +kernel
theorem dX12_thirdPass_8 : decode cX12_thirdPass 8 = .ok (.aload_n 0, 1) := by decide +kernel
theorem dX12_thirdPass_9 : decode cX12_thirdPass 9 = .ok (.getfield 66, 3) := by decide +kernel
theorem dX12_thirdPass_12 : decode cX12_thirdPass 12 = .ok (.iload_n 1, 1) := by decide +kernel
theorem dX12_thirdPass_13 : decode cX12_thirdPass 13 = .ok (.iconst 0, 1) := by decide +kernel
theorem dX12_thirdPass_14 : decode cX12_thirdPass 14 = .ok (.iastore, 1) := by decide +kernel
theorem dX12_thirdPass_15 : decode cX12_thirdPass 15 = .ok (.iinc 1 1, 3) := by decide +kernel
theorem dX12_thirdPass_18 : decode cX12_thirdPass 18 = .ok (.goto (-16), 3) := by decide +kernel
theorem dX12_thirdPass_21 : decode cX12_thirdPass 21 = .ok (.iconst 0, 1) := by decide +kernel
theorem dX12_thirdPass_22 : decode cX12_thirdPass 22 = .ok (.istore_n 1, 1) := by decide +kernel
theorem dX12_thirdPass_23 : decode cX12_thirdPass 23 = .ok (.iload_n 1, 1) := by decide +kernel
theorem dX12_thirdPass_24 : decode cX12_thirdPass 24 = .ok (.iconst 4, 1) := by decide +kernel
theorem dX12_thirdPass_25 : decode cX12_thirdPass 25 = .ok (.if_icmp .ge 207, 3) := by decide +kernel
theorem dX12_thirdPass_28 : decode cX12_thirdPass 28 = .ok (.aload_n 0, 1) := by decide +kernel
theorem dX12_thirdPass_29 : decode cX12_thirdPass 29 = .ok (.iconst 0, 1) := by decide +kernel
theorem dX12_thirdPass_30 : decode cX12_thirdPass 30 = .ok (.putfield 325, 3) := by decide +kernel
theorem dX12_thirdPass_33 : decode cX12_thirdPass 33 = .ok (.iconst 0, 1) := by decide +kernel
theorem dX12_thirdPass_34 : decode cX12_thirdPass 34 = .ok (.istore_n 2, 1) := by decide +kernel
theorem dX12_thirdPass_35 : decode cX12_thirdPass 35 = .ok (.iload_n 2, 1) := by decide +kernel
theorem dX12_thirdPass_36 : decode cX12_thirdPass 36 = .ok (.aload_n 0, 1) := by decide +kernel
theorem dX12_thirdPass_37 : decode cX12_thirdPass 37 = .ok (.getfield 13, 3) := by decide +kernel
theorem dX12_thirdPass_40 : decode cX12_thirdPass 40 = .ok (.iload_n 1, 1) := by decide +kernel
theorem dX12_thirdPass_41 : decode cX12_thirdPass 41 = .ok (.iaload, 1) := by decide +kernel
theorem dX12_thirdPass_42 : decode cX12_thirdPass 42 = .ok (.if_icmp .ge 184, 3) := by decide +kernel
theorem dX12_thirdPass_45 : decode cX12_thirdPass 45 = .ok (.aload_n 0, 1) := by decide +kernel
theorem dX12_thirdPass_46 : decode cX12_thirdPass 46 = .ok (.iload_n 1, 1) := by decide +kernel
theorem dX12_thirdPass_47 : decode cX12_thirdPass 47 = .ok (.iload_n 2, 1) := by decide +kernel
theorem dX12_thirdPass_48 : decode cX12_thirdPass 48 = .ok (.iconst 0, 1) := by decide +kernel
theorem dX12_thirdPass_49 : decode cX12_thirdPass 49 = .ok (.invokevirtual 334, 3) := by decide +kernel
theorem dX12_thirdPass_52 : decode cX12_thirdPass 52 = .ok (.iconst 3, 1) := by decide +kernel
theorem dX12_thirdPass_53 : decode cX12_thirdPass 53 = .ok (.iload_n 1, 1) := by decide +kernel
theorem dX12_thirdPass_54 : decode cX12_thirdPass 54 = .ok (.imul, 1) := by decide +kernel
theorem dX12_thirdPass_55 : decode cX12_thirdPass 55 = .ok (.aload_n 0, 1) := by decide +kernel
theorem dX12_thirdPass_56 : decode cX12_thirdPass 56 = .ok (.getfield 325, 3) := by decide +kernel
theorem dX12_thirdPass_59 : decode cX12_thirdPass 59 = .ok (.iadd, 1) := by decide +kernel
theorem dX12_thirdPass_60 : decode cX12_thirdPass 60 = .ok (.istore_n 3, 1) := by decide +kernel
theorem dX12_thirdPass_61 : decode cX12_thirdPass 61 = .ok (.aload_n 0, 1) := by decide +kernel
theorem dX12_thirdPass_62 : decode cX12_thirdPass 62 = .ok (.getfield 66, 3) := by decide +kernel
theorem dX12_thirdPass_65 : decode cX12_thirdPass 65 = .ok (.iload_n 3, 1) := by decide +kernel
theorem dX12_thirdPass_66 : decode cX12_thirdPass 66 = .ok (.iaload, 1) := by decide +kernel
theorem dX12_thirdPass_67 : decode cX12_thirdPass 67 = .ok (.istore 4, 2) := by decide +kernel
theorem dX12_thirdPass_69 : decode cX12_thirdPass 69 = .ok (.aload_n 0, 1) := by decide +kernel
theorem dX12_thirdPass_70 : decode cX12_thirdPass 70 = .ok (.getfield 156, 3) := by decide +kernel
theorem dX12_thirdPass_73 : decode cX12_thirdPass 73 = .ok (.bipush 6, 2) := by decide +kernel
theorem dX12_thirdPass_75 : decode cX12_thirdPass 75 = .ok (.if_icmp .eq 12, 3) := by decide +kernel
theorem dX12_thirdPass_78 : decode cX12_thirdPass 78 = .ok (.aload_n 0, 1) := by decide +kernel
theorem dX12_thirdPass_79 : decode cX12_thirdPass 79 = .ok (.getfield 156, 3) := by decide +kernel
theorem dX12_thirdPass_82 : decode cX12_thirdPass 82 = .ok (.bipush 11, 2) := by decide +kernel
theorem dX12_thirdPass_84 : decode cX12_thirdPass 84 = .ok (.if_icmp .lt 92, 3) := by decide +kernel
theorem dX12_thirdPass_87 : decode cX12_thirdPass 87 = .ok (.aload_n 0, 1) := by decide +kernel
theorem dX12_thirdPass_88 : decode cX12_thirdPass 88 = .ok (.iload_n 1, 1) := by decide +kernel
theorem dX12_thirdPass_89 : decode cX12_thirdPass 89 = .ok (.aload_n 0, 1) := by decide +kernel
theorem dX12_thirdPass_90 : decode cX12_thirdPass 90 = .ok (.getfield 142, 3) := by decide +kernel
theorem dX12_thirdPass_93 : decode cX12_thirdPass 93 = .ok (.aload_n 0, 1) := by decide +kernel
theorem dX12_thirdPass_94 : decode cX12_thirdPass 94 = .ok (.getfield 145, 3) := by decide +kernel
theorem dX12_thirdPass_97 : decode cX12_thirdPass 97 = .ok (.iconst 0, 1) := by decide +kernel
theorem dX12_thirdPass_98 : decode cX12_thirdPass 98 = .ok (.invokevirtual 300, 3) := by decide +kernel
theorem dX12_thirdPass_101 : decode cX12_thirdPass 101 = .ok (.istore 5, 2) := by decide +kernel
theorem dX12_thirdPass_103 : decode cX12_thirdPass 103 = .ok (.iload 5, 2) := by decide +kernel
theorem dX12_thirdPass_105 : decode cX12_thirdPass 105 = .ok (.ifCond .ge 18, 3) := by decide +kernel
theorem dX12_thirdPass_108 : decode cX12_thirdPass 108 = .ok (.aload_n 0, 1) := by decide +kernel
theorem dX12_thirdPass_109 : decode cX12_thirdPass 109 = .ok (.aload_n 0, 1) := by decide +kernel
theorem dX12_thirdPass_110 : decode cX12_thirdPass 110 = .ok (.getfield 142, 3) := by decide +kernel
theorem dX12_thirdPass_113 : decode cX12_thirdPass 113 = .ok (.aload_n 0, 1) := by decide +kernel
theorem dX12_thirdPass_114 : decode cX12_thirdPass 114 = .ok (.getfield 145, 3) := by decide +kernel
theorem dX12_thirdPass_117 : decode cX12_thirdPass 117 = .ok (.invokevirtual 347, 3) := by decide +kernel
theorem dX12_thirdPass_120 : decode cX12_thirdPass 120 = .ok (.goto 5, 3) := by decide +kernel
theorem dX12_thirdPass_123 : decode cX12_thirdPass 123 = .ok (.iload 5, 2) := by decide +kernel
theorem dX12_thirdPass_125 : decode cX12_thirdPass 125 = .ok (.istore 5, 2) := by decide +kernel
theorem dX12_thirdPass_127 : decode cX12_thirdPass 127 = .ok (.iload 5, 2) := by decide +kernel
theorem dX12_thirdPass_129 : decode cX12_thirdPass 129 = .ok (.ifCond .lt 16, 3) := by decide +kernel
theorem dX12_thirdPass_132 : decode cX12_thirdPass 132 = .ok (.aload_n 0, 1) := by decide +kernel
theorem dX12_thirdPass_133 : decode cX12_thirdPass 133 = .ok (.iload_n 1, 1) := by decide +kernel
theorem dX12_thirdPass_134 : decode cX12_thirdPass 134 = .ok (.iload_n 3, 1) := by decide +kernel
theorem dX12_thirdPass_135 : decode cX12_thirdPass 135 = .ok (.iload 4, 2) := by decide +kernel
theorem dX12_thirdPass_137 : decode cX12_thirdPass 137 = .ok (.iload 5, 2) := by decide +kernel
theorem dX12_thirdPass_139 : decode cX12_thirdPass 139 = .ok (.invokevirtual 365, 3) := by decide +kernel
theorem dX12_thirdPass_142 : decode cX12_thirdPass 142 = .ok (.ifCond .ne 34, 3) := by decide +kernel
theorem dX12_thirdPass_145 : decode cX12_thirdPass 145 = .ok (.aload_n 0, 1) := by decide +kernel
theorem dX12_thirdPass_146 : decode cX12_thirdPass 146 = .ok (.iload 5, 2) := by decide +kernel
theorem dX12_thirdPass_148 : decode cX12_thirdPass 148 = .ok (.ifCond .ge 8, 3) := by decide +kernel
theorem dX12_thirdPass_151 : decode cX12_thirdPass 151 = .ok (.bipush (-8), 2) := by decide +kernel
theorem dX12_thirdPass_153 : decode cX12_thirdPass 153 = .ok (.goto 5, 3) := by decide +kernel
theorem dX12_thirdPass_156 : decode cX12_thirdPass 156 = .ok (.bipush (-9), 2) := by decide +kernel
theorem dX12_thirdPass_158 : decode cX12_thirdPass 158 = .ok (.iload_n 1, 1) := by decide +kernel
theorem dX12_thirdPass_159 : decode cX12_thirdPass 159 = .ok (.iload_n 2, 1) := by decide +kernel
theorem dX12_thirdPass_160 : decode cX12_thirdPass 160 = .ok (.aload_n 0, 1) := by decide +kernel
theorem dX12_thirdPass_161 : decode cX12_thirdPass 161 = .ok (.getfield 142, 3) := by decide +kernel
theorem dX12_thirdPass_164 : decode cX12_thirdPass 164 = .ok (.bipush 48, 2) := by decide +kernel
theorem dX12_thirdPass_166 : decode cX12_thirdPass 166 = .ok (.aload_n 0, 1) := by decide +kernel
theorem dX12_thirdPass_167 : decode cX12_thirdPass 167 = .ok (.getfield 103, 3) := by decide +kernel
theorem dX12_thirdPass_170 : decode cX12_thirdPass 170 = .ok (.imul, 1) := by decide +kernel
theorem dX12_thirdPass_171 : decode cX12_thirdPass 171 = .ok (.isub, 1) := by decide +kernel
theorem dX12_thirdPass_172 : decode cX12_thirdPass 172 = .ok (.invokevirtual 337, 3) := by decide +kernel
theorem dX12_thirdPass_175 : decode cX12_thirdPass 175 = .ok (.ireturn, 1) := by decide +kernel
theorem dX12_thirdPass_176 : decode cX12_thirdPass 176 = .ok (.aload_n 0, 1) := by decide +kernel
theorem dX12_thirdPass_177 : decode cX12_thirdPass 177 = .ok (.getfield 156, 3) := by decide +kernel
theorem dX12_thirdPass_180 : decode cX12_thirdPass 180 = .ok (.iconst 1, 1) := by decide +kernel
theorem dX12_thirdPass_181 : decode cX12_thirdPass 181 = .ok (.if_icmp .lt 24, 3) := by decide +kernel
theorem dX12_thirdPass_184 : decode cX12_thirdPass 184 = .ok (.aload_n 0, 1) := by decide +kernel
theorem dX12_thirdPass_185 : decode cX12_thirdPass 185 = .ok (.getfield 156, 3) := by decide +kernel
theorem dX12_thirdPass_188 : decode cX12_thirdPass 188 = .ok (.iconst 4, 1) := by decide +kernel
theorem dX12_thirdPass_189 : decode cX12_thirdPass 189 = .ok (.if_icmp .ge 16, 3) := by decide +kernel
theorem dX12_thirdPass_192 : decode cX12_thirdPass 192 = .ok (.aload_n 0, 1) := by decide +kernel
theorem dX12_thirdPass_193 : decode cX12_thirdPass 193 = .ok (.aload_n 0, 1) := by decide +kernel
theorem dX12_thirdPass_194 : decode cX12_thirdPass 194 = .ok (.getfield 156, 3) := by decide +kernel
theorem dX12_thirdPass_197 : decode cX12_thirdPass 197 = .ok (.iconst 1, 1) := by decide +kernel
theorem dX12_thirdPass_198 : decode cX12_thirdPass 198 = .ok (.isub, 1) := by decide +kernel
theorem dX12_thirdPass_199 : decode cX12_thirdPass 199 = .ok (.putfield 325, 3) := by decide +kernel
theorem dX12_thirdPass_202 : decode cX12_thirdPass 202 = .ok (.goto 18, 3) := by decide +kernel
theorem dX12_thirdPass_205 : decode cX12_thirdPass 205 = .ok (.aload_n 0, 1) := by decide +kernel
theorem dX12_thirdPass_206 : decode cX12_thirdPass 206 = .ok (.getfield 66, 3) := by decide +kernel
theorem dX12_thirdPass_209 : decode cX12_thirdPass 209 = .ok (.iload_n 3, 1) := by decide +kernel
theorem dX12_thirdPass_210 : decode cX12_thirdPass 210 = .ok (.iload 4, 2) := by decide +kernel
theorem dX12_thirdPass_212 : decode cX12_thirdPass 212 = .ok (.aload_n 0, 1) := by decide +kernel
theorem dX12_thirdPass_213 : decode cX12_thirdPass 213 = .ok (.iload 4, 2) := by decide +kernel
theorem dX12_thirdPass_215 : decode cX12_thirdPass 215 = .ok (.invokevirtual 369, 3) := by decide +kernel
theorem dX12_thirdPass_218 : decode cX12_thirdPass 218 = .ok (.iadd, 1) := by decide +kernel
theorem dX12_thirdPass_219 : decode cX12_thirdPass 219 = .ok (.iastore, 1) := by decide +kernel
theorem dX12_thirdPass_220 : decode cX12_thirdPass 220 = .ok (.iinc 2 1, 3) := by decide +kernel
theorem dX12_thirdPass_223 : decode cX12_thirdPass 223 = .ok (.goto (-188), 3) := by decide +kernel
theorem dX12_thirdPass_226 : decode cX12_thirdPass 226 = .ok (.iinc 1 1, 3) := by decide +kernel
theorem dX12_thirdPass_229 : decode cX12_thirdPass 229 = .ok (.goto (-206), 3) := by decide +kernel
theorem dX12_thirdPass_232 : decode cX12_thirdPass 232 = .ok (.iconst 0, 1) := by decide +kernel
theorem dX12_thirdPass_233 : decode cX12_thirdPass 233 = .ok (.ireturn, 1) := by decide +kernel
theorem dX12_sizeOf_0 : decode cX12_sizeOf 0 = .ok (.aload_n 0, 1) := by decide +kernel
theorem dX12_sizeOf_1 : decode cX12_sizeOf 1 = .ok (.getfield 156, 3) := by decide +kernel
theorem dX12_sizeOf_4 : decode cX12_sizeOf 4 = .ok (.bipush 8, 2) := by decide +kernel
theorem dX12_sizeOf_6 : decode cX12_sizeOf 6 = .ok (.if_icmp .ne 10, 3) := by decide +kernel
theorem dX12_sizeOf_9 : decode cX12_sizeOf 9 = .ok (.aload_n 0, 1) := by decide +kernel
theorem dX12_sizeOf_10 : decode cX12_sizeOf 10 = .ok (.getfield 193, 3) := by decide +kernel
theorem dX12_sizeOf_13 : decode cX12_sizeOf 13 = .ok (.goto 78, 3) := by decide +kernel
theorem dX12_sizeOf_16 : decode cX12_sizeOf 16 = .ok (.aload_n 0, 1) := by decide +kernel
theorem dX12_sizeOf_17 : decode cX12_sizeOf 17 = .ok (.getfield 156, 3) := by decide +kernel
theorem dX12_sizeOf_20 : decode cX12_sizeOf 20 = .ok (.bipush 9, 2) := by decide +kernel
theorem dX12_sizeOf_22 : decode cX12_sizeOf 22 = .ok (.if_icmp .ne 12, 3) := by decide +kernel
theorem dX12_sizeOf_25 : decode cX12_sizeOf 25 = .ok (.iload_n 1, 1) := by decide +kernel
theorem dX12_sizeOf_26 : decode cX12_sizeOf 26 = .ok (.invokestatic 353, 3) := by decide +kernel
theorem dX12_sizeOf_29 : decode cX12_sizeOf 29 = .ok (.iload_n 1, 1) := by decide +kernel
theorem dX12_sizeOf_30 : decode cX12_sizeOf 30 = .ok (.isub, 1) := by decide +kernel
theorem dX12_sizeOf_31 : decode cX12_sizeOf 31 = .ok (.goto 60, 3) := by decide +kernel
theorem dX12_sizeOf_34 : decode cX12_sizeOf 34 = .ok (.aload_n 0, 1) := by decide +kernel
theorem dX12_sizeOf_35 : decode cX12_sizeOf 35 = .ok (.getfield 156, 3) := by decide +kernel
theorem dX12_sizeOf_38 : decode cX12_sizeOf 38 = .ok (.bipush 7, 2) := by decide +kernel
theorem dX12_sizeOf_40 : decode cX12_sizeOf 40 = .ok (.if_icmp .ne 7, 3) := by decide +kernel
theorem dX12_sizeOf_43 : decode cX12_sizeOf 43 = .ok (.iconst 1, 1) := by decide +kernel
theorem dX12_sizeOf_44 : decode cX12_sizeOf 44 = .ok (.goto 47, 3) := by decide +kernel
theorem dX12_sizeOf_47 : decode cX12_sizeOf 47 = .ok (.aload_n 0, 1) := by decide +kernel
theorem dX12_sizeOf_48 : decode cX12_sizeOf 48 = .ok (.getfield 156, 3) := by decide +kernel
theorem dX12_sizeOf_51 : decode cX12_sizeOf 51 = .ok (.iconst 5, 1) := by decide +kernel
theorem dX12_sizeOf_52 : decode cX12_sizeOf 52 = .ok (.if_icmp .eq 21, 3) := by decide +kernel
theorem dX12_sizeOf_55 : decode cX12_sizeOf 55 = .ok (.aload_n 0, 1) := by decide +kernel
theorem dX12_sizeOf_56 : decode cX12_sizeOf 56 = .ok (.getfield 156, 3) := by decide +kernel
theorem dX12_sizeOf_59 : decode cX12_sizeOf 59 = .ok (.bipush 6, 2) := by decide +kernel
theorem dX12_sizeOf_61 : decode cX12_sizeOf 61 = .ok (.if_icmp .eq 12, 3) := by decide +kernel
theorem dX12_sizeOf_64 : decode cX12_sizeOf 64 = .ok (.aload_n 0, 1) := by decide +kernel
theorem dX12_sizeOf_65 : decode cX12_sizeOf 65 = .ok (.getfield 156, 3) := by decide +kernel
theorem dX12_sizeOf_68 : decode cX12_sizeOf 68 = .ok (.bipush 13, 2) := by decide +kernel
theorem dX12_sizeOf_70 : decode cX12_sizeOf 70 = .ok (.if_icmp .ne 7, 3) := by decide +kernel
theorem dX12_sizeOf_73 : decode cX12_sizeOf 73 = .ok (.iconst 4, 1) := by decide +kernel
theorem dX12_sizeOf_74 : decode cX12_sizeOf 74 = .ok (.goto 17, 3) := by decide +kernel
theorem dX12_sizeOf_77 : decode cX12_sizeOf 77 = .ok (.aload_n 0, 1) := by decide +kernel
theorem dX12_sizeOf_78 : decode cX12_sizeOf 78 = .ok (.getfield 156, 3) := by decide +kernel
theorem dX12_sizeOf_81 : decode cX12_sizeOf 81 = .ok (.bipush 10, 2) := by decide +kernel
theorem dX12_sizeOf_83 : decode cX12_sizeOf 83 = .ok (.if_icmp .lt 7, 3) := by decide +kernel
theorem dX12_sizeOf_86 : decode cX12_sizeOf 86 = .ok (.iconst 2, 1) := by decide +kernel
theorem dX12_sizeOf_87 : decode cX12_sizeOf 87 = .ok (.goto 4, 3) := by decide +kernel
theorem dX12_sizeOf_90 : decode cX12_sizeOf 90 = .ok (.iconst 0, 1) := by decide +kernel
theorem dX12_sizeOf_91 : decode cX12_sizeOf 91 = .ok (.ireturn, 1) := by decide +kernel
theorem dX12_mainAddress_0 : decode cX12_mainAddress 0 = .ok (.iconst 0, 1) := by decide +kernel
theorem dX12_mainAddress_1 : decode cX12_mainAddress 1 = .ok (.istore_n 1, 1) := by decide +kernel
theorem dX12_mainAddress_2 : decode cX12_mainAddress 2 = .ok (.iload_n 1, 1) := by decide +kernel
theorem dX12_mainAddress_3 : decode cX12_mainAddress 3 = .ok (.aload_n 0, 1) := by decide +kernel
theorem dX12_mainAddress_4 : decode cX12_mainAddress 4 = .ok (.getfield 319, 3) := by decide +kernel
theorem dX12_mainAddress_7 : decode cX12_mainAddress 7 = .ok (.if_icmp .ge 119, 3) := by decide +kernel
theorem dX12_mainAddress_10 : decode cX12_mainAddress 10 = .ok (.aload_n 0, 1) := by decide +kernel
theorem dX12_mainAddress_11 : decode cX12_mainAddress 11 = .ok (.getfield 35, 3) := by decide +kernel
theorem dX12_mainAddress_14 : decode cX12_mainAddress 14 = .ok (.iload_n 1, 1) := by decide +kernel
theorem dX12_mainAddress_15 : decode cX12_mainAddress 15 = .ok (.baload, 1) := by decide +kernel
theorem dX12_mainAddress_16 : decode cX12_mainAddress 16 = .ok (.ifCond .eq 92, 3) := by decide +kernel
theorem dX12_mainAddress_19 : decode cX12_mainAddress 19 = .ok (.aload_n 0, 1) := by decide +kernel
theorem dX12_mainAddress_20 : decode cX12_mainAddress 20 = .ok (.getfield 29, 3) := by decide +kernel
theorem dX12_mainAddress_23 : decode cX12_mainAddress 23 = .ok (.iload_n 1, 1) := by decide +kernel
theorem dX12_mainAddress_24 : decode cX12_mainAddress 24 = .ok (.iaload, 1) := by decide +kernel
theorem dX12_mainAddress_25 : decode cX12_mainAddress 25 = .ok (.ifCond .ne 83, 3) := by decide +kernel
theorem dX12_mainAddress_28 : decode cX12_mainAddress 28 = .ok (.aload_n 0, 1) := by decide +kernel
theorem dX12_mainAddress_29 : decode cX12_mainAddress 29 = .ok (.getfield 23, 3) := by decide +kernel
theorem dX12_mainAddress_32 : decode cX12_mainAddress 32 = .ok (.bipush 6, 2) := by decide +kernel
theorem dX12_mainAddress_34 : decode cX12_mainAddress 34 = .ok (.iload_n 1, 1) := by decide +kernel
theorem dX12_mainAddress_35 : decode cX12_mainAddress 35 = .ok (.imul, 1) := by decide +kernel
theorem dX12_mainAddress_36 : decode cX12_mainAddress 36 = .ok (.caload, 1) := by decide +kernel
theorem dX12_mainAddress_37 : decode cX12_mainAddress 37 = .ok (.bipush 109, 2) := by decide +kernel
theorem dX12_mainAddress_39 : decode cX12_mainAddress 39 = .ok (.if_icmp .ne 69, 3) := by decide +kernel
theorem dX12_mainAddress_42 : decode cX12_mainAddress 42 = .ok (.aload_n 0, 1) := by decide +kernel
theorem dX12_mainAddress_43 : decode cX12_mainAddress 43 = .ok (.getfield 23, 3) := by decide +kernel
theorem dX12_mainAddress_46 : decode cX12_mainAddress 46 = .ok (.bipush 6, 2) := by decide +kernel
theorem dX12_mainAddress_48 : decode cX12_mainAddress 48 = .ok (.iload_n 1, 1) := by decide +kernel
theorem dX12_mainAddress_49 : decode cX12_mainAddress 49 = .ok (.imul, 1) := by decide +kernel
theorem dX12_mainAddress_50 : decode cX12_mainAddress 50 = .ok (.iconst 1, 1) := by decide +kernel
theorem dX12_mainAddress_51 : decode cX12_mainAddress 51 = .ok (.iadd, 1) := by decide +kernel
theorem dX12_mainAddress_52 : decode cX12_mainAddress 52 = .ok (.caload, 1) := by decide +kernel
theorem dX12_mainAddress_53 : decode cX12_mainAddress 53 = .ok (.bipush 97, 2) := by decide +kernel
theorem dX12_mainAddress_55 : decode cX12_mainAddress 55 = .ok (.if_icmp .ne 53, 3) := by decide +kernel
theorem dX12_mainAddress_58 : decode cX12_mainAddress 58 = .ok (.aload_n 0, 1) := by decide +kernel
theorem dX12_mainAddress_59 : decode cX12_mainAddress 59 = .ok (.getfield 23, 3) := by decide +kernel
theorem dX12_mainAddress_62 : decode cX12_mainAddress 62 = .ok (.bipush 6, 2) := by decide +kernel
theorem dX12_mainAddress_64 : decode cX12_mainAddress 64 = .ok (.iload_n 1, 1) := by decide +kernel
theorem dX12_mainAddress_65 : decode cX12_mainAddress 65 = .ok (.imul, 1) := by decide +kernel
theorem dX12_mainAddress_66 : decode cX12_mainAddress 66 = .ok (.iconst 2, 1) := by decide +kernel
theorem dX12_mainAddress_67 : decode cX12_mainAddress 67 = .ok (.iadd, 1) := by decide +kernel
theorem dX12_mainAddress_68 : decode cX12_mainAddress 68 = .ok (.caload, 1) := by decide +kernel
theorem dX12_mainAddress_69 : decode cX12_mainAddress 69 = .ok (.bipush 105, 2) := by decide +kernel
theorem dX12_mainAddress_71 : decode cX12_mainAddress 71 = .ok (.if_icmp .ne 37, 3) := by decide +kernel
theorem dX12_mainAddress_74 : decode cX12_mainAddress 74 = .ok (.aload_n 0, 1) := by decide +kernel
theorem dX12_mainAddress_75 : decode cX12_mainAddress 75 = .ok (.getfield 23, 3) := by decide +kernel
theorem dX12_mainAddress_78 : decode cX12_mainAddress 78 = .ok (.bipush 6, 2) := by decide +kernel
theorem dX12_mainAddress_80 : decode cX12_mainAddress 80 = .ok (.iload_n 1, 1) := by decide +kernel
theorem dX12_mainAddress_81 : decode cX12_mainAddress 81 = .ok (.imul, 1) := by decide +kernel
theorem dX12_mainAddress_82 : decode cX12_mainAddress 82 = .ok (.iconst 3, 1) := by decide +kernel
theorem dX12_mainAddress_83 : decode cX12_mainAddress 83 = .ok (.iadd, 1) := by decide +kernel
theorem dX12_mainAddress_84 : decode cX12_mainAddress 84 = .ok (.caload, 1) := by decide +kernel
theorem dX12_mainAddress_85 : decode cX12_mainAddress 85 = .ok (.bipush 110, 2) := by decide +kernel
theorem dX12_mainAddress_87 : decode cX12_mainAddress 87 = .ok (.if_icmp .ne 21, 3) := by decide +kernel
theorem dX12_mainAddress_90 : decode cX12_mainAddress 90 = .ok (.aload_n 0, 1) := by decide +kernel
theorem dX12_mainAddress_91 : decode cX12_mainAddress 91 = .ok (.getfield 23, 3) := by decide +kernel
theorem dX12_mainAddress_94 : decode cX12_mainAddress 94 = .ok (.bipush 6, 2) := by decide +kernel
theorem dX12_mainAddress_96 : decode cX12_mainAddress 96 = .ok (.iload_n 1, 1) := by decide +kernel
theorem dX12_mainAddress_97 : decode cX12_mainAddress 97 = .ok (.imul, 1) := by decide +kernel
theorem dX12_mainAddress_98 : decode cX12_mainAddress 98 = .ok (.iconst 4, 1) := by decide +kernel
theorem dX12_mainAddress_99 : decode cX12_mainAddress 99 = .ok (.iadd, 1) := by decide +kernel
theorem dX12_mainAddress_100 : decode cX12_mainAddress 100 = .ok (.caload, 1) := by decide +kernel
theorem dX12_mainAddress_101 : decode cX12_mainAddress 101 = .ok (.ifCond .ne 7, 3) := by decide +kernel
theorem dX12_mainAddress_104 : decode cX12_mainAddress 104 = .ok (.iconst 1, 1) := by decide +kernel
theorem dX12_mainAddress_105 : decode cX12_mainAddress 105 = .ok (.goto 4, 3) := by decide +kernel
theorem dX12_mainAddress_108 : decode cX12_mainAddress 108 = .ok (.iconst 0, 1) := by decide +kernel
theorem dX12_mainAddress_109 : decode cX12_mainAddress 109 = .ok (.istore_n 2, 1) := by decide +kernel
theorem dX12_mainAddress_110 : decode cX12_mainAddress 110 = .ok (.iload_n 2, 1) := by decide +kernel
theorem dX12_mainAddress_111 : decode cX12_mainAddress 111 = .ok (.ifCond .eq 9, 3) := by decide +kernel
theorem dX12_mainAddress_114 : decode cX12_mainAddress 114 = .ok (.aload_n 0, 1) := by decide +kernel
theorem dX12_mainAddress_115 : decode cX12_mainAddress 115 = .ok (.iload_n 1, 1) := by decide +kernel
theorem dX12_mainAddress_116 : decode cX12_mainAddress 116 = .ok (.invokevirtual 356, 3) := by decide +kernel
theorem dX12_mainAddress_119 : decode cX12_mainAddress 119 = .ok (.ireturn, 1) := by decide +kernel
theorem dX12_mainAddress_120 : decode cX12_mainAddress 120 = .ok (.iinc 1 1, 3) := by decide +kernel
theorem dX12_mainAddress_123 : decode cX12_mainAddress 123 = .ok (.goto (-121), 3) := by decide +kernel
theorem dX12_mainAddress_126 : decode cX12_mainAddress 126 = .ok (.iconst (-1), 1) := by decide +kernel
theorem dX12_mainAddress_127 : decode cX12_mainAddress 127 = .ok (.ireturn, 1) := by decide +kernel
theorem dX12_link_0 : decode cX12_link 0 = .ok (.aload_n 0, 1) := by decide +kernel
theorem dX12_link_1 : decode cX12_link 1 = .ok (.iconst 0, 1) := by decide +kernel
theorem dX12_link_2 : decode cX12_link 2 = .ok (.putfield 72, 3) := by decide +kernel
theorem dX12_link_5 : decode cX12_link 5 = .ok (.aload_n 0, 1) := by decide +kernel
theorem dX12_link_6 : decode cX12_link 6 = .ok (.invokevirtual 69, 3) := by decide +kernel
theorem dX12_link_9 : decode cX12_link 9 = .ok (.aload_n 0, 1) := by decide +kernel
theorem dX12_link_10 : decode cX12_link 10 = .ok (.invokevirtual 372, 3) := by decide +kernel
theorem dX12_link_13 : decode cX12_link 13 = .ok (.istore_n 1, 1) := by decide +kernel
theorem dX12_link_14 : decode cX12_link 14 = .ok (.iload_n 1, 1) := by decide +kernel
theorem dX12_link_15 : decode cX12_link 15 = .ok (.ifCond .ne 10, 3) := by decide +kernel
theorem dX12_link_18 : decode cX12_link 18 = .ok (.aload_n 0, 1) := by decide +kernel
theorem dX12_link_19 : decode cX12_link 19 = .ok (.invokevirtual 375, 3) := by decide +kernel
theorem dX12_link_22 : decode cX12_link 22 = .ok (.goto 4, 3) := by decide +kernel
theorem dX12_link_25 : decode cX12_link 25 = .ok (.iload_n 1, 1) := by decide +kernel
theorem dX12_link_26 : decode cX12_link 26 = .ok (.istore_n 1, 1) := by decide +kernel
theorem dX12_link_27 : decode cX12_link 27 = .ok (.iload_n 1, 1) := by decide +kernel
theorem dX12_link_28 : decode cX12_link 28 = .ok (.ifCond .eq 5, 3) := by decide +kernel
theorem dX12_link_31 : decode cX12_link 31 = .ok (.iload_n 1, 1) := by decide +kernel
theorem dX12_link_32 : decode cX12_link 32 = .ok (.ireturn, 1) := by decide +kernel
theorem dX12_link_33 : decode cX12_link 33 = .ok (.aload_n 0, 1) := by decide +kernel
theorem dX12_link_34 : decode cX12_link 34 = .ok (.iconst 1, 1) := by decide +kernel
theorem dX12_link_35 : decode cX12_link 35 = .ok (.aload_n 0, 1) := by decide +kernel
theorem dX12_link_36 : decode cX12_link 36 = .ok (.iconst 0, 1) := by decide +kernel
theorem dX12_link_37 : decode cX12_link 37 = .ok (.bipush 8, 2) := by decide +kernel
theorem dX12_link_39 : decode cX12_link 39 = .ok (.iconst 0, 1) := by decide +kernel
theorem dX12_link_40 : decode cX12_link 40 = .ok (.invokevirtual 378, 3) := by decide +kernel
theorem dX12_link_43 : decode cX12_link 43 = .ok (.iconst 1, 1) := by decide +kernel
theorem dX12_link_44 : decode cX12_link 44 = .ok (.invokevirtual 378, 3) := by decide +kernel
theorem dX12_link_47 : decode cX12_link 47 = .ok (.istore_n 2, 1) := by decide +kernel
theorem dX12_link_48 : decode cX12_link 48 = .ok (.aload_n 0, 1) := by decide +kernel
theorem dX12_link_49 : decode cX12_link 49 = .ok (.iconst 2, 1) := by decide +kernel
theorem dX12_link_50 : decode cX12_link 50 = .ok (.aload_n 0, 1) := by decide +kernel
theorem dX12_link_51 : decode cX12_link 51 = .ok (.iconst 1, 1) := by decide +kernel
theorem dX12_link_52 : decode cX12_link 52 = .ok (.ldc_w 382, 3) := by decide +kernel
theorem dX12_link_55 : decode cX12_link 55 = .ok (.iconst 0, 1) := by decide +kernel
theorem dX12_link_56 : decode cX12_link 56 = .ok (.invokevirtual 378, 3) := by decide +kernel
theorem dX12_link_59 : decode cX12_link 59 = .ok (.iconst 0, 1) := by decide +kernel
theorem dX12_link_60 : decode cX12_link 60 = .ok (.invokevirtual 378, 3) := by decide +kernel
theorem dX12_link_63 : decode cX12_link 63 = .ok (.istore_n 3, 1) := by decide +kernel
theorem dX12_link_64 : decode cX12_link 64 = .ok (.iload_n 2, 1) := by decide +kernel
theorem dX12_link_65 : decode cX12_link 65 = .ok (.sipush 2048, 3) := by decide +kernel
theorem dX12_link_68 : decode cX12_link 68 = .ok (.if_icmp .gt 10, 3) := by decide +kernel
theorem dX12_link_71 : decode cX12_link 71 = .ok (.iload_n 3, 1) := by decide +kernel
theorem dX12_link_72 : decode cX12_link 72 = .ok (.ldc_w 383, 3) := by decide +kernel
theorem dX12_link_75 : decode cX12_link 75 = .ok (.if_icmp .le 6, 3) := by decide +kernel
theorem dX12_link_78 : decode cX12_link 78 = .ok (.bipush (-7), 2) := by decide +kernel
theorem dX12_link_80 : decode cX12_link 80 = .ok (.ireturn, 1) := by decide +kernel
theorem dX12_link_81 : decode cX12_link 81 = .ok (.aload_n 0, 1) := by decide +kernel
theorem dX12_link_82 : decode cX12_link 82 = .ok (.invokevirtual 384, 3) := by decide +kernel
theorem dX12_link_85 : decode cX12_link 85 = .ok (.istore_n 1, 1) := by decide +kernel
theorem dX12_link_86 : decode cX12_link 86 = .ok (.aload_n 0, 1) := by decide +kernel
theorem dX12_link_87 : decode cX12_link 87 = .ok (.invokevirtual 387, 3) := by decide +kernel
theorem dX12_link_90 : decode cX12_link 90 = .ok (.istore 4, 2) := by decide +kernel
theorem dX12_link_92 : decode cX12_link 92 = .ok (.iload_n 1, 1) := by decide +kernel
theorem dX12_link_93 : decode cX12_link 93 = .ok (.ifCond .ne 8, 3) := by decide +kernel
theorem dX12_link_96 : decode cX12_link 96 = .ok (.iload 4, 2) := by decide +kernel
theorem dX12_link_98 : decode cX12_link 98 = .ok (.ifCond .ge 14, 3) := by decide +kernel
theorem dX12_link_101 : decode cX12_link 101 = .ok (.iload_n 1, 1) := by decide +kernel
theorem dX12_link_102 : decode cX12_link 102 = .ok (.ifCond .eq 7, 3) := by decide +kernel
theorem dX12_link_105 : decode cX12_link 105 = .ok (.iload_n 1, 1) := by decide +kernel
theorem dX12_link_106 : decode cX12_link 106 = .ok (.goto 5, 3) := by decide +kernel
theorem dX12_link_109 : decode cX12_link 109 = .ok (.bipush (-8), 2) := by decide +kernel
theorem dX12_link_111 : decode cX12_link 111 = .ok (.ireturn, 1) := by decide +kernel
theorem dX12_link_112 : decode cX12_link 112 = .ok (.aload_n 0, 1) := by decide +kernel
theorem dX12_link_113 : decode cX12_link 113 = .ok (.iload_n 2, 1) := by decide +kernel
theorem dX12_link_114 : decode cX12_link 114 = .ok (.iload 4, 2) := by decide +kernel
theorem dX12_link_116 : decode cX12_link 116 = .ok (.invokevirtual 390, 3) := by decide +kernel
theorem dX12_link_119 : decode cX12_link 119 = .ok (.aload_n 0, 1) := by decide +kernel
theorem dX12_link_120 : decode cX12_link 120 = .ok (.getfield 393, 3) := by decide +kernel
theorem dX12_link_123 : decode cX12_link 123 = .ok (.ireturn, 1) := by decide +kernel
theorem dX12_setWord_0 : decode cX12_setWord 0 = .ok (.iconst 0, 1) := by decide +kernel
theorem dX12_setWord_1 : decode cX12_setWord 1 = .ok (.istore_n 3, 1) := by decide +kernel
theorem dX12_setWord_2 : decode cX12_setWord 2 = .ok (.iload_n 3, 1) := by decide +kernel
theorem dX12_setWord_3 : decode cX12_setWord 3 = .ok (.iconst 4, 1) := by decide +kernel
theorem dX12_setWord_4 : decode cX12_setWord 4 = .ok (.if_icmp .ge 27, 3) := by decide +kernel
theorem dX12_setWord_7 : decode cX12_setWord 7 = .ok (.aload_n 0, 1) := by decide +kernel
theorem dX12_setWord_8 : decode cX12_setWord 8 = .ok (.getfield 57, 3) := by decide +kernel
theorem dX12_setWord_11 : decode cX12_setWord 11 = .ok (.iload_n 1, 1) := by decide +kernel
theorem dX12_setWord_12 : decode cX12_setWord 12 = .ok (.iload_n 3, 1) := by decide +kernel
theorem dX12_setWord_13 : decode cX12_setWord 13 = .ok (.iadd, 1) := by decide +kernel
theorem dX12_setWord_14 : decode cX12_setWord 14 = .ok (.iload_n 2, 1) := by decide +kernel
theorem dX12_setWord_15 : decode cX12_setWord 15 = .ok (.bipush 8, 2) := by decide +kernel
theorem dX12_setWord_17 : decode cX12_setWord 17 = .ok (.iload_n 3, 1) := by decide +kernel
theorem dX12_setWord_18 : decode cX12_setWord 18 = .ok (.imul, 1) := by decide +kernel
theorem dX12_setWord_19 : decode cX12_setWord 19 = .ok (.ishr, 1) := by decide +kernel
theorem dX12_setWord_20 : decode cX12_setWord 20 = .ok (.sipush 255, 3) := by decide +kernel
theorem dX12_setWord_23 : decode cX12_setWord 23 = .ok (.iand, 1) := by decide +kernel
theorem dX12_setWord_24 : decode cX12_setWord 24 = .ok (.iastore, 1) := by decide +kernel
theorem dX12_setWord_25 : decode cX12_setWord 25 = .ok (.iinc 3 1, 3) := by decide +kernel
theorem dX12_setWord_28 : decode cX12_setWord 28 = .ok (.goto (-26), 3) := by decide +kernel
theorem dX12_setWord_31 : decode cX12_setWord 31 = .ok (.return_, 1) := by decide +kernel
theorem dX12_finish_0 : decode cX12_finish 0 = .ok (.aload_n 0, 1) := by decide +kernel
theorem dX12_finish_1 : decode cX12_finish 1 = .ok (.iload_n 1, 1) := by decide +kernel
theorem dX12_finish_2 : decode cX12_finish 2 = .ok (.putfield 393, 3) := by decide +kernel
theorem dX12_finish_5 : decode cX12_finish 5 = .ok (.iconst 0, 1) := by decide +kernel
theorem dX12_finish_6 : decode cX12_finish 6 = .ok (.istore_n 3, 1) := by decide +kernel
theorem dX12_finish_7 : decode cX12_finish 7 = .ok (.iload_n 3, 1) := by decide +kernel
theorem dX12_finish_8 : decode cX12_finish 8 = .ok (.sipush 2048, 3) := by decide +kernel
theorem dX12_finish_11 : decode cX12_finish 11 = .ok (.if_icmp .ge 16, 3) := by decide +kernel
theorem dX12_finish_14 : decode cX12_finish 14 = .ok (.aload_n 0, 1) := by decide +kernel
theorem dX12_finish_15 : decode cX12_finish 15 = .ok (.getfield 57, 3) := by decide +kernel
theorem dX12_finish_18 : decode cX12_finish 18 = .ok (.iload_n 3, 1) := by decide +kernel
theorem dX12_finish_19 : decode cX12_finish 19 = .ok (.iconst 0, 1) := by decide +kernel
theorem dX12_finish_20 : decode cX12_finish 20 = .ok (.iastore, 1) := by decide +kernel
theorem dX12_finish_21 : decode cX12_finish 21 = .ok (.iinc 3 1, 3) := by decide +kernel
theorem dX12_finish_24 : decode cX12_finish 24 = .ok (.goto (-17), 3) := by decide +kernel
theorem dX12_finish_27 : decode cX12_finish 27 = .ok (.aload_n 0, 1) := by decide +kernel
theorem dX12_finish_28 : decode cX12_finish 28 = .ok (.iconst 0, 1) := by decide +kernel
theorem dX12_finish_29 : decode cX12_finish 29 = .ok (.ldc_w 383, 3) := by decide +kernel
theorem dX12_finish_32 : decode cX12_finish 32 = .ok (.invokevirtual 396, 3) := by decide +kernel
theorem dX12_finish_35 : decode cX12_finish 35 = .ok (.aload_n 0, 1) := by decide +kernel
theorem dX12_finish_36 : decode cX12_finish 36 = .ok (.iconst 4, 1) := by decide +kernel
theorem dX12_finish_37 : decode cX12_finish 37 = .ok (.iload_n 2, 1) := by decide +kernel
theorem dX12_finish_38 : decode cX12_finish 38 = .ok (.iconst 1, 1) := by decide +kernel
theorem dX12_finish_39 : decode cX12_finish 39 = .ok (.iadd, 1) := by decide +kernel
theorem dX12_finish_40 : decode cX12_finish 40 = .ok (.invokevirtual 396, 3) := by decide +kernel
theorem dX12_finish_43 : decode cX12_finish 43 = .ok (.iconst 0, 1) := by decide +kernel
theorem dX12_finish_44 : decode cX12_finish 44 = .ok (.istore_n 3, 1) := by decide +kernel
theorem dX12_finish_45 : decode cX12_finish 45 = .ok (.iload_n 3, 1) := by decide +kernel
theorem dX12_finish_46 : decode cX12_finish 46 = .ok (.bipush 12, 2) := by decide +kernel
theorem dX12_finish_48 : decode cX12_finish 48 = .ok (.if_icmp .ge 106, 3) := by decide +kernel
theorem dX12_finish_51 : decode cX12_finish 51 = .ok (.aload_n 0, 1) := by decide +kernel
theorem dX12_finish_52 : decode cX12_finish 52 = .ok (.getfield 51, 3) := by decide +kernel
theorem dX12_finish_55 : decode cX12_finish 55 = .ok (.iload_n 3, 1) := by decide +kernel
theorem dX12_finish_56 : decode cX12_finish 56 = .ok (.aload_n 0, 1) := by decide +kernel
theorem dX12_finish_57 : decode cX12_finish 57 = .ok (.getfield 39, 3) := by decide +kernel
theorem dX12_finish_60 : decode cX12_finish 60 = .ok (.iload_n 3, 1) := by decide +kernel
theorem dX12_finish_61 : decode cX12_finish 61 = .ok (.iaload, 1) := by decide +kernel
theorem dX12_finish_62 : decode cX12_finish 62 = .ok (.iastore, 1) := by decide +kernel
theorem dX12_finish_63 : decode cX12_finish 63 = .ok (.aload_n 0, 1) := by decide +kernel
theorem dX12_finish_64 : decode cX12_finish 64 = .ok (.getfield 54, 3) := by decide +kernel
theorem dX12_finish_67 : decode cX12_finish 67 = .ok (.iload_n 3, 1) := by decide +kernel
theorem dX12_finish_68 : decode cX12_finish 68 = .ok (.aload_n 0, 1) := by decide +kernel
theorem dX12_finish_69 : decode cX12_finish 69 = .ok (.getfield 42, 3) := by decide +kernel
theorem dX12_finish_72 : decode cX12_finish 72 = .ok (.iload_n 3, 1) := by decide +kernel
theorem dX12_finish_73 : decode cX12_finish 73 = .ok (.iaload, 1) := by decide +kernel
theorem dX12_finish_74 : decode cX12_finish 74 = .ok (.iastore, 1) := by decide +kernel
theorem dX12_finish_75 : decode cX12_finish 75 = .ok (.iload_n 3, 1) := by decide +kernel
theorem dX12_finish_76 : decode cX12_finish 76 = .ok (.iconst 3, 1) := by decide +kernel
theorem dX12_finish_77 : decode cX12_finish 77 = .ok (.irem, 1) := by decide +kernel
theorem dX12_finish_78 : decode cX12_finish 78 = .ok (.ifCond .ne 12, 3) := by decide +kernel
theorem dX12_finish_81 : decode cX12_finish 81 = .ok (.aload_n 0, 1) := by decide +kernel
theorem dX12_finish_82 : decode cX12_finish 82 = .ok (.getfield 42, 3) := by decide +kernel
theorem dX12_finish_85 : decode cX12_finish 85 = .ok (.iload_n 3, 1) := by decide +kernel
theorem dX12_finish_86 : decode cX12_finish 86 = .ok (.iaload, 1) := by decide +kernel
theorem dX12_finish_87 : decode cX12_finish 87 = .ok (.goto 9, 3) := by decide +kernel
theorem dX12_finish_90 : decode cX12_finish 90 = .ok (.aload_n 0, 1) := by decide +kernel
theorem dX12_finish_91 : decode cX12_finish 91 = .ok (.getfield 45, 3) := by decide +kernel
theorem dX12_finish_94 : decode cX12_finish 94 = .ok (.iload_n 3, 1) := by decide +kernel
theorem dX12_finish_95 : decode cX12_finish 95 = .ok (.iaload, 1) := by decide +kernel
theorem dX12_finish_96 : decode cX12_finish 96 = .ok (.istore 4, 2) := by decide +kernel
theorem dX12_finish_98 : decode cX12_finish 98 = .ok (.iconst 0, 1) := by decide +kernel
theorem dX12_finish_99 : decode cX12_finish 99 = .ok (.istore 5, 2) := by decide +kernel
theorem dX12_finish_101 : decode cX12_finish 101 = .ok (.iload 5, 2) := by decide +kernel
theorem dX12_finish_103 : decode cX12_finish 103 = .ok (.aload_n 0, 1) := by decide +kernel
theorem dX12_finish_104 : decode cX12_finish 104 = .ok (.getfield 39, 3) := by decide +kernel
theorem dX12_finish_107 : decode cX12_finish 107 = .ok (.iload_n 3, 1) := by decide +kernel
theorem dX12_finish_108 : decode cX12_finish 108 = .ok (.iaload, 1) := by decide +kernel
theorem dX12_finish_109 : decode cX12_finish 109 = .ok (.if_icmp .ge 39, 3) := by decide +kernel
theorem dX12_finish_112 : decode cX12_finish 112 = .ok (.iload_n 3, 1) := by decide +kernel
theorem dX12_finish_113 : decode cX12_finish 113 = .ok (.iconst 3, 1) := by decide +kernel
theorem dX12_finish_114 : decode cX12_finish 114 = .ok (.irem, 1) := by decide +kernel
theorem dX12_finish_115 : decode cX12_finish 115 = .ok (.iconst 2, 1) := by decide +kernel
theorem dX12_finish_116 : decode cX12_finish 116 = .ok (.if_icmp .eq 32, 3) := by decide +kernel
theorem dX12_finish_119 : decode cX12_finish 119 = .ok (.aload_n 0, 1) := by decide +kernel
theorem dX12_finish_120 : decode cX12_finish 120 = .ok (.getfield 57, 3) := by decide +kernel
theorem dX12_finish_123 : decode cX12_finish 123 = .ok (.iload 4, 2) := by decide +kernel
theorem dX12_finish_125 : decode cX12_finish 125 = .ok (.iload 5, 2) := by decide +kernel
theorem dX12_finish_127 : decode cX12_finish 127 = .ok (.iadd, 1) := by decide +kernel
theorem dX12_finish_128 : decode cX12_finish 128 = .ok (.aload_n 0, 1) := by decide +kernel
theorem dX12_finish_129 : decode cX12_finish 129 = .ok (.getfield 48, 3) := by decide +kernel
theorem dX12_finish_132 : decode cX12_finish 132 = .ok (.sipush 1024, 3) := by decide +kernel
theorem dX12_finish_135 : decode cX12_finish 135 = .ok (.iload_n 3, 1) := by decide +kernel
theorem dX12_finish_136 : decode cX12_finish 136 = .ok (.imul, 1) := by decide +kernel
theorem dX12_finish_137 : decode cX12_finish 137 = .ok (.iload 5, 2) := by decide +kernel
theorem dX12_finish_139 : decode cX12_finish 139 = .ok (.iadd, 1) := by decide +kernel
theorem dX12_finish_140 : decode cX12_finish 140 = .ok (.iaload, 1) := by decide +kernel
theorem dX12_finish_141 : decode cX12_finish 141 = .ok (.iastore, 1) := by decide +kernel
theorem dX12_finish_142 : decode cX12_finish 142 = .ok (.iinc 5 1, 3) := by decide +kernel
theorem dX12_finish_145 : decode cX12_finish 145 = .ok (.goto (-44), 3) := by decide +kernel
theorem dX12_finish_148 : decode cX12_finish 148 = .ok (.iinc 3 1, 3) := by decide +kernel
theorem dX12_finish_151 : decode cX12_finish 151 = .ok (.goto (-106), 3) := by decide +kernel
theorem dX12_finish_154 : decode cX12_finish 154 = .ok (.aload_n 0, 1) := by decide +kernel
theorem dX12_finish_155 : decode cX12_finish 155 = .ok (.aload_n 0, 1) := by decide +kernel
theorem dX12_finish_156 : decode cX12_finish 156 = .ok (.getfield 319, 3) := by decide +kernel
theorem dX12_finish_159 : decode cX12_finish 159 = .ok (.putfield 322, 3) := by decide +kernel
theorem dX12_finish_162 : decode cX12_finish 162 = .ok (.iconst 0, 1) := by decide +kernel
theorem dX12_finish_163 : decode cX12_finish 163 = .ok (.istore_n 3, 1) := by decide +kernel
theorem dX12_finish_164 : decode cX12_finish 164 = .ok (.iload_n 3, 1) := by decide +kernel
theorem dX12_finish_165 : decode cX12_finish 165 = .ok (.aload_n 0, 1) := by decide +kernel
theorem dX12_finish_166 : decode cX12_finish 166 = .ok (.getfield 319, 3) := by decide +kernel
theorem dX12_finish_169 : decode cX12_finish 169 = .ok (.if_icmp .ge 97, 3) := by decide +kernel
theorem dX12_finish_172 : decode cX12_finish 172 = .ok (.aload_n 0, 1) := by decide +kernel
theorem dX12_finish_173 : decode cX12_finish 173 = .ok (.getfield 26, 3) := by decide +kernel
theorem dX12_finish_176 : decode cX12_finish 176 = .ok (.bipush 96, 2) := by decide +kernel
theorem dX12_finish_178 : decode cX12_finish 178 = .ok (.iload_n 3, 1) := by decide +kernel
theorem dX12_finish_179 : decode cX12_finish 179 = .ok (.iadd, 1) := by decide +kernel
theorem dX12_finish_180 : decode cX12_finish 180 = .ok (.aload_n 0, 1) := by decide +kernel
theorem dX12_finish_181 : decode cX12_finish 181 = .ok (.getfield 26, 3) := by decide +kernel
theorem dX12_finish_184 : decode cX12_finish 184 = .ok (.iload_n 3, 1) := by decide +kernel
theorem dX12_finish_185 : decode cX12_finish 185 = .ok (.iaload, 1) := by decide +kernel
theorem dX12_finish_186 : decode cX12_finish 186 = .ok (.iastore, 1) := by decide +kernel
theorem dX12_finish_187 : decode cX12_finish 187 = .ok (.aload_n 0, 1) := by decide +kernel
theorem dX12_finish_188 : decode cX12_finish 188 = .ok (.getfield 29, 3) := by decide +kernel
theorem dX12_finish_191 : decode cX12_finish 191 = .ok (.bipush 96, 2) := by decide +kernel
theorem dX12_finish_193 : decode cX12_finish 193 = .ok (.iload_n 3, 1) := by decide +kernel
theorem dX12_finish_194 : decode cX12_finish 194 = .ok (.iadd, 1) := by decide +kernel
theorem dX12_finish_195 : decode cX12_finish 195 = .ok (.aload_n 0, 1) := by decide +kernel
theorem dX12_finish_196 : decode cX12_finish 196 = .ok (.getfield 29, 3) := by decide +kernel
theorem dX12_finish_199 : decode cX12_finish 199 = .ok (.iload_n 3, 1) := by decide +kernel
theorem dX12_finish_200 : decode cX12_finish 200 = .ok (.iaload, 1) := by decide +kernel
theorem dX12_finish_201 : decode cX12_finish 201 = .ok (.iastore, 1) := by decide +kernel
theorem dX12_finish_202 : decode cX12_finish 202 = .ok (.aload_n 0, 1) := by decide +kernel
theorem dX12_finish_203 : decode cX12_finish 203 = .ok (.getfield 32, 3) := by decide +kernel
theorem dX12_finish_206 : decode cX12_finish 206 = .ok (.bipush 96, 2) := by decide +kernel
theorem dX12_finish_208 : decode cX12_finish 208 = .ok (.iload_n 3, 1) := by decide +kernel
theorem dX12_finish_209 : decode cX12_finish 209 = .ok (.iadd, 1) := by decide +kernel
theorem dX12_finish_210 : decode cX12_finish 210 = .ok (.aload_n 0, 1) := by decide +kernel
theorem dX12_finish_211 : decode cX12_finish 211 = .ok (.getfield 32, 3) := by decide +kernel
theorem dX12_finish_214 : decode cX12_finish 214 = .ok (.iload_n 3, 1) := by decide +kernel
theorem dX12_finish_215 : decode cX12_finish 215 = .ok (.iaload, 1) := by decide +kernel
theorem dX12_finish_216 : decode cX12_finish 216 = .ok (.iastore, 1) := by decide +kernel
theorem dX12_finish_217 : decode cX12_finish 217 = .ok (.iconst 0, 1) := by decide +kernel
theorem dX12_finish_218 : decode cX12_finish 218 = .ok (.istore 4, 2) := by decide +kernel
theorem dX12_finish_220 : decode cX12_finish 220 = .ok (.iload 4, 2) := by decide +kernel
theorem dX12_finish_222 : decode cX12_finish 222 = .ok (.bipush 6, 2) := by decide +kernel
theorem dX12_finish_224 : decode cX12_finish 224 = .ok (.if_icmp .ge 36, 3) := by decide +kernel
theorem dX12_finish_227 : decode cX12_finish 227 = .ok (.aload_n 0, 1) := by decide +kernel
theorem dX12_finish_228 : decode cX12_finish 228 = .ok (.getfield 23, 3) := by decide +kernel
theorem dX12_finish_231 : decode cX12_finish 231 = .ok (.bipush 6, 2) := by decide +kernel
theorem dX12_finish_233 : decode cX12_finish 233 = .ok (.bipush 96, 2) := by decide +kernel
theorem dX12_finish_235 : decode cX12_finish 235 = .ok (.iload_n 3, 1) := by decide +kernel
theorem dX12_finish_236 : decode cX12_finish 236 = .ok (.iadd, 1) := by decide +kernel
theorem dX12_finish_237 : decode cX12_finish 237 = .ok (.imul, 1) := by decide +kernel
theorem dX12_finish_238 : decode cX12_finish 238 = .ok (.iload 4, 2) := by decide +kernel
theorem dX12_finish_240 : decode cX12_finish 240 = .ok (.iadd, 1) := by decide +kernel
theorem dX12_finish_241 : decode cX12_finish 241 = .ok (.aload_n 0, 1) := by decide +kernel
theorem dX12_finish_242 : decode cX12_finish 242 = .ok (.getfield 23, 3) := by decide +kernel
theorem dX12_finish_245 : decode cX12_finish 245 = .ok (.bipush 6, 2) := by decide +kernel
theorem dX12_finish_247 : decode cX12_finish 247 = .ok (.iload_n 3, 1) := by decide +kernel
theorem dX12_finish_248 : decode cX12_finish 248 = .ok (.imul, 1) := by decide +kernel
theorem dX12_finish_249 : decode cX12_finish 249 = .ok (.iload 4, 2) := by decide +kernel
theorem dX12_finish_251 : decode cX12_finish 251 = .ok (.iadd, 1) := by decide +kernel
theorem dX12_finish_252 : decode cX12_finish 252 = .ok (.caload, 1) := by decide +kernel
theorem dX12_finish_253 : decode cX12_finish 253 = .ok (.castore, 1) := by decide +kernel
theorem dX12_finish_254 : decode cX12_finish 254 = .ok (.iinc 4 1, 3) := by decide +kernel
theorem dX12_finish_257 : decode cX12_finish 257 = .ok (.goto (-37), 3) := by decide +kernel
theorem dX12_finish_260 : decode cX12_finish 260 = .ok (.iinc 3 1, 3) := by decide +kernel
theorem dX12_finish_263 : decode cX12_finish 263 = .ok (.goto (-99), 3) := by decide +kernel
theorem dX12_finish_266 : decode cX12_finish 266 = .ok (.aload_n 0, 1) := by decide +kernel
theorem dX12_finish_267 : decode cX12_finish 267 = .ok (.invokevirtual 399, 3) := by decide +kernel
theorem dX12_finish_270 : decode cX12_finish 270 = .ok (.return_, 1) := by decide +kernel
theorem dX12_putHex_0 : decode cX12_putHex 0 = .ok (.aload_n 0, 1) := by decide +kernel
theorem dX12_putHex_1 : decode cX12_putHex 1 = .ok (.aload_n 0, 1) := by decide +kernel
theorem dX12_putHex_2 : decode cX12_putHex 2 = .ok (.getfield 402, 3) := by decide +kernel
theorem dX12_putHex_5 : decode cX12_putHex 5 = .ok (.iload_n 1, 1) := by decide +kernel
theorem dX12_putHex_6 : decode cX12_putHex 6 = .ok (.iadd, 1) := by decide +kernel
theorem dX12_putHex_7 : decode cX12_putHex 7 = .ok (.putfield 402, 3) := by decide +kernel
theorem dX12_putHex_10 : decode cX12_putHex 10 = .ok (.iconst 4, 1) := by decide +kernel
theorem dX12_putHex_11 : decode cX12_putHex 11 = .ok (.istore_n 2, 1) := by decide +kernel
theorem dX12_putHex_12 : decode cX12_putHex 12 = .ok (.iload_n 2, 1) := by decide +kernel
theorem dX12_putHex_13 : decode cX12_putHex 13 = .ok (.ifCond .lt 57, 3) := by decide +kernel
theorem dX12_putHex_16 : decode cX12_putHex 16 = .ok (.iload_n 1, 1) := by decide +kernel
theorem dX12_putHex_17 : decode cX12_putHex 17 = .ok (.iload_n 2, 1) := by decide +kernel
theorem dX12_putHex_18 : decode cX12_putHex 18 = .ok (.ishr, 1) := by decide +kernel
theorem dX12_putHex_19 : decode cX12_putHex 19 = .ok (.bipush 15, 2) := by decide +kernel
theorem dX12_putHex_21 : decode cX12_putHex 21 = .ok (.iand, 1) := by decide +kernel
theorem dX12_putHex_22 : decode cX12_putHex 22 = .ok (.istore_n 3, 1) := by decide +kernel
theorem dX12_putHex_23 : decode cX12_putHex 23 = .ok (.aload_n 0, 1) := by decide +kernel
theorem dX12_putHex_24 : decode cX12_putHex 24 = .ok (.getfield 63, 3) := by decide +kernel
theorem dX12_putHex_27 : decode cX12_putHex 27 = .ok (.aload_n 0, 1) := by decide +kernel
theorem dX12_putHex_28 : decode cX12_putHex 28 = .ok (.getfield 405, 3) := by decide +kernel
theorem dX12_putHex_31 : decode cX12_putHex 31 = .ok (.iload_n 3, 1) := by decide +kernel
theorem dX12_putHex_32 : decode cX12_putHex 32 = .ok (.bipush 10, 2) := by decide +kernel
theorem dX12_putHex_34 : decode cX12_putHex 34 = .ok (.if_icmp .ge 10, 3) := by decide +kernel
theorem dX12_putHex_37 : decode cX12_putHex 37 = .ok (.bipush 48, 2) := by decide +kernel
theorem dX12_putHex_39 : decode cX12_putHex 39 = .ok (.iload_n 3, 1) := by decide +kernel
theorem dX12_putHex_40 : decode cX12_putHex 40 = .ok (.iadd, 1) := by decide +kernel
theorem dX12_putHex_41 : decode cX12_putHex 41 = .ok (.goto 10, 3) := by decide +kernel
theorem dX12_putHex_44 : decode cX12_putHex 44 = .ok (.bipush 65, 2) := by decide +kernel
theorem dX12_putHex_46 : decode cX12_putHex 46 = .ok (.iload_n 3, 1) := by decide +kernel
theorem dX12_putHex_47 : decode cX12_putHex 47 = .ok (.iadd, 1) := by decide +kernel
theorem dX12_putHex_48 : decode cX12_putHex 48 = .ok (.bipush 10, 2) := by decide +kernel
theorem dX12_putHex_50 : decode cX12_putHex 50 = .ok (.isub, 1) := by decide +kernel
theorem dX12_putHex_51 : decode cX12_putHex 51 = .ok (.i2c, 1) := by decide +kernel
theorem dX12_putHex_52 : decode cX12_putHex 52 = .ok (.castore, 1) := by decide +kernel
theorem dX12_putHex_53 : decode cX12_putHex 53 = .ok (.aload_n 0, 1) := by decide +kernel
theorem dX12_putHex_54 : decode cX12_putHex 54 = .ok (.dup, 1) := by decide +kernel
theorem dX12_putHex_55 : decode cX12_putHex 55 = .ok (.getfield 405, 3) := by decide +kernel
theorem dX12_putHex_58 : decode cX12_putHex 58 = .ok (.iconst 1, 1) := by decide +kernel
theorem dX12_putHex_59 : decode cX12_putHex 59 = .ok (.iadd, 1) := by decide +kernel
theorem dX12_putHex_60 : decode cX12_putHex 60 = .ok (.putfield 405, 3) := by decide +kernel
theorem dX12_putHex_63 : decode cX12_putHex 63 = .ok (.iload_n 2, 1) := by decide +kernel
theorem dX12_putHex_64 : decode cX12_putHex 64 = .ok (.iconst 4, 1) := by decide +kernel
theorem dX12_putHex_65 : decode cX12_putHex 65 = .ok (.isub, 1) := by decide +kernel
theorem dX12_putHex_66 : decode cX12_putHex 66 = .ok (.istore_n 2, 1) := by decide +kernel
theorem dX12_putHex_67 : decode cX12_putHex 67 = .ok (.goto (-55), 3) := by decide +kernel
theorem dX12_putHex_70 : decode cX12_putHex 70 = .ok (.return_, 1) := by decide +kernel
theorem dX12_record_0 : decode cX12_record 0 = .ok (.aload_n 0, 1) := by decide +kernel
theorem dX12_record_1 : decode cX12_record 1 = .ok (.getfield 63, 3) := by decide +kernel
theorem dX12_record_4 : decode cX12_record 4 = .ok (.aload_n 0, 1) := by decide +kernel
theorem dX12_record_5 : decode cX12_record 5 = .ok (.getfield 405, 3) := by decide +kernel
theorem dX12_record_8 : decode cX12_record 8 = .ok (.bipush 58, 2) := by decide +kernel
theorem dX12_record_10 : decode cX12_record 10 = .ok (.castore, 1) := by decide +kernel
theorem dX12_record_11 : decode cX12_record 11 = .ok (.aload_n 0, 1) := by decide +kernel
theorem dX12_record_12 : decode cX12_record 12 = .ok (.dup, 1) := by decide +kernel
theorem dX12_record_13 : decode cX12_record 13 = .ok (.getfield 405, 3) := by decide +kernel
theorem dX12_record_16 : decode cX12_record 16 = .ok (.iconst 1, 1) := by decide +kernel
theorem dX12_record_17 : decode cX12_record 17 = .ok (.iadd, 1) := by decide +kernel
theorem dX12_record_18 : decode cX12_record 18 = .ok (.putfield 405, 3) := by decide +kernel
theorem dX12_record_21 : decode cX12_record 21 = .ok (.aload_n 0, 1) := by decide +kernel
theorem dX12_record_22 : decode cX12_record 22 = .ok (.iconst 0, 1) := by decide +kernel
theorem dX12_record_23 : decode cX12_record 23 = .ok (.putfield 402, 3) := by decide +kernel
theorem dX12_record_26 : decode cX12_record 26 = .ok (.aload_n 0, 1) := by decide +kernel
theorem dX12_record_27 : decode cX12_record 27 = .ok (.iload 4, 2) := by decide +kernel
theorem dX12_record_29 : decode cX12_record 29 = .ok (.invokevirtual 408, 3) := by decide +kernel
theorem dX12_record_32 : decode cX12_record 32 = .ok (.aload_n 0, 1) := by decide +kernel
theorem dX12_record_33 : decode cX12_record 33 = .ok (.iload_n 2, 1) := by decide +kernel
theorem dX12_record_34 : decode cX12_record 34 = .ok (.bipush 8, 2) := by decide +kernel
theorem dX12_record_36 : decode cX12_record 36 = .ok (.ishr, 1) := by decide +kernel
theorem dX12_record_37 : decode cX12_record 37 = .ok (.invokevirtual 408, 3) := by decide +kernel
theorem dX12_record_40 : decode cX12_record 40 = .ok (.aload_n 0, 1) := by decide +kernel
theorem dX12_record_41 : decode cX12_record 41 = .ok (.iload_n 2, 1) := by decide +kernel
theorem dX12_record_42 : decode cX12_record 42 = .ok (.sipush 255, 3) := by decide +kernel
theorem dX12_record_45 : decode cX12_record 45 = .ok (.iand, 1) := by decide +kernel
theorem dX12_record_46 : decode cX12_record 46 = .ok (.invokevirtual 408, 3) := by decide +kernel
theorem dX12_record_49 : decode cX12_record 49 = .ok (.aload_n 0, 1) := by decide +kernel
theorem dX12_record_50 : decode cX12_record 50 = .ok (.iload_n 1, 1) := by decide +kernel
theorem dX12_record_51 : decode cX12_record 51 = .ok (.invokevirtual 408, 3) := by decide +kernel
theorem dX12_record_54 : decode cX12_record 54 = .ok (.iconst 0, 1) := by decide +kernel
theorem dX12_record_55 : decode cX12_record 55 = .ok (.istore 5, 2) := by decide +kernel
theorem dX12_record_57 : decode cX12_record 57 = .ok (.iload 5, 2) := by decide +kernel
theorem dX12_record_59 : decode cX12_record 59 = .ok (.iload 4, 2) := by decide +kernel
theorem dX12_record_61 : decode cX12_record 61 = .ok (.if_icmp .ge 31, 3) := by decide +kernel
theorem dX12_record_64 : decode cX12_record 64 = .ok (.aload_n 0, 1) := by decide +kernel
theorem dX12_record_65 : decode cX12_record 65 = .ok (.iload_n 1, 1) := by decide +kernel
theorem dX12_record_66 : decode cX12_record 66 = .ok (.iconst 4, 1) := by decide +kernel
theorem dX12_record_67 : decode cX12_record 67 = .ok (.if_icmp .ne 7, 3) := by decide +kernel
theorem dX12_record_70 : decode cX12_record 70 = .ok (.iconst 0, 1) := by decide +kernel
theorem dX12_record_71 : decode cX12_record 71 = .ok (.goto 12, 3) := by decide +kernel
theorem dX12_record_74 : decode cX12_record 74 = .ok (.aload_n 0, 1) := by decide +kernel
theorem dX12_record_75 : decode cX12_record 75 = .ok (.getfield 57, 3) := by decide +kernel
theorem dX12_record_78 : decode cX12_record 78 = .ok (.iload_n 3, 1) := by decide +kernel
theorem dX12_record_79 : decode cX12_record 79 = .ok (.iload 5, 2) := by decide +kernel
theorem dX12_record_81 : decode cX12_record 81 = .ok (.iadd, 1) := by decide +kernel
theorem dX12_record_82 : decode cX12_record 82 = .ok (.iaload, 1) := by decide +kernel
theorem dX12_record_83 : decode cX12_record 83 = .ok (.invokevirtual 408, 3) := by decide +kernel
theorem dX12_record_86 : decode cX12_record 86 = .ok (.iinc 5 1, 3) := by decide +kernel
theorem dX12_record_89 : decode cX12_record 89 = .ok (.goto (-32), 3) := by decide +kernel
theorem dX12_record_92 : decode cX12_record 92 = .ok (.aload_n 0, 1) := by decide +kernel
theorem dX12_record_93 : decode cX12_record 93 = .ok (.aload_n 0, 1) := by decide +kernel
theorem dX12_record_94 : decode cX12_record 94 = .ok (.getfield 402, 3) := by decide +kernel
theorem dX12_record_97 : decode cX12_record 97 = .ok (.ineg, 1) := by decide +kernel
theorem dX12_record_98 : decode cX12_record 98 = .ok (.sipush 255, 3) := by decide +kernel
theorem dX12_record_101 : decode cX12_record 101 = .ok (.iand, 1) := by decide +kernel
theorem dX12_record_102 : decode cX12_record 102 = .ok (.invokevirtual 408, 3) := by decide +kernel
theorem dX12_record_105 : decode cX12_record 105 = .ok (.aload_n 0, 1) := by decide +kernel
theorem dX12_record_106 : decode cX12_record 106 = .ok (.getfield 63, 3) := by decide +kernel
theorem dX12_record_109 : decode cX12_record 109 = .ok (.aload_n 0, 1) := by decide +kernel
theorem dX12_record_110 : decode cX12_record 110 = .ok (.getfield 405, 3) := by decide +kernel
theorem dX12_record_113 : decode cX12_record 113 = .ok (.bipush 10, 2) := by decide +kernel
theorem dX12_record_115 : decode cX12_record 115 = .ok (.castore, 1) := by decide +kernel
theorem dX12_record_116 : decode cX12_record 116 = .ok (.aload_n 0, 1) := by decide +kernel
theorem dX12_record_117 : decode cX12_record 117 = .ok (.dup, 1) := by decide +kernel
theorem dX12_record_118 : decode cX12_record 118 = .ok (.getfield 405, 3) := by decide +kernel
theorem dX12_record_121 : decode cX12_record 121 = .ok (.iconst 1, 1) := by decide +kernel
theorem dX12_record_122 : decode cX12_record 122 = .ok (.iadd, 1) := by decide +kernel
theorem dX12_record_123 : decode cX12_record 123 = .ok (.putfield 405, 3) := by decide +kernel
theorem dX12_record_126 : decode cX12_record 126 = .ok (.return_, 1) := by decide +kernel
theorem dX12_write_0 : decode cX12_write 0 = .ok (.aload_n 0, 1) := by decide +kernel
theorem dX12_write_1 : decode cX12_write 1 = .ok (.iconst 0, 1) := by decide +kernel
theorem dX12_write_2 : decode cX12_write 2 = .ok (.putfield 405, 3) := by decide +kernel
theorem dX12_write_5 : decode cX12_write 5 = .ok (.aload_n 0, 1) := by decide +kernel
theorem dX12_write_6 : decode cX12_write 6 = .ok (.iconst 4, 1) := by decide +kernel
theorem dX12_write_7 : decode cX12_write 7 = .ok (.iconst 0, 1) := by decide +kernel
theorem dX12_write_8 : decode cX12_write 8 = .ok (.iconst 0, 1) := by decide +kernel
theorem dX12_write_9 : decode cX12_write 9 = .ok (.iconst 2, 1) := by decide +kernel
theorem dX12_write_10 : decode cX12_write 10 = .ok (.invokevirtual 411, 3) := by decide +kernel
theorem dX12_write_13 : decode cX12_write 13 = .ok (.iconst 0, 1) := by decide +kernel
theorem dX12_write_14 : decode cX12_write 14 = .ok (.istore_n 1, 1) := by decide +kernel
theorem dX12_write_15 : decode cX12_write 15 = .ok (.iload_n 1, 1) := by decide +kernel
theorem dX12_write_16 : decode cX12_write 16 = .ok (.aload_n 0, 1) := by decide +kernel
theorem dX12_write_17 : decode cX12_write 17 = .ok (.getfield 393, 3) := by decide +kernel
theorem dX12_write_20 : decode cX12_write 20 = .ok (.if_icmp .ge 40, 3) := by decide +kernel
theorem dX12_write_23 : decode cX12_write 23 = .ok (.aload_n 0, 1) := by decide +kernel
theorem dX12_write_24 : decode cX12_write 24 = .ok (.iconst 0, 1) := by decide +kernel
theorem dX12_write_25 : decode cX12_write 25 = .ok (.iload_n 1, 1) := by decide +kernel
theorem dX12_write_26 : decode cX12_write 26 = .ok (.iload_n 1, 1) := by decide +kernel
theorem dX12_write_27 : decode cX12_write 27 = .ok (.aload_n 0, 1) := by decide +kernel
theorem dX12_write_28 : decode cX12_write 28 = .ok (.getfield 393, 3) := by decide +kernel
theorem dX12_write_31 : decode cX12_write 31 = .ok (.iload_n 1, 1) := by decide +kernel
theorem dX12_write_32 : decode cX12_write 32 = .ok (.isub, 1) := by decide +kernel
theorem dX12_write_33 : decode cX12_write 33 = .ok (.bipush 16, 2) := by decide +kernel
theorem dX12_write_35 : decode cX12_write 35 = .ok (.if_icmp .ge 12, 3) := by decide +kernel
theorem dX12_write_38 : decode cX12_write 38 = .ok (.aload_n 0, 1) := by decide +kernel
theorem dX12_write_39 : decode cX12_write 39 = .ok (.getfield 393, 3) := by decide +kernel
theorem dX12_write_42 : decode cX12_write 42 = .ok (.iload_n 1, 1) := by decide +kernel
theorem dX12_write_43 : decode cX12_write 43 = .ok (.isub, 1) := by decide +kernel
theorem dX12_write_44 : decode cX12_write 44 = .ok (.goto 5, 3) := by decide +kernel
theorem dX12_write_47 : decode cX12_write 47 = .ok (.bipush 16, 2) := by decide +kernel
theorem dX12_write_49 : decode cX12_write 49 = .ok (.invokevirtual 411, 3) := by decide +kernel
theorem dX12_write_52 : decode cX12_write 52 = .ok (.iload_n 1, 1) := by decide +kernel
theorem dX12_write_53 : decode cX12_write 53 = .ok (.bipush 16, 2) := by decide +kernel
theorem dX12_write_55 : decode cX12_write 55 = .ok (.iadd, 1) := by decide +kernel
theorem dX12_write_56 : decode cX12_write 56 = .ok (.istore_n 1, 1) := by decide +kernel
theorem dX12_write_57 : decode cX12_write 57 = .ok (.goto (-42), 3) := by decide +kernel
theorem dX12_write_60 : decode cX12_write 60 = .ok (.aload_n 0, 1) := by decide +kernel
theorem dX12_write_61 : decode cX12_write 61 = .ok (.iconst 1, 1) := by decide +kernel
theorem dX12_write_62 : decode cX12_write 62 = .ok (.iconst 0, 1) := by decide +kernel
theorem dX12_write_63 : decode cX12_write 63 = .ok (.iconst 0, 1) := by decide +kernel
theorem dX12_write_64 : decode cX12_write 64 = .ok (.iconst 0, 1) := by decide +kernel
theorem dX12_write_65 : decode cX12_write 65 = .ok (.invokevirtual 411, 3) := by decide +kernel
theorem dX12_write_68 : decode cX12_write 68 = .ok (.return_, 1) := by decide +kernel
theorem dX12_fault_0 : decode cX12_fault 0 = .ok (.aload_n 0, 1) := by decide +kernel
theorem dX12_fault_1 : decode cX12_fault 1 = .ok (.iload_n 1, 1) := by decide +kernel
theorem dX12_fault_2 : decode cX12_fault 2 = .ok (.iconst 0, 1) := by decide +kernel
theorem dX12_fault_3 : decode cX12_fault 3 = .ok (.iconst 2, 1) := by decide +kernel
theorem dX12_fault_4 : decode cX12_fault 4 = .ok (.invokestatic 415, 3) := by decide +kernel
theorem dX12_fault_7 : decode cX12_fault 7 = .ok (.ifCond .eq 7, 3) := by decide +kernel
theorem dX12_fault_10 : decode cX12_fault 10 = .ok (.iconst 0, 1) := by decide +kernel
theorem dX12_fault_11 : decode cX12_fault 11 = .ok (.goto 4, 3) := by decide +kernel
theorem dX12_fault_14 : decode cX12_fault 14 = .ok (.iconst 1, 1) := by decide +kernel
theorem dX12_fault_15 : decode cX12_fault 15 = .ok (.invokevirtual 83, 3) := by decide +kernel
theorem dX12_fault_18 : decode cX12_fault 18 = .ok (.ifCond .eq 5, 3) := by decide +kernel
theorem dX12_fault_21 : decode cX12_fault 21 = .ok (.iconst 0, 1) := by decide +kernel
theorem dX12_fault_22 : decode cX12_fault 22 = .ok (.ireturn, 1) := by decide +kernel
theorem dX12_fault_23 : decode cX12_fault 23 = .ok (.aload_n 0, 1) := by decide +kernel
theorem dX12_fault_24 : decode cX12_fault 24 = .ok (.getfield 60, 3) := by decide +kernel
theorem dX12_fault_27 : decode cX12_fault 27 = .ok (.iload_n 1, 1) := by decide +kernel
theorem dX12_fault_28 : decode cX12_fault 28 = .ok (.iaload, 1) := by decide +kernel
theorem dX12_fault_29 : decode cX12_fault 29 = .ok (.ireturn, 1) := by decide +kernel
theorem dX12_octet_0 : decode cX12_octet 0 = .ok (.aload_n 0, 1) := by decide +kernel
theorem dX12_octet_1 : decode cX12_octet 1 = .ok (.iconst 0, 1) := by decide +kernel
theorem dX12_octet_2 : decode cX12_octet 2 = .ok (.putfield 72, 3) := by decide +kernel
theorem dX12_octet_5 : decode cX12_octet 5 = .ok (.iload_n 1, 1) := by decide +kernel
theorem dX12_octet_6 : decode cX12_octet 6 = .ok (.iconst 0, 1) := by decide +kernel
theorem dX12_octet_7 : decode cX12_octet 7 = .ok (.aload_n 0, 1) := by decide +kernel
theorem dX12_octet_8 : decode cX12_octet 8 = .ok (.getfield 393, 3) := by decide +kernel
theorem dX12_octet_11 : decode cX12_octet 11 = .ok (.iconst 1, 1) := by decide +kernel
theorem dX12_octet_12 : decode cX12_octet 12 = .ok (.isub, 1) := by decide +kernel
theorem dX12_octet_13 : decode cX12_octet 13 = .ok (.invokestatic 415, 3) := by decide +kernel
theorem dX12_octet_16 : decode cX12_octet 16 = .ok (.ifCond .eq 12, 3) := by decide +kernel
theorem dX12_octet_19 : decode cX12_octet 19 = .ok (.aload_n 0, 1) := by decide +kernel
theorem dX12_octet_20 : decode cX12_octet 20 = .ok (.getfield 57, 3) := by decide +kernel
theorem dX12_octet_23 : decode cX12_octet 23 = .ok (.iload_n 1, 1) := by decide +kernel
theorem dX12_octet_24 : decode cX12_octet 24 = .ok (.iaload, 1) := by decide +kernel
theorem dX12_octet_25 : decode cX12_octet 25 = .ok (.goto 4, 3) := by decide +kernel
theorem dX12_octet_28 : decode cX12_octet 28 = .ok (.iconst (-1), 1) := by decide +kernel
theorem dX12_octet_29 : decode cX12_octet 29 = .ok (.ireturn, 1) := by decide +kernel
theorem dX12_hex_0 : decode cX12_hex 0 = .ok (.aload_n 0, 1) := by decide +kernel
theorem dX12_hex_1 : decode cX12_hex 1 = .ok (.iconst 0, 1) := by decide +kernel
theorem dX12_hex_2 : decode cX12_hex 2 = .ok (.putfield 72, 3) := by decide +kernel
theorem dX12_hex_5 : decode cX12_hex 5 = .ok (.iload_n 1, 1) := by decide +kernel
theorem dX12_hex_6 : decode cX12_hex 6 = .ok (.iconst 0, 1) := by decide +kernel
theorem dX12_hex_7 : decode cX12_hex 7 = .ok (.aload_n 0, 1) := by decide +kernel
theorem dX12_hex_8 : decode cX12_hex 8 = .ok (.getfield 405, 3) := by decide +kernel
theorem dX12_hex_11 : decode cX12_hex 11 = .ok (.iconst 1, 1) := by decide +kernel
theorem dX12_hex_12 : decode cX12_hex 12 = .ok (.isub, 1) := by decide +kernel
theorem dX12_hex_13 : decode cX12_hex 13 = .ok (.invokestatic 415, 3) := by decide +kernel
theorem dX12_hex_16 : decode cX12_hex 16 = .ok (.ifCond .eq 12, 3) := by decide +kernel
theorem dX12_hex_19 : decode cX12_hex 19 = .ok (.aload_n 0, 1) := by decide +kernel
theorem dX12_hex_20 : decode cX12_hex 20 = .ok (.getfield 63, 3) := by decide +kernel
theorem dX12_hex_23 : decode cX12_hex 23 = .ok (.iload_n 1, 1) := by decide +kernel
theorem dX12_hex_24 : decode cX12_hex 24 = .ok (.caload, 1) := by decide +kernel
theorem dX12_hex_25 : decode cX12_hex 25 = .ok (.goto 5, 3) := by decide +kernel
theorem dX12_hex_28 : decode cX12_hex 28 = .ok (.bipush 32, 2) := by decide +kernel
theorem dX12_hex_30 : decode cX12_hex 30 = .ok (.ireturn, 1) := by decide +kernel
theorem dX12_address_0 : decode cX12_address 0 = .ok (.aload_n 0, 1) := by decide +kernel
theorem dX12_address_1 : decode cX12_address 1 = .ok (.iload_n 1, 1) := by decide +kernel
theorem dX12_address_2 : decode cX12_address 2 = .ok (.invokestatic 87, 3) := by decide +kernel
theorem dX12_address_5 : decode cX12_address 5 = .ok (.ifCond .eq 7, 3) := by decide +kernel
theorem dX12_address_8 : decode cX12_address 8 = .ok (.iconst 0, 1) := by decide +kernel
theorem dX12_address_9 : decode cX12_address 9 = .ok (.goto 4, 3) := by decide +kernel
theorem dX12_address_12 : decode cX12_address 12 = .ok (.iconst 1, 1) := by decide +kernel
theorem dX12_address_13 : decode cX12_address 13 = .ok (.invokevirtual 83, 3) := by decide +kernel
theorem dX12_address_16 : decode cX12_address 16 = .ok (.ifCond .eq 5, 3) := by decide +kernel
theorem dX12_address_19 : decode cX12_address 19 = .ok (.iconst 0, 1) := by decide +kernel
theorem dX12_address_20 : decode cX12_address 20 = .ok (.ireturn, 1) := by decide +kernel
theorem dX12_address_21 : decode cX12_address 21 = .ok (.bipush 96, 2) := by decide +kernel
theorem dX12_address_23 : decode cX12_address 23 = .ok (.istore_n 2, 1) := by decide +kernel
theorem dX12_address_24 : decode cX12_address 24 = .ok (.iload_n 2, 1) := by decide +kernel
theorem dX12_address_25 : decode cX12_address 25 = .ok (.bipush 96, 2) := by decide +kernel
theorem dX12_address_27 : decode cX12_address 27 = .ok (.aload_n 0, 1) := by decide +kernel
theorem dX12_address_28 : decode cX12_address 28 = .ok (.getfield 322, 3) := by decide +kernel
theorem dX12_address_31 : decode cX12_address 31 = .ok (.iadd, 1) := by decide +kernel
theorem dX12_address_32 : decode cX12_address 32 = .ok (.if_icmp .ge 129, 3) := by decide +kernel
theorem dX12_address_35 : decode cX12_address 35 = .ok (.aload_n 0, 1) := by decide +kernel
theorem dX12_address_36 : decode cX12_address 36 = .ok (.getfield 26, 3) := by decide +kernel
theorem dX12_address_39 : decode cX12_address 39 = .ok (.iload_n 2, 1) := by decide +kernel
theorem dX12_address_40 : decode cX12_address 40 = .ok (.iaload, 1) := by decide +kernel
theorem dX12_address_41 : decode cX12_address 41 = .ok (.iload_n 1, 1) := by decide +kernel
theorem dX12_address_42 : decode cX12_address 42 = .ok (.if_icmp .ne 23, 3) := by decide +kernel
theorem dX12_address_45 : decode cX12_address 45 = .ok (.aload_n 0, 1) := by decide +kernel
theorem dX12_address_46 : decode cX12_address 46 = .ok (.getfield 76, 3) := by decide +kernel
theorem dX12_address_49 : decode cX12_address 49 = .ok (.ifCond .le 16, 3) := by decide +kernel
theorem dX12_address_52 : decode cX12_address 52 = .ok (.aload_n 0, 1) := by decide +kernel
theorem dX12_address_53 : decode cX12_address 53 = .ok (.getfield 76, 3) := by decide +kernel
theorem dX12_address_56 : decode cX12_address 56 = .ok (.bipush 6, 2) := by decide +kernel
theorem dX12_address_58 : decode cX12_address 58 = .ok (.if_icmp .gt 7, 3) := by decide +kernel
theorem dX12_address_61 : decode cX12_address 61 = .ok (.iconst 1, 1) := by decide +kernel
theorem dX12_address_62 : decode cX12_address 62 = .ok (.goto 4, 3) := by decide +kernel
theorem dX12_address_65 : decode cX12_address 65 = .ok (.iconst 0, 1) := by decide +kernel
theorem dX12_address_66 : decode cX12_address 66 = .ok (.istore_n 3, 1) := by decide +kernel
theorem dX12_address_67 : decode cX12_address 67 = .ok (.iconst 0, 1) := by decide +kernel
theorem dX12_address_68 : decode cX12_address 68 = .ok (.istore 4, 2) := by decide +kernel
theorem dX12_address_70 : decode cX12_address 70 = .ok (.iload 4, 2) := by decide +kernel
theorem dX12_address_72 : decode cX12_address 72 = .ok (.bipush 6, 2) := by decide +kernel
theorem dX12_address_74 : decode cX12_address 74 = .ok (.if_icmp .ge 54, 3) := by decide +kernel
theorem dX12_address_77 : decode cX12_address 77 = .ok (.iload_n 3, 1) := by decide +kernel
theorem dX12_address_78 : decode cX12_address 78 = .ok (.ifCond .eq 50, 3) := by decide +kernel
theorem dX12_address_81 : decode cX12_address 81 = .ok (.aload_n 0, 1) := by decide +kernel
theorem dX12_address_82 : decode cX12_address 82 = .ok (.getfield 23, 3) := by decide +kernel
theorem dX12_address_85 : decode cX12_address 85 = .ok (.bipush 6, 2) := by decide +kernel
theorem dX12_address_87 : decode cX12_address 87 = .ok (.iload_n 2, 1) := by decide +kernel
theorem dX12_address_88 : decode cX12_address 88 = .ok (.imul, 1) := by decide +kernel
theorem dX12_address_89 : decode cX12_address 89 = .ok (.iload 4, 2) := by decide +kernel
theorem dX12_address_91 : decode cX12_address 91 = .ok (.iadd, 1) := by decide +kernel
theorem dX12_address_92 : decode cX12_address 92 = .ok (.caload, 1) := by decide +kernel
theorem dX12_address_93 : decode cX12_address 93 = .ok (.iload 4, 2) := by decide +kernel
theorem dX12_address_95 : decode cX12_address 95 = .ok (.aload_n 0, 1) := by decide +kernel
theorem dX12_address_96 : decode cX12_address 96 = .ok (.getfield 76, 3) := by decide +kernel
theorem dX12_address_99 : decode cX12_address 99 = .ok (.if_icmp .ge 13, 3) := by decide +kernel
theorem dX12_address_102 : decode cX12_address 102 = .ok (.aload_n 0, 1) := by decide +kernel
theorem dX12_address_103 : decode cX12_address 103 = .ok (.getfield 7, 3) := by decide +kernel
theorem dX12_address_106 : decode cX12_address 106 = .ok (.iload 4, 2) := by decide +kernel
theorem dX12_address_108 : decode cX12_address 108 = .ok (.caload, 1) := by decide +kernel
theorem dX12_address_109 : decode cX12_address 109 = .ok (.goto 4, 3) := by decide +kernel
theorem dX12_address_112 : decode cX12_address 112 = .ok (.iconst 0, 1) := by decide +kernel
theorem dX12_address_113 : decode cX12_address 113 = .ok (.if_icmp .ne 7, 3) := by decide +kernel
theorem dX12_address_116 : decode cX12_address 116 = .ok (.iconst 1, 1) := by decide +kernel
theorem dX12_address_117 : decode cX12_address 117 = .ok (.goto 4, 3) := by decide +kernel
theorem dX12_address_120 : decode cX12_address 120 = .ok (.iconst 0, 1) := by decide +kernel
theorem dX12_address_121 : decode cX12_address 121 = .ok (.istore_n 3, 1) := by decide +kernel
theorem dX12_address_122 : decode cX12_address 122 = .ok (.iinc 4 1, 3) := by decide +kernel
theorem dX12_address_125 : decode cX12_address 125 = .ok (.goto (-55), 3) := by decide +kernel
theorem dX12_address_128 : decode cX12_address 128 = .ok (.iload_n 3, 1) := by decide +kernel
theorem dX12_address_129 : decode cX12_address 129 = .ok (.ifCond .eq 26, 3) := by decide +kernel
theorem dX12_address_132 : decode cX12_address 132 = .ok (.aload_n 0, 1) := by decide +kernel
theorem dX12_address_133 : decode cX12_address 133 = .ok (.getfield 54, 3) := by decide +kernel
theorem dX12_address_136 : decode cX12_address 136 = .ok (.iconst 3, 1) := by decide +kernel
theorem dX12_address_137 : decode cX12_address 137 = .ok (.iload_n 1, 1) := by decide +kernel
theorem dX12_address_138 : decode cX12_address 138 = .ok (.imul, 1) := by decide +kernel
theorem dX12_address_139 : decode cX12_address 139 = .ok (.aload_n 0, 1) := by decide +kernel
theorem dX12_address_140 : decode cX12_address 140 = .ok (.getfield 29, 3) := by decide +kernel
theorem dX12_address_143 : decode cX12_address 143 = .ok (.iload_n 2, 1) := by decide +kernel
theorem dX12_address_144 : decode cX12_address 144 = .ok (.iaload, 1) := by decide +kernel
theorem dX12_address_145 : decode cX12_address 145 = .ok (.iadd, 1) := by decide +kernel
theorem dX12_address_146 : decode cX12_address 146 = .ok (.iaload, 1) := by decide +kernel
theorem dX12_address_147 : decode cX12_address 147 = .ok (.aload_n 0, 1) := by decide +kernel
theorem dX12_address_148 : decode cX12_address 148 = .ok (.getfield 32, 3) := by decide +kernel
theorem dX12_address_151 : decode cX12_address 151 = .ok (.iload_n 2, 1) := by decide +kernel
theorem dX12_address_152 : decode cX12_address 152 = .ok (.iaload, 1) := by decide +kernel
theorem dX12_address_153 : decode cX12_address 153 = .ok (.iadd, 1) := by decide +kernel
theorem dX12_address_154 : decode cX12_address 154 = .ok (.ireturn, 1) := by decide +kernel
theorem dX12_address_155 : decode cX12_address 155 = .ok (.iinc 2 1, 3) := by decide +kernel
theorem dX12_address_158 : decode cX12_address 158 = .ok (.goto (-134), 3) := by decide +kernel
theorem dX12_address_161 : decode cX12_address 161 = .ok (.iconst (-1), 1) := by decide +kernel
theorem dX12_address_162 : decode cX12_address 162 = .ok (.ireturn, 1) := by decide +kernel
theorem dX12_size_0 : decode cX12_size 0 = .ok (.aload_n 0, 1) := by decide +kernel
theorem dX12_size_1 : decode cX12_size 1 = .ok (.iload_n 1, 1) := by decide +kernel
theorem dX12_size_2 : decode cX12_size 2 = .ok (.invokestatic 87, 3) := by decide +kernel
theorem dX12_size_5 : decode cX12_size 5 = .ok (.ifCond .eq 16, 3) := by decide +kernel
theorem dX12_size_8 : decode cX12_size 8 = .ok (.iload_n 2, 1) := by decide +kernel
theorem dX12_size_9 : decode cX12_size 9 = .ok (.iconst 0, 1) := by decide +kernel
theorem dX12_size_10 : decode cX12_size 10 = .ok (.iconst 2, 1) := by decide +kernel
theorem dX12_size_11 : decode cX12_size 11 = .ok (.invokestatic 415, 3) := by decide +kernel
theorem dX12_size_14 : decode cX12_size 14 = .ok (.ifCond .eq 7, 3) := by decide +kernel
theorem dX12_size_17 : decode cX12_size 17 = .ok (.iconst 0, 1) := by decide +kernel
theorem dX12_size_18 : decode cX12_size 18 = .ok (.goto 4, 3) := by decide +kernel
theorem dX12_size_21 : decode cX12_size 21 = .ok (.iconst 1, 1) := by decide +kernel
theorem dX12_size_22 : decode cX12_size 22 = .ok (.invokevirtual 83, 3) := by decide +kernel
theorem dX12_size_25 : decode cX12_size 25 = .ok (.ifCond .eq 5, 3) := by decide +kernel
theorem dX12_size_28 : decode cX12_size 28 = .ok (.iconst 0, 1) := by decide +kernel
theorem dX12_size_29 : decode cX12_size 29 = .ok (.ireturn, 1) := by decide +kernel
theorem dX12_size_30 : decode cX12_size 30 = .ok (.aload_n 0, 1) := by decide +kernel
theorem dX12_size_31 : decode cX12_size 31 = .ok (.getfield 51, 3) := by decide +kernel
theorem dX12_size_34 : decode cX12_size 34 = .ok (.iconst 3, 1) := by decide +kernel
theorem dX12_size_35 : decode cX12_size 35 = .ok (.iload_n 1, 1) := by decide +kernel
theorem dX12_size_36 : decode cX12_size 36 = .ok (.imul, 1) := by decide +kernel
theorem dX12_size_37 : decode cX12_size 37 = .ok (.iload_n 2, 1) := by decide +kernel
theorem dX12_size_38 : decode cX12_size 38 = .ok (.iadd, 1) := by decide +kernel
theorem dX12_size_39 : decode cX12_size 39 = .ok (.iaload, 1) := by decide +kernel
theorem dX12_size_40 : decode cX12_size 40 = .ok (.ireturn, 1) := by decide +kernel
