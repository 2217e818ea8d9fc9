theorem dX0_init_0 : decode cX0_init 0 = .ok (.aload_n 0, 1) := by decide +kernel
theorem dX0_init_1 : decode cX0_init 1 = .ok (.invokespecial 3, 3) := by decide +kernel
theorem dX0_init_4 : decode cX0_init 4 = .ok (.aload_n 0, 1) := by decide +kernel
theorem dX0_init_5 : decode cX0_init 5 = .ok (.new 9, 3) := by decide +kernel
theorem dX0_init_8 : decode cX0_init 8 = .ok (.dup, 1) := by decide +kernel
theorem dX0_init_9 : decode cX0_init 9 = .ok (.invokespecial 11, 3) := by decide +kernel
theorem dX0_init_12 : decode cX0_init 12 = .ok (.putfield 12, 3) := by decide +kernel
theorem dX0_init_15 : decode cX0_init 15 = .ok (.aload_n 0, 1) := by decide +kernel
theorem dX0_init_16 : decode cX0_init 16 = .ok (.new 18, 3) := by decide +kernel
theorem dX0_init_19 : decode cX0_init 19 = .ok (.dup, 1) := by decide +kernel
theorem dX0_init_20 : decode cX0_init 20 = .ok (.invokespecial 20, 3) := by decide +kernel
theorem dX0_init_23 : decode cX0_init 23 = .ok (.putfield 21, 3) := by decide +kernel
theorem dX0_init_26 : decode cX0_init 26 = .ok (.aload_n 0, 1) := by decide +kernel
theorem dX0_init_27 : decode cX0_init 27 = .ok (.new 25, 3) := by decide +kernel
theorem dX0_init_30 : decode cX0_init 30 = .ok (.dup, 1) := by decide +kernel
theorem dX0_init_31 : decode cX0_init 31 = .ok (.invokespecial 27, 3) := by decide +kernel
theorem dX0_init_34 : decode cX0_init 34 = .ok (.putfield 28, 3) := by decide +kernel
theorem dX0_init_37 : decode cX0_init 37 = .ok (.return_, 1) := by decide +kernel
theorem dX0_clear_0 : decode cX0_clear 0 = .ok (.aload_n 0, 1) := by decide +kernel
theorem dX0_clear_1 : decode cX0_clear 1 = .ok (.getfield 12, 3) := by decide +kernel
theorem dX0_clear_4 : decode cX0_clear 4 = .ok (.iconst 0, 1) := by decide +kernel
theorem dX0_clear_5 : decode cX0_clear 5 = .ok (.putfield 32, 3) := by decide +kernel
theorem dX0_clear_8 : decode cX0_clear 8 = .ok (.aload_n 0, 1) := by decide +kernel
theorem dX0_clear_9 : decode cX0_clear 9 = .ok (.getfield 21, 3) := by decide +kernel
theorem dX0_clear_12 : decode cX0_clear 12 = .ok (.invokevirtual 36, 3) := by decide +kernel
theorem dX0_clear_15 : decode cX0_clear 15 = .ok (.aload_n 0, 1) := by decide +kernel
theorem dX0_clear_16 : decode cX0_clear 16 = .ok (.getfield 28, 3) := by decide +kernel
theorem dX0_clear_19 : decode cX0_clear 19 = .ok (.invokevirtual 39, 3) := by decide +kernel
theorem dX0_clear_22 : decode cX0_clear 22 = .ok (.return_, 1) := by decide +kernel
theorem dX0_addressOf_0 : decode cX0_addressOf 0 = .ok (.iload_n 1, 1) := by decide +kernel
theorem dX0_addressOf_1 : decode cX0_addressOf 1 = .ok (.ifCond .lt 14, 3) := by decide +kernel
theorem dX0_addressOf_4 : decode cX0_addressOf 4 = .ok (.iload_n 1, 1) := by decide +kernel
theorem dX0_addressOf_5 : decode cX0_addressOf 5 = .ok (.aload_n 0, 1) := by decide +kernel
theorem dX0_addressOf_6 : decode cX0_addressOf 6 = .ok (.getfield 12, 3) := by decide +kernel
theorem dX0_addressOf_9 : decode cX0_addressOf 9 = .ok (.getfield 32, 3) := by decide +kernel
theorem dX0_addressOf_12 : decode cX0_addressOf 12 = .ok (.if_icmp .lt 5, 3) := by decide +kernel
theorem dX0_addressOf_15 : decode cX0_addressOf 15 = .ok (.iconst (-1), 1) := by decide +kernel
theorem dX0_addressOf_16 : decode cX0_addressOf 16 = .ok (.ireturn, 1) := by decide +kernel
theorem dX0_addressOf_17 : decode cX0_addressOf 17 = .ok (.aload_n 0, 1) := by decide +kernel
theorem dX0_addressOf_18 : decode cX0_addressOf 18 = .ok (.getfield 21, 3) := by decide +kernel
theorem dX0_addressOf_21 : decode cX0_addressOf 21 = .ok (.getfield 40, 3) := by decide +kernel
theorem dX0_addressOf_24 : decode cX0_addressOf 24 = .ok (.aload_n 0, 1) := by decide +kernel
theorem dX0_addressOf_25 : decode cX0_addressOf 25 = .ok (.getfield 12, 3) := by decide +kernel
theorem dX0_addressOf_28 : decode cX0_addressOf 28 = .ok (.getfield 44, 3) := by decide +kernel
theorem dX0_addressOf_31 : decode cX0_addressOf 31 = .ok (.iload_n 1, 1) := by decide +kernel
theorem dX0_addressOf_32 : decode cX0_addressOf 32 = .ok (.iaload, 1) := by decide +kernel
theorem dX0_addressOf_33 : decode cX0_addressOf 33 = .ok (.aaload, 1) := by decide +kernel
theorem dX0_addressOf_34 : decode cX0_addressOf 34 = .ok (.aload_n 0, 1) := by decide +kernel
theorem dX0_addressOf_35 : decode cX0_addressOf 35 = .ok (.getfield 12, 3) := by decide +kernel
theorem dX0_addressOf_38 : decode cX0_addressOf 38 = .ok (.getfield 48, 3) := by decide +kernel
theorem dX0_addressOf_41 : decode cX0_addressOf 41 = .ok (.iload_n 1, 1) := by decide +kernel
theorem dX0_addressOf_42 : decode cX0_addressOf 42 = .ok (.iaload, 1) := by decide +kernel
theorem dX0_addressOf_43 : decode cX0_addressOf 43 = .ok (.iaload, 1) := by decide +kernel
theorem dX0_addressOf_44 : decode cX0_addressOf 44 = .ok (.aload_n 0, 1) := by decide +kernel
theorem dX0_addressOf_45 : decode cX0_addressOf 45 = .ok (.getfield 12, 3) := by decide +kernel
theorem dX0_addressOf_48 : decode cX0_addressOf 48 = .ok (.getfield 51, 3) := by decide +kernel
theorem dX0_addressOf_51 : decode cX0_addressOf 51 = .ok (.iload_n 1, 1) := by decide +kernel
theorem dX0_addressOf_52 : decode cX0_addressOf 52 = .ok (.iaload, 1) := by decide +kernel
theorem dX0_addressOf_53 : decode cX0_addressOf 53 = .ok (.iadd, 1) := by decide +kernel
theorem dX0_addressOf_54 : decode cX0_addressOf 54 = .ok (.ireturn, 1) := by decide +kernel
theorem dX0_layOut_0 : decode cX0_layOut 0 = .ok (.aload_n 0, 1) := by decide +kernel
theorem dX0_layOut_1 : decode cX0_layOut 1 = .ok (.getfield 21, 3) := by decide +kernel
theorem dX0_layOut_4 : decode cX0_layOut 4 = .ok (.getfield 54, 3) := by decide +kernel
theorem dX0_layOut_7 : decode cX0_layOut 7 = .ok (.iload_n 2, 1) := by decide +kernel
theorem dX0_layOut_8 : decode cX0_layOut 8 = .ok (.aaload, 1) := by decide +kernel
theorem dX0_layOut_9 : decode cX0_layOut 9 = .ok (.iload_n 3, 1) := by decide +kernel
theorem dX0_layOut_10 : decode cX0_layOut 10 = .ok (.iaload, 1) := by decide +kernel
theorem dX0_layOut_11 : decode cX0_layOut 11 = .ok (.istore 4, 2) := by decide +kernel
theorem dX0_layOut_13 : decode cX0_layOut 13 = .ok (.aload_n 1, 1) := by decide +kernel
theorem dX0_layOut_14 : decode cX0_layOut 14 = .ok (.iload_n 3, 1) := by decide +kernel
theorem dX0_layOut_15 : decode cX0_layOut 15 = .ok (.putfield 57, 3) := by decide +kernel
theorem dX0_layOut_18 : decode cX0_layOut 18 = .ok (.aload_n 1, 1) := by decide +kernel
theorem dX0_layOut_19 : decode cX0_layOut 19 = .ok (.iload 4, 2) := by decide +kernel
theorem dX0_layOut_21 : decode cX0_layOut 21 = .ok (.putfield 62, 3) := by decide +kernel
theorem dX0_layOut_24 : decode cX0_layOut 24 = .ok (.aload_n 1, 1) := by decide +kernel
theorem dX0_layOut_25 : decode cX0_layOut 25 = .ok (.getfield 65, 3) := by decide +kernel
theorem dX0_layOut_28 : decode cX0_layOut 28 = .ok (.lconst 0, 1) := by decide +kernel
theorem dX0_layOut_29 : decode cX0_layOut 29 = .ok (.lcmp, 1) := by decide +kernel
theorem dX0_layOut_30 : decode cX0_layOut 30 = .ok (.ifCond .eq 18, 3) := by decide +kernel
theorem dX0_layOut_33 : decode cX0_layOut 33 = .ok (.aload_n 0, 1) := by decide +kernel
theorem dX0_layOut_34 : decode cX0_layOut 34 = .ok (.getfield 12, 3) := by decide +kernel
theorem dX0_layOut_37 : decode cX0_layOut 37 = .ok (.aload_n 1, 1) := by decide +kernel
theorem dX0_layOut_38 : decode cX0_layOut 38 = .ok (.getfield 65, 3) := by decide +kernel
theorem dX0_layOut_41 : decode cX0_layOut 41 = .ok (.iload_n 2, 1) := by decide +kernel
theorem dX0_layOut_42 : decode cX0_layOut 42 = .ok (.iload_n 3, 1) := by decide +kernel
theorem dX0_layOut_43 : decode cX0_layOut 43 = .ok (.iload 4, 2) := by decide +kernel
theorem dX0_layOut_45 : decode cX0_layOut 45 = .ok (.invokevirtual 69, 3) := by decide +kernel
theorem dX0_layOut_48 : decode cX0_layOut 48 = .ok (.aload_n 1, 1) := by decide +kernel
theorem dX0_layOut_49 : decode cX0_layOut 49 = .ok (.getfield 73, 3) := by decide +kernel
theorem dX0_layOut_52 : decode cX0_layOut 52 = .ok (.bipush 6, 2) := by decide +kernel
theorem dX0_layOut_54 : decode cX0_layOut 54 = .ok (.if_icmp .ne 12, 3) := by decide +kernel
theorem dX0_layOut_57 : decode cX0_layOut 57 = .ok (.aload_n 1, 1) := by decide +kernel
theorem dX0_layOut_58 : decode cX0_layOut 58 = .ok (.iload 4, 2) := by decide +kernel
theorem dX0_layOut_60 : decode cX0_layOut 60 = .ok (.ineg, 1) := by decide +kernel
theorem dX0_layOut_61 : decode cX0_layOut 61 = .ok (.iconst 3, 1) := by decide +kernel
theorem dX0_layOut_62 : decode cX0_layOut 62 = .ok (.iand, 1) := by decide +kernel
theorem dX0_layOut_63 : decode cX0_layOut 63 = .ok (.putfield 76, 3) := by decide +kernel
theorem dX0_layOut_66 : decode cX0_layOut 66 = .ok (.aload_n 1, 1) := by decide +kernel
theorem dX0_layOut_67 : decode cX0_layOut 67 = .ok (.getfield 73, 3) := by decide +kernel
theorem dX0_layOut_70 : decode cX0_layOut 70 = .ok (.iconst 3, 1) := by decide +kernel
theorem dX0_layOut_71 : decode cX0_layOut 71 = .ok (.if_icmp .ne 7, 3) := by decide +kernel
theorem dX0_layOut_74 : decode cX0_layOut 74 = .ok (.iconst 1, 1) := by decide +kernel
theorem dX0_layOut_75 : decode cX0_layOut 75 = .ok (.goto 4, 3) := by decide +kernel
theorem dX0_layOut_78 : decode cX0_layOut 78 = .ok (.iconst 0, 1) := by decide +kernel
theorem dX0_layOut_79 : decode cX0_layOut 79 = .ok (.istore 5, 2) := by decide +kernel
theorem dX0_layOut_81 : decode cX0_layOut 81 = .ok (.aload_n 1, 1) := by decide +kernel
theorem dX0_layOut_82 : decode cX0_layOut 82 = .ok (.getfield 73, 3) := by decide +kernel
theorem dX0_layOut_85 : decode cX0_layOut 85 = .ok (.bipush 7, 2) := by decide +kernel
theorem dX0_layOut_87 : decode cX0_layOut 87 = .ok (.if_icmp .ne 7, 3) := by decide +kernel
theorem dX0_layOut_90 : decode cX0_layOut 90 = .ok (.iconst 1, 1) := by decide +kernel
theorem dX0_layOut_91 : decode cX0_layOut 91 = .ok (.goto 4, 3) := by decide +kernel
theorem dX0_layOut_94 : decode cX0_layOut 94 = .ok (.iconst 0, 1) := by decide +kernel
theorem dX0_layOut_95 : decode cX0_layOut 95 = .ok (.istore 6, 2) := by decide +kernel
theorem dX0_layOut_97 : decode cX0_layOut 97 = .ok (.iload 5, 2) := by decide +kernel
theorem dX0_layOut_99 : decode cX0_layOut 99 = .ok (.ifCond .ne 11, 3) := by decide +kernel
theorem dX0_layOut_102 : decode cX0_layOut 102 = .ok (.aload_n 1, 1) := by decide +kernel
theorem dX0_layOut_103 : decode cX0_layOut 103 = .ok (.getfield 73, 3) := by decide +kernel
theorem dX0_layOut_106 : decode cX0_layOut 106 = .ok (.iconst 4, 1) := by decide +kernel
theorem dX0_layOut_107 : decode cX0_layOut 107 = .ok (.if_icmp .ne 7, 3) := by decide +kernel
theorem dX0_layOut_110 : decode cX0_layOut 110 = .ok (.iconst 1, 1) := by decide +kernel
theorem dX0_layOut_111 : decode cX0_layOut 111 = .ok (.goto 4, 3) := by decide +kernel
theorem dX0_layOut_114 : decode cX0_layOut 114 = .ok (.iconst 0, 1) := by decide +kernel
theorem dX0_layOut_115 : decode cX0_layOut 115 = .ok (.istore 7, 2) := by decide +kernel
theorem dX0_layOut_117 : decode cX0_layOut 117 = .ok (.iload 7, 2) := by decide +kernel
theorem dX0_layOut_119 : decode cX0_layOut 119 = .ok (.ifCond .eq 8, 3) := by decide +kernel
theorem dX0_layOut_122 : decode cX0_layOut 122 = .ok (.iload_n 3, 1) := by decide +kernel
theorem dX0_layOut_123 : decode cX0_layOut 123 = .ok (.iconst 2, 1) := by decide +kernel
theorem dX0_layOut_124 : decode cX0_layOut 124 = .ok (.if_icmp .eq 12, 3) := by decide +kernel
theorem dX0_layOut_127 : decode cX0_layOut 127 = .ok (.iload 6, 2) := by decide +kernel
theorem dX0_layOut_129 : decode cX0_layOut 129 = .ok (.ifCond .eq 10, 3) := by decide +kernel
theorem dX0_layOut_132 : decode cX0_layOut 132 = .ok (.iload_n 3, 1) := by decide +kernel
theorem dX0_layOut_133 : decode cX0_layOut 133 = .ok (.ifCond .eq 6, 3) := by decide +kernel
theorem dX0_layOut_136 : decode cX0_layOut 136 = .ok (.bipush (-5), 2) := by decide +kernel
theorem dX0_layOut_138 : decode cX0_layOut 138 = .ok (.ireturn, 1) := by decide +kernel
theorem dX0_layOut_139 : decode cX0_layOut 139 = .ok (.iload 6, 2) := by decide +kernel
theorem dX0_layOut_141 : decode cX0_layOut 141 = .ok (.ifCond .eq 10, 3) := by decide +kernel
theorem dX0_layOut_144 : decode cX0_layOut 144 = .ok (.iload 4, 2) := by decide +kernel
theorem dX0_layOut_146 : decode cX0_layOut 146 = .ok (.iconst 1, 1) := by decide +kernel
theorem dX0_layOut_147 : decode cX0_layOut 147 = .ok (.iand, 1) := by decide +kernel
theorem dX0_layOut_148 : decode cX0_layOut 148 = .ok (.ifCond .ne 15, 3) := by decide +kernel
theorem dX0_layOut_151 : decode cX0_layOut 151 = .ok (.iload 5, 2) := by decide +kernel
theorem dX0_layOut_153 : decode cX0_layOut 153 = .ok (.ifCond .eq 13, 3) := by decide +kernel
theorem dX0_layOut_156 : decode cX0_layOut 156 = .ok (.iload 4, 2) := by decide +kernel
theorem dX0_layOut_158 : decode cX0_layOut 158 = .ok (.iconst 3, 1) := by decide +kernel
theorem dX0_layOut_159 : decode cX0_layOut 159 = .ok (.iand, 1) := by decide +kernel
theorem dX0_layOut_160 : decode cX0_layOut 160 = .ok (.ifCond .eq 6, 3) := by decide +kernel
theorem dX0_layOut_163 : decode cX0_layOut 163 = .ok (.bipush (-6), 2) := by decide +kernel
theorem dX0_layOut_165 : decode cX0_layOut 165 = .ok (.ireturn, 1) := by decide +kernel
theorem dX0_layOut_166 : decode cX0_layOut 166 = .ok (.iload 4, 2) := by decide +kernel
theorem dX0_layOut_168 : decode cX0_layOut 168 = .ok (.aload_n 1, 1) := by decide +kernel
theorem dX0_layOut_169 : decode cX0_layOut 169 = .ok (.getfield 76, 3) := by decide +kernel
theorem dX0_layOut_172 : decode cX0_layOut 172 = .ok (.iadd, 1) := by decide +kernel
theorem dX0_layOut_173 : decode cX0_layOut 173 = .ok (.sipush 1024, 3) := by decide +kernel
theorem dX0_layOut_176 : decode cX0_layOut 176 = .ok (.if_icmp .le 6, 3) := by decide +kernel
theorem dX0_layOut_179 : decode cX0_layOut 179 = .ok (.bipush (-7), 2) := by decide +kernel
theorem dX0_layOut_181 : decode cX0_layOut 181 = .ok (.ireturn, 1) := by decide +kernel
theorem dX0_layOut_182 : decode cX0_layOut 182 = .ok (.aload_n 0, 1) := by decide +kernel
theorem dX0_layOut_183 : decode cX0_layOut 183 = .ok (.getfield 21, 3) := by decide +kernel
theorem dX0_layOut_186 : decode cX0_layOut 186 = .ok (.getfield 54, 3) := by decide +kernel
theorem dX0_layOut_189 : decode cX0_layOut 189 = .ok (.iload_n 2, 1) := by decide +kernel
theorem dX0_layOut_190 : decode cX0_layOut 190 = .ok (.aaload, 1) := by decide +kernel
theorem dX0_layOut_191 : decode cX0_layOut 191 = .ok (.iload_n 3, 1) := by decide +kernel
theorem dX0_layOut_192 : decode cX0_layOut 192 = .ok (.iload 4, 2) := by decide +kernel
theorem dX0_layOut_194 : decode cX0_layOut 194 = .ok (.aload_n 1, 1) := by decide +kernel
theorem dX0_layOut_195 : decode cX0_layOut 195 = .ok (.getfield 76, 3) := by decide +kernel
theorem dX0_layOut_198 : decode cX0_layOut 198 = .ok (.iadd, 1) := by decide +kernel
theorem dX0_layOut_199 : decode cX0_layOut 199 = .ok (.iastore, 1) := by decide +kernel
theorem dX0_layOut_200 : decode cX0_layOut 200 = .ok (.iconst 0, 1) := by decide +kernel
theorem dX0_layOut_201 : decode cX0_layOut 201 = .ok (.ireturn, 1) := by decide +kernel
theorem dX0_write_0 : decode cX0_write 0 = .ok (.aload_n 1, 1) := by decide +kernel
theorem dX0_write_1 : decode cX0_write 1 = .ok (.getfield 57, 3) := by decide +kernel
theorem dX0_write_4 : decode cX0_write 4 = .ok (.iconst 1, 1) := by decide +kernel
theorem dX0_write_5 : decode cX0_write 5 = .ok (.if_icmp .ne 15, 3) := by decide +kernel
theorem dX0_write_8 : decode cX0_write 8 = .ok (.aload_n 0, 1) := by decide +kernel
theorem dX0_write_9 : decode cX0_write 9 = .ok (.getfield 21, 3) := by decide +kernel
theorem dX0_write_12 : decode cX0_write 12 = .ok (.getfield 79, 3) := by decide +kernel
theorem dX0_write_15 : decode cX0_write 15 = .ok (.iload_n 2, 1) := by decide +kernel
theorem dX0_write_16 : decode cX0_write 16 = .ok (.iaload, 1) := by decide +kernel
theorem dX0_write_17 : decode cX0_write 17 = .ok (.goto 17, 3) := by decide +kernel
theorem dX0_write_20 : decode cX0_write 20 = .ok (.aload_n 0, 1) := by decide +kernel
theorem dX0_write_21 : decode cX0_write 21 = .ok (.getfield 21, 3) := by decide +kernel
theorem dX0_write_24 : decode cX0_write 24 = .ok (.getfield 40, 3) := by decide +kernel
theorem dX0_write_27 : decode cX0_write 27 = .ok (.iload_n 2, 1) := by decide +kernel
theorem dX0_write_28 : decode cX0_write 28 = .ok (.aaload, 1) := by decide +kernel
theorem dX0_write_29 : decode cX0_write 29 = .ok (.aload_n 1, 1) := by decide +kernel
theorem dX0_write_30 : decode cX0_write 30 = .ok (.getfield 57, 3) := by decide +kernel
theorem dX0_write_33 : decode cX0_write 33 = .ok (.iaload, 1) := by decide +kernel
theorem dX0_write_34 : decode cX0_write 34 = .ok (.istore_n 3, 1) := by decide +kernel
theorem dX0_write_35 : decode cX0_write 35 = .ok (.iload_n 3, 1) := by decide +kernel
theorem dX0_write_36 : decode cX0_write 36 = .ok (.aload_n 1, 1) := by decide +kernel
theorem dX0_write_37 : decode cX0_write 37 = .ok (.getfield 62, 3) := by decide +kernel
theorem dX0_write_40 : decode cX0_write 40 = .ok (.iadd, 1) := by decide +kernel
theorem dX0_write_41 : decode cX0_write 41 = .ok (.istore 4, 2) := by decide +kernel
theorem dX0_write_43 : decode cX0_write 43 = .ok (.aload_n 1, 1) := by decide +kernel
theorem dX0_write_44 : decode cX0_write 44 = .ok (.getfield 73, 3) := by decide +kernel
theorem dX0_write_47 : decode cX0_write 47 = .ok (.tableswitch 66 3 7 #[33, 42, 66, 66, 57], 33) := by decide +kernel
theorem dX0_write_80 : decode cX0_write 80 = .ok (.aload_n 0, 1) := by decide +kernel
theorem dX0_write_81 : decode cX0_write 81 = .ok (.aload_n 1, 1) := by decide +kernel
theorem dX0_write_82 : decode cX0_write 82 = .ok (.iload_n 2, 1) := by decide +kernel
theorem dX0_write_83 : decode cX0_write 83 = .ok (.iload 4, 2) := by decide +kernel
theorem dX0_write_85 : decode cX0_write 85 = .ok (.invokevirtual 82, 3) := by decide +kernel
theorem dX0_write_88 : decode cX0_write 88 = .ok (.ireturn, 1) := by decide +kernel
theorem dX0_write_89 : decode cX0_write 89 = .ok (.aload_n 0, 1) := by decide +kernel
theorem dX0_write_90 : decode cX0_write 90 = .ok (.getfield 28, 3) := by decide +kernel
theorem dX0_write_93 : decode cX0_write 93 = .ok (.iload 4, 2) := by decide +kernel
theorem dX0_write_95 : decode cX0_write 95 = .ok (.aload_n 1, 1) := by decide +kernel
theorem dX0_write_96 : decode cX0_write 96 = .ok (.getfield 86, 3) := by decide +kernel
theorem dX0_write_99 : decode cX0_write 99 = .ok (.invokevirtual 89, 3) := by decide +kernel
theorem dX0_write_102 : decode cX0_write 102 = .ok (.iconst 0, 1) := by decide +kernel
theorem dX0_write_103 : decode cX0_write 103 = .ok (.ireturn, 1) := by decide +kernel
theorem dX0_write_104 : decode cX0_write 104 = .ok (.aload_n 0, 1) := by decide +kernel
theorem dX0_write_105 : decode cX0_write 105 = .ok (.aload_n 1, 1) := by decide +kernel
theorem dX0_write_106 : decode cX0_write 106 = .ok (.iload_n 2, 1) := by decide +kernel
theorem dX0_write_107 : decode cX0_write 107 = .ok (.iload 4, 2) := by decide +kernel
theorem dX0_write_109 : decode cX0_write 109 = .ok (.invokevirtual 93, 3) := by decide +kernel
theorem dX0_write_112 : decode cX0_write 112 = .ok (.ireturn, 1) := by decide +kernel
theorem dX0_write_113 : decode cX0_write 113 = .ok (.iconst 0, 1) := by decide +kernel
theorem dX0_write_114 : decode cX0_write 114 = .ok (.ireturn, 1) := by decide +kernel
theorem dX0_writeWord_0 : decode cX0_writeWord 0 = .ok (.aload_n 1, 1) := by decide +kernel
theorem dX0_writeWord_1 : decode cX0_writeWord 1 = .ok (.getfield 96, 3) := by decide +kernel
theorem dX0_writeWord_4 : decode cX0_writeWord 4 = .ok (.lconst 0, 1) := by decide +kernel
theorem dX0_writeWord_5 : decode cX0_writeWord 5 = .ok (.lcmp, 1) := by decide +kernel
theorem dX0_writeWord_6 : decode cX0_writeWord 6 = .ok (.ifCond .ne 7, 3) := by decide +kernel
theorem dX0_writeWord_9 : decode cX0_writeWord 9 = .ok (.iconst (-1), 1) := by decide +kernel
theorem dX0_writeWord_10 : decode cX0_writeWord 10 = .ok (.goto 12, 3) := by decide +kernel
theorem dX0_writeWord_13 : decode cX0_writeWord 13 = .ok (.aload_n 0, 1) := by decide +kernel
theorem dX0_writeWord_14 : decode cX0_writeWord 14 = .ok (.iload_n 2, 1) := by decide +kernel
theorem dX0_writeWord_15 : decode cX0_writeWord 15 = .ok (.aload_n 1, 1) := by decide +kernel
theorem dX0_writeWord_16 : decode cX0_writeWord 16 = .ok (.getfield 96, 3) := by decide +kernel
theorem dX0_writeWord_19 : decode cX0_writeWord 19 = .ok (.invokevirtual 99, 3) := by decide +kernel
theorem dX0_writeWord_22 : decode cX0_writeWord 22 = .ok (.istore 4, 2) := by decide +kernel
theorem dX0_writeWord_24 : decode cX0_writeWord 24 = .ok (.aload_n 1, 1) := by decide +kernel
theorem dX0_writeWord_25 : decode cX0_writeWord 25 = .ok (.getfield 96, 3) := by decide +kernel
theorem dX0_writeWord_28 : decode cX0_writeWord 28 = .ok (.lconst 0, 1) := by decide +kernel
theorem dX0_writeWord_29 : decode cX0_writeWord 29 = .ok (.lcmp, 1) := by decide +kernel
theorem dX0_writeWord_30 : decode cX0_writeWord 30 = .ok (.ifCond .eq 12, 3) := by decide +kernel
theorem dX0_writeWord_33 : decode cX0_writeWord 33 = .ok (.iload 4, 2) := by decide +kernel
theorem dX0_writeWord_35 : decode cX0_writeWord 35 = .ok (.iconst (-1), 1) := by decide +kernel
theorem dX0_writeWord_36 : decode cX0_writeWord 36 = .ok (.if_icmp .ne 6, 3) := by decide +kernel
theorem dX0_writeWord_39 : decode cX0_writeWord 39 = .ok (.bipush (-8), 2) := by decide +kernel
theorem dX0_writeWord_41 : decode cX0_writeWord 41 = .ok (.ireturn, 1) := by decide +kernel
theorem dX0_writeWord_42 : decode cX0_writeWord 42 = .ok (.aload_n 0, 1) := by decide +kernel
theorem dX0_writeWord_43 : decode cX0_writeWord 43 = .ok (.getfield 28, 3) := by decide +kernel
theorem dX0_writeWord_46 : decode cX0_writeWord 46 = .ok (.iload_n 3, 1) := by decide +kernel
theorem dX0_writeWord_47 : decode cX0_writeWord 47 = .ok (.aload_n 1, 1) := by decide +kernel
theorem dX0_writeWord_48 : decode cX0_writeWord 48 = .ok (.getfield 96, 3) := by decide +kernel
theorem dX0_writeWord_51 : decode cX0_writeWord 51 = .ok (.lconst 0, 1) := by decide +kernel
theorem dX0_writeWord_52 : decode cX0_writeWord 52 = .ok (.lcmp, 1) := by decide +kernel
theorem dX0_writeWord_53 : decode cX0_writeWord 53 = .ok (.ifCond .ne 10, 3) := by decide +kernel
theorem dX0_writeWord_56 : decode cX0_writeWord 56 = .ok (.aload_n 1, 1) := by decide +kernel
theorem dX0_writeWord_57 : decode cX0_writeWord 57 = .ok (.getfield 86, 3) := by decide +kernel
theorem dX0_writeWord_60 : decode cX0_writeWord 60 = .ok (.goto 14, 3) := by decide +kernel
theorem dX0_writeWord_63 : decode cX0_writeWord 63 = .ok (.aload_n 0, 1) := by decide +kernel
theorem dX0_writeWord_64 : decode cX0_writeWord 64 = .ok (.iload 4, 2) := by decide +kernel
theorem dX0_writeWord_66 : decode cX0_writeWord 66 = .ok (.invokevirtual 103, 3) := by decide +kernel
theorem dX0_writeWord_69 : decode cX0_writeWord 69 = .ok (.aload_n 1, 1) := by decide +kernel
theorem dX0_writeWord_70 : decode cX0_writeWord 70 = .ok (.getfield 86, 3) := by decide +kernel
theorem dX0_writeWord_73 : decode cX0_writeWord 73 = .ok (.iadd, 1) := by decide +kernel
theorem dX0_writeWord_74 : decode cX0_writeWord 74 = .ok (.invokevirtual 107, 3) := by decide +kernel
theorem dX0_writeWord_77 : decode cX0_writeWord 77 = .ok (.iconst 0, 1) := by decide +kernel
theorem dX0_writeWord_78 : decode cX0_writeWord 78 = .ok (.ireturn, 1) := by decide +kernel
theorem dX0_writeInstruction_0 : decode cX0_writeInstruction 0 = .ok (.aload_n 1, 1) := by decide +kernel
theorem dX0_writeInstruction_1 : decode cX0_writeInstruction 1 = .ok (.getfield 110, 3) := by decide +kernel
theorem dX0_writeInstruction_4 : decode cX0_writeInstruction 4 = .ok (.ifCond .ne 17, 3) := by decide +kernel
theorem dX0_writeInstruction_7 : decode cX0_writeInstruction 7 = .ok (.aload_n 0, 1) := by decide +kernel
theorem dX0_writeInstruction_8 : decode cX0_writeInstruction 8 = .ok (.getfield 28, 3) := by decide +kernel
theorem dX0_writeInstruction_11 : decode cX0_writeInstruction 11 = .ok (.iload_n 3, 1) := by decide +kernel
theorem dX0_writeInstruction_12 : decode cX0_writeInstruction 12 = .ok (.aload_n 1, 1) := by decide +kernel
theorem dX0_writeInstruction_13 : decode cX0_writeInstruction 13 = .ok (.getfield 86, 3) := by decide +kernel
theorem dX0_writeInstruction_16 : decode cX0_writeInstruction 16 = .ok (.invokevirtual 113, 3) := by decide +kernel
theorem dX0_writeInstruction_19 : decode cX0_writeInstruction 19 = .ok (.iconst 0, 1) := by decide +kernel
theorem dX0_writeInstruction_20 : decode cX0_writeInstruction 20 = .ok (.ireturn, 1) := by decide +kernel
theorem dX0_writeInstruction_21 : decode cX0_writeInstruction 21 = .ok (.aload_n 0, 1) := by decide +kernel
theorem dX0_writeInstruction_22 : decode cX0_writeInstruction 22 = .ok (.iload_n 2, 1) := by decide +kernel
theorem dX0_writeInstruction_23 : decode cX0_writeInstruction 23 = .ok (.aload_n 1, 1) := by decide +kernel
theorem dX0_writeInstruction_24 : decode cX0_writeInstruction 24 = .ok (.getfield 96, 3) := by decide +kernel
theorem dX0_writeInstruction_27 : decode cX0_writeInstruction 27 = .ok (.invokevirtual 99, 3) := by decide +kernel
theorem dX0_writeInstruction_30 : decode cX0_writeInstruction 30 = .ok (.istore 4, 2) := by decide +kernel
theorem dX0_writeInstruction_32 : decode cX0_writeInstruction 32 = .ok (.iload 4, 2) := by decide +kernel
theorem dX0_writeInstruction_34 : decode cX0_writeInstruction 34 = .ok (.iconst (-1), 1) := by decide +kernel
theorem dX0_writeInstruction_35 : decode cX0_writeInstruction 35 = .ok (.if_icmp .ne 6, 3) := by decide +kernel
theorem dX0_writeInstruction_38 : decode cX0_writeInstruction 38 = .ok (.bipush (-8), 2) := by decide +kernel
theorem dX0_writeInstruction_40 : decode cX0_writeInstruction 40 = .ok (.ireturn, 1) := by decide +kernel
theorem dX0_writeInstruction_41 : decode cX0_writeInstruction 41 = .ok (.aload_n 0, 1) := by decide +kernel
theorem dX0_writeInstruction_42 : decode cX0_writeInstruction 42 = .ok (.iload 4, 2) := by decide +kernel
theorem dX0_writeInstruction_44 : decode cX0_writeInstruction 44 = .ok (.invokevirtual 103, 3) := by decide +kernel
theorem dX0_writeInstruction_47 : decode cX0_writeInstruction 47 = .ok (.iconst 4, 1) := by decide +kernel
theorem dX0_writeInstruction_48 : decode cX0_writeInstruction 48 = .ok (.isub, 1) := by decide +kernel
theorem dX0_writeInstruction_49 : decode cX0_writeInstruction 49 = .ok (.aload_n 1, 1) := by decide +kernel
theorem dX0_writeInstruction_50 : decode cX0_writeInstruction 50 = .ok (.getfield 110, 3) := by decide +kernel
theorem dX0_writeInstruction_53 : decode cX0_writeInstruction 53 = .ok (.iconst 4, 1) := by decide +kernel
theorem dX0_writeInstruction_54 : decode cX0_writeInstruction 54 = .ok (.if_icmp .ne 10, 3) := by decide +kernel
theorem dX0_writeInstruction_57 : decode cX0_writeInstruction 57 = .ok (.iload_n 3, 1) := by decide +kernel
theorem dX0_writeInstruction_58 : decode cX0_writeInstruction 58 = .ok (.bipush (-4), 2) := by decide +kernel
theorem dX0_writeInstruction_60 : decode cX0_writeInstruction 60 = .ok (.iand, 1) := by decide +kernel
theorem dX0_writeInstruction_61 : decode cX0_writeInstruction 61 = .ok (.goto 4, 3) := by decide +kernel
theorem dX0_writeInstruction_64 : decode cX0_writeInstruction 64 = .ok (.iload_n 3, 1) := by decide +kernel
theorem dX0_writeInstruction_65 : decode cX0_writeInstruction 65 = .ok (.isub, 1) := by decide +kernel
theorem dX0_writeInstruction_66 : decode cX0_writeInstruction 66 = .ok (.istore 5, 2) := by decide +kernel
theorem dX0_writeInstruction_68 : decode cX0_writeInstruction 68 = .ok (.aload_n 0, 1) := by decide +kernel
theorem dX0_writeInstruction_69 : decode cX0_writeInstruction 69 = .ok (.getfield 12, 3) := by decide +kernel
theorem dX0_writeInstruction_72 : decode cX0_writeInstruction 72 = .ok (.getfield 44, 3) := by decide +kernel
theorem dX0_writeInstruction_75 : decode cX0_writeInstruction 75 = .ok (.iload 4, 2) := by decide +kernel
theorem dX0_writeInstruction_77 : decode cX0_writeInstruction 77 = .ok (.iaload, 1) := by decide +kernel
theorem dX0_writeInstruction_78 : decode cX0_writeInstruction 78 = .ok (.iload_n 2, 1) := by decide +kernel
theorem dX0_writeInstruction_79 : decode cX0_writeInstruction 79 = .ok (.if_icmp .ne 24, 3) := by decide +kernel
theorem dX0_writeInstruction_82 : decode cX0_writeInstruction 82 = .ok (.aload_n 0, 1) := by decide +kernel
theorem dX0_writeInstruction_83 : decode cX0_writeInstruction 83 = .ok (.getfield 12, 3) := by decide +kernel
theorem dX0_writeInstruction_86 : decode cX0_writeInstruction 86 = .ok (.getfield 48, 3) := by decide +kernel
theorem dX0_writeInstruction_89 : decode cX0_writeInstruction 89 = .ok (.iload 4, 2) := by decide +kernel
theorem dX0_writeInstruction_91 : decode cX0_writeInstruction 91 = .ok (.iaload, 1) := by decide +kernel
theorem dX0_writeInstruction_92 : decode cX0_writeInstruction 92 = .ok (.aload_n 1, 1) := by decide +kernel
theorem dX0_writeInstruction_93 : decode cX0_writeInstruction 93 = .ok (.getfield 57, 3) := by decide +kernel
theorem dX0_writeInstruction_96 : decode cX0_writeInstruction 96 = .ok (.if_icmp .ne 7, 3) := by decide +kernel
theorem dX0_writeInstruction_99 : decode cX0_writeInstruction 99 = .ok (.iconst 1, 1) := by decide +kernel
theorem dX0_writeInstruction_100 : decode cX0_writeInstruction 100 = .ok (.goto 4, 3) := by decide +kernel
theorem dX0_writeInstruction_103 : decode cX0_writeInstruction 103 = .ok (.iconst 0, 1) := by decide +kernel
theorem dX0_writeInstruction_104 : decode cX0_writeInstruction 104 = .ok (.istore 6, 2) := by decide +kernel
theorem dX0_writeInstruction_106 : decode cX0_writeInstruction 106 = .ok (.aload_n 1, 1) := by decide +kernel
theorem dX0_writeInstruction_107 : decode cX0_writeInstruction 107 = .ok (.getfield 110, 3) := by decide +kernel
theorem dX0_writeInstruction_110 : decode cX0_writeInstruction 110 = .ok (.iload 5, 2) := by decide +kernel
theorem dX0_writeInstruction_112 : decode cX0_writeInstruction 112 = .ok (.iload 6, 2) := by decide +kernel
theorem dX0_writeInstruction_114 : decode cX0_writeInstruction 114 = .ok (.invokestatic 116, 3) := by decide +kernel
theorem dX0_writeInstruction_117 : decode cX0_writeInstruction 117 = .ok (.ifCond .ne 6, 3) := by decide +kernel
theorem dX0_writeInstruction_120 : decode cX0_writeInstruction 120 = .ok (.bipush (-9), 2) := by decide +kernel
theorem dX0_writeInstruction_122 : decode cX0_writeInstruction 122 = .ok (.ireturn, 1) := by decide +kernel
theorem dX0_writeInstruction_123 : decode cX0_writeInstruction 123 = .ok (.aload_n 1, 1) := by decide +kernel
theorem dX0_writeInstruction_124 : decode cX0_writeInstruction 124 = .ok (.getfield 110, 3) := by decide +kernel
theorem dX0_writeInstruction_127 : decode cX0_writeInstruction 127 = .ok (.iconst 3, 1) := by decide +kernel
theorem dX0_writeInstruction_128 : decode cX0_writeInstruction 128 = .ok (.if_icmp .ne 19, 3) := by decide +kernel
theorem dX0_writeInstruction_131 : decode cX0_writeInstruction 131 = .ok (.aload_n 0, 1) := by decide +kernel
theorem dX0_writeInstruction_132 : decode cX0_writeInstruction 132 = .ok (.iload_n 3, 1) := by decide +kernel
theorem dX0_writeInstruction_133 : decode cX0_writeInstruction 133 = .ok (.aload_n 1, 1) := by decide +kernel
theorem dX0_writeInstruction_134 : decode cX0_writeInstruction 134 = .ok (.getfield 86, 3) := by decide +kernel
theorem dX0_writeInstruction_137 : decode cX0_writeInstruction 137 = .ok (.iload 5, 2) := by decide +kernel
theorem dX0_writeInstruction_139 : decode cX0_writeInstruction 139 = .ok (.iconst 1, 1) := by decide +kernel
theorem dX0_writeInstruction_140 : decode cX0_writeInstruction 140 = .ok (.ishr, 1) := by decide +kernel
theorem dX0_writeInstruction_141 : decode cX0_writeInstruction 141 = .ok (.invokevirtual 120, 3) := by decide +kernel
theorem dX0_writeInstruction_144 : decode cX0_writeInstruction 144 = .ok (.goto 25, 3) := by decide +kernel
theorem dX0_writeInstruction_147 : decode cX0_writeInstruction 147 = .ok (.aload_n 0, 1) := by decide +kernel
theorem dX0_writeInstruction_148 : decode cX0_writeInstruction 148 = .ok (.getfield 28, 3) := by decide +kernel
theorem dX0_writeInstruction_151 : decode cX0_writeInstruction 151 = .ok (.iload_n 3, 1) := by decide +kernel
theorem dX0_writeInstruction_152 : decode cX0_writeInstruction 152 = .ok (.aload_n 1, 1) := by decide +kernel
theorem dX0_writeInstruction_153 : decode cX0_writeInstruction 153 = .ok (.getfield 86, 3) := by decide +kernel
theorem dX0_writeInstruction_156 : decode cX0_writeInstruction 156 = .ok (.aload_n 1, 1) := by decide +kernel
theorem dX0_writeInstruction_157 : decode cX0_writeInstruction 157 = .ok (.getfield 110, 3) := by decide +kernel
theorem dX0_writeInstruction_160 : decode cX0_writeInstruction 160 = .ok (.iload 5, 2) := by decide +kernel
theorem dX0_writeInstruction_162 : decode cX0_writeInstruction 162 = .ok (.invokestatic 124, 3) := by decide +kernel
theorem dX0_writeInstruction_165 : decode cX0_writeInstruction 165 = .ok (.iadd, 1) := by decide +kernel
theorem dX0_writeInstruction_166 : decode cX0_writeInstruction 166 = .ok (.invokevirtual 113, 3) := by decide +kernel
theorem dX0_writeInstruction_169 : decode cX0_writeInstruction 169 = .ok (.iconst 0, 1) := by decide +kernel
theorem dX0_writeInstruction_170 : decode cX0_writeInstruction 170 = .ok (.ireturn, 1) := by decide +kernel
theorem dX0_resolve_0 : decode cX0_resolve 0 = .ok (.aload_n 0, 1) := by decide +kernel
theorem dX0_resolve_1 : decode cX0_resolve 1 = .ok (.getfield 12, 3) := by decide +kernel
theorem dX0_resolve_4 : decode cX0_resolve 4 = .ok (.iload_n 1, 1) := by decide +kernel
theorem dX0_resolve_5 : decode cX0_resolve 5 = .ok (.lload_n 2, 1) := by decide +kernel
theorem dX0_resolve_6 : decode cX0_resolve 6 = .ok (.invokevirtual 128, 3) := by decide +kernel
theorem dX0_resolve_9 : decode cX0_resolve 9 = .ok (.istore 4, 2) := by decide +kernel
theorem dX0_resolve_11 : decode cX0_resolve 11 = .ok (.iload 4, 2) := by decide +kernel
theorem dX0_resolve_13 : decode cX0_resolve 13 = .ok (.iconst (-1), 1) := by decide +kernel
theorem dX0_resolve_14 : decode cX0_resolve 14 = .ok (.if_icmp .eq 8, 3) := by decide +kernel
theorem dX0_resolve_17 : decode cX0_resolve 17 = .ok (.iload 4, 2) := by decide +kernel
theorem dX0_resolve_19 : decode cX0_resolve 19 = .ok (.goto 11, 3) := by decide +kernel
theorem dX0_resolve_22 : decode cX0_resolve 22 = .ok (.aload_n 0, 1) := by decide +kernel
theorem dX0_resolve_23 : decode cX0_resolve 23 = .ok (.getfield 12, 3) := by decide +kernel
theorem dX0_resolve_26 : decode cX0_resolve 26 = .ok (.lload_n 2, 1) := by decide +kernel
theorem dX0_resolve_27 : decode cX0_resolve 27 = .ok (.invokevirtual 131, 3) := by decide +kernel
theorem dX0_resolve_30 : decode cX0_resolve 30 = .ok (.ireturn, 1) := by decide +kernel
theorem dX0_reaches_0 : decode cX0_reaches 0 = .ok (.iload_n 0, 1) := by decide +kernel
theorem dX0_reaches_1 : decode cX0_reaches 1 = .ok (.tableswitch 107 1 3 #[27, 53, 83], 27) := by decide +kernel
theorem dX0_reaches_28 : decode cX0_reaches 28 = .ok (.iload_n 1, 1) := by decide +kernel
theorem dX0_reaches_29 : decode cX0_reaches 29 = .ok (.iconst 1, 1) := by decide +kernel
theorem dX0_reaches_30 : decode cX0_reaches 30 = .ok (.iand, 1) := by decide +kernel
theorem dX0_reaches_31 : decode cX0_reaches 31 = .ok (.ifCond .ne 21, 3) := by decide +kernel
theorem dX0_reaches_34 : decode cX0_reaches 34 = .ok (.iload_n 1, 1) := by decide +kernel
theorem dX0_reaches_35 : decode cX0_reaches 35 = .ok (.sipush (-2048), 3) := by decide +kernel
theorem dX0_reaches_38 : decode cX0_reaches 38 = .ok (.if_icmp .lt 14, 3) := by decide +kernel
theorem dX0_reaches_41 : decode cX0_reaches 41 = .ok (.iload_n 1, 1) := by decide +kernel
theorem dX0_reaches_42 : decode cX0_reaches 42 = .ok (.sipush 2046, 3) := by decide +kernel
theorem dX0_reaches_45 : decode cX0_reaches 45 = .ok (.if_icmp .gt 7, 3) := by decide +kernel
theorem dX0_reaches_48 : decode cX0_reaches 48 = .ok (.iconst 1, 1) := by decide +kernel
theorem dX0_reaches_49 : decode cX0_reaches 49 = .ok (.goto 4, 3) := by decide +kernel
theorem dX0_reaches_52 : decode cX0_reaches 52 = .ok (.iconst 0, 1) := by decide +kernel
theorem dX0_reaches_53 : decode cX0_reaches 53 = .ok (.ireturn, 1) := by decide +kernel
theorem dX0_reaches_54 : decode cX0_reaches 54 = .ok (.iload_n 2, 1) := by decide +kernel
theorem dX0_reaches_55 : decode cX0_reaches 55 = .ok (.ifCond .eq 27, 3) := by decide +kernel
theorem dX0_reaches_58 : decode cX0_reaches 58 = .ok (.iload_n 1, 1) := by decide +kernel
theorem dX0_reaches_59 : decode cX0_reaches 59 = .ok (.iconst 1, 1) := by decide +kernel
theorem dX0_reaches_60 : decode cX0_reaches 60 = .ok (.iand, 1) := by decide +kernel
theorem dX0_reaches_61 : decode cX0_reaches 61 = .ok (.ifCond .ne 21, 3) := by decide +kernel
theorem dX0_reaches_64 : decode cX0_reaches 64 = .ok (.iload_n 1, 1) := by decide +kernel
theorem dX0_reaches_65 : decode cX0_reaches 65 = .ok (.sipush (-256), 3) := by decide +kernel
theorem dX0_reaches_68 : decode cX0_reaches 68 = .ok (.if_icmp .lt 14, 3) := by decide +kernel
theorem dX0_reaches_71 : decode cX0_reaches 71 = .ok (.iload_n 1, 1) := by decide +kernel
theorem dX0_reaches_72 : decode cX0_reaches 72 = .ok (.sipush 254, 3) := by decide +kernel
theorem dX0_reaches_75 : decode cX0_reaches 75 = .ok (.if_icmp .gt 7, 3) := by decide +kernel
theorem dX0_reaches_78 : decode cX0_reaches 78 = .ok (.iconst 1, 1) := by decide +kernel
theorem dX0_reaches_79 : decode cX0_reaches 79 = .ok (.goto 4, 3) := by decide +kernel
theorem dX0_reaches_82 : decode cX0_reaches 82 = .ok (.iconst 0, 1) := by decide +kernel
theorem dX0_reaches_83 : decode cX0_reaches 83 = .ok (.ireturn, 1) := by decide +kernel
theorem dX0_reaches_84 : decode cX0_reaches 84 = .ok (.iload_n 1, 1) := by decide +kernel
theorem dX0_reaches_85 : decode cX0_reaches 85 = .ok (.iconst 1, 1) := by decide +kernel
theorem dX0_reaches_86 : decode cX0_reaches 86 = .ok (.iand, 1) := by decide +kernel
theorem dX0_reaches_87 : decode cX0_reaches 87 = .ok (.ifCond .ne 19, 3) := by decide +kernel
theorem dX0_reaches_90 : decode cX0_reaches 90 = .ok (.iload_n 1, 1) := by decide +kernel
theorem dX0_reaches_91 : decode cX0_reaches 91 = .ok (.ldc 135, 2) := by decide +kernel
theorem dX0_reaches_93 : decode cX0_reaches 93 = .ok (.if_icmp .lt 13, 3) := by decide +kernel
theorem dX0_reaches_96 : decode cX0_reaches 96 = .ok (.iload_n 1, 1) := by decide +kernel
theorem dX0_reaches_97 : decode cX0_reaches 97 = .ok (.ldc 136, 2) := by decide +kernel
theorem dX0_reaches_99 : decode cX0_reaches 99 = .ok (.if_icmp .gt 7, 3) := by decide +kernel
theorem dX0_reaches_102 : decode cX0_reaches 102 = .ok (.iconst 1, 1) := by decide +kernel
theorem dX0_reaches_103 : decode cX0_reaches 103 = .ok (.goto 4, 3) := by decide +kernel
theorem dX0_reaches_106 : decode cX0_reaches 106 = .ok (.iconst 0, 1) := by decide +kernel
theorem dX0_reaches_107 : decode cX0_reaches 107 = .ok (.ireturn, 1) := by decide +kernel
theorem dX0_reaches_108 : decode cX0_reaches 108 = .ok (.iload_n 2, 1) := by decide +kernel
theorem dX0_reaches_109 : decode cX0_reaches 109 = .ok (.ifCond .eq 24, 3) := by decide +kernel
theorem dX0_reaches_112 : decode cX0_reaches 112 = .ok (.iload_n 1, 1) := by decide +kernel
theorem dX0_reaches_113 : decode cX0_reaches 113 = .ok (.iconst 3, 1) := by decide +kernel
theorem dX0_reaches_114 : decode cX0_reaches 114 = .ok (.iand, 1) := by decide +kernel
theorem dX0_reaches_115 : decode cX0_reaches 115 = .ok (.ifCond .ne 18, 3) := by decide +kernel
theorem dX0_reaches_118 : decode cX0_reaches 118 = .ok (.iload_n 1, 1) := by decide +kernel
theorem dX0_reaches_119 : decode cX0_reaches 119 = .ok (.ifCond .lt 14, 3) := by decide +kernel
theorem dX0_reaches_122 : decode cX0_reaches 122 = .ok (.iload_n 1, 1) := by decide +kernel
theorem dX0_reaches_123 : decode cX0_reaches 123 = .ok (.sipush 1020, 3) := by decide +kernel
theorem dX0_reaches_126 : decode cX0_reaches 126 = .ok (.if_icmp .gt 7, 3) := by decide +kernel
theorem dX0_reaches_129 : decode cX0_reaches 129 = .ok (.iconst 1, 1) := by decide +kernel
theorem dX0_reaches_130 : decode cX0_reaches 130 = .ok (.goto 4, 3) := by decide +kernel
theorem dX0_reaches_133 : decode cX0_reaches 133 = .ok (.iconst 0, 1) := by decide +kernel
theorem dX0_reaches_134 : decode cX0_reaches 134 = .ok (.ireturn, 1) := by decide +kernel
theorem dX0_distanceBits_0 : decode cX0_distanceBits 0 = .ok (.iload_n 0, 1) := by decide +kernel
theorem dX0_distanceBits_1 : decode cX0_distanceBits 1 = .ok (.lookupswitch 43 #[(1, 27), (2, 35)], 27) := by decide +kernel
theorem dX0_distanceBits_28 : decode cX0_distanceBits 28 = .ok (.iload_n 1, 1) := by decide +kernel
theorem dX0_distanceBits_29 : decode cX0_distanceBits 29 = .ok (.iconst 1, 1) := by decide +kernel
theorem dX0_distanceBits_30 : decode cX0_distanceBits 30 = .ok (.ishr, 1) := by decide +kernel
theorem dX0_distanceBits_31 : decode cX0_distanceBits 31 = .ok (.sipush 2047, 3) := by decide +kernel
theorem dX0_distanceBits_34 : decode cX0_distanceBits 34 = .ok (.iand, 1) := by decide +kernel
theorem dX0_distanceBits_35 : decode cX0_distanceBits 35 = .ok (.ireturn, 1) := by decide +kernel
theorem dX0_distanceBits_36 : decode cX0_distanceBits 36 = .ok (.iload_n 1, 1) := by decide +kernel
theorem dX0_distanceBits_37 : decode cX0_distanceBits 37 = .ok (.iconst 1, 1) := by decide +kernel
theorem dX0_distanceBits_38 : decode cX0_distanceBits 38 = .ok (.ishr, 1) := by decide +kernel
theorem dX0_distanceBits_39 : decode cX0_distanceBits 39 = .ok (.sipush 255, 3) := by decide +kernel
theorem dX0_distanceBits_42 : decode cX0_distanceBits 42 = .ok (.iand, 1) := by decide +kernel
theorem dX0_distanceBits_43 : decode cX0_distanceBits 43 = .ok (.ireturn, 1) := by decide +kernel
theorem dX0_distanceBits_44 : decode cX0_distanceBits 44 = .ok (.iload_n 1, 1) := by decide +kernel
theorem dX0_distanceBits_45 : decode cX0_distanceBits 45 = .ok (.iconst 2, 1) := by decide +kernel
theorem dX0_distanceBits_46 : decode cX0_distanceBits 46 = .ok (.ishr, 1) := by decide +kernel
theorem dX0_distanceBits_47 : decode cX0_distanceBits 47 = .ok (.ireturn, 1) := by decide +kernel
theorem dX0_writeCall_0 : decode cX0_writeCall 0 = .ok (.iload_n 3, 1) := by decide +kernel
theorem dX0_writeCall_1 : decode cX0_writeCall 1 = .ok (.bipush 23, 2) := by decide +kernel
theorem dX0_writeCall_3 : decode cX0_writeCall 3 = .ok (.ishr, 1) := by decide +kernel
theorem dX0_writeCall_4 : decode cX0_writeCall 4 = .ok (.iconst 1, 1) := by decide +kernel
theorem dX0_writeCall_5 : decode cX0_writeCall 5 = .ok (.iand, 1) := by decide +kernel
theorem dX0_writeCall_6 : decode cX0_writeCall 6 = .ok (.istore 4, 2) := by decide +kernel
theorem dX0_writeCall_8 : decode cX0_writeCall 8 = .ok (.iload_n 3, 1) := by decide +kernel
theorem dX0_writeCall_9 : decode cX0_writeCall 9 = .ok (.bipush 22, 2) := by decide +kernel
theorem dX0_writeCall_11 : decode cX0_writeCall 11 = .ok (.ishr, 1) := by decide +kernel
theorem dX0_writeCall_12 : decode cX0_writeCall 12 = .ok (.iconst 1, 1) := by decide +kernel
theorem dX0_writeCall_13 : decode cX0_writeCall 13 = .ok (.iand, 1) := by decide +kernel
theorem dX0_writeCall_14 : decode cX0_writeCall 14 = .ok (.istore 5, 2) := by decide +kernel
theorem dX0_writeCall_16 : decode cX0_writeCall 16 = .ok (.iload_n 3, 1) := by decide +kernel
theorem dX0_writeCall_17 : decode cX0_writeCall 17 = .ok (.bipush 21, 2) := by decide +kernel
theorem dX0_writeCall_19 : decode cX0_writeCall 19 = .ok (.ishr, 1) := by decide +kernel
theorem dX0_writeCall_20 : decode cX0_writeCall 20 = .ok (.iconst 1, 1) := by decide +kernel
theorem dX0_writeCall_21 : decode cX0_writeCall 21 = .ok (.iand, 1) := by decide +kernel
theorem dX0_writeCall_22 : decode cX0_writeCall 22 = .ok (.istore 6, 2) := by decide +kernel
theorem dX0_writeCall_24 : decode cX0_writeCall 24 = .ok (.aload_n 0, 1) := by decide +kernel
theorem dX0_writeCall_25 : decode cX0_writeCall 25 = .ok (.getfield 28, 3) := by decide +kernel
theorem dX0_writeCall_28 : decode cX0_writeCall 28 = .ok (.iload_n 1, 1) := by decide +kernel
theorem dX0_writeCall_29 : decode cX0_writeCall 29 = .ok (.iload_n 2, 1) := by decide +kernel
theorem dX0_writeCall_30 : decode cX0_writeCall 30 = .ok (.sipush 1024, 3) := by decide +kernel
theorem dX0_writeCall_33 : decode cX0_writeCall 33 = .ok (.iload 4, 2) := by decide +kernel
theorem dX0_writeCall_35 : decode cX0_writeCall 35 = .ok (.imul, 1) := by decide +kernel
theorem dX0_writeCall_36 : decode cX0_writeCall 36 = .ok (.iadd, 1) := by decide +kernel
theorem dX0_writeCall_37 : decode cX0_writeCall 37 = .ok (.iload_n 3, 1) := by decide +kernel
theorem dX0_writeCall_38 : decode cX0_writeCall 38 = .ok (.bipush 11, 2) := by decide +kernel
theorem dX0_writeCall_40 : decode cX0_writeCall 40 = .ok (.ishr, 1) := by decide +kernel
theorem dX0_writeCall_41 : decode cX0_writeCall 41 = .ok (.sipush 1023, 3) := by decide +kernel
theorem dX0_writeCall_44 : decode cX0_writeCall 44 = .ok (.iand, 1) := by decide +kernel
theorem dX0_writeCall_45 : decode cX0_writeCall 45 = .ok (.iadd, 1) := by decide +kernel
theorem dX0_writeCall_46 : decode cX0_writeCall 46 = .ok (.invokevirtual 113, 3) := by decide +kernel
theorem dX0_writeCall_49 : decode cX0_writeCall 49 = .ok (.aload_n 0, 1) := by decide +kernel
theorem dX0_writeCall_50 : decode cX0_writeCall 50 = .ok (.getfield 28, 3) := by decide +kernel
theorem dX0_writeCall_53 : decode cX0_writeCall 53 = .ok (.iload_n 1, 1) := by decide +kernel
theorem dX0_writeCall_54 : decode cX0_writeCall 54 = .ok (.iconst 2, 1) := by decide +kernel
theorem dX0_writeCall_55 : decode cX0_writeCall 55 = .ok (.iadd, 1) := by decide +kernel
theorem dX0_writeCall_56 : decode cX0_writeCall 56 = .ok (.ldc 137, 2) := by decide +kernel
theorem dX0_writeCall_58 : decode cX0_writeCall 58 = .ok (.iload 5, 2) := by decide +kernel
theorem dX0_writeCall_60 : decode cX0_writeCall 60 = .ok (.iload 4, 2) := by decide +kernel
theorem dX0_writeCall_62 : decode cX0_writeCall 62 = .ok (.if_icmp .ne 9, 3) := by decide +kernel
theorem dX0_writeCall_65 : decode cX0_writeCall 65 = .ok (.sipush 8192, 3) := by decide +kernel
theorem dX0_writeCall_68 : decode cX0_writeCall 68 = .ok (.goto 4, 3) := by decide +kernel
theorem dX0_writeCall_71 : decode cX0_writeCall 71 = .ok (.iconst 0, 1) := by decide +kernel
theorem dX0_writeCall_72 : decode cX0_writeCall 72 = .ok (.iadd, 1) := by decide +kernel
theorem dX0_writeCall_73 : decode cX0_writeCall 73 = .ok (.iload 6, 2) := by decide +kernel
theorem dX0_writeCall_75 : decode cX0_writeCall 75 = .ok (.iload 4, 2) := by decide +kernel
theorem dX0_writeCall_77 : decode cX0_writeCall 77 = .ok (.if_icmp .ne 9, 3) := by decide +kernel
theorem dX0_writeCall_80 : decode cX0_writeCall 80 = .ok (.sipush 2048, 3) := by decide +kernel
theorem dX0_writeCall_83 : decode cX0_writeCall 83 = .ok (.goto 4, 3) := by decide +kernel
theorem dX0_writeCall_86 : decode cX0_writeCall 86 = .ok (.iconst 0, 1) := by decide +kernel
theorem dX0_writeCall_87 : decode cX0_writeCall 87 = .ok (.iadd, 1) := by decide +kernel
theorem dX0_writeCall_88 : decode cX0_writeCall 88 = .ok (.iload_n 3, 1) := by decide +kernel
theorem dX0_writeCall_89 : decode cX0_writeCall 89 = .ok (.sipush 2047, 3) := by decide +kernel
theorem dX0_writeCall_92 : decode cX0_writeCall 92 = .ok (.iand, 1) := by decide +kernel
theorem dX0_writeCall_93 : decode cX0_writeCall 93 = .ok (.iadd, 1) := by decide +kernel
theorem dX0_writeCall_94 : decode cX0_writeCall 94 = .ok (.invokevirtual 113, 3) := by decide +kernel
theorem dX0_writeCall_97 : decode cX0_writeCall 97 = .ok (.return_, 1) := by decide +kernel
theorem dX1_init_0 : decode cX1_init 0 = .ok (.aload_n 0, 1) := by decide +kernel
theorem dX1_init_1 : decode cX1_init 1 = .ok (.invokespecial 3, 3) := by decide +kernel
theorem dX1_init_4 : decode cX1_init 4 = .ok (.aload_n 0, 1) := by decide +kernel
theorem dX1_init_5 : decode cX1_init 5 = .ok (.iconst 0, 1) := by decide +kernel
theorem dX1_init_6 : decode cX1_init 6 = .ok (.putfield 9, 3) := by decide +kernel
theorem dX1_init_9 : decode cX1_init 9 = .ok (.aload_n 0, 1) := by decide +kernel
theorem dX1_init_10 : decode cX1_init 10 = .ok (.iconst (-1), 1) := by decide +kernel
theorem dX1_init_11 : decode cX1_init 11 = .ok (.putfield 15, 3) := by decide +kernel
theorem dX1_init_14 : decode cX1_init 14 = .ok (.aload_n 0, 1) := by decide +kernel
theorem dX1_init_15 : decode cX1_init 15 = .ok (.iconst (-1), 1) := by decide +kernel
theorem dX1_init_16 : decode cX1_init 16 = .ok (.putfield 18, 3) := by decide +kernel
theorem dX1_init_19 : decode cX1_init 19 = .ok (.aload_n 0, 1) := by decide +kernel
theorem dX1_init_20 : decode cX1_init 20 = .ok (.iconst (-1), 1) := by decide +kernel
theorem dX1_init_21 : decode cX1_init 21 = .ok (.putfield 21, 3) := by decide +kernel
theorem dX1_init_24 : decode cX1_init 24 = .ok (.return_, 1) := by decide +kernel
theorem dX1_forget_0 : decode cX1_forget 0 = .ok (.aload_n 0, 1) := by decide +kernel
theorem dX1_forget_1 : decode cX1_forget 1 = .ok (.iconst 0, 1) := by decide +kernel
theorem dX1_forget_2 : decode cX1_forget 2 = .ok (.putfield 9, 3) := by decide +kernel
theorem dX1_forget_5 : decode cX1_forget 5 = .ok (.aload_n 0, 1) := by decide +kernel
theorem dX1_forget_6 : decode cX1_forget 6 = .ok (.iconst (-1), 1) := by decide +kernel
theorem dX1_forget_7 : decode cX1_forget 7 = .ok (.putfield 15, 3) := by decide +kernel
theorem dX1_forget_10 : decode cX1_forget 10 = .ok (.aload_n 0, 1) := by decide +kernel
theorem dX1_forget_11 : decode cX1_forget 11 = .ok (.iconst (-1), 1) := by decide +kernel
theorem dX1_forget_12 : decode cX1_forget 12 = .ok (.putfield 18, 3) := by decide +kernel
theorem dX1_forget_15 : decode cX1_forget 15 = .ok (.aload_n 0, 1) := by decide +kernel
theorem dX1_forget_16 : decode cX1_forget 16 = .ok (.iconst (-1), 1) := by decide +kernel
theorem dX1_forget_17 : decode cX1_forget 17 = .ok (.putfield 21, 3) := by decide +kernel
theorem dX1_forget_20 : decode cX1_forget 20 = .ok (.return_, 1) := by decide +kernel
theorem dX1_tell_0 : decode cX1_tell 0 = .ok (.aload_n 0, 1) := by decide +kernel
theorem dX1_tell_1 : decode cX1_tell 1 = .ok (.iload_n 1, 1) := by decide +kernel
theorem dX1_tell_2 : decode cX1_tell 2 = .ok (.putfield 9, 3) := by decide +kernel
theorem dX1_tell_5 : decode cX1_tell 5 = .ok (.aload_n 0, 1) := by decide +kernel
theorem dX1_tell_6 : decode cX1_tell 6 = .ok (.iload_n 2, 1) := by decide +kernel
theorem dX1_tell_7 : decode cX1_tell 7 = .ok (.putfield 15, 3) := by decide +kernel
theorem dX1_tell_10 : decode cX1_tell 10 = .ok (.aload_n 0, 1) := by decide +kernel
theorem dX1_tell_11 : decode cX1_tell 11 = .ok (.iload_n 3, 1) := by decide +kernel
theorem dX1_tell_12 : decode cX1_tell 12 = .ok (.putfield 18, 3) := by decide +kernel
theorem dX1_tell_15 : decode cX1_tell 15 = .ok (.aload_n 0, 1) := by decide +kernel
theorem dX1_tell_16 : decode cX1_tell 16 = .ok (.iload 4, 2) := by decide +kernel
theorem dX1_tell_18 : decode cX1_tell 18 = .ok (.putfield 21, 3) := by decide +kernel
theorem dX1_tell_21 : decode cX1_tell 21 = .ok (.iconst 0, 1) := by decide +kernel
theorem dX1_tell_22 : decode cX1_tell 22 = .ok (.ireturn, 1) := by decide +kernel
theorem dX2_init_0 : decode cX2_init 0 = .ok (.aload_n 0, 1) := by decide +kernel
theorem dX2_init_1 : decode cX2_init 1 = .ok (.invokespecial 5, 3) := by decide +kernel
theorem dX2_init_4 : decode cX2_init 4 = .ok (.aload_n 0, 1) := by decide +kernel
theorem dX2_init_5 : decode cX2_init 5 = .ok (.sipush 2048, 3) := by decide +kernel
theorem dX2_init_8 : decode cX2_init 8 = .ok (.newarray .byte, 2) := by decide +kernel
theorem dX2_init_10 : decode cX2_init 10 = .ok (.putfield 11, 3) := by decide +kernel
theorem dX2_init_13 : decode cX2_init 13 = .ok (.return_, 1) := by decide +kernel
theorem dX2_clear_0 : decode cX2_clear 0 = .ok (.aload_n 0, 1) := by decide +kernel
theorem dX2_clear_1 : decode cX2_clear 1 = .ok (.getfield 11, 3) := by decide +kernel
theorem dX2_clear_4 : decode cX2_clear 4 = .ok (.iconst 0, 1) := by decide +kernel
theorem dX2_clear_5 : decode cX2_clear 5 = .ok (.invokestatic 15, 3) := by decide +kernel
theorem dX2_clear_8 : decode cX2_clear 8 = .ok (.aload_n 0, 1) := by decide +kernel
theorem dX2_clear_9 : decode cX2_clear 9 = .ok (.iconst 0, 1) := by decide +kernel
theorem dX2_clear_10 : decode cX2_clear 10 = .ok (.putfield 21, 3) := by decide +kernel
theorem dX2_clear_13 : decode cX2_clear 13 = .ok (.return_, 1) := by decide +kernel
theorem dX2_putByte_0 : decode cX2_putByte 0 = .ok (.iload_n 1, 1) := by decide +kernel
theorem dX2_putByte_1 : decode cX2_putByte 1 = .ok (.ifCond .lt 18, 3) := by decide +kernel
theorem dX2_putByte_4 : decode cX2_putByte 4 = .ok (.iload_n 1, 1) := by decide +kernel
theorem dX2_putByte_5 : decode cX2_putByte 5 = .ok (.sipush 2048, 3) := by decide +kernel
theorem dX2_putByte_8 : decode cX2_putByte 8 = .ok (.if_icmp .ge 11, 3) := by decide +kernel
theorem dX2_putByte_11 : decode cX2_putByte 11 = .ok (.aload_n 0, 1) := by decide +kernel
theorem dX2_putByte_12 : decode cX2_putByte 12 = .ok (.getfield 11, 3) := by decide +kernel
theorem dX2_putByte_15 : decode cX2_putByte 15 = .ok (.iload_n 1, 1) := by decide +kernel
theorem dX2_putByte_16 : decode cX2_putByte 16 = .ok (.iload_n 2, 1) := by decide +kernel
theorem dX2_putByte_17 : decode cX2_putByte 17 = .ok (.i2b, 1) := by decide +kernel
theorem dX2_putByte_18 : decode cX2_putByte 18 = .ok (.bastore, 1) := by decide +kernel
theorem dX2_putByte_19 : decode cX2_putByte 19 = .ok (.return_, 1) := by decide +kernel
theorem dX2_putHalf_0 : decode cX2_putHalf 0 = .ok (.aload_n 0, 1) := by decide +kernel
theorem dX2_putHalf_1 : decode cX2_putHalf 1 = .ok (.iload_n 1, 1) := by decide +kernel
theorem dX2_putHalf_2 : decode cX2_putHalf 2 = .ok (.iload_n 2, 1) := by decide +kernel
theorem dX2_putHalf_3 : decode cX2_putHalf 3 = .ok (.invokevirtual 25, 3) := by decide +kernel
theorem dX2_putHalf_6 : decode cX2_putHalf 6 = .ok (.aload_n 0, 1) := by decide +kernel
theorem dX2_putHalf_7 : decode cX2_putHalf 7 = .ok (.iload_n 1, 1) := by decide +kernel
theorem dX2_putHalf_8 : decode cX2_putHalf 8 = .ok (.iconst 1, 1) := by decide +kernel
theorem dX2_putHalf_9 : decode cX2_putHalf 9 = .ok (.iadd, 1) := by decide +kernel
theorem dX2_putHalf_10 : decode cX2_putHalf 10 = .ok (.iload_n 2, 1) := by decide +kernel
theorem dX2_putHalf_11 : decode cX2_putHalf 11 = .ok (.bipush 8, 2) := by decide +kernel
theorem dX2_putHalf_13 : decode cX2_putHalf 13 = .ok (.ishr, 1) := by decide +kernel
theorem dX2_putHalf_14 : decode cX2_putHalf 14 = .ok (.invokevirtual 25, 3) := by decide +kernel
theorem dX2_putHalf_17 : decode cX2_putHalf 17 = .ok (.return_, 1) := by decide +kernel
theorem dX2_putWord_0 : decode cX2_putWord 0 = .ok (.aload_n 0, 1) := by decide +kernel
theorem dX2_putWord_1 : decode cX2_putWord 1 = .ok (.iload_n 1, 1) := by decide +kernel
theorem dX2_putWord_2 : decode cX2_putWord 2 = .ok (.iload_n 2, 1) := by decide +kernel
theorem dX2_putWord_3 : decode cX2_putWord 3 = .ok (.invokevirtual 29, 3) := by decide +kernel
theorem dX2_putWord_6 : decode cX2_putWord 6 = .ok (.aload_n 0, 1) := by decide +kernel
theorem dX2_putWord_7 : decode cX2_putWord 7 = .ok (.iload_n 1, 1) := by decide +kernel
theorem dX2_putWord_8 : decode cX2_putWord 8 = .ok (.iconst 2, 1) := by decide +kernel
theorem dX2_putWord_9 : decode cX2_putWord 9 = .ok (.iadd, 1) := by decide +kernel
theorem dX2_putWord_10 : decode cX2_putWord 10 = .ok (.iload_n 2, 1) := by decide +kernel
theorem dX2_putWord_11 : decode cX2_putWord 11 = .ok (.bipush 16, 2) := by decide +kernel
theorem dX2_putWord_13 : decode cX2_putWord 13 = .ok (.ishr, 1) := by decide +kernel
theorem dX2_putWord_14 : decode cX2_putWord 14 = .ok (.invokevirtual 29, 3) := by decide +kernel
theorem dX2_putWord_17 : decode cX2_putWord 17 = .ok (.return_, 1) := by decide +kernel
theorem dX2_byteAt_0 : decode cX2_byteAt 0 = .ok (.iload_n 1, 1) := by decide +kernel
theorem dX2_byteAt_1 : decode cX2_byteAt 1 = .ok (.ifCond .lt 24, 3) := by decide +kernel
theorem dX2_byteAt_4 : decode cX2_byteAt 4 = .ok (.iload_n 1, 1) := by decide +kernel
theorem dX2_byteAt_5 : decode cX2_byteAt 5 = .ok (.aload_n 0, 1) := by decide +kernel
theorem dX2_byteAt_6 : decode cX2_byteAt 6 = .ok (.getfield 21, 3) := by decide +kernel
theorem dX2_byteAt_9 : decode cX2_byteAt 9 = .ok (.if_icmp .ge 16, 3) := by decide +kernel
theorem dX2_byteAt_12 : decode cX2_byteAt 12 = .ok (.aload_n 0, 1) := by decide +kernel
theorem dX2_byteAt_13 : decode cX2_byteAt 13 = .ok (.getfield 11, 3) := by decide +kernel
theorem dX2_byteAt_16 : decode cX2_byteAt 16 = .ok (.iload_n 1, 1) := by decide +kernel
theorem dX2_byteAt_17 : decode cX2_byteAt 17 = .ok (.baload, 1) := by decide +kernel
theorem dX2_byteAt_18 : decode cX2_byteAt 18 = .ok (.sipush 255, 3) := by decide +kernel
theorem dX2_byteAt_21 : decode cX2_byteAt 21 = .ok (.iand, 1) := by decide +kernel
theorem dX2_byteAt_22 : decode cX2_byteAt 22 = .ok (.goto 4, 3) := by decide +kernel
theorem dX2_byteAt_25 : decode cX2_byteAt 25 = .ok (.iconst (-1), 1) := by decide +kernel
theorem dX2_byteAt_26 : decode cX2_byteAt 26 = .ok (.ireturn, 1) := by decide +kernel
theorem dX2_recordCharacter_0 : decode cX2_recordCharacter 0 = .ok (.iload_n 1, 1) := by decide +kernel
theorem dX2_recordCharacter_1 : decode cX2_recordCharacter 1 = .ok (.ifCond .lt 10, 3) := by decide +kernel
theorem dX2_recordCharacter_4 : decode cX2_recordCharacter 4 = .ok (.aload_n 0, 1) := by decide +kernel
theorem dX2_recordCharacter_5 : decode cX2_recordCharacter 5 = .ok (.getfield 21, 3) := by decide +kernel
theorem dX2_recordCharacter_8 : decode cX2_recordCharacter 8 = .ok (.ifCond .ne 6, 3) := by decide +kernel
theorem dX2_recordCharacter_11 : decode cX2_recordCharacter 11 = .ok (.bipush 32, 2) := by decide +kernel
theorem dX2_recordCharacter_13 : decode cX2_recordCharacter 13 = .ok (.ireturn, 1) := by decide +kernel
theorem dX2_recordCharacter_14 : decode cX2_recordCharacter 14 = .ok (.iload_n 1, 1) := by decide +kernel
theorem dX2_recordCharacter_15 : decode cX2_recordCharacter 15 = .ok (.ldc 32, 2) := by decide +kernel
theorem dX2_recordCharacter_17 : decode cX2_recordCharacter 17 = .ok (.invokevirtual 34, 3) := by decide +kernel
theorem dX2_recordCharacter_20 : decode cX2_recordCharacter 20 = .ok (.if_icmp .ge 10, 3) := by decide +kernel
theorem dX2_recordCharacter_23 : decode cX2_recordCharacter 23 = .ok (.ldc 32, 2) := by decide +kernel
theorem dX2_recordCharacter_25 : decode cX2_recordCharacter 25 = .ok (.iload_n 1, 1) := by decide +kernel
theorem dX2_recordCharacter_26 : decode cX2_recordCharacter 26 = .ok (.invokevirtual 39, 3) := by decide +kernel
theorem dX2_recordCharacter_29 : decode cX2_recordCharacter 29 = .ok (.ireturn, 1) := by decide +kernel
theorem dX2_recordCharacter_30 : decode cX2_recordCharacter 30 = .ok (.iload_n 1, 1) := by decide +kernel
theorem dX2_recordCharacter_31 : decode cX2_recordCharacter 31 = .ok (.ldc 32, 2) := by decide +kernel
theorem dX2_recordCharacter_33 : decode cX2_recordCharacter 33 = .ok (.invokevirtual 34, 3) := by decide +kernel
theorem dX2_recordCharacter_36 : decode cX2_recordCharacter 36 = .ok (.isub, 1) := by decide +kernel
theorem dX2_recordCharacter_37 : decode cX2_recordCharacter 37 = .ok (.istore_n 2, 1) := by decide +kernel
theorem dX2_recordCharacter_38 : decode cX2_recordCharacter 38 = .ok (.aload_n 0, 1) := by decide +kernel
theorem dX2_recordCharacter_39 : decode cX2_recordCharacter 39 = .ok (.getfield 21, 3) := by decide +kernel
theorem dX2_recordCharacter_42 : decode cX2_recordCharacter 42 = .ok (.bipush 16, 2) := by decide +kernel
theorem dX2_recordCharacter_44 : decode cX2_recordCharacter 44 = .ok (.iadd, 1) := by decide +kernel
theorem dX2_recordCharacter_45 : decode cX2_recordCharacter 45 = .ok (.iconst 1, 1) := by decide +kernel
theorem dX2_recordCharacter_46 : decode cX2_recordCharacter 46 = .ok (.isub, 1) := by decide +kernel
theorem dX2_recordCharacter_47 : decode cX2_recordCharacter 47 = .ok (.bipush 16, 2) := by decide +kernel
theorem dX2_recordCharacter_49 : decode cX2_recordCharacter 49 = .ok (.idiv, 1) := by decide +kernel
theorem dX2_recordCharacter_50 : decode cX2_recordCharacter 50 = .ok (.istore_n 3, 1) := by decide +kernel
theorem dX2_recordCharacter_51 : decode cX2_recordCharacter 51 = .ok (.iload_n 3, 1) := by decide +kernel
theorem dX2_recordCharacter_52 : decode cX2_recordCharacter 52 = .ok (.bipush 12, 2) := by decide +kernel
theorem dX2_recordCharacter_54 : decode cX2_recordCharacter 54 = .ok (.imul, 1) := by decide +kernel
theorem dX2_recordCharacter_55 : decode cX2_recordCharacter 55 = .ok (.iconst 2, 1) := by decide +kernel
theorem dX2_recordCharacter_56 : decode cX2_recordCharacter 56 = .ok (.aload_n 0, 1) := by decide +kernel
theorem dX2_recordCharacter_57 : decode cX2_recordCharacter 57 = .ok (.getfield 21, 3) := by decide +kernel
theorem dX2_recordCharacter_60 : decode cX2_recordCharacter 60 = .ok (.imul, 1) := by decide +kernel
theorem dX2_recordCharacter_61 : decode cX2_recordCharacter 61 = .ok (.iadd, 1) := by decide +kernel
theorem dX2_recordCharacter_62 : decode cX2_recordCharacter 62 = .ok (.istore 4, 2) := by decide +kernel
theorem dX2_recordCharacter_64 : decode cX2_recordCharacter 64 = .ok (.iload_n 2, 1) := by decide +kernel
theorem dX2_recordCharacter_65 : decode cX2_recordCharacter 65 = .ok (.iload 4, 2) := by decide +kernel
theorem dX2_recordCharacter_67 : decode cX2_recordCharacter 67 = .ok (.if_icmp .ge 16, 3) := by decide +kernel
theorem dX2_recordCharacter_70 : decode cX2_recordCharacter 70 = .ok (.aload_n 0, 1) := by decide +kernel
theorem dX2_recordCharacter_71 : decode cX2_recordCharacter 71 = .ok (.iload_n 2, 1) := by decide +kernel
theorem dX2_recordCharacter_72 : decode cX2_recordCharacter 72 = .ok (.bipush 44, 2) := by decide +kernel
theorem dX2_recordCharacter_74 : decode cX2_recordCharacter 74 = .ok (.idiv, 1) := by decide +kernel
theorem dX2_recordCharacter_75 : decode cX2_recordCharacter 75 = .ok (.iload_n 2, 1) := by decide +kernel
theorem dX2_recordCharacter_76 : decode cX2_recordCharacter 76 = .ok (.bipush 44, 2) := by decide +kernel
theorem dX2_recordCharacter_78 : decode cX2_recordCharacter 78 = .ok (.irem, 1) := by decide +kernel
theorem dX2_recordCharacter_79 : decode cX2_recordCharacter 79 = .ok (.invokevirtual 43, 3) := by decide +kernel
theorem dX2_recordCharacter_82 : decode cX2_recordCharacter 82 = .ok (.ireturn, 1) := by decide +kernel
theorem dX2_recordCharacter_83 : decode cX2_recordCharacter 83 = .ok (.iload_n 2, 1) := by decide +kernel
theorem dX2_recordCharacter_84 : decode cX2_recordCharacter 84 = .ok (.iload 4, 2) := by decide +kernel
theorem dX2_recordCharacter_86 : decode cX2_recordCharacter 86 = .ok (.isub, 1) := by decide +kernel
theorem dX2_recordCharacter_87 : decode cX2_recordCharacter 87 = .ok (.istore_n 2, 1) := by decide +kernel
theorem dX2_recordCharacter_88 : decode cX2_recordCharacter 88 = .ok (.iload_n 2, 1) := by decide +kernel
theorem dX2_recordCharacter_89 : decode cX2_recordCharacter 89 = .ok (.ldc 47, 2) := by decide +kernel
theorem dX2_recordCharacter_91 : decode cX2_recordCharacter 91 = .ok (.invokevirtual 34, 3) := by decide +kernel
theorem dX2_recordCharacter_94 : decode cX2_recordCharacter 94 = .ok (.if_icmp .ge 12, 3) := by decide +kernel
theorem dX2_recordCharacter_97 : decode cX2_recordCharacter 97 = .ok (.ldc 47, 2) := by decide +kernel
theorem dX2_recordCharacter_99 : decode cX2_recordCharacter 99 = .ok (.iload_n 2, 1) := by decide +kernel
theorem dX2_recordCharacter_100 : decode cX2_recordCharacter 100 = .ok (.invokevirtual 39, 3) := by decide +kernel
theorem dX2_recordCharacter_103 : decode cX2_recordCharacter 103 = .ok (.goto 5, 3) := by decide +kernel
theorem dX2_recordCharacter_106 : decode cX2_recordCharacter 106 = .ok (.bipush 32, 2) := by decide +kernel
theorem dX2_recordCharacter_108 : decode cX2_recordCharacter 108 = .ok (.ireturn, 1) := by decide +kernel
theorem dX2_bodyCharacter_0 : decode cX2_bodyCharacter 0 = .ok (.bipush 16, 2) := by decide +kernel
theorem dX2_bodyCharacter_2 : decode cX2_bodyCharacter 2 = .ok (.aload_n 0, 1) := by decide +kernel
theorem dX2_bodyCharacter_3 : decode cX2_bodyCharacter 3 = .ok (.getfield 21, 3) := by decide +kernel
theorem dX2_bodyCharacter_6 : decode cX2_bodyCharacter 6 = .ok (.iload_n 1, 1) := by decide +kernel
theorem dX2_bodyCharacter_7 : decode cX2_bodyCharacter 7 = .ok (.bipush 16, 2) := by decide +kernel
theorem dX2_bodyCharacter_9 : decode cX2_bodyCharacter 9 = .ok (.imul, 1) := by decide +kernel
theorem dX2_bodyCharacter_10 : decode cX2_bodyCharacter 10 = .ok (.isub, 1) := by decide +kernel
theorem dX2_bodyCharacter_11 : decode cX2_bodyCharacter 11 = .ok (.invokestatic 49, 3) := by decide +kernel
theorem dX2_bodyCharacter_14 : decode cX2_bodyCharacter 14 = .ok (.istore_n 3, 1) := by decide +kernel
theorem dX2_bodyCharacter_15 : decode cX2_bodyCharacter 15 = .ok (.iload_n 2, 1) := by decide +kernel
theorem dX2_bodyCharacter_16 : decode cX2_bodyCharacter 16 = .ok (.ifCond .ne 6, 3) := by decide +kernel
theorem dX2_bodyCharacter_19 : decode cX2_bodyCharacter 19 = .ok (.bipush 58, 2) := by decide +kernel
theorem dX2_bodyCharacter_21 : decode cX2_bodyCharacter 21 = .ok (.ireturn, 1) := by decide +kernel
theorem dX2_bodyCharacter_22 : decode cX2_bodyCharacter 22 = .ok (.iload_n 2, 1) := by decide +kernel
theorem dX2_bodyCharacter_23 : decode cX2_bodyCharacter 23 = .ok (.bipush 12, 2) := by decide +kernel
theorem dX2_bodyCharacter_25 : decode cX2_bodyCharacter 25 = .ok (.iconst 2, 1) := by decide +kernel
theorem dX2_bodyCharacter_26 : decode cX2_bodyCharacter 26 = .ok (.iload_n 3, 1) := by decide +kernel
theorem dX2_bodyCharacter_27 : decode cX2_bodyCharacter 27 = .ok (.imul, 1) := by decide +kernel
theorem dX2_bodyCharacter_28 : decode cX2_bodyCharacter 28 = .ok (.iadd, 1) := by decide +kernel
theorem dX2_bodyCharacter_29 : decode cX2_bodyCharacter 29 = .ok (.iconst 1, 1) := by decide +kernel
theorem dX2_bodyCharacter_30 : decode cX2_bodyCharacter 30 = .ok (.isub, 1) := by decide +kernel
theorem dX2_bodyCharacter_31 : decode cX2_bodyCharacter 31 = .ok (.if_icmp .ne 6, 3) := by decide +kernel
theorem dX2_bodyCharacter_34 : decode cX2_bodyCharacter 34 = .ok (.bipush 10, 2) := by decide +kernel
theorem dX2_bodyCharacter_36 : decode cX2_bodyCharacter 36 = .ok (.ireturn, 1) := by decide +kernel
theorem dX2_bodyCharacter_37 : decode cX2_bodyCharacter 37 = .ok (.aload_n 0, 1) := by decide +kernel
theorem dX2_bodyCharacter_38 : decode cX2_bodyCharacter 38 = .ok (.iload_n 1, 1) := by decide +kernel
theorem dX2_bodyCharacter_39 : decode cX2_bodyCharacter 39 = .ok (.bipush 16, 2) := by decide +kernel
theorem dX2_bodyCharacter_41 : decode cX2_bodyCharacter 41 = .ok (.imul, 1) := by decide +kernel
theorem dX2_bodyCharacter_42 : decode cX2_bodyCharacter 42 = .ok (.iload_n 3, 1) := by decide +kernel
theorem dX2_bodyCharacter_43 : decode cX2_bodyCharacter 43 = .ok (.iload_n 2, 1) := by decide +kernel
theorem dX2_bodyCharacter_44 : decode cX2_bodyCharacter 44 = .ok (.iconst 1, 1) := by decide +kernel
theorem dX2_bodyCharacter_45 : decode cX2_bodyCharacter 45 = .ok (.isub, 1) := by decide +kernel
theorem dX2_bodyCharacter_46 : decode cX2_bodyCharacter 46 = .ok (.iconst 2, 1) := by decide +kernel
theorem dX2_bodyCharacter_47 : decode cX2_bodyCharacter 47 = .ok (.idiv, 1) := by decide +kernel
theorem dX2_bodyCharacter_48 : decode cX2_bodyCharacter 48 = .ok (.invokevirtual 55, 3) := by decide +kernel
theorem dX2_bodyCharacter_51 : decode cX2_bodyCharacter 51 = .ok (.istore 4, 2) := by decide +kernel
theorem dX2_bodyCharacter_53 : decode cX2_bodyCharacter 53 = .ok (.ldc 59, 2) := by decide +kernel
theorem dX2_bodyCharacter_55 : decode cX2_bodyCharacter 55 = .ok (.iload_n 2, 1) := by decide +kernel
theorem dX2_bodyCharacter_56 : decode cX2_bodyCharacter 56 = .ok (.iconst 1, 1) := by decide +kernel
theorem dX2_bodyCharacter_57 : decode cX2_bodyCharacter 57 = .ok (.iand, 1) := by decide +kernel
theorem dX2_bodyCharacter_58 : decode cX2_bodyCharacter 58 = .ok (.iconst 1, 1) := by decide +kernel
theorem dX2_bodyCharacter_59 : decode cX2_bodyCharacter 59 = .ok (.if_icmp .ne 13, 3) := by decide +kernel
theorem dX2_bodyCharacter_62 : decode cX2_bodyCharacter 62 = .ok (.iload 4, 2) := by decide +kernel
theorem dX2_bodyCharacter_64 : decode cX2_bodyCharacter 64 = .ok (.iconst 4, 1) := by decide +kernel
theorem dX2_bodyCharacter_65 : decode cX2_bodyCharacter 65 = .ok (.ishr, 1) := by decide +kernel
theorem dX2_bodyCharacter_66 : decode cX2_bodyCharacter 66 = .ok (.bipush 15, 2) := by decide +kernel
theorem dX2_bodyCharacter_68 : decode cX2_bodyCharacter 68 = .ok (.iand, 1) := by decide +kernel
theorem dX2_bodyCharacter_69 : decode cX2_bodyCharacter 69 = .ok (.goto 8, 3) := by decide +kernel
theorem dX2_bodyCharacter_72 : decode cX2_bodyCharacter 72 = .ok (.iload 4, 2) := by decide +kernel
theorem dX2_bodyCharacter_74 : decode cX2_bodyCharacter 74 = .ok (.bipush 15, 2) := by decide +kernel
theorem dX2_bodyCharacter_76 : decode cX2_bodyCharacter 76 = .ok (.iand, 1) := by decide +kernel
theorem dX2_bodyCharacter_77 : decode cX2_bodyCharacter 77 = .ok (.invokevirtual 39, 3) := by decide +kernel
theorem dX2_bodyCharacter_80 : decode cX2_bodyCharacter 80 = .ok (.ireturn, 1) := by decide +kernel
theorem dX2_recordByte_0 : decode cX2_recordByte 0 = .ok (.iload_n 3, 1) := by decide +kernel
theorem dX2_recordByte_1 : decode cX2_recordByte 1 = .ok (.iload_n 2, 1) := by decide +kernel
theorem dX2_recordByte_2 : decode cX2_recordByte 2 = .ok (.iconst 4, 1) := by decide +kernel
theorem dX2_recordByte_3 : decode cX2_recordByte 3 = .ok (.iadd, 1) := by decide +kernel
theorem dX2_recordByte_4 : decode cX2_recordByte 4 = .ok (.if_icmp .ne 44, 3) := by decide +kernel
theorem dX2_recordByte_7 : decode cX2_recordByte 7 = .ok (.iconst 0, 1) := by decide +kernel
theorem dX2_recordByte_8 : decode cX2_recordByte 8 = .ok (.istore 4, 2) := by decide +kernel
theorem dX2_recordByte_10 : decode cX2_recordByte 10 = .ok (.iconst 0, 1) := by decide +kernel
theorem dX2_recordByte_11 : decode cX2_recordByte 11 = .ok (.istore 5, 2) := by decide +kernel
theorem dX2_recordByte_13 : decode cX2_recordByte 13 = .ok (.iload 5, 2) := by decide +kernel
theorem dX2_recordByte_15 : decode cX2_recordByte 15 = .ok (.iload_n 2, 1) := by decide +kernel
theorem dX2_recordByte_16 : decode cX2_recordByte 16 = .ok (.iconst 4, 1) := by decide +kernel
theorem dX2_recordByte_17 : decode cX2_recordByte 17 = .ok (.iadd, 1) := by decide +kernel
theorem dX2_recordByte_18 : decode cX2_recordByte 18 = .ok (.if_icmp .ge 22, 3) := by decide +kernel
theorem dX2_recordByte_21 : decode cX2_recordByte 21 = .ok (.iload 4, 2) := by decide +kernel
theorem dX2_recordByte_23 : decode cX2_recordByte 23 = .ok (.aload_n 0, 1) := by decide +kernel
theorem dX2_recordByte_24 : decode cX2_recordByte 24 = .ok (.iload_n 1, 1) := by decide +kernel
theorem dX2_recordByte_25 : decode cX2_recordByte 25 = .ok (.iload_n 2, 1) := by decide +kernel
theorem dX2_recordByte_26 : decode cX2_recordByte 26 = .ok (.iload 5, 2) := by decide +kernel
theorem dX2_recordByte_28 : decode cX2_recordByte 28 = .ok (.invokevirtual 61, 3) := by decide +kernel
theorem dX2_recordByte_31 : decode cX2_recordByte 31 = .ok (.iadd, 1) := by decide +kernel
theorem dX2_recordByte_32 : decode cX2_recordByte 32 = .ok (.istore 4, 2) := by decide +kernel
theorem dX2_recordByte_34 : decode cX2_recordByte 34 = .ok (.iinc 5 1, 3) := by decide +kernel
theorem dX2_recordByte_37 : decode cX2_recordByte 37 = .ok (.goto (-24), 3) := by decide +kernel
theorem dX2_recordByte_40 : decode cX2_recordByte 40 = .ok (.iload 4, 2) := by decide +kernel
theorem dX2_recordByte_42 : decode cX2_recordByte 42 = .ok (.ineg, 1) := by decide +kernel
theorem dX2_recordByte_43 : decode cX2_recordByte 43 = .ok (.sipush 255, 3) := by decide +kernel
theorem dX2_recordByte_46 : decode cX2_recordByte 46 = .ok (.iand, 1) := by decide +kernel
theorem dX2_recordByte_47 : decode cX2_recordByte 47 = .ok (.ireturn, 1) := by decide +kernel
theorem dX2_recordByte_48 : decode cX2_recordByte 48 = .ok (.aload_n 0, 1) := by decide +kernel
theorem dX2_recordByte_49 : decode cX2_recordByte 49 = .ok (.iload_n 1, 1) := by decide +kernel
theorem dX2_recordByte_50 : decode cX2_recordByte 50 = .ok (.iload_n 2, 1) := by decide +kernel
theorem dX2_recordByte_51 : decode cX2_recordByte 51 = .ok (.iload_n 3, 1) := by decide +kernel
theorem dX2_recordByte_52 : decode cX2_recordByte 52 = .ok (.invokevirtual 61, 3) := by decide +kernel
theorem dX2_recordByte_55 : decode cX2_recordByte 55 = .ok (.ireturn, 1) := by decide +kernel
theorem dX2_plainRecordByte_0 : decode cX2_plainRecordByte 0 = .ok (.iload_n 3, 1) := by decide +kernel
theorem dX2_plainRecordByte_1 : decode cX2_plainRecordByte 1 = .ok (.tableswitch 50 0 3 #[31, 33, 42, 48], 31) := by decide +kernel
theorem dX2_plainRecordByte_32 : decode cX2_plainRecordByte 32 = .ok (.iload_n 2, 1) := by decide +kernel
theorem dX2_plainRecordByte_33 : decode cX2_plainRecordByte 33 = .ok (.ireturn, 1) := by decide +kernel
theorem dX2_plainRecordByte_34 : decode cX2_plainRecordByte 34 = .ok (.iload_n 1, 1) := by decide +kernel
theorem dX2_plainRecordByte_35 : decode cX2_plainRecordByte 35 = .ok (.bipush 8, 2) := by decide +kernel
theorem dX2_plainRecordByte_37 : decode cX2_plainRecordByte 37 = .ok (.ishr, 1) := by decide +kernel
theorem dX2_plainRecordByte_38 : decode cX2_plainRecordByte 38 = .ok (.sipush 255, 3) := by decide +kernel
theorem dX2_plainRecordByte_41 : decode cX2_plainRecordByte 41 = .ok (.iand, 1) := by decide +kernel
theorem dX2_plainRecordByte_42 : decode cX2_plainRecordByte 42 = .ok (.ireturn, 1) := by decide +kernel
theorem dX2_plainRecordByte_43 : decode cX2_plainRecordByte 43 = .ok (.iload_n 1, 1) := by decide +kernel
theorem dX2_plainRecordByte_44 : decode cX2_plainRecordByte 44 = .ok (.sipush 255, 3) := by decide +kernel
theorem dX2_plainRecordByte_47 : decode cX2_plainRecordByte 47 = .ok (.iand, 1) := by decide +kernel
theorem dX2_plainRecordByte_48 : decode cX2_plainRecordByte 48 = .ok (.ireturn, 1) := by decide +kernel
theorem dX2_plainRecordByte_49 : decode cX2_plainRecordByte 49 = .ok (.iconst 0, 1) := by decide +kernel
theorem dX2_plainRecordByte_50 : decode cX2_plainRecordByte 50 = .ok (.ireturn, 1) := by decide +kernel
theorem dX2_plainRecordByte_51 : decode cX2_plainRecordByte 51 = .ok (.aload_n 0, 1) := by decide +kernel
theorem dX2_plainRecordByte_52 : decode cX2_plainRecordByte 52 = .ok (.iload_n 1, 1) := by decide +kernel
theorem dX2_plainRecordByte_53 : decode cX2_plainRecordByte 53 = .ok (.iload_n 3, 1) := by decide +kernel
theorem dX2_plainRecordByte_54 : decode cX2_plainRecordByte 54 = .ok (.iadd, 1) := by decide +kernel
theorem dX2_plainRecordByte_55 : decode cX2_plainRecordByte 55 = .ok (.iconst 4, 1) := by decide +kernel
theorem dX2_plainRecordByte_56 : decode cX2_plainRecordByte 56 = .ok (.isub, 1) := by decide +kernel
theorem dX2_plainRecordByte_57 : decode cX2_plainRecordByte 57 = .ok (.invokevirtual 64, 3) := by decide +kernel
theorem dX2_plainRecordByte_60 : decode cX2_plainRecordByte 60 = .ok (.ireturn, 1) := by decide +kernel
theorem dX3_init_0 : decode cX3_init 0 = .ok (.aload_n 0, 1) := by decide +kernel
theorem dX3_init_1 : decode cX3_init 1 = .ok (.invokespecial 3, 3) := by decide +kernel
theorem dX3_init_4 : decode cX3_init 4 = .ok (.aload_n 0, 1) := by decide +kernel
theorem dX3_init_5 : decode cX3_init 5 = .ok (.bipush 96, 2) := by decide +kernel
theorem dX3_init_7 : decode cX3_init 7 = .ok (.newarray .long, 2) := by decide +kernel
theorem dX3_init_9 : decode cX3_init 9 = .ok (.putfield 9, 3) := by decide +kernel
theorem dX3_init_12 : decode cX3_init 12 = .ok (.aload_n 0, 1) := by decide +kernel
theorem dX3_init_13 : decode cX3_init 13 = .ok (.bipush 96, 2) := by decide +kernel
theorem dX3_init_15 : decode cX3_init 15 = .ok (.newarray .boolean, 2) := by decide +kernel
theorem dX3_init_17 : decode cX3_init 17 = .ok (.putfield 15, 3) := by decide +kernel
theorem dX3_init_20 : decode cX3_init 20 = .ok (.aload_n 0, 1) := by decide +kernel
theorem dX3_init_21 : decode cX3_init 21 = .ok (.bipush 96, 2) := by decide +kernel
theorem dX3_init_23 : decode cX3_init 23 = .ok (.newarray .int, 2) := by decide +kernel
theorem dX3_init_25 : decode cX3_init 25 = .ok (.putfield 19, 3) := by decide +kernel
theorem dX3_init_28 : decode cX3_init 28 = .ok (.aload_n 0, 1) := by decide +kernel
theorem dX3_init_29 : decode cX3_init 29 = .ok (.bipush 96, 2) := by decide +kernel
theorem dX3_init_31 : decode cX3_init 31 = .ok (.newarray .int, 2) := by decide +kernel
theorem dX3_init_33 : decode cX3_init 33 = .ok (.putfield 23, 3) := by decide +kernel
theorem dX3_init_36 : decode cX3_init 36 = .ok (.aload_n 0, 1) := by decide +kernel
theorem dX3_init_37 : decode cX3_init 37 = .ok (.bipush 96, 2) := by decide +kernel
theorem dX3_init_39 : decode cX3_init 39 = .ok (.newarray .int, 2) := by decide +kernel
theorem dX3_init_41 : decode cX3_init 41 = .ok (.putfield 26, 3) := by decide +kernel
theorem dX3_init_44 : decode cX3_init 44 = .ok (.return_, 1) := by decide +kernel
theorem dX3_append_0 : decode cX3_append 0 = .ok (.aload_n 0, 1) := by decide +kernel
theorem dX3_append_1 : decode cX3_append 1 = .ok (.getfield 29, 3) := by decide +kernel
theorem dX3_append_4 : decode cX3_append 4 = .ok (.bipush 96, 2) := by decide +kernel
theorem dX3_append_6 : decode cX3_append 6 = .ok (.if_icmp .ge 65, 3) := by decide +kernel
theorem dX3_append_9 : decode cX3_append 9 = .ok (.aload_n 0, 1) := by decide +kernel
theorem dX3_append_10 : decode cX3_append 10 = .ok (.getfield 9, 3) := by decide +kernel
theorem dX3_append_13 : decode cX3_append 13 = .ok (.aload_n 0, 1) := by decide +kernel
theorem dX3_append_14 : decode cX3_append 14 = .ok (.getfield 29, 3) := by decide +kernel
theorem dX3_append_17 : decode cX3_append 17 = .ok (.lload_n 1, 1) := by decide +kernel
theorem dX3_append_18 : decode cX3_append 18 = .ok (.lastore, 1) := by decide +kernel
theorem dX3_append_19 : decode cX3_append 19 = .ok (.aload_n 0, 1) := by decide +kernel
theorem dX3_append_20 : decode cX3_append 20 = .ok (.getfield 15, 3) := by decide +kernel
theorem dX3_append_23 : decode cX3_append 23 = .ok (.aload_n 0, 1) := by decide +kernel
theorem dX3_append_24 : decode cX3_append 24 = .ok (.getfield 29, 3) := by decide +kernel
theorem dX3_append_27 : decode cX3_append 27 = .ok (.iconst 0, 1) := by decide +kernel
theorem dX3_append_28 : decode cX3_append 28 = .ok (.bastore, 1) := by decide +kernel
theorem dX3_append_29 : decode cX3_append 29 = .ok (.aload_n 0, 1) := by decide +kernel
theorem dX3_append_30 : decode cX3_append 30 = .ok (.getfield 19, 3) := by decide +kernel
theorem dX3_append_33 : decode cX3_append 33 = .ok (.aload_n 0, 1) := by decide +kernel
theorem dX3_append_34 : decode cX3_append 34 = .ok (.getfield 29, 3) := by decide +kernel
theorem dX3_append_37 : decode cX3_append 37 = .ok (.iload_n 3, 1) := by decide +kernel
theorem dX3_append_38 : decode cX3_append 38 = .ok (.iastore, 1) := by decide +kernel
theorem dX3_append_39 : decode cX3_append 39 = .ok (.aload_n 0, 1) := by decide +kernel
theorem dX3_append_40 : decode cX3_append 40 = .ok (.getfield 23, 3) := by decide +kernel
theorem dX3_append_43 : decode cX3_append 43 = .ok (.aload_n 0, 1) := by decide +kernel
theorem dX3_append_44 : decode cX3_append 44 = .ok (.getfield 29, 3) := by decide +kernel
theorem dX3_append_47 : decode cX3_append 47 = .ok (.iload 4, 2) := by decide +kernel
theorem dX3_append_49 : decode cX3_append 49 = .ok (.iastore, 1) := by decide +kernel
theorem dX3_append_50 : decode cX3_append 50 = .ok (.aload_n 0, 1) := by decide +kernel
theorem dX3_append_51 : decode cX3_append 51 = .ok (.getfield 26, 3) := by decide +kernel
theorem dX3_append_54 : decode cX3_append 54 = .ok (.aload_n 0, 1) := by decide +kernel
theorem dX3_append_55 : decode cX3_append 55 = .ok (.getfield 29, 3) := by decide +kernel
theorem dX3_append_58 : decode cX3_append 58 = .ok (.iload 5, 2) := by decide +kernel
theorem dX3_append_60 : decode cX3_append 60 = .ok (.iastore, 1) := by decide +kernel
theorem dX3_append_61 : decode cX3_append 61 = .ok (.aload_n 0, 1) := by decide +kernel
theorem dX3_append_62 : decode cX3_append 62 = .ok (.dup, 1) := by decide +kernel
theorem dX3_append_63 : decode cX3_append 63 = .ok (.getfield 29, 3) := by decide +kernel
theorem dX3_append_66 : decode cX3_append 66 = .ok (.iconst 1, 1) := by decide +kernel
theorem dX3_append_67 : decode cX3_append 67 = .ok (.iadd, 1) := by decide +kernel
theorem dX3_append_68 : decode cX3_append 68 = .ok (.putfield 29, 3) := by decide +kernel
theorem dX3_append_71 : decode cX3_append 71 = .ok (.return_, 1) := by decide +kernel
theorem dX3_find_0 : decode cX3_find 0 = .ok (.iconst 0, 1) := by decide +kernel
theorem dX3_find_1 : decode cX3_find 1 = .ok (.istore 4, 2) := by decide +kernel
theorem dX3_find_3 : decode cX3_find 3 = .ok (.iload 4, 2) := by decide +kernel
theorem dX3_find_5 : decode cX3_find 5 = .ok (.aload_n 0, 1) := by decide +kernel
theorem dX3_find_6 : decode cX3_find 6 = .ok (.getfield 29, 3) := by decide +kernel
theorem dX3_find_9 : decode cX3_find 9 = .ok (.if_icmp .ge 35, 3) := by decide +kernel
theorem dX3_find_12 : decode cX3_find 12 = .ok (.aload_n 0, 1) := by decide +kernel
theorem dX3_find_13 : decode cX3_find 13 = .ok (.getfield 19, 3) := by decide +kernel
theorem dX3_find_16 : decode cX3_find 16 = .ok (.iload 4, 2) := by decide +kernel
theorem dX3_find_18 : decode cX3_find 18 = .ok (.iaload, 1) := by decide +kernel
theorem dX3_find_19 : decode cX3_find 19 = .ok (.iload_n 1, 1) := by decide +kernel
theorem dX3_find_20 : decode cX3_find 20 = .ok (.if_icmp .ne 18, 3) := by decide +kernel
theorem dX3_find_23 : decode cX3_find 23 = .ok (.aload_n 0, 1) := by decide +kernel
theorem dX3_find_24 : decode cX3_find 24 = .ok (.getfield 9, 3) := by decide +kernel
theorem dX3_find_27 : decode cX3_find 27 = .ok (.iload 4, 2) := by decide +kernel
theorem dX3_find_29 : decode cX3_find 29 = .ok (.laload, 1) := by decide +kernel
theorem dX3_find_30 : decode cX3_find 30 = .ok (.lload_n 2, 1) := by decide +kernel
theorem dX3_find_31 : decode cX3_find 31 = .ok (.lcmp, 1) := by decide +kernel
theorem dX3_find_32 : decode cX3_find 32 = .ok (.ifCond .ne 6, 3) := by decide +kernel
theorem dX3_find_35 : decode cX3_find 35 = .ok (.iload 4, 2) := by decide +kernel
theorem dX3_find_37 : decode cX3_find 37 = .ok (.ireturn, 1) := by decide +kernel
theorem dX3_find_38 : decode cX3_find 38 = .ok (.iinc 4 1, 3) := by decide +kernel
theorem dX3_find_41 : decode cX3_find 41 = .ok (.goto (-38), 3) := by decide +kernel
theorem dX3_find_44 : decode cX3_find 44 = .ok (.iconst (-1), 1) := by decide +kernel
theorem dX3_find_45 : decode cX3_find 45 = .ok (.ireturn, 1) := by decide +kernel
theorem dX3_findGlobal_0 : decode cX3_findGlobal 0 = .ok (.iconst 0, 1) := by decide +kernel
theorem dX3_findGlobal_1 : decode cX3_findGlobal 1 = .ok (.istore_n 3, 1) := by decide +kernel
theorem dX3_findGlobal_2 : decode cX3_findGlobal 2 = .ok (.iload_n 3, 1) := by decide +kernel
theorem dX3_findGlobal_3 : decode cX3_findGlobal 3 = .ok (.aload_n 0, 1) := by decide +kernel
theorem dX3_findGlobal_4 : decode cX3_findGlobal 4 = .ok (.getfield 29, 3) := by decide +kernel
theorem dX3_findGlobal_7 : decode cX3_findGlobal 7 = .ok (.if_icmp .ge 31, 3) := by decide +kernel
theorem dX3_findGlobal_10 : decode cX3_findGlobal 10 = .ok (.aload_n 0, 1) := by decide +kernel
theorem dX3_findGlobal_11 : decode cX3_findGlobal 11 = .ok (.getfield 15, 3) := by decide +kernel
theorem dX3_findGlobal_14 : decode cX3_findGlobal 14 = .ok (.iload_n 3, 1) := by decide +kernel
theorem dX3_findGlobal_15 : decode cX3_findGlobal 15 = .ok (.baload, 1) := by decide +kernel
theorem dX3_findGlobal_16 : decode cX3_findGlobal 16 = .ok (.ifCond .eq 16, 3) := by decide +kernel
theorem dX3_findGlobal_19 : decode cX3_findGlobal 19 = .ok (.aload_n 0, 1) := by decide +kernel
theorem dX3_findGlobal_20 : decode cX3_findGlobal 20 = .ok (.getfield 9, 3) := by decide +kernel
theorem dX3_findGlobal_23 : decode cX3_findGlobal 23 = .ok (.iload_n 3, 1) := by decide +kernel
theorem dX3_findGlobal_24 : decode cX3_findGlobal 24 = .ok (.laload, 1) := by decide +kernel
theorem dX3_findGlobal_25 : decode cX3_findGlobal 25 = .ok (.lload_n 1, 1) := by decide +kernel
theorem dX3_findGlobal_26 : decode cX3_findGlobal 26 = .ok (.lcmp, 1) := by decide +kernel
theorem dX3_findGlobal_27 : decode cX3_findGlobal 27 = .ok (.ifCond .ne 5, 3) := by decide +kernel
theorem dX3_findGlobal_30 : decode cX3_findGlobal 30 = .ok (.iload_n 3, 1) := by decide +kernel
theorem dX3_findGlobal_31 : decode cX3_findGlobal 31 = .ok (.ireturn, 1) := by decide +kernel
theorem dX3_findGlobal_32 : decode cX3_findGlobal 32 = .ok (.iinc 3 1, 3) := by decide +kernel
theorem dX3_findGlobal_35 : decode cX3_findGlobal 35 = .ok (.goto (-33), 3) := by decide +kernel
theorem dX3_findGlobal_38 : decode cX3_findGlobal 38 = .ok (.iconst (-1), 1) := by decide +kernel
theorem dX3_findGlobal_39 : decode cX3_findGlobal 39 = .ok (.ireturn, 1) := by decide +kernel
theorem dX3_makeGlobal_0 : decode cX3_makeGlobal 0 = .ok (.aload_n 0, 1) := by decide +kernel
theorem dX3_makeGlobal_1 : decode cX3_makeGlobal 1 = .ok (.iload_n 1, 1) := by decide +kernel
theorem dX3_makeGlobal_2 : decode cX3_makeGlobal 2 = .ok (.lload_n 2, 1) := by decide +kernel
theorem dX3_makeGlobal_3 : decode cX3_makeGlobal 3 = .ok (.invokevirtual 33, 3) := by decide +kernel
theorem dX3_makeGlobal_6 : decode cX3_makeGlobal 6 = .ok (.istore 4, 2) := by decide +kernel
theorem dX3_makeGlobal_8 : decode cX3_makeGlobal 8 = .ok (.iload 4, 2) := by decide +kernel
theorem dX3_makeGlobal_10 : decode cX3_makeGlobal 10 = .ok (.iconst (-1), 1) := by decide +kernel
theorem dX3_makeGlobal_11 : decode cX3_makeGlobal 11 = .ok (.if_icmp .ne 6, 3) := by decide +kernel
theorem dX3_makeGlobal_14 : decode cX3_makeGlobal 14 = .ok (.bipush (-8), 2) := by decide +kernel
theorem dX3_makeGlobal_16 : decode cX3_makeGlobal 16 = .ok (.ireturn, 1) := by decide +kernel
theorem dX3_makeGlobal_17 : decode cX3_makeGlobal 17 = .ok (.aload_n 0, 1) := by decide +kernel
theorem dX3_makeGlobal_18 : decode cX3_makeGlobal 18 = .ok (.lload_n 2, 1) := by decide +kernel
theorem dX3_makeGlobal_19 : decode cX3_makeGlobal 19 = .ok (.invokevirtual 37, 3) := by decide +kernel
theorem dX3_makeGlobal_22 : decode cX3_makeGlobal 22 = .ok (.iconst (-1), 1) := by decide +kernel
theorem dX3_makeGlobal_23 : decode cX3_makeGlobal 23 = .ok (.if_icmp .eq 6, 3) := by decide +kernel
theorem dX3_makeGlobal_26 : decode cX3_makeGlobal 26 = .ok (.bipush (-2), 2) := by decide +kernel
theorem dX3_makeGlobal_28 : decode cX3_makeGlobal 28 = .ok (.ireturn, 1) := by decide +kernel
theorem dX3_makeGlobal_29 : decode cX3_makeGlobal 29 = .ok (.aload_n 0, 1) := by decide +kernel
theorem dX3_makeGlobal_30 : decode cX3_makeGlobal 30 = .ok (.getfield 15, 3) := by decide +kernel
theorem dX3_makeGlobal_33 : decode cX3_makeGlobal 33 = .ok (.iload 4, 2) := by decide +kernel
theorem dX3_makeGlobal_35 : decode cX3_makeGlobal 35 = .ok (.iconst 1, 1) := by decide +kernel
theorem dX3_makeGlobal_36 : decode cX3_makeGlobal 36 = .ok (.bastore, 1) := by decide +kernel
theorem dX3_makeGlobal_37 : decode cX3_makeGlobal 37 = .ok (.iconst 0, 1) := by decide +kernel
theorem dX3_makeGlobal_38 : decode cX3_makeGlobal 38 = .ok (.ireturn, 1) := by decide +kernel
theorem dX4_init_0 : decode cX4_init 0 = .ok (.aload_n 0, 1) := by decide +kernel
theorem dX4_init_1 : decode cX4_init 1 = .ok (.invokespecial 3, 3) := by decide +kernel
theorem dX4_init_4 : decode cX4_init 4 = .ok (.aload_n 0, 1) := by decide +kernel
theorem dX4_init_5 : decode cX4_init 5 = .ok (.iconst 4, 1) := by decide +kernel
theorem dX4_init_6 : decode cX4_init 6 = .ok (.iconst 3, 1) := by decide +kernel
theorem dX4_init_7 : decode cX4_init 7 = .ok (.multianewarray 9 2, 4) := by decide +kernel
theorem dX4_init_11 : decode cX4_init 11 = .ok (.putfield 11, 3) := by decide +kernel
theorem dX4_init_14 : decode cX4_init 14 = .ok (.aload_n 0, 1) := by decide +kernel
theorem dX4_init_15 : decode cX4_init 15 = .ok (.iconst 4, 1) := by decide +kernel
theorem dX4_init_16 : decode cX4_init 16 = .ok (.iconst 3, 1) := by decide +kernel
theorem dX4_init_17 : decode cX4_init 17 = .ok (.multianewarray 9 2, 4) := by decide +kernel
theorem dX4_init_21 : decode cX4_init 21 = .ok (.putfield 16, 3) := by decide +kernel
theorem dX4_init_24 : decode cX4_init 24 = .ok (.aload_n 0, 1) := by decide +kernel
theorem dX4_init_25 : decode cX4_init 25 = .ok (.iconst 4, 1) := by decide +kernel
theorem dX4_init_26 : decode cX4_init 26 = .ok (.newarray .int, 2) := by decide +kernel
theorem dX4_init_28 : decode cX4_init 28 = .ok (.putfield 19, 3) := by decide +kernel
theorem dX4_init_31 : decode cX4_init 31 = .ok (.return_, 1) := by decide +kernel
theorem dX4_clear_0 : decode cX4_clear 0 = .ok (.iconst 0, 1) := by decide +kernel
theorem dX4_clear_1 : decode cX4_clear 1 = .ok (.istore_n 1, 1) := by decide +kernel
theorem dX4_clear_2 : decode cX4_clear 2 = .ok (.iload_n 1, 1) := by decide +kernel
theorem dX4_clear_3 : decode cX4_clear 3 = .ok (.iconst 4, 1) := by decide +kernel
theorem dX4_clear_4 : decode cX4_clear 4 = .ok (.if_icmp .ge 29, 3) := by decide +kernel
theorem dX4_clear_7 : decode cX4_clear 7 = .ok (.aload_n 0, 1) := by decide +kernel
theorem dX4_clear_8 : decode cX4_clear 8 = .ok (.getfield 11, 3) := by decide +kernel
theorem dX4_clear_11 : decode cX4_clear 11 = .ok (.iload_n 1, 1) := by decide +kernel
theorem dX4_clear_12 : decode cX4_clear 12 = .ok (.aaload, 1) := by decide +kernel
theorem dX4_clear_13 : decode cX4_clear 13 = .ok (.iconst 0, 1) := by decide +kernel
theorem dX4_clear_14 : decode cX4_clear 14 = .ok (.invokestatic 23, 3) := by decide +kernel
theorem dX4_clear_17 : decode cX4_clear 17 = .ok (.aload_n 0, 1) := by decide +kernel
theorem dX4_clear_18 : decode cX4_clear 18 = .ok (.getfield 16, 3) := by decide +kernel
theorem dX4_clear_21 : decode cX4_clear 21 = .ok (.iload_n 1, 1) := by decide +kernel
theorem dX4_clear_22 : decode cX4_clear 22 = .ok (.aaload, 1) := by decide +kernel
theorem dX4_clear_23 : decode cX4_clear 23 = .ok (.iconst 0, 1) := by decide +kernel
theorem dX4_clear_24 : decode cX4_clear 24 = .ok (.invokestatic 23, 3) := by decide +kernel
theorem dX4_clear_27 : decode cX4_clear 27 = .ok (.iinc 1 1, 3) := by decide +kernel
theorem dX4_clear_30 : decode cX4_clear 30 = .ok (.goto (-28), 3) := by decide +kernel
theorem dX4_clear_33 : decode cX4_clear 33 = .ok (.aload_n 0, 1) := by decide +kernel
theorem dX4_clear_34 : decode cX4_clear 34 = .ok (.getfield 19, 3) := by decide +kernel
theorem dX4_clear_37 : decode cX4_clear 37 = .ok (.iconst 0, 1) := by decide +kernel
theorem dX4_clear_38 : decode cX4_clear 38 = .ok (.invokestatic 23, 3) := by decide +kernel
theorem dX4_clear_41 : decode cX4_clear 41 = .ok (.aload_n 0, 1) := by decide +kernel
theorem dX4_clear_42 : decode cX4_clear 42 = .ok (.iconst 0, 1) := by decide +kernel
theorem dX4_clear_43 : decode cX4_clear 43 = .ok (.putfield 29, 3) := by decide +kernel
theorem dX4_clear_46 : decode cX4_clear 46 = .ok (.return_, 1) := by decide +kernel
theorem dX4_arrange_0 : decode cX4_arrange 0 = .ok (.aload_n 0, 1) := by decide +kernel
theorem dX4_arrange_1 : decode cX4_arrange 1 = .ok (.aload_n 0, 1) := by decide +kernel
theorem dX4_arrange_2 : decode cX4_arrange 2 = .ok (.iconst 0, 1) := by decide +kernel
theorem dX4_arrange_3 : decode cX4_arrange 3 = .ok (.bipush 8, 2) := by decide +kernel
theorem dX4_arrange_5 : decode cX4_arrange 5 = .ok (.invokevirtual 33, 3) := by decide +kernel
theorem dX4_arrange_8 : decode cX4_arrange 8 = .ok (.putfield 29, 3) := by decide +kernel
theorem dX4_arrange_11 : decode cX4_arrange 11 = .ok (.iconst 0, 1) := by decide +kernel
theorem dX4_arrange_12 : decode cX4_arrange 12 = .ok (.istore_n 1, 1) := by decide +kernel
theorem dX4_arrange_13 : decode cX4_arrange 13 = .ok (.iload_n 1, 1) := by decide +kernel
theorem dX4_arrange_14 : decode cX4_arrange 14 = .ok (.iconst 4, 1) := by decide +kernel
theorem dX4_arrange_15 : decode cX4_arrange 15 = .ok (.if_icmp .ge 59, 3) := by decide +kernel
theorem dX4_arrange_18 : decode cX4_arrange 18 = .ok (.aload_n 0, 1) := by decide +kernel
theorem dX4_arrange_19 : decode cX4_arrange 19 = .ok (.getfield 19, 3) := by decide +kernel
theorem dX4_arrange_22 : decode cX4_arrange 22 = .ok (.iload_n 1, 1) := by decide +kernel
theorem dX4_arrange_23 : decode cX4_arrange 23 = .ok (.aload_n 0, 1) := by decide +kernel
theorem dX4_arrange_24 : decode cX4_arrange 24 = .ok (.getfield 29, 3) := by decide +kernel
theorem dX4_arrange_27 : decode cX4_arrange 27 = .ok (.invokestatic 37, 3) := by decide +kernel
theorem dX4_arrange_30 : decode cX4_arrange 30 = .ok (.iastore, 1) := by decide +kernel
theorem dX4_arrange_31 : decode cX4_arrange 31 = .ok (.aload_n 0, 1) := by decide +kernel
theorem dX4_arrange_32 : decode cX4_arrange 32 = .ok (.aload_n 0, 1) := by decide +kernel
theorem dX4_arrange_33 : decode cX4_arrange 33 = .ok (.getfield 11, 3) := by decide +kernel
theorem dX4_arrange_36 : decode cX4_arrange 36 = .ok (.iload_n 1, 1) := by decide +kernel
theorem dX4_arrange_37 : decode cX4_arrange 37 = .ok (.aaload, 1) := by decide +kernel
theorem dX4_arrange_38 : decode cX4_arrange 38 = .ok (.iconst 1, 1) := by decide +kernel
theorem dX4_arrange_39 : decode cX4_arrange 39 = .ok (.iaload, 1) := by decide +kernel
theorem dX4_arrange_40 : decode cX4_arrange 40 = .ok (.ifCond .le 21, 3) := by decide +kernel
theorem dX4_arrange_43 : decode cX4_arrange 43 = .ok (.aload_n 0, 1) := by decide +kernel
theorem dX4_arrange_44 : decode cX4_arrange 44 = .ok (.getfield 19, 3) := by decide +kernel
theorem dX4_arrange_47 : decode cX4_arrange 47 = .ok (.iload_n 1, 1) := by decide +kernel
theorem dX4_arrange_48 : decode cX4_arrange 48 = .ok (.iaload, 1) := by decide +kernel
theorem dX4_arrange_49 : decode cX4_arrange 49 = .ok (.aload_n 0, 1) := by decide +kernel
theorem dX4_arrange_50 : decode cX4_arrange 50 = .ok (.getfield 11, 3) := by decide +kernel
theorem dX4_arrange_53 : decode cX4_arrange 53 = .ok (.iload_n 1, 1) := by decide +kernel
theorem dX4_arrange_54 : decode cX4_arrange 54 = .ok (.aaload, 1) := by decide +kernel
theorem dX4_arrange_55 : decode cX4_arrange 55 = .ok (.iconst 1, 1) := by decide +kernel
theorem dX4_arrange_56 : decode cX4_arrange 56 = .ok (.iaload, 1) := by decide +kernel
theorem dX4_arrange_57 : decode cX4_arrange 57 = .ok (.iadd, 1) := by decide +kernel
theorem dX4_arrange_58 : decode cX4_arrange 58 = .ok (.goto 7, 3) := by decide +kernel
theorem dX4_arrange_61 : decode cX4_arrange 61 = .ok (.aload_n 0, 1) := by decide +kernel
theorem dX4_arrange_62 : decode cX4_arrange 62 = .ok (.getfield 29, 3) := by decide +kernel
theorem dX4_arrange_65 : decode cX4_arrange 65 = .ok (.putfield 29, 3) := by decide +kernel
theorem dX4_arrange_68 : decode cX4_arrange 68 = .ok (.iinc 1 1, 3) := by decide +kernel
theorem dX4_arrange_71 : decode cX4_arrange 71 = .ok (.goto (-58), 3) := by decide +kernel
theorem dX4_arrange_74 : decode cX4_arrange 74 = .ok (.aload_n 0, 1) := by decide +kernel
theorem dX4_arrange_75 : decode cX4_arrange 75 = .ok (.iconst 2, 1) := by decide +kernel
theorem dX4_arrange_76 : decode cX4_arrange 76 = .ok (.aload_n 0, 1) := by decide +kernel
theorem dX4_arrange_77 : decode cX4_arrange 77 = .ok (.iconst 1, 1) := by decide +kernel
theorem dX4_arrange_78 : decode cX4_arrange 78 = .ok (.ldc 41, 2) := by decide +kernel
theorem dX4_arrange_80 : decode cX4_arrange 80 = .ok (.invokevirtual 33, 3) := by decide +kernel
theorem dX4_arrange_83 : decode cX4_arrange 83 = .ok (.invokevirtual 33, 3) := by decide +kernel
theorem dX4_arrange_86 : decode cX4_arrange 86 = .ok (.istore_n 1, 1) := by decide +kernel
theorem dX4_arrange_87 : decode cX4_arrange 87 = .ok (.aload_n 0, 1) := by decide +kernel
theorem dX4_arrange_88 : decode cX4_arrange 88 = .ok (.getfield 29, 3) := by decide +kernel
theorem dX4_arrange_91 : decode cX4_arrange 91 = .ok (.sipush 2048, 3) := by decide +kernel
theorem dX4_arrange_94 : decode cX4_arrange 94 = .ok (.if_icmp .gt 17, 3) := by decide +kernel
theorem dX4_arrange_97 : decode cX4_arrange 97 = .ok (.iload_n 1, 1) := by decide +kernel
theorem dX4_arrange_98 : decode cX4_arrange 98 = .ok (.ldc 41, 2) := by decide +kernel
theorem dX4_arrange_100 : decode cX4_arrange 100 = .ok (.isub, 1) := by decide +kernel
theorem dX4_arrange_101 : decode cX4_arrange 101 = .ok (.sipush 1024, 3) := by decide +kernel
theorem dX4_arrange_104 : decode cX4_arrange 104 = .ok (.if_icmp .gt 7, 3) := by decide +kernel
theorem dX4_arrange_107 : decode cX4_arrange 107 = .ok (.iconst 1, 1) := by decide +kernel
theorem dX4_arrange_108 : decode cX4_arrange 108 = .ok (.goto 4, 3) := by decide +kernel
theorem dX4_arrange_111 : decode cX4_arrange 111 = .ok (.iconst 0, 1) := by decide +kernel
theorem dX4_arrange_112 : decode cX4_arrange 112 = .ok (.ireturn, 1) := by decide +kernel
theorem dX4_line_0 : decode cX4_line 0 = .ok (.iload_n 2, 1) := by decide +kernel
theorem dX4_line_1 : decode cX4_line 1 = .ok (.istore_n 3, 1) := by decide +kernel
theorem dX4_line_2 : decode cX4_line 2 = .ok (.iconst 0, 1) := by decide +kernel
theorem dX4_line_3 : decode cX4_line 3 = .ok (.istore 4, 2) := by decide +kernel
theorem dX4_line_5 : decode cX4_line 5 = .ok (.iload 4, 2) := by decide +kernel
theorem dX4_line_7 : decode cX4_line 7 = .ok (.iconst 4, 1) := by decide +kernel
theorem dX4_line_8 : decode cX4_line 8 = .ok (.if_icmp .ge 58, 3) := by decide +kernel
theorem dX4_line_11 : decode cX4_line 11 = .ok (.aload_n 0, 1) := by decide +kernel
theorem dX4_line_12 : decode cX4_line 12 = .ok (.getfield 16, 3) := by decide +kernel
theorem dX4_line_15 : decode cX4_line 15 = .ok (.iload 4, 2) := by decide +kernel
theorem dX4_line_17 : decode cX4_line 17 = .ok (.aaload, 1) := by decide +kernel
theorem dX4_line_18 : decode cX4_line 18 = .ok (.iload_n 1, 1) := by decide +kernel
theorem dX4_line_19 : decode cX4_line 19 = .ok (.iload_n 3, 1) := by decide +kernel
theorem dX4_line_20 : decode cX4_line 20 = .ok (.invokestatic 37, 3) := by decide +kernel
theorem dX4_line_23 : decode cX4_line 23 = .ok (.iastore, 1) := by decide +kernel
theorem dX4_line_24 : decode cX4_line 24 = .ok (.aload_n 0, 1) := by decide +kernel
theorem dX4_line_25 : decode cX4_line 25 = .ok (.getfield 11, 3) := by decide +kernel
theorem dX4_line_28 : decode cX4_line 28 = .ok (.iload 4, 2) := by decide +kernel
theorem dX4_line_30 : decode cX4_line 30 = .ok (.aaload, 1) := by decide +kernel
theorem dX4_line_31 : decode cX4_line 31 = .ok (.iload_n 1, 1) := by decide +kernel
theorem dX4_line_32 : decode cX4_line 32 = .ok (.iaload, 1) := by decide +kernel
theorem dX4_line_33 : decode cX4_line 33 = .ok (.ifCond .le 25, 3) := by decide +kernel
theorem dX4_line_36 : decode cX4_line 36 = .ok (.aload_n 0, 1) := by decide +kernel
theorem dX4_line_37 : decode cX4_line 37 = .ok (.getfield 16, 3) := by decide +kernel
theorem dX4_line_40 : decode cX4_line 40 = .ok (.iload 4, 2) := by decide +kernel
theorem dX4_line_42 : decode cX4_line 42 = .ok (.aaload, 1) := by decide +kernel
theorem dX4_line_43 : decode cX4_line 43 = .ok (.iload_n 1, 1) := by decide +kernel
theorem dX4_line_44 : decode cX4_line 44 = .ok (.iaload, 1) := by decide +kernel
theorem dX4_line_45 : decode cX4_line 45 = .ok (.aload_n 0, 1) := by decide +kernel
theorem dX4_line_46 : decode cX4_line 46 = .ok (.getfield 11, 3) := by decide +kernel
theorem dX4_line_49 : decode cX4_line 49 = .ok (.iload 4, 2) := by decide +kernel
theorem dX4_line_51 : decode cX4_line 51 = .ok (.aaload, 1) := by decide +kernel
theorem dX4_line_52 : decode cX4_line 52 = .ok (.iload_n 1, 1) := by decide +kernel
theorem dX4_line_53 : decode cX4_line 53 = .ok (.iaload, 1) := by decide +kernel
theorem dX4_line_54 : decode cX4_line 54 = .ok (.iadd, 1) := by decide +kernel
theorem dX4_line_55 : decode cX4_line 55 = .ok (.goto 4, 3) := by decide +kernel
theorem dX4_line_58 : decode cX4_line 58 = .ok (.iload_n 3, 1) := by decide +kernel
theorem dX4_line_59 : decode cX4_line 59 = .ok (.istore_n 3, 1) := by decide +kernel
theorem dX4_line_60 : decode cX4_line 60 = .ok (.iinc 4 1, 3) := by decide +kernel
theorem dX4_line_63 : decode cX4_line 63 = .ok (.goto (-58), 3) := by decide +kernel
theorem dX4_line_66 : decode cX4_line 66 = .ok (.iload_n 3, 1) := by decide +kernel
theorem dX4_line_67 : decode cX4_line 67 = .ok (.ireturn, 1) := by decide +kernel
theorem dX4_nextFour_0 : decode cX4_nextFour 0 = .ok (.iload_n 0, 1) := by decide +kernel
theorem dX4_nextFour_1 : decode cX4_nextFour 1 = .ok (.iconst 3, 1) := by decide +kernel
theorem dX4_nextFour_2 : decode cX4_nextFour 2 = .ok (.iadd, 1) := by decide +kernel
theorem dX4_nextFour_3 : decode cX4_nextFour 3 = .ok (.bipush (-4), 2) := by decide +kernel
theorem dX4_nextFour_5 : decode cX4_nextFour 5 = .ok (.iand, 1) := by decide +kernel
theorem dX4_nextFour_6 : decode cX4_nextFour 6 = .ok (.ireturn, 1) := by decide +kernel
theorem dX6_init_0 : decode cX6_init 0 = .ok (.aload_n 0, 1) := by decide +kernel
theorem dX6_init_1 : decode cX6_init 1 = .ok (.invokespecial 3, 3) := by decide +kernel
theorem dX6_init_4 : decode cX6_init 4 = .ok (.aload_n 0, 1) := by decide +kernel
theorem dX6_init_5 : decode cX6_init 5 = .ok (.new 9, 3) := by decide +kernel
theorem dX6_init_8 : decode cX6_init 8 = .ok (.dup, 1) := by decide +kernel
theorem dX6_init_9 : decode cX6_init 9 = .ok (.invokespecial 11, 3) := by decide +kernel
theorem dX6_init_12 : decode cX6_init 12 = .ok (.putfield 12, 3) := by decide +kernel
theorem dX6_init_15 : decode cX6_init 15 = .ok (.return_, 1) := by decide +kernel
theorem dX6_parse_0 : decode cX6_parse 0 = .ok (.aload_n 2, 1) := by decide +kernel
theorem dX6_parse_1 : decode cX6_parse 1 = .ok (.invokevirtual 18, 3) := by decide +kernel
theorem dX6_parse_4 : decode cX6_parse 4 = .ok (.aload_n 0, 1) := by decide +kernel
theorem dX6_parse_5 : decode cX6_parse 5 = .ok (.getfield 12, 3) := by decide +kernel
theorem dX6_parse_8 : decode cX6_parse 8 = .ok (.aload_n 1, 1) := by decide +kernel
theorem dX6_parse_9 : decode cX6_parse 9 = .ok (.invokevirtual 23, 3) := by decide +kernel
theorem dX6_parse_12 : decode cX6_parse 12 = .ok (.aload_n 0, 1) := by decide +kernel
theorem dX6_parse_13 : decode cX6_parse 13 = .ok (.aload_n 2, 1) := by decide +kernel
theorem dX6_parse_14 : decode cX6_parse 14 = .ok (.invokevirtual 27, 3) := by decide +kernel
theorem dX6_parse_17 : decode cX6_parse 17 = .ok (.aload_n 0, 1) := by decide +kernel
theorem dX6_parse_18 : decode cX6_parse 18 = .ok (.getfield 12, 3) := by decide +kernel
theorem dX6_parse_21 : decode cX6_parse 21 = .ok (.invokevirtual 31, 3) := by decide +kernel
theorem dX6_parse_24 : decode cX6_parse 24 = .ok (.ifCond .ne 83, 3) := by decide +kernel
theorem dX6_parse_27 : decode cX6_parse 27 = .ok (.aload_n 2, 1) := by decide +kernel
theorem dX6_parse_28 : decode cX6_parse 28 = .ok (.aload_n 0, 1) := by decide +kernel
theorem dX6_parse_29 : decode cX6_parse 29 = .ok (.getfield 12, 3) := by decide +kernel
theorem dX6_parse_32 : decode cX6_parse 32 = .ok (.getfield 35, 3) := by decide +kernel
theorem dX6_parse_35 : decode cX6_parse 35 = .ok (.putfield 39, 3) := by decide +kernel
theorem dX6_parse_38 : decode cX6_parse 38 = .ok (.aload_n 0, 1) := by decide +kernel
theorem dX6_parse_39 : decode cX6_parse 39 = .ok (.getfield 12, 3) := by decide +kernel
theorem dX6_parse_42 : decode cX6_parse 42 = .ok (.invokevirtual 42, 3) := by decide +kernel
theorem dX6_parse_45 : decode cX6_parse 45 = .ok (.astore_n 3, 1) := by decide +kernel
theorem dX6_parse_46 : decode cX6_parse 46 = .ok (.aload_n 3, 1) := by decide +kernel
theorem dX6_parse_47 : decode cX6_parse 47 = .ok (.ifnonnull 22, 3) := by decide +kernel
theorem dX6_parse_50 : decode cX6_parse 50 = .ok (.aload_n 0, 1) := by decide +kernel
theorem dX6_parse_51 : decode cX6_parse 51 = .ok (.getfield 12, 3) := by decide +kernel
theorem dX6_parse_54 : decode cX6_parse 54 = .ok (.bipush (-3), 2) := by decide +kernel
theorem dX6_parse_56 : decode cX6_parse 56 = .ok (.aload_n 0, 1) := by decide +kernel
theorem dX6_parse_57 : decode cX6_parse 57 = .ok (.getfield 12, 3) := by decide +kernel
theorem dX6_parse_60 : decode cX6_parse 60 = .ok (.getfield 35, 3) := by decide +kernel
theorem dX6_parse_63 : decode cX6_parse 63 = .ok (.invokevirtual 46, 3) := by decide +kernel
theorem dX6_parse_66 : decode cX6_parse 66 = .ok (.goto 41, 3) := by decide +kernel
theorem dX6_parse_69 : decode cX6_parse 69 = .ok (.aload_n 3, 1) := by decide +kernel
theorem dX6_parse_70 : decode cX6_parse 70 = .ok (.getfield 50, 3) := by decide +kernel
theorem dX6_parse_73 : decode cX6_parse 73 = .ok (.bipush 6, 2) := by decide +kernel
theorem dX6_parse_75 : decode cX6_parse 75 = .ok (.if_icmp .ge 19, 3) := by decide +kernel
theorem dX6_parse_78 : decode cX6_parse 78 = .ok (.aload_n 0, 1) := by decide +kernel
theorem dX6_parse_79 : decode cX6_parse 79 = .ok (.getfield 12, 3) := by decide +kernel
theorem dX6_parse_82 : decode cX6_parse 82 = .ok (.invokevirtual 55, 3) := by decide +kernel
theorem dX6_parse_85 : decode cX6_parse 85 = .ok (.aload_n 0, 1) := by decide +kernel
theorem dX6_parse_86 : decode cX6_parse 86 = .ok (.aload_n 3, 1) := by decide +kernel
theorem dX6_parse_87 : decode cX6_parse 87 = .ok (.aload_n 2, 1) := by decide +kernel
theorem dX6_parse_88 : decode cX6_parse 88 = .ok (.invokevirtual 58, 3) := by decide +kernel
theorem dX6_parse_91 : decode cX6_parse 91 = .ok (.goto 16, 3) := by decide +kernel
theorem dX6_parse_94 : decode cX6_parse 94 = .ok (.aload_n 0, 1) := by decide +kernel
theorem dX6_parse_95 : decode cX6_parse 95 = .ok (.getfield 12, 3) := by decide +kernel
theorem dX6_parse_98 : decode cX6_parse 98 = .ok (.invokevirtual 55, 3) := by decide +kernel
theorem dX6_parse_101 : decode cX6_parse 101 = .ok (.aload_n 0, 1) := by decide +kernel
theorem dX6_parse_102 : decode cX6_parse 102 = .ok (.aload_n 3, 1) := by decide +kernel
theorem dX6_parse_103 : decode cX6_parse 103 = .ok (.aload_n 2, 1) := by decide +kernel
theorem dX6_parse_104 : decode cX6_parse 104 = .ok (.invokevirtual 62, 3) := by decide +kernel
theorem dX6_parse_107 : decode cX6_parse 107 = .ok (.aload_n 0, 1) := by decide +kernel
theorem dX6_parse_108 : decode cX6_parse 108 = .ok (.getfield 12, 3) := by decide +kernel
theorem dX6_parse_111 : decode cX6_parse 111 = .ok (.invokevirtual 31, 3) := by decide +kernel
theorem dX6_parse_114 : decode cX6_parse 114 = .ok (.ifCond .ne 19, 3) := by decide +kernel
theorem dX6_parse_117 : decode cX6_parse 117 = .ok (.aload_n 0, 1) := by decide +kernel
theorem dX6_parse_118 : decode cX6_parse 118 = .ok (.getfield 12, 3) := by decide +kernel
theorem dX6_parse_121 : decode cX6_parse 121 = .ok (.bipush (-3), 2) := by decide +kernel
theorem dX6_parse_123 : decode cX6_parse 123 = .ok (.aload_n 0, 1) := by decide +kernel
theorem dX6_parse_124 : decode cX6_parse 124 = .ok (.getfield 12, 3) := by decide +kernel
theorem dX6_parse_127 : decode cX6_parse 127 = .ok (.getfield 35, 3) := by decide +kernel
theorem dX6_parse_130 : decode cX6_parse 130 = .ok (.invokevirtual 46, 3) := by decide +kernel
theorem dX6_parse_133 : decode cX6_parse 133 = .ok (.aload_n 2, 1) := by decide +kernel
theorem dX6_parse_134 : decode cX6_parse 134 = .ok (.aload_n 0, 1) := by decide +kernel
theorem dX6_parse_135 : decode cX6_parse 135 = .ok (.getfield 12, 3) := by decide +kernel
theorem dX6_parse_138 : decode cX6_parse 138 = .ok (.getfield 65, 3) := by decide +kernel
theorem dX6_parse_141 : decode cX6_parse 141 = .ok (.putfield 68, 3) := by decide +kernel
theorem dX6_parse_144 : decode cX6_parse 144 = .ok (.aload_n 2, 1) := by decide +kernel
theorem dX6_parse_145 : decode cX6_parse 145 = .ok (.aload_n 0, 1) := by decide +kernel
theorem dX6_parse_146 : decode cX6_parse 146 = .ok (.getfield 12, 3) := by decide +kernel
theorem dX6_parse_149 : decode cX6_parse 149 = .ok (.getfield 69, 3) := by decide +kernel
theorem dX6_parse_152 : decode cX6_parse 152 = .ok (.putfield 72, 3) := by decide +kernel
theorem dX6_parse_155 : decode cX6_parse 155 = .ok (.return_, 1) := by decide +kernel
theorem dX6_label_0 : decode cX6_label 0 = .ok (.aload_n 0, 1) := by decide +kernel
theorem dX6_label_1 : decode cX6_label 1 = .ok (.getfield 12, 3) := by decide +kernel
theorem dX6_label_4 : decode cX6_label 4 = .ok (.invokevirtual 73, 3) := by decide +kernel
theorem dX6_label_7 : decode cX6_label 7 = .ok (.lstore_n 2, 1) := by decide +kernel
theorem dX6_label_8 : decode cX6_label 8 = .ok (.aload_n 0, 1) := by decide +kernel
theorem dX6_label_9 : decode cX6_label 9 = .ok (.getfield 12, 3) := by decide +kernel
theorem dX6_label_12 : decode cX6_label 12 = .ok (.getfield 35, 3) := by decide +kernel
theorem dX6_label_15 : decode cX6_label 15 = .ok (.istore 4, 2) := by decide +kernel
theorem dX6_label_17 : decode cX6_label 17 = .ok (.lload_n 2, 1) := by decide +kernel
theorem dX6_label_18 : decode cX6_label 18 = .ok (.lconst 0, 1) := by decide +kernel
theorem dX6_label_19 : decode cX6_label 19 = .ok (.lcmp, 1) := by decide +kernel
theorem dX6_label_20 : decode cX6_label 20 = .ok (.ifCond .ne 4, 3) := by decide +kernel
theorem dX6_label_23 : decode cX6_label 23 = .ok (.return_, 1) := by decide +kernel
theorem dX6_label_24 : decode cX6_label 24 = .ok (.aload_n 0, 1) := by decide +kernel
theorem dX6_label_25 : decode cX6_label 25 = .ok (.getfield 12, 3) := by decide +kernel
theorem dX6_label_28 : decode cX6_label 28 = .ok (.invokevirtual 55, 3) := by decide +kernel
theorem dX6_label_31 : decode cX6_label 31 = .ok (.aload_n 0, 1) := by decide +kernel
theorem dX6_label_32 : decode cX6_label 32 = .ok (.getfield 12, 3) := by decide +kernel
theorem dX6_label_35 : decode cX6_label 35 = .ok (.bipush 58, 2) := by decide +kernel
theorem dX6_label_37 : decode cX6_label 37 = .ok (.invokevirtual 77, 3) := by decide +kernel
theorem dX6_label_40 : decode cX6_label 40 = .ok (.ifCond .eq 17, 3) := by decide +kernel
theorem dX6_label_43 : decode cX6_label 43 = .ok (.aload_n 1, 1) := by decide +kernel
theorem dX6_label_44 : decode cX6_label 44 = .ok (.lload_n 2, 1) := by decide +kernel
theorem dX6_label_45 : decode cX6_label 45 = .ok (.putfield 81, 3) := by decide +kernel
theorem dX6_label_48 : decode cX6_label 48 = .ok (.aload_n 1, 1) := by decide +kernel
theorem dX6_label_49 : decode cX6_label 49 = .ok (.iload 4, 2) := by decide +kernel
theorem dX6_label_51 : decode cX6_label 51 = .ok (.putfield 84, 3) := by decide +kernel
theorem dX6_label_54 : decode cX6_label 54 = .ok (.goto 12, 3) := by decide +kernel
theorem dX6_label_57 : decode cX6_label 57 = .ok (.aload_n 0, 1) := by decide +kernel
theorem dX6_label_58 : decode cX6_label 58 = .ok (.getfield 12, 3) := by decide +kernel
theorem dX6_label_61 : decode cX6_label 61 = .ok (.iload 4, 2) := by decide +kernel
theorem dX6_label_63 : decode cX6_label 63 = .ok (.invokevirtual 87, 3) := by decide +kernel
theorem dX6_label_66 : decode cX6_label 66 = .ok (.return_, 1) := by decide +kernel
theorem dX6_directive_0 : decode cX6_directive 0 = .ok (.aload_n 1, 1) := by decide +kernel
theorem dX6_directive_1 : decode cX6_directive 1 = .ok (.getfield 50, 3) := by decide +kernel
theorem dX6_directive_4 : decode cX6_directive 4 = .ok (.tableswitch 135 0 4 #[36, 52, 65, 83, 112], 36) := by decide +kernel
theorem dX6_directive_40 : decode cX6_directive 40 = .ok (.aload_n 2, 1) := by decide +kernel
theorem dX6_directive_41 : decode cX6_directive 41 = .ok (.iconst 1, 1) := by decide +kernel
theorem dX6_directive_42 : decode cX6_directive 42 = .ok (.putfield 91, 3) := by decide +kernel
theorem dX6_directive_45 : decode cX6_directive 45 = .ok (.aload_n 2, 1) := by decide +kernel
theorem dX6_directive_46 : decode cX6_directive 46 = .ok (.aload_n 1, 1) := by decide +kernel
theorem dX6_directive_47 : decode cX6_directive 47 = .ok (.getfield 94, 3) := by decide +kernel
theorem dX6_directive_50 : decode cX6_directive 50 = .ok (.putfield 97, 3) := by decide +kernel
theorem dX6_directive_53 : decode cX6_directive 53 = .ok (.goto 92, 3) := by decide +kernel
theorem dX6_directive_56 : decode cX6_directive 56 = .ok (.aload_n 2, 1) := by decide +kernel
theorem dX6_directive_57 : decode cX6_directive 57 = .ok (.iconst 2, 1) := by decide +kernel
theorem dX6_directive_58 : decode cX6_directive 58 = .ok (.putfield 91, 3) := by decide +kernel
theorem dX6_directive_61 : decode cX6_directive 61 = .ok (.aload_n 0, 1) := by decide +kernel
theorem dX6_directive_62 : decode cX6_directive 62 = .ok (.aload_n 2, 1) := by decide +kernel
theorem dX6_directive_63 : decode cX6_directive 63 = .ok (.invokevirtual 100, 3) := by decide +kernel
theorem dX6_directive_66 : decode cX6_directive 66 = .ok (.goto 79, 3) := by decide +kernel
theorem dX6_directive_69 : decode cX6_directive 69 = .ok (.aload_n 2, 1) := by decide +kernel
theorem dX6_directive_70 : decode cX6_directive 70 = .ok (.iconst 3, 1) := by decide +kernel
theorem dX6_directive_71 : decode cX6_directive 71 = .ok (.putfield 91, 3) := by decide +kernel
theorem dX6_directive_74 : decode cX6_directive 74 = .ok (.aload_n 2, 1) := by decide +kernel
theorem dX6_directive_75 : decode cX6_directive 75 = .ok (.iconst 4, 1) := by decide +kernel
theorem dX6_directive_76 : decode cX6_directive 76 = .ok (.putfield 103, 3) := by decide +kernel
theorem dX6_directive_79 : decode cX6_directive 79 = .ok (.aload_n 0, 1) := by decide +kernel
theorem dX6_directive_80 : decode cX6_directive 80 = .ok (.aload_n 2, 1) := by decide +kernel
theorem dX6_directive_81 : decode cX6_directive 81 = .ok (.invokevirtual 106, 3) := by decide +kernel
theorem dX6_directive_84 : decode cX6_directive 84 = .ok (.goto 61, 3) := by decide +kernel
theorem dX6_directive_87 : decode cX6_directive 87 = .ok (.aload_n 2, 1) := by decide +kernel
theorem dX6_directive_88 : decode cX6_directive 88 = .ok (.iconst 4, 1) := by decide +kernel
theorem dX6_directive_89 : decode cX6_directive 89 = .ok (.putfield 91, 3) := by decide +kernel
theorem dX6_directive_92 : decode cX6_directive 92 = .ok (.aload_n 2, 1) := by decide +kernel
theorem dX6_directive_93 : decode cX6_directive 93 = .ok (.iconst 1, 1) := by decide +kernel
theorem dX6_directive_94 : decode cX6_directive 94 = .ok (.putfield 103, 3) := by decide +kernel
theorem dX6_directive_97 : decode cX6_directive 97 = .ok (.aload_n 2, 1) := by decide +kernel
theorem dX6_directive_98 : decode cX6_directive 98 = .ok (.aload_n 0, 1) := by decide +kernel
theorem dX6_directive_99 : decode cX6_directive 99 = .ok (.getfield 12, 3) := by decide +kernel
theorem dX6_directive_102 : decode cX6_directive 102 = .ok (.bipush (-128), 2) := by decide +kernel
theorem dX6_directive_104 : decode cX6_directive 104 = .ok (.sipush 255, 3) := by decide +kernel
theorem dX6_directive_107 : decode cX6_directive 107 = .ok (.invokevirtual 109, 3) := by decide +kernel
theorem dX6_directive_110 : decode cX6_directive 110 = .ok (.putfield 97, 3) := by decide +kernel
theorem dX6_directive_113 : decode cX6_directive 113 = .ok (.goto 32, 3) := by decide +kernel
theorem dX6_directive_116 : decode cX6_directive 116 = .ok (.aload_n 2, 1) := by decide +kernel
theorem dX6_directive_117 : decode cX6_directive 117 = .ok (.iconst 5, 1) := by decide +kernel
theorem dX6_directive_118 : decode cX6_directive 118 = .ok (.putfield 91, 3) := by decide +kernel
theorem dX6_directive_121 : decode cX6_directive 121 = .ok (.aload_n 2, 1) := by decide +kernel
theorem dX6_directive_122 : decode cX6_directive 122 = .ok (.aload_n 0, 1) := by decide +kernel
theorem dX6_directive_123 : decode cX6_directive 123 = .ok (.getfield 12, 3) := by decide +kernel
theorem dX6_directive_126 : decode cX6_directive 126 = .ok (.iconst 0, 1) := by decide +kernel
theorem dX6_directive_127 : decode cX6_directive 127 = .ok (.sipush 512, 3) := by decide +kernel
theorem dX6_directive_130 : decode cX6_directive 130 = .ok (.invokevirtual 109, 3) := by decide +kernel
theorem dX6_directive_133 : decode cX6_directive 133 = .ok (.putfield 103, 3) := by decide +kernel
theorem dX6_directive_136 : decode cX6_directive 136 = .ok (.goto 9, 3) := by decide +kernel
theorem dX6_directive_139 : decode cX6_directive 139 = .ok (.aload_n 2, 1) := by decide +kernel
theorem dX6_directive_140 : decode cX6_directive 140 = .ok (.bipush 6, 2) := by decide +kernel
theorem dX6_directive_142 : decode cX6_directive 142 = .ok (.putfield 91, 3) := by decide +kernel
theorem dX6_directive_145 : decode cX6_directive 145 = .ok (.return_, 1) := by decide +kernel
theorem dX6_reference_0 : decode cX6_reference 0 = .ok (.aload_n 1, 1) := by decide +kernel
theorem dX6_reference_1 : decode cX6_reference 1 = .ok (.aload_n 0, 1) := by decide +kernel
theorem dX6_reference_2 : decode cX6_reference 2 = .ok (.getfield 12, 3) := by decide +kernel
theorem dX6_reference_5 : decode cX6_reference 5 = .ok (.getfield 35, 3) := by decide +kernel
theorem dX6_reference_8 : decode cX6_reference 8 = .ok (.putfield 112, 3) := by decide +kernel
theorem dX6_reference_11 : decode cX6_reference 11 = .ok (.aload_n 1, 1) := by decide +kernel
theorem dX6_reference_12 : decode cX6_reference 12 = .ok (.aload_n 0, 1) := by decide +kernel
theorem dX6_reference_13 : decode cX6_reference 13 = .ok (.getfield 12, 3) := by decide +kernel
theorem dX6_reference_16 : decode cX6_reference 16 = .ok (.invokevirtual 115, 3) := by decide +kernel
theorem dX6_reference_19 : decode cX6_reference 19 = .ok (.putfield 118, 3) := by decide +kernel
theorem dX6_reference_22 : decode cX6_reference 22 = .ok (.return_, 1) := by decide +kernel
theorem dX6_value_0 : decode cX6_value 0 = .ok (.aload_n 0, 1) := by decide +kernel
theorem dX6_value_1 : decode cX6_value 1 = .ok (.getfield 12, 3) := by decide +kernel
theorem dX6_value_4 : decode cX6_value 4 = .ok (.invokevirtual 120, 3) := by decide +kernel
theorem dX6_value_7 : decode cX6_value 7 = .ok (.ifCond .ne 21, 3) := by decide +kernel
theorem dX6_value_10 : decode cX6_value 10 = .ok (.aload_n 1, 1) := by decide +kernel
theorem dX6_value_11 : decode cX6_value 11 = .ok (.aload_n 0, 1) := by decide +kernel
theorem dX6_value_12 : decode cX6_value 12 = .ok (.getfield 12, 3) := by decide +kernel
theorem dX6_value_15 : decode cX6_value 15 = .ok (.sipush (-9999), 3) := by decide +kernel
theorem dX6_value_18 : decode cX6_value 18 = .ok (.sipush 9999, 3) := by decide +kernel
theorem dX6_value_21 : decode cX6_value 21 = .ok (.invokevirtual 109, 3) := by decide +kernel
theorem dX6_value_24 : decode cX6_value 24 = .ok (.putfield 97, 3) := by decide +kernel
theorem dX6_value_27 : decode cX6_value 27 = .ok (.return_, 1) := by decide +kernel
theorem dX6_value_28 : decode cX6_value 28 = .ok (.aload_n 0, 1) := by decide +kernel
theorem dX6_value_29 : decode cX6_value 29 = .ok (.aload_n 1, 1) := by decide +kernel
theorem dX6_value_30 : decode cX6_value 30 = .ok (.invokevirtual 100, 3) := by decide +kernel
theorem dX6_value_33 : decode cX6_value 33 = .ok (.aload_n 0, 1) := by decide +kernel
theorem dX6_value_34 : decode cX6_value 34 = .ok (.getfield 12, 3) := by decide +kernel
theorem dX6_value_37 : decode cX6_value 37 = .ok (.bipush 43, 2) := by decide +kernel
theorem dX6_value_39 : decode cX6_value 39 = .ok (.invokevirtual 77, 3) := by decide +kernel
theorem dX6_value_42 : decode cX6_value 42 = .ok (.ifCond .eq 17, 3) := by decide +kernel
theorem dX6_value_45 : decode cX6_value 45 = .ok (.aload_n 1, 1) := by decide +kernel
theorem dX6_value_46 : decode cX6_value 46 = .ok (.aload_n 0, 1) := by decide +kernel
theorem dX6_value_47 : decode cX6_value 47 = .ok (.getfield 12, 3) := by decide +kernel
theorem dX6_value_50 : decode cX6_value 50 = .ok (.invokevirtual 123, 3) := by decide +kernel
theorem dX6_value_53 : decode cX6_value 53 = .ok (.putfield 97, 3) := by decide +kernel
theorem dX6_value_56 : decode cX6_value 56 = .ok (.goto 27, 3) := by decide +kernel
theorem dX6_value_59 : decode cX6_value 59 = .ok (.aload_n 0, 1) := by decide +kernel
theorem dX6_value_60 : decode cX6_value 60 = .ok (.getfield 12, 3) := by decide +kernel
theorem dX6_value_63 : decode cX6_value 63 = .ok (.bipush 45, 2) := by decide +kernel
theorem dX6_value_65 : decode cX6_value 65 = .ok (.invokevirtual 77, 3) := by decide +kernel
theorem dX6_value_68 : decode cX6_value 68 = .ok (.ifCond .eq 15, 3) := by decide +kernel
theorem dX6_value_71 : decode cX6_value 71 = .ok (.aload_n 1, 1) := by decide +kernel
theorem dX6_value_72 : decode cX6_value 72 = .ok (.aload_n 0, 1) := by decide +kernel
theorem dX6_value_73 : decode cX6_value 73 = .ok (.getfield 12, 3) := by decide +kernel
theorem dX6_value_76 : decode cX6_value 76 = .ok (.invokevirtual 123, 3) := by decide +kernel
theorem dX6_value_79 : decode cX6_value 79 = .ok (.ineg, 1) := by decide +kernel
theorem dX6_value_80 : decode cX6_value 80 = .ok (.putfield 97, 3) := by decide +kernel
theorem dX6_value_83 : decode cX6_value 83 = .ok (.return_, 1) := by decide +kernel
theorem dX6_instruction_0 : decode cX6_instruction 0 = .ok (.aload_n 2, 1) := by decide +kernel
theorem dX6_instruction_1 : decode cX6_instruction 1 = .ok (.bipush 7, 2) := by decide +kernel
theorem dX6_instruction_3 : decode cX6_instruction 3 = .ok (.putfield 91, 3) := by decide +kernel
theorem dX6_instruction_6 : decode cX6_instruction 6 = .ok (.aload_n 2, 1) := by decide +kernel
theorem dX6_instruction_7 : decode cX6_instruction 7 = .ok (.iconst 2, 1) := by decide +kernel
theorem dX6_instruction_8 : decode cX6_instruction 8 = .ok (.putfield 103, 3) := by decide +kernel
theorem dX6_instruction_11 : decode cX6_instruction 11 = .ok (.aload_n 1, 1) := by decide +kernel
theorem dX6_instruction_12 : decode cX6_instruction 12 = .ok (.getfield 50, 3) := by decide +kernel
theorem dX6_instruction_15 : decode cX6_instruction 15 = .ok (.tableswitch 294 7 16 #[53, 65, 77, 89, 101, 173, 198, 216, 234, 275], 53) := by decide +kernel
theorem dX6_instruction_68 : decode cX6_instruction 68 = .ok (.aload_n 2, 1) := by decide +kernel
theorem dX6_instruction_69 : decode cX6_instruction 69 = .ok (.aload_n 0, 1) := by decide +kernel
theorem dX6_instruction_70 : decode cX6_instruction 70 = .ok (.aload_n 1, 1) := by decide +kernel
theorem dX6_instruction_71 : decode cX6_instruction 71 = .ok (.invokevirtual 127, 3) := by decide +kernel
theorem dX6_instruction_74 : decode cX6_instruction 74 = .ok (.putfield 97, 3) := by decide +kernel
theorem dX6_instruction_77 : decode cX6_instruction 77 = .ok (.goto 240, 3) := by decide +kernel
theorem dX6_instruction_80 : decode cX6_instruction 80 = .ok (.aload_n 2, 1) := by decide +kernel
theorem dX6_instruction_81 : decode cX6_instruction 81 = .ok (.aload_n 0, 1) := by decide +kernel
theorem dX6_instruction_82 : decode cX6_instruction 82 = .ok (.aload_n 1, 1) := by decide +kernel
theorem dX6_instruction_83 : decode cX6_instruction 83 = .ok (.invokevirtual 131, 3) := by decide +kernel
theorem dX6_instruction_86 : decode cX6_instruction 86 = .ok (.putfield 97, 3) := by decide +kernel
theorem dX6_instruction_89 : decode cX6_instruction 89 = .ok (.goto 228, 3) := by decide +kernel
theorem dX6_instruction_92 : decode cX6_instruction 92 = .ok (.aload_n 2, 1) := by decide +kernel
theorem dX6_instruction_93 : decode cX6_instruction 93 = .ok (.aload_n 0, 1) := by decide +kernel
theorem dX6_instruction_94 : decode cX6_instruction 94 = .ok (.aload_n 1, 1) := by decide +kernel
theorem dX6_instruction_95 : decode cX6_instruction 95 = .ok (.invokevirtual 134, 3) := by decide +kernel
theorem dX6_instruction_98 : decode cX6_instruction 98 = .ok (.putfield 97, 3) := by decide +kernel
theorem dX6_instruction_101 : decode cX6_instruction 101 = .ok (.goto 216, 3) := by decide +kernel
theorem dX6_instruction_104 : decode cX6_instruction 104 = .ok (.aload_n 2, 1) := by decide +kernel
theorem dX6_instruction_105 : decode cX6_instruction 105 = .ok (.aload_n 0, 1) := by decide +kernel
theorem dX6_instruction_106 : decode cX6_instruction 106 = .ok (.aload_n 1, 1) := by decide +kernel
theorem dX6_instruction_107 : decode cX6_instruction 107 = .ok (.invokevirtual 137, 3) := by decide +kernel
theorem dX6_instruction_110 : decode cX6_instruction 110 = .ok (.putfield 97, 3) := by decide +kernel
theorem dX6_instruction_113 : decode cX6_instruction 113 = .ok (.goto 204, 3) := by decide +kernel
theorem dX6_instruction_116 : decode cX6_instruction 116 = .ok (.aload_n 2, 1) := by decide +kernel
theorem dX6_instruction_117 : decode cX6_instruction 117 = .ok (.aload_n 0, 1) := by decide +kernel
theorem dX6_instruction_118 : decode cX6_instruction 118 = .ok (.invokevirtual 140, 3) := by decide +kernel
theorem dX6_instruction_121 : decode cX6_instruction 121 = .ok (.putfield 97, 3) := by decide +kernel
theorem dX6_instruction_124 : decode cX6_instruction 124 = .ok (.aload_n 0, 1) := by decide +kernel
theorem dX6_instruction_125 : decode cX6_instruction 125 = .ok (.getfield 12, 3) := by decide +kernel
theorem dX6_instruction_128 : decode cX6_instruction 128 = .ok (.bipush 91, 2) := by decide +kernel
theorem dX6_instruction_130 : decode cX6_instruction 130 = .ok (.invokevirtual 143, 3) := by decide +kernel
theorem dX6_instruction_133 : decode cX6_instruction 133 = .ok (.ifCond .eq 25, 3) := by decide +kernel
theorem dX6_instruction_136 : decode cX6_instruction 136 = .ok (.aload_n 2, 1) := by decide +kernel
theorem dX6_instruction_137 : decode cX6_instruction 137 = .ok (.dup, 1) := by decide +kernel
theorem dX6_instruction_138 : decode cX6_instruction 138 = .ok (.getfield 97, 3) := by decide +kernel
theorem dX6_instruction_141 : decode cX6_instruction 141 = .ok (.aload_n 1, 1) := by decide +kernel
theorem dX6_instruction_142 : decode cX6_instruction 142 = .ok (.getfield 94, 3) := by decide +kernel
theorem dX6_instruction_145 : decode cX6_instruction 145 = .ok (.aload_n 0, 1) := by decide +kernel
theorem dX6_instruction_146 : decode cX6_instruction 146 = .ok (.iconst 2, 1) := by decide +kernel
theorem dX6_instruction_147 : decode cX6_instruction 147 = .ok (.invokevirtual 146, 3) := by decide +kernel
theorem dX6_instruction_150 : decode cX6_instruction 150 = .ok (.iadd, 1) := by decide +kernel
theorem dX6_instruction_151 : decode cX6_instruction 151 = .ok (.iadd, 1) := by decide +kernel
theorem dX6_instruction_152 : decode cX6_instruction 152 = .ok (.putfield 97, 3) := by decide +kernel
theorem dX6_instruction_155 : decode cX6_instruction 155 = .ok (.goto 162, 3) := by decide +kernel
theorem dX6_instruction_158 : decode cX6_instruction 158 = .ok (.aload_n 2, 1) := by decide +kernel
theorem dX6_instruction_159 : decode cX6_instruction 159 = .ok (.aload_n 1, 1) := by decide +kernel
theorem dX6_instruction_160 : decode cX6_instruction 160 = .ok (.getfield 150, 3) := by decide +kernel
theorem dX6_instruction_163 : decode cX6_instruction 163 = .ok (.sipush 256, 3) := by decide +kernel
theorem dX6_instruction_166 : decode cX6_instruction 166 = .ok (.aload_n 2, 1) := by decide +kernel
theorem dX6_instruction_167 : decode cX6_instruction 167 = .ok (.getfield 97, 3) := by decide +kernel
theorem dX6_instruction_170 : decode cX6_instruction 170 = .ok (.imul, 1) := by decide +kernel
theorem dX6_instruction_171 : decode cX6_instruction 171 = .ok (.iadd, 1) := by decide +kernel
theorem dX6_instruction_172 : decode cX6_instruction 172 = .ok (.putfield 97, 3) := by decide +kernel
theorem dX6_instruction_175 : decode cX6_instruction 175 = .ok (.aload_n 2, 1) := by decide +kernel
theorem dX6_instruction_176 : decode cX6_instruction 176 = .ok (.iconst 4, 1) := by decide +kernel
theorem dX6_instruction_177 : decode cX6_instruction 177 = .ok (.putfield 153, 3) := by decide +kernel
theorem dX6_instruction_180 : decode cX6_instruction 180 = .ok (.aload_n 0, 1) := by decide +kernel
theorem dX6_instruction_181 : decode cX6_instruction 181 = .ok (.aload_n 2, 1) := by decide +kernel
theorem dX6_instruction_182 : decode cX6_instruction 182 = .ok (.invokevirtual 100, 3) := by decide +kernel
theorem dX6_instruction_185 : decode cX6_instruction 185 = .ok (.goto 132, 3) := by decide +kernel
theorem dX6_instruction_188 : decode cX6_instruction 188 = .ok (.aload_n 2, 1) := by decide +kernel
theorem dX6_instruction_189 : decode cX6_instruction 189 = .ok (.aload_n 1, 1) := by decide +kernel
theorem dX6_instruction_190 : decode cX6_instruction 190 = .ok (.getfield 94, 3) := by decide +kernel
theorem dX6_instruction_193 : decode cX6_instruction 193 = .ok (.aload_n 0, 1) := by decide +kernel
theorem dX6_instruction_194 : decode cX6_instruction 194 = .ok (.invokevirtual 140, 3) := by decide +kernel
theorem dX6_instruction_197 : decode cX6_instruction 197 = .ok (.iadd, 1) := by decide +kernel
theorem dX6_instruction_198 : decode cX6_instruction 198 = .ok (.aload_n 0, 1) := by decide +kernel
theorem dX6_instruction_199 : decode cX6_instruction 199 = .ok (.aload_n 1, 1) := by decide +kernel
theorem dX6_instruction_200 : decode cX6_instruction 200 = .ok (.getfield 150, 3) := by decide +kernel
theorem dX6_instruction_203 : decode cX6_instruction 203 = .ok (.invokevirtual 146, 3) := by decide +kernel
theorem dX6_instruction_206 : decode cX6_instruction 206 = .ok (.iadd, 1) := by decide +kernel
theorem dX6_instruction_207 : decode cX6_instruction 207 = .ok (.putfield 97, 3) := by decide +kernel
theorem dX6_instruction_210 : decode cX6_instruction 210 = .ok (.goto 107, 3) := by decide +kernel
theorem dX6_instruction_213 : decode cX6_instruction 213 = .ok (.aload_n 2, 1) := by decide +kernel
theorem dX6_instruction_214 : decode cX6_instruction 214 = .ok (.aload_n 1, 1) := by decide +kernel
theorem dX6_instruction_215 : decode cX6_instruction 215 = .ok (.getfield 94, 3) := by decide +kernel
theorem dX6_instruction_218 : decode cX6_instruction 218 = .ok (.aload_n 0, 1) := by decide +kernel
theorem dX6_instruction_219 : decode cX6_instruction 219 = .ok (.ldc 156, 2) := by decide +kernel
theorem dX6_instruction_221 : decode cX6_instruction 221 = .ok (.invokevirtual 158, 3) := by decide +kernel
theorem dX6_instruction_224 : decode cX6_instruction 224 = .ok (.iadd, 1) := by decide +kernel
theorem dX6_instruction_225 : decode cX6_instruction 225 = .ok (.putfield 97, 3) := by decide +kernel
theorem dX6_instruction_228 : decode cX6_instruction 228 = .ok (.goto 89, 3) := by decide +kernel
theorem dX6_instruction_231 : decode cX6_instruction 231 = .ok (.aload_n 2, 1) := by decide +kernel
theorem dX6_instruction_232 : decode cX6_instruction 232 = .ok (.aload_n 1, 1) := by decide +kernel
theorem dX6_instruction_233 : decode cX6_instruction 233 = .ok (.getfield 94, 3) := by decide +kernel
theorem dX6_instruction_236 : decode cX6_instruction 236 = .ok (.aload_n 0, 1) := by decide +kernel
theorem dX6_instruction_237 : decode cX6_instruction 237 = .ok (.ldc 162, 2) := by decide +kernel
theorem dX6_instruction_239 : decode cX6_instruction 239 = .ok (.invokevirtual 158, 3) := by decide +kernel
theorem dX6_instruction_242 : decode cX6_instruction 242 = .ok (.iadd, 1) := by decide +kernel
theorem dX6_instruction_243 : decode cX6_instruction 243 = .ok (.putfield 97, 3) := by decide +kernel
theorem dX6_instruction_246 : decode cX6_instruction 246 = .ok (.goto 71, 3) := by decide +kernel
theorem dX6_instruction_249 : decode cX6_instruction 249 = .ok (.aload_n 2, 1) := by decide +kernel
theorem dX6_instruction_250 : decode cX6_instruction 250 = .ok (.aload_n 1, 1) := by decide +kernel
theorem dX6_instruction_251 : decode cX6_instruction 251 = .ok (.getfield 94, 3) := by decide +kernel
theorem dX6_instruction_254 : decode cX6_instruction 254 = .ok (.putfield 97, 3) := by decide +kernel
theorem dX6_instruction_257 : decode cX6_instruction 257 = .ok (.aload_n 2, 1) := by decide +kernel
theorem dX6_instruction_258 : decode cX6_instruction 258 = .ok (.aload_n 1, 1) := by decide +kernel
theorem dX6_instruction_259 : decode cX6_instruction 259 = .ok (.getfield 150, 3) := by decide +kernel
theorem dX6_instruction_262 : decode cX6_instruction 262 = .ok (.putfield 153, 3) := by decide +kernel
theorem dX6_instruction_265 : decode cX6_instruction 265 = .ok (.aload_n 2, 1) := by decide +kernel
theorem dX6_instruction_266 : decode cX6_instruction 266 = .ok (.aload_n 1, 1) := by decide +kernel
theorem dX6_instruction_267 : decode cX6_instruction 267 = .ok (.getfield 150, 3) := by decide +kernel
theorem dX6_instruction_270 : decode cX6_instruction 270 = .ok (.iconst 3, 1) := by decide +kernel
theorem dX6_instruction_271 : decode cX6_instruction 271 = .ok (.if_icmp .ne 7, 3) := by decide +kernel
theorem dX6_instruction_274 : decode cX6_instruction 274 = .ok (.iconst 4, 1) := by decide +kernel
theorem dX6_instruction_275 : decode cX6_instruction 275 = .ok (.goto 4, 3) := by decide +kernel
theorem dX6_instruction_278 : decode cX6_instruction 278 = .ok (.iconst 2, 1) := by decide +kernel
theorem dX6_instruction_279 : decode cX6_instruction 279 = .ok (.putfield 103, 3) := by decide +kernel
theorem dX6_instruction_282 : decode cX6_instruction 282 = .ok (.aload_n 0, 1) := by decide +kernel
theorem dX6_instruction_283 : decode cX6_instruction 283 = .ok (.aload_n 2, 1) := by decide +kernel
theorem dX6_instruction_284 : decode cX6_instruction 284 = .ok (.invokevirtual 100, 3) := by decide +kernel
theorem dX6_instruction_287 : decode cX6_instruction 287 = .ok (.goto 30, 3) := by decide +kernel
theorem dX6_instruction_290 : decode cX6_instruction 290 = .ok (.aload_n 2, 1) := by decide +kernel
theorem dX6_instruction_291 : decode cX6_instruction 291 = .ok (.aload_n 1, 1) := by decide +kernel
theorem dX6_instruction_292 : decode cX6_instruction 292 = .ok (.getfield 94, 3) := by decide +kernel
theorem dX6_instruction_295 : decode cX6_instruction 295 = .ok (.bipush 8, 2) := by decide +kernel
theorem dX6_instruction_297 : decode cX6_instruction 297 = .ok (.aload_n 0, 1) := by decide +kernel
theorem dX6_instruction_298 : decode cX6_instruction 298 = .ok (.invokevirtual 164, 3) := by decide +kernel
theorem dX6_instruction_301 : decode cX6_instruction 301 = .ok (.imul, 1) := by decide +kernel
theorem dX6_instruction_302 : decode cX6_instruction 302 = .ok (.iadd, 1) := by decide +kernel
theorem dX6_instruction_303 : decode cX6_instruction 303 = .ok (.putfield 97, 3) := by decide +kernel
theorem dX6_instruction_306 : decode cX6_instruction 306 = .ok (.goto 11, 3) := by decide +kernel
theorem dX6_instruction_309 : decode cX6_instruction 309 = .ok (.aload_n 2, 1) := by decide +kernel
theorem dX6_instruction_310 : decode cX6_instruction 310 = .ok (.aload_n 1, 1) := by decide +kernel
theorem dX6_instruction_311 : decode cX6_instruction 311 = .ok (.getfield 94, 3) := by decide +kernel
theorem dX6_instruction_314 : decode cX6_instruction 314 = .ok (.putfield 97, 3) := by decide +kernel
theorem dX6_instruction_317 : decode cX6_instruction 317 = .ok (.return_, 1) := by decide +kernel
theorem dX6_firstRegister_0 : decode cX6_firstRegister 0 = .ok (.aload_n 0, 1) := by decide +kernel
theorem dX6_firstRegister_1 : decode cX6_firstRegister 1 = .ok (.getfield 12, 3) := by decide +kernel
theorem dX6_firstRegister_4 : decode cX6_firstRegister 4 = .ok (.invokevirtual 167, 3) := by decide +kernel
theorem dX6_firstRegister_7 : decode cX6_firstRegister 7 = .ok (.istore_n 1, 1) := by decide +kernel
theorem dX6_firstRegister_8 : decode cX6_firstRegister 8 = .ok (.aload_n 0, 1) := by decide +kernel
theorem dX6_firstRegister_9 : decode cX6_firstRegister 9 = .ok (.getfield 12, 3) := by decide +kernel
theorem dX6_firstRegister_12 : decode cX6_firstRegister 12 = .ok (.bipush 44, 2) := by decide +kernel
theorem dX6_firstRegister_14 : decode cX6_firstRegister 14 = .ok (.invokevirtual 170, 3) := by decide +kernel
theorem dX6_firstRegister_17 : decode cX6_firstRegister 17 = .ok (.iload_n 1, 1) := by decide +kernel
theorem dX6_firstRegister_18 : decode cX6_firstRegister 18 = .ok (.ireturn, 1) := by decide +kernel
theorem dX6_move_0 : decode cX6_move 0 = .ok (.aload_n 0, 1) := by decide +kernel
theorem dX6_move_1 : decode cX6_move 1 = .ok (.invokevirtual 140, 3) := by decide +kernel
theorem dX6_move_4 : decode cX6_move 4 = .ok (.istore_n 2, 1) := by decide +kernel
theorem dX6_move_5 : decode cX6_move 5 = .ok (.aload_n 0, 1) := by decide +kernel
theorem dX6_move_6 : decode cX6_move 6 = .ok (.getfield 12, 3) := by decide +kernel
theorem dX6_move_9 : decode cX6_move 9 = .ok (.bipush 35, 2) := by decide +kernel
theorem dX6_move_11 : decode cX6_move 11 = .ok (.invokevirtual 77, 3) := by decide +kernel
theorem dX6_move_14 : decode cX6_move 14 = .ok (.ifCond .eq 26, 3) := by decide +kernel
theorem dX6_move_17 : decode cX6_move 17 = .ok (.aload_n 1, 1) := by decide +kernel
theorem dX6_move_18 : decode cX6_move 18 = .ok (.getfield 150, 3) := by decide +kernel
theorem dX6_move_21 : decode cX6_move 21 = .ok (.sipush 256, 3) := by decide +kernel
theorem dX6_move_24 : decode cX6_move 24 = .ok (.iload_n 2, 1) := by decide +kernel
theorem dX6_move_25 : decode cX6_move 25 = .ok (.imul, 1) := by decide +kernel
theorem dX6_move_26 : decode cX6_move 26 = .ok (.iadd, 1) := by decide +kernel
theorem dX6_move_27 : decode cX6_move 27 = .ok (.aload_n 0, 1) := by decide +kernel
theorem dX6_move_28 : decode cX6_move 28 = .ok (.getfield 12, 3) := by decide +kernel
theorem dX6_move_31 : decode cX6_move 31 = .ok (.iconst 0, 1) := by decide +kernel
theorem dX6_move_32 : decode cX6_move 32 = .ok (.sipush 255, 3) := by decide +kernel
theorem dX6_move_35 : decode cX6_move 35 = .ok (.invokevirtual 109, 3) := by decide +kernel
theorem dX6_move_38 : decode cX6_move 38 = .ok (.iadd, 1) := by decide +kernel
theorem dX6_move_39 : decode cX6_move 39 = .ok (.ireturn, 1) := by decide +kernel
theorem dX6_move_40 : decode cX6_move 40 = .ok (.aload_n 1, 1) := by decide +kernel
theorem dX6_move_41 : decode cX6_move 41 = .ok (.getfield 94, 3) := by decide +kernel
theorem dX6_move_44 : decode cX6_move 44 = .ok (.bipush 8, 2) := by decide +kernel
theorem dX6_move_46 : decode cX6_move 46 = .ok (.aload_n 0, 1) := by decide +kernel
theorem dX6_move_47 : decode cX6_move 47 = .ok (.getfield 12, 3) := by decide +kernel
theorem dX6_move_50 : decode cX6_move 50 = .ok (.invokevirtual 167, 3) := by decide +kernel
theorem dX6_move_53 : decode cX6_move 53 = .ok (.imul, 1) := by decide +kernel
theorem dX6_move_54 : decode cX6_move 54 = .ok (.iadd, 1) := by decide +kernel
theorem dX6_move_55 : decode cX6_move 55 = .ok (.iload_n 2, 1) := by decide +kernel
theorem dX6_move_56 : decode cX6_move 56 = .ok (.iadd, 1) := by decide +kernel
theorem dX6_move_57 : decode cX6_move 57 = .ok (.ireturn, 1) := by decide +kernel
theorem dX6_sum_0 : decode cX6_sum 0 = .ok (.aload_n 0, 1) := by decide +kernel
theorem dX6_sum_1 : decode cX6_sum 1 = .ok (.invokevirtual 140, 3) := by decide +kernel
theorem dX6_sum_4 : decode cX6_sum 4 = .ok (.istore_n 2, 1) := by decide +kernel
theorem dX6_sum_5 : decode cX6_sum 5 = .ok (.aload_n 0, 1) := by decide +kernel
theorem dX6_sum_6 : decode cX6_sum 6 = .ok (.getfield 12, 3) := by decide +kernel
theorem dX6_sum_9 : decode cX6_sum 9 = .ok (.bipush 35, 2) := by decide +kernel
theorem dX6_sum_11 : decode cX6_sum 11 = .ok (.invokevirtual 77, 3) := by decide +kernel
theorem dX6_sum_14 : decode cX6_sum 14 = .ok (.ifCond .eq 26, 3) := by decide +kernel
theorem dX6_sum_17 : decode cX6_sum 17 = .ok (.aload_n 1, 1) := by decide +kernel
theorem dX6_sum_18 : decode cX6_sum 18 = .ok (.getfield 150, 3) := by decide +kernel
theorem dX6_sum_21 : decode cX6_sum 21 = .ok (.sipush 256, 3) := by decide +kernel
theorem dX6_sum_24 : decode cX6_sum 24 = .ok (.iload_n 2, 1) := by decide +kernel
theorem dX6_sum_25 : decode cX6_sum 25 = .ok (.imul, 1) := by decide +kernel
theorem dX6_sum_26 : decode cX6_sum 26 = .ok (.iadd, 1) := by decide +kernel
theorem dX6_sum_27 : decode cX6_sum 27 = .ok (.aload_n 0, 1) := by decide +kernel
theorem dX6_sum_28 : decode cX6_sum 28 = .ok (.getfield 12, 3) := by decide +kernel
theorem dX6_sum_31 : decode cX6_sum 31 = .ok (.iconst 0, 1) := by decide +kernel
theorem dX6_sum_32 : decode cX6_sum 32 = .ok (.sipush 255, 3) := by decide +kernel
theorem dX6_sum_35 : decode cX6_sum 35 = .ok (.invokevirtual 109, 3) := by decide +kernel
theorem dX6_sum_38 : decode cX6_sum 38 = .ok (.iadd, 1) := by decide +kernel
theorem dX6_sum_39 : decode cX6_sum 39 = .ok (.ireturn, 1) := by decide +kernel
theorem dX6_sum_40 : decode cX6_sum 40 = .ok (.aload_n 0, 1) := by decide +kernel
theorem dX6_sum_41 : decode cX6_sum 41 = .ok (.getfield 12, 3) := by decide +kernel
theorem dX6_sum_44 : decode cX6_sum 44 = .ok (.invokevirtual 167, 3) := by decide +kernel
theorem dX6_sum_47 : decode cX6_sum 47 = .ok (.istore_n 3, 1) := by decide +kernel
theorem dX6_sum_48 : decode cX6_sum 48 = .ok (.aload_n 0, 1) := by decide +kernel
theorem dX6_sum_49 : decode cX6_sum 49 = .ok (.getfield 12, 3) := by decide +kernel
theorem dX6_sum_52 : decode cX6_sum 52 = .ok (.bipush 44, 2) := by decide +kernel
theorem dX6_sum_54 : decode cX6_sum 54 = .ok (.invokevirtual 170, 3) := by decide +kernel
theorem dX6_sum_57 : decode cX6_sum 57 = .ok (.aload_n 0, 1) := by decide +kernel
theorem dX6_sum_58 : decode cX6_sum 58 = .ok (.getfield 12, 3) := by decide +kernel
theorem dX6_sum_61 : decode cX6_sum 61 = .ok (.bipush 35, 2) := by decide +kernel
theorem dX6_sum_63 : decode cX6_sum 63 = .ok (.invokevirtual 77, 3) := by decide +kernel
theorem dX6_sum_66 : decode cX6_sum 66 = .ok (.ifCond .eq 33, 3) := by decide +kernel
theorem dX6_sum_69 : decode cX6_sum 69 = .ok (.aload_n 1, 1) := by decide +kernel
theorem dX6_sum_70 : decode cX6_sum 70 = .ok (.getfield 94, 3) := by decide +kernel
theorem dX6_sum_73 : decode cX6_sum 73 = .ok (.sipush 1024, 3) := by decide +kernel
theorem dX6_sum_76 : decode cX6_sum 76 = .ok (.iadd, 1) := by decide +kernel
theorem dX6_sum_77 : decode cX6_sum 77 = .ok (.bipush 64, 2) := by decide +kernel
theorem dX6_sum_79 : decode cX6_sum 79 = .ok (.aload_n 0, 1) := by decide +kernel
theorem dX6_sum_80 : decode cX6_sum 80 = .ok (.getfield 12, 3) := by decide +kernel
theorem dX6_sum_83 : decode cX6_sum 83 = .ok (.iconst 0, 1) := by decide +kernel
theorem dX6_sum_84 : decode cX6_sum 84 = .ok (.bipush 7, 2) := by decide +kernel
theorem dX6_sum_86 : decode cX6_sum 86 = .ok (.invokevirtual 109, 3) := by decide +kernel
theorem dX6_sum_89 : decode cX6_sum 89 = .ok (.imul, 1) := by decide +kernel
theorem dX6_sum_90 : decode cX6_sum 90 = .ok (.iadd, 1) := by decide +kernel
theorem dX6_sum_91 : decode cX6_sum 91 = .ok (.bipush 8, 2) := by decide +kernel
theorem dX6_sum_93 : decode cX6_sum 93 = .ok (.iload_n 3, 1) := by decide +kernel
theorem dX6_sum_94 : decode cX6_sum 94 = .ok (.imul, 1) := by decide +kernel
theorem dX6_sum_95 : decode cX6_sum 95 = .ok (.iadd, 1) := by decide +kernel
theorem dX6_sum_96 : decode cX6_sum 96 = .ok (.iload_n 2, 1) := by decide +kernel
theorem dX6_sum_97 : decode cX6_sum 97 = .ok (.iadd, 1) := by decide +kernel
theorem dX6_sum_98 : decode cX6_sum 98 = .ok (.ireturn, 1) := by decide +kernel
theorem dX6_sum_99 : decode cX6_sum 99 = .ok (.aload_n 1, 1) := by decide +kernel
theorem dX6_sum_100 : decode cX6_sum 100 = .ok (.getfield 94, 3) := by decide +kernel
theorem dX6_sum_103 : decode cX6_sum 103 = .ok (.bipush 64, 2) := by decide +kernel
theorem dX6_sum_105 : decode cX6_sum 105 = .ok (.aload_n 0, 1) := by decide +kernel
theorem dX6_sum_106 : decode cX6_sum 106 = .ok (.getfield 12, 3) := by decide +kernel
theorem dX6_sum_109 : decode cX6_sum 109 = .ok (.invokevirtual 167, 3) := by decide +kernel
theorem dX6_sum_112 : decode cX6_sum 112 = .ok (.imul, 1) := by decide +kernel
theorem dX6_sum_113 : decode cX6_sum 113 = .ok (.iadd, 1) := by decide +kernel
theorem dX6_sum_114 : decode cX6_sum 114 = .ok (.bipush 8, 2) := by decide +kernel
theorem dX6_sum_116 : decode cX6_sum 116 = .ok (.iload_n 3, 1) := by decide +kernel
theorem dX6_sum_117 : decode cX6_sum 117 = .ok (.imul, 1) := by decide +kernel
theorem dX6_sum_118 : decode cX6_sum 118 = .ok (.iadd, 1) := by decide +kernel
theorem dX6_sum_119 : decode cX6_sum 119 = .ok (.iload_n 2, 1) := by decide +kernel
theorem dX6_sum_120 : decode cX6_sum 120 = .ok (.iadd, 1) := by decide +kernel
theorem dX6_sum_121 : decode cX6_sum 121 = .ok (.ireturn, 1) := by decide +kernel
theorem dX6_shift_0 : decode cX6_shift 0 = .ok (.aload_n 0, 1) := by decide +kernel
theorem dX6_shift_1 : decode cX6_shift 1 = .ok (.invokevirtual 140, 3) := by decide +kernel
theorem dX6_shift_4 : decode cX6_shift 4 = .ok (.istore_n 2, 1) := by decide +kernel
theorem dX6_shift_5 : decode cX6_shift 5 = .ok (.aload_n 0, 1) := by decide +kernel
theorem dX6_shift_6 : decode cX6_shift 6 = .ok (.getfield 12, 3) := by decide +kernel
theorem dX6_shift_9 : decode cX6_shift 9 = .ok (.invokevirtual 167, 3) := by decide +kernel
theorem dX6_shift_12 : decode cX6_shift 12 = .ok (.istore_n 3, 1) := by decide +kernel
theorem dX6_shift_13 : decode cX6_shift 13 = .ok (.aload_n 0, 1) := by decide +kernel
theorem dX6_shift_14 : decode cX6_shift 14 = .ok (.getfield 12, 3) := by decide +kernel
theorem dX6_shift_17 : decode cX6_shift 17 = .ok (.bipush 44, 2) := by decide +kernel
theorem dX6_shift_19 : decode cX6_shift 19 = .ok (.invokevirtual 170, 3) := by decide +kernel
theorem dX6_shift_22 : decode cX6_shift 22 = .ok (.aload_n 0, 1) := by decide +kernel
theorem dX6_shift_23 : decode cX6_shift 23 = .ok (.getfield 12, 3) := by decide +kernel
theorem dX6_shift_26 : decode cX6_shift 26 = .ok (.bipush 35, 2) := by decide +kernel
theorem dX6_shift_28 : decode cX6_shift 28 = .ok (.invokevirtual 170, 3) := by decide +kernel
theorem dX6_shift_31 : decode cX6_shift 31 = .ok (.aload_n 0, 1) := by decide +kernel
theorem dX6_shift_32 : decode cX6_shift 32 = .ok (.getfield 12, 3) := by decide +kernel
theorem dX6_shift_35 : decode cX6_shift 35 = .ok (.aload_n 1, 1) := by decide +kernel
theorem dX6_shift_36 : decode cX6_shift 36 = .ok (.getfield 150, 3) := by decide +kernel
theorem dX6_shift_39 : decode cX6_shift 39 = .ok (.aload_n 1, 1) := by decide +kernel
theorem dX6_shift_40 : decode cX6_shift 40 = .ok (.getfield 150, 3) := by decide +kernel
theorem dX6_shift_43 : decode cX6_shift 43 = .ok (.bipush 31, 2) := by decide +kernel
theorem dX6_shift_45 : decode cX6_shift 45 = .ok (.iadd, 1) := by decide +kernel
theorem dX6_shift_46 : decode cX6_shift 46 = .ok (.invokevirtual 109, 3) := by decide +kernel
theorem dX6_shift_49 : decode cX6_shift 49 = .ok (.istore 4, 2) := by decide +kernel
theorem dX6_shift_51 : decode cX6_shift 51 = .ok (.aload_n 1, 1) := by decide +kernel
theorem dX6_shift_52 : decode cX6_shift 52 = .ok (.getfield 94, 3) := by decide +kernel
theorem dX6_shift_55 : decode cX6_shift 55 = .ok (.bipush 64, 2) := by decide +kernel
theorem dX6_shift_57 : decode cX6_shift 57 = .ok (.iload 4, 2) := by decide +kernel
theorem dX6_shift_59 : decode cX6_shift 59 = .ok (.bipush 31, 2) := by decide +kernel
theorem dX6_shift_61 : decode cX6_shift 61 = .ok (.iand, 1) := by decide +kernel
theorem dX6_shift_62 : decode cX6_shift 62 = .ok (.imul, 1) := by decide +kernel
theorem dX6_shift_63 : decode cX6_shift 63 = .ok (.iadd, 1) := by decide +kernel
theorem dX6_shift_64 : decode cX6_shift 64 = .ok (.bipush 8, 2) := by decide +kernel
theorem dX6_shift_66 : decode cX6_shift 66 = .ok (.iload_n 3, 1) := by decide +kernel
theorem dX6_shift_67 : decode cX6_shift 67 = .ok (.imul, 1) := by decide +kernel
theorem dX6_shift_68 : decode cX6_shift 68 = .ok (.iadd, 1) := by decide +kernel
theorem dX6_shift_69 : decode cX6_shift 69 = .ok (.iload_n 2, 1) := by decide +kernel
theorem dX6_shift_70 : decode cX6_shift 70 = .ok (.iadd, 1) := by decide +kernel
theorem dX6_shift_71 : decode cX6_shift 71 = .ok (.ireturn, 1) := by decide +kernel
theorem dX6_pair_0 : decode cX6_pair 0 = .ok (.aload_n 0, 1) := by decide +kernel
theorem dX6_pair_1 : decode cX6_pair 1 = .ok (.invokevirtual 140, 3) := by decide +kernel
theorem dX6_pair_4 : decode cX6_pair 4 = .ok (.istore_n 2, 1) := by decide +kernel
theorem dX6_pair_5 : decode cX6_pair 5 = .ok (.aload_n 1, 1) := by decide +kernel
theorem dX6_pair_6 : decode cX6_pair 6 = .ok (.getfield 94, 3) := by decide +kernel
theorem dX6_pair_9 : decode cX6_pair 9 = .ok (.bipush 8, 2) := by decide +kernel
theorem dX6_pair_11 : decode cX6_pair 11 = .ok (.aload_n 0, 1) := by decide +kernel
theorem dX6_pair_12 : decode cX6_pair 12 = .ok (.getfield 12, 3) := by decide +kernel
theorem dX6_pair_15 : decode cX6_pair 15 = .ok (.invokevirtual 167, 3) := by decide +kernel
theorem dX6_pair_18 : decode cX6_pair 18 = .ok (.imul, 1) := by decide +kernel
theorem dX6_pair_19 : decode cX6_pair 19 = .ok (.iadd, 1) := by decide +kernel
theorem dX6_pair_20 : decode cX6_pair 20 = .ok (.iload_n 2, 1) := by decide +kernel
theorem dX6_pair_21 : decode cX6_pair 21 = .ok (.iadd, 1) := by decide +kernel
theorem dX6_pair_22 : decode cX6_pair 22 = .ok (.ireturn, 1) := by decide +kernel
theorem dX6_memory_0 : decode cX6_memory 0 = .ok (.aload_n 0, 1) := by decide +kernel
theorem dX6_memory_1 : decode cX6_memory 1 = .ok (.getfield 12, 3) := by decide +kernel
theorem dX6_memory_4 : decode cX6_memory 4 = .ok (.bipush 91, 2) := by decide +kernel
theorem dX6_memory_6 : decode cX6_memory 6 = .ok (.invokevirtual 170, 3) := by decide +kernel
theorem dX6_memory_9 : decode cX6_memory 9 = .ok (.aload_n 0, 1) := by decide +kernel
theorem dX6_memory_10 : decode cX6_memory 10 = .ok (.getfield 12, 3) := by decide +kernel
theorem dX6_memory_13 : decode cX6_memory 13 = .ok (.invokevirtual 167, 3) := by decide +kernel
theorem dX6_memory_16 : decode cX6_memory 16 = .ok (.istore_n 2, 1) := by decide +kernel
theorem dX6_memory_17 : decode cX6_memory 17 = .ok (.aload_n 0, 1) := by decide +kernel
theorem dX6_memory_18 : decode cX6_memory 18 = .ok (.getfield 12, 3) := by decide +kernel
theorem dX6_memory_21 : decode cX6_memory 21 = .ok (.bipush 44, 2) := by decide +kernel
theorem dX6_memory_23 : decode cX6_memory 23 = .ok (.invokevirtual 170, 3) := by decide +kernel
theorem dX6_memory_26 : decode cX6_memory 26 = .ok (.aload_n 0, 1) := by decide +kernel
theorem dX6_memory_27 : decode cX6_memory 27 = .ok (.getfield 12, 3) := by decide +kernel
theorem dX6_memory_30 : decode cX6_memory 30 = .ok (.bipush 35, 2) := by decide +kernel
theorem dX6_memory_32 : decode cX6_memory 32 = .ok (.invokevirtual 170, 3) := by decide +kernel
theorem dX6_memory_35 : decode cX6_memory 35 = .ok (.aload_n 0, 1) := by decide +kernel
theorem dX6_memory_36 : decode cX6_memory 36 = .ok (.getfield 12, 3) := by decide +kernel
theorem dX6_memory_39 : decode cX6_memory 39 = .ok (.getfield 35, 3) := by decide +kernel
theorem dX6_memory_42 : decode cX6_memory 42 = .ok (.istore_n 3, 1) := by decide +kernel
theorem dX6_memory_43 : decode cX6_memory 43 = .ok (.aload_n 0, 1) := by decide +kernel
theorem dX6_memory_44 : decode cX6_memory 44 = .ok (.getfield 12, 3) := by decide +kernel
theorem dX6_memory_47 : decode cX6_memory 47 = .ok (.iconst 0, 1) := by decide +kernel
theorem dX6_memory_48 : decode cX6_memory 48 = .ok (.bipush 31, 2) := by decide +kernel
theorem dX6_memory_50 : decode cX6_memory 50 = .ok (.iload_n 1, 1) := by decide +kernel
theorem dX6_memory_51 : decode cX6_memory 51 = .ok (.ishl, 1) := by decide +kernel
theorem dX6_memory_52 : decode cX6_memory 52 = .ok (.invokevirtual 109, 3) := by decide +kernel
theorem dX6_memory_55 : decode cX6_memory 55 = .ok (.istore 4, 2) := by decide +kernel
theorem dX6_memory_57 : decode cX6_memory 57 = .ok (.iload 4, 2) := by decide +kernel
theorem dX6_memory_59 : decode cX6_memory 59 = .ok (.iload_n 1, 1) := by decide +kernel
theorem dX6_memory_60 : decode cX6_memory 60 = .ok (.ishr, 1) := by decide +kernel
theorem dX6_memory_61 : decode cX6_memory 61 = .ok (.iload_n 1, 1) := by decide +kernel
theorem dX6_memory_62 : decode cX6_memory 62 = .ok (.ishl, 1) := by decide +kernel
theorem dX6_memory_63 : decode cX6_memory 63 = .ok (.iload 4, 2) := by decide +kernel
theorem dX6_memory_65 : decode cX6_memory 65 = .ok (.if_icmp .eq 13, 3) := by decide +kernel
theorem dX6_memory_68 : decode cX6_memory 68 = .ok (.aload_n 0, 1) := by decide +kernel
theorem dX6_memory_69 : decode cX6_memory 69 = .ok (.getfield 12, 3) := by decide +kernel
theorem dX6_memory_72 : decode cX6_memory 72 = .ok (.bipush (-4), 2) := by decide +kernel
theorem dX6_memory_74 : decode cX6_memory 74 = .ok (.iload_n 3, 1) := by decide +kernel
theorem dX6_memory_75 : decode cX6_memory 75 = .ok (.invokevirtual 46, 3) := by decide +kernel
theorem dX6_memory_78 : decode cX6_memory 78 = .ok (.aload_n 0, 1) := by decide +kernel
theorem dX6_memory_79 : decode cX6_memory 79 = .ok (.getfield 12, 3) := by decide +kernel
theorem dX6_memory_82 : decode cX6_memory 82 = .ok (.bipush 93, 2) := by decide +kernel
theorem dX6_memory_84 : decode cX6_memory 84 = .ok (.invokevirtual 170, 3) := by decide +kernel
theorem dX6_memory_87 : decode cX6_memory 87 = .ok (.bipush 64, 2) := by decide +kernel
theorem dX6_memory_89 : decode cX6_memory 89 = .ok (.iload 4, 2) := by decide +kernel
theorem dX6_memory_91 : decode cX6_memory 91 = .ok (.iload_n 1, 1) := by decide +kernel
theorem dX6_memory_92 : decode cX6_memory 92 = .ok (.ishr, 1) := by decide +kernel
theorem dX6_memory_93 : decode cX6_memory 93 = .ok (.imul, 1) := by decide +kernel
theorem dX6_memory_94 : decode cX6_memory 94 = .ok (.bipush 8, 2) := by decide +kernel
theorem dX6_memory_96 : decode cX6_memory 96 = .ok (.iload_n 2, 1) := by decide +kernel
theorem dX6_memory_97 : decode cX6_memory 97 = .ok (.imul, 1) := by decide +kernel
theorem dX6_memory_98 : decode cX6_memory 98 = .ok (.iadd, 1) := by decide +kernel
theorem dX6_memory_99 : decode cX6_memory 99 = .ok (.ireturn, 1) := by decide +kernel
theorem dX6_list_0 : decode cX6_list 0 = .ok (.iconst 0, 1) := by decide +kernel
theorem dX6_list_1 : decode cX6_list 1 = .ok (.istore_n 2, 1) := by decide +kernel
theorem dX6_list_2 : decode cX6_list 2 = .ok (.iconst (-1), 1) := by decide +kernel
theorem dX6_list_3 : decode cX6_list 3 = .ok (.istore_n 3, 1) := by decide +kernel
theorem dX6_list_4 : decode cX6_list 4 = .ok (.iconst 1, 1) := by decide +kernel
theorem dX6_list_5 : decode cX6_list 5 = .ok (.istore 4, 2) := by decide +kernel
theorem dX6_list_7 : decode cX6_list 7 = .ok (.aload_n 0, 1) := by decide +kernel
theorem dX6_list_8 : decode cX6_list 8 = .ok (.getfield 12, 3) := by decide +kernel
theorem dX6_list_11 : decode cX6_list 11 = .ok (.bipush 123, 2) := by decide +kernel
theorem dX6_list_13 : decode cX6_list 13 = .ok (.invokevirtual 170, 3) := by decide +kernel
theorem dX6_list_16 : decode cX6_list 16 = .ok (.iconst 0, 1) := by decide +kernel
theorem dX6_list_17 : decode cX6_list 17 = .ok (.istore 5, 2) := by decide +kernel
theorem dX6_list_19 : decode cX6_list 19 = .ok (.iload 5, 2) := by decide +kernel
theorem dX6_list_21 : decode cX6_list 21 = .ok (.bipush 9, 2) := by decide +kernel
theorem dX6_list_23 : decode cX6_list 23 = .ok (.if_icmp .ge 109, 3) := by decide +kernel
theorem dX6_list_26 : decode cX6_list 26 = .ok (.iload 4, 2) := by decide +kernel
theorem dX6_list_28 : decode cX6_list 28 = .ok (.ifCond .eq 104, 3) := by decide +kernel
theorem dX6_list_31 : decode cX6_list 31 = .ok (.aload_n 0, 1) := by decide +kernel
theorem dX6_list_32 : decode cX6_list 32 = .ok (.getfield 12, 3) := by decide +kernel
theorem dX6_list_35 : decode cX6_list 35 = .ok (.invokevirtual 174, 3) := by decide +kernel
theorem dX6_list_38 : decode cX6_list 38 = .ok (.istore 6, 2) := by decide +kernel
theorem dX6_list_40 : decode cX6_list 40 = .ok (.aload_n 0, 1) := by decide +kernel
theorem dX6_list_41 : decode cX6_list 41 = .ok (.getfield 12, 3) := by decide +kernel
theorem dX6_list_44 : decode cX6_list 44 = .ok (.aload_n 1, 1) := by decide +kernel
theorem dX6_list_45 : decode cX6_list 45 = .ok (.invokevirtual 177, 3) := by decide +kernel
theorem dX6_list_48 : decode cX6_list 48 = .ok (.ifCond .eq 22, 3) := by decide +kernel
theorem dX6_list_51 : decode cX6_list 51 = .ok (.iinc 2 256, 6) := by decide +kernel
theorem dX6_list_57 : decode cX6_list 57 = .ok (.aload_n 0, 1) := by decide +kernel
theorem dX6_list_58 : decode cX6_list 58 = .ok (.getfield 12, 3) := by decide +kernel
theorem dX6_list_61 : decode cX6_list 61 = .ok (.invokevirtual 55, 3) := by decide +kernel
theorem dX6_list_64 : decode cX6_list 64 = .ok (.iconst 0, 1) := by decide +kernel
theorem dX6_list_65 : decode cX6_list 65 = .ok (.istore 4, 2) := by decide +kernel
theorem dX6_list_67 : decode cX6_list 67 = .ok (.goto 59, 3) := by decide +kernel
theorem dX6_list_70 : decode cX6_list 70 = .ok (.iload 6, 2) := by decide +kernel
theorem dX6_list_72 : decode cX6_list 72 = .ok (.iload_n 3, 1) := by decide +kernel
theorem dX6_list_73 : decode cX6_list 73 = .ok (.if_icmp .le 34, 3) := by decide +kernel
theorem dX6_list_76 : decode cX6_list 76 = .ok (.iload_n 2, 1) := by decide +kernel
theorem dX6_list_77 : decode cX6_list 77 = .ok (.iconst 1, 1) := by decide +kernel
theorem dX6_list_78 : decode cX6_list 78 = .ok (.iload 6, 2) := by decide +kernel
theorem dX6_list_80 : decode cX6_list 80 = .ok (.ishl, 1) := by decide +kernel
theorem dX6_list_81 : decode cX6_list 81 = .ok (.iadd, 1) := by decide +kernel
theorem dX6_list_82 : decode cX6_list 82 = .ok (.istore_n 2, 1) := by decide +kernel
theorem dX6_list_83 : decode cX6_list 83 = .ok (.iload 6, 2) := by decide +kernel
theorem dX6_list_85 : decode cX6_list 85 = .ok (.istore_n 3, 1) := by decide +kernel
theorem dX6_list_86 : decode cX6_list 86 = .ok (.aload_n 0, 1) := by decide +kernel
theorem dX6_list_87 : decode cX6_list 87 = .ok (.getfield 12, 3) := by decide +kernel
theorem dX6_list_90 : decode cX6_list 90 = .ok (.invokevirtual 55, 3) := by decide +kernel
theorem dX6_list_93 : decode cX6_list 93 = .ok (.aload_n 0, 1) := by decide +kernel
theorem dX6_list_94 : decode cX6_list 94 = .ok (.getfield 12, 3) := by decide +kernel
theorem dX6_list_97 : decode cX6_list 97 = .ok (.bipush 44, 2) := by decide +kernel
theorem dX6_list_99 : decode cX6_list 99 = .ok (.invokevirtual 77, 3) := by decide +kernel
theorem dX6_list_102 : decode cX6_list 102 = .ok (.istore 4, 2) := by decide +kernel
theorem dX6_list_104 : decode cX6_list 104 = .ok (.goto 22, 3) := by decide +kernel
theorem dX6_list_107 : decode cX6_list 107 = .ok (.aload_n 0, 1) := by decide +kernel
theorem dX6_list_108 : decode cX6_list 108 = .ok (.getfield 12, 3) := by decide +kernel
theorem dX6_list_111 : decode cX6_list 111 = .ok (.bipush (-3), 2) := by decide +kernel
theorem dX6_list_113 : decode cX6_list 113 = .ok (.aload_n 0, 1) := by decide +kernel
theorem dX6_list_114 : decode cX6_list 114 = .ok (.getfield 12, 3) := by decide +kernel
theorem dX6_list_117 : decode cX6_list 117 = .ok (.getfield 35, 3) := by decide +kernel
theorem dX6_list_120 : decode cX6_list 120 = .ok (.invokevirtual 46, 3) := by decide +kernel
theorem dX6_list_123 : decode cX6_list 123 = .ok (.iconst 0, 1) := by decide +kernel
theorem dX6_list_124 : decode cX6_list 124 = .ok (.istore 4, 2) := by decide +kernel
theorem dX6_list_126 : decode cX6_list 126 = .ok (.iinc 5 1, 3) := by decide +kernel
theorem dX6_list_129 : decode cX6_list 129 = .ok (.goto (-110), 3) := by decide +kernel
theorem dX6_list_132 : decode cX6_list 132 = .ok (.aload_n 0, 1) := by decide +kernel
theorem dX6_list_133 : decode cX6_list 133 = .ok (.getfield 12, 3) := by decide +kernel
theorem dX6_list_136 : decode cX6_list 136 = .ok (.bipush 125, 2) := by decide +kernel
theorem dX6_list_138 : decode cX6_list 138 = .ok (.invokevirtual 170, 3) := by decide +kernel
theorem dX6_list_141 : decode cX6_list 141 = .ok (.iload_n 2, 1) := by decide +kernel
theorem dX6_list_142 : decode cX6_list 142 = .ok (.ireturn, 1) := by decide +kernel
theorem dX6_exchanged_0 : decode cX6_exchanged 0 = .ok (.aload_n 0, 1) := by decide +kernel
theorem dX6_exchanged_1 : decode cX6_exchanged 1 = .ok (.getfield 12, 3) := by decide +kernel
theorem dX6_exchanged_4 : decode cX6_exchanged 4 = .ok (.ldc 156, 2) := by decide +kernel
theorem dX6_exchanged_6 : decode cX6_exchanged 6 = .ok (.invokevirtual 177, 3) := by decide +kernel
theorem dX6_exchanged_9 : decode cX6_exchanged 9 = .ok (.ifCond .eq 13, 3) := by decide +kernel
theorem dX6_exchanged_12 : decode cX6_exchanged 12 = .ok (.aload_n 0, 1) := by decide +kernel
theorem dX6_exchanged_13 : decode cX6_exchanged 13 = .ok (.getfield 12, 3) := by decide +kernel
theorem dX6_exchanged_16 : decode cX6_exchanged 16 = .ok (.invokevirtual 55, 3) := by decide +kernel
theorem dX6_exchanged_19 : decode cX6_exchanged 19 = .ok (.bipush 14, 2) := by decide +kernel
theorem dX6_exchanged_21 : decode cX6_exchanged 21 = .ok (.ireturn, 1) := by decide +kernel
theorem dX6_exchanged_22 : decode cX6_exchanged 22 = .ok (.aload_n 0, 1) := by decide +kernel
theorem dX6_exchanged_23 : decode cX6_exchanged 23 = .ok (.getfield 12, 3) := by decide +kernel
theorem dX6_exchanged_26 : decode cX6_exchanged 26 = .ok (.invokevirtual 167, 3) := by decide +kernel
theorem dX6_exchanged_29 : decode cX6_exchanged 29 = .ok (.ireturn, 1) := by decide +kernel
theorem dX7_init_0 : decode cX7_init 0 = .ok (.aload_n 0, 1) := by decide +kernel
theorem dX7_init_1 : decode cX7_init 1 = .ok (.invokespecial 3, 3) := by decide +kernel
theorem dX7_init_4 : decode cX7_init 4 = .ok (.aload_n 0, 1) := by decide +kernel
theorem dX7_init_5 : decode cX7_init 5 = .ok (.new 9, 3) := by decide +kernel
theorem dX7_init_8 : decode cX7_init 8 = .ok (.dup, 1) := by decide +kernel
theorem dX7_init_9 : decode cX7_init 9 = .ok (.invokespecial 11, 3) := by decide +kernel
theorem dX7_init_12 : decode cX7_init 12 = .ok (.putfield 12, 3) := by decide +kernel
theorem dX7_init_15 : decode cX7_init 15 = .ok (.return_, 1) := by decide +kernel
theorem dX7_begin_0 : decode cX7_begin 0 = .ok (.aload_n 0, 1) := by decide +kernel
theorem dX7_begin_1 : decode cX7_begin 1 = .ok (.aload_n 1, 1) := by decide +kernel
theorem dX7_begin_2 : decode cX7_begin 2 = .ok (.putfield 12, 3) := by decide +kernel
theorem dX7_begin_5 : decode cX7_begin 5 = .ok (.aload_n 0, 1) := by decide +kernel
theorem dX7_begin_6 : decode cX7_begin 6 = .ok (.iconst 0, 1) := by decide +kernel
theorem dX7_begin_7 : decode cX7_begin 7 = .ok (.putfield 18, 3) := by decide +kernel
theorem dX7_begin_10 : decode cX7_begin 10 = .ok (.aload_n 0, 1) := by decide +kernel
theorem dX7_begin_11 : decode cX7_begin 11 = .ok (.iconst 0, 1) := by decide +kernel
theorem dX7_begin_12 : decode cX7_begin 12 = .ok (.putfield 22, 3) := by decide +kernel
theorem dX7_begin_15 : decode cX7_begin 15 = .ok (.aload_n 0, 1) := by decide +kernel
theorem dX7_begin_16 : decode cX7_begin 16 = .ok (.iconst 0, 1) := by decide +kernel
theorem dX7_begin_17 : decode cX7_begin 17 = .ok (.putfield 25, 3) := by decide +kernel
theorem dX7_begin_20 : decode cX7_begin 20 = .ok (.aload_n 0, 1) := by decide +kernel
theorem dX7_begin_21 : decode cX7_begin 21 = .ok (.invokevirtual 28, 3) := by decide +kernel
theorem dX7_begin_24 : decode cX7_begin 24 = .ok (.return_, 1) := by decide +kernel
theorem dX7_step_0 : decode cX7_step 0 = .ok (.aload_n 0, 1) := by decide +kernel
theorem dX7_step_1 : decode cX7_step 1 = .ok (.aload_n 0, 1) := by decide +kernel
theorem dX7_step_2 : decode cX7_step 2 = .ok (.getfield 18, 3) := by decide +kernel
theorem dX7_step_5 : decode cX7_step 5 = .ok (.putfield 31, 3) := by decide +kernel
theorem dX7_step_8 : decode cX7_step 8 = .ok (.aload_n 0, 1) := by decide +kernel
theorem dX7_step_9 : decode cX7_step 9 = .ok (.getfield 31, 3) := by decide +kernel
theorem dX7_step_12 : decode cX7_step 12 = .ok (.aload_n 0, 1) := by decide +kernel
theorem dX7_step_13 : decode cX7_step 13 = .ok (.getfield 12, 3) := by decide +kernel
theorem dX7_step_16 : decode cX7_step 16 = .ok (.getfield 34, 3) := by decide +kernel
theorem dX7_step_19 : decode cX7_step 19 = .ok (.if_icmp .ge 33, 3) := by decide +kernel
theorem dX7_step_22 : decode cX7_step 22 = .ok (.aload_n 0, 1) := by decide +kernel
theorem dX7_step_23 : decode cX7_step 23 = .ok (.getfield 12, 3) := by decide +kernel
theorem dX7_step_26 : decode cX7_step 26 = .ok (.getfield 37, 3) := by decide +kernel
theorem dX7_step_29 : decode cX7_step 29 = .ok (.aload_n 0, 1) := by decide +kernel
theorem dX7_step_30 : decode cX7_step 30 = .ok (.getfield 31, 3) := by decide +kernel
theorem dX7_step_33 : decode cX7_step 33 = .ok (.caload, 1) := by decide +kernel
theorem dX7_step_34 : decode cX7_step 34 = .ok (.bipush 32, 2) := by decide +kernel
theorem dX7_step_36 : decode cX7_step 36 = .ok (.if_icmp .ne 16, 3) := by decide +kernel
theorem dX7_step_39 : decode cX7_step 39 = .ok (.aload_n 0, 1) := by decide +kernel
theorem dX7_step_40 : decode cX7_step 40 = .ok (.dup, 1) := by decide +kernel
theorem dX7_step_41 : decode cX7_step 41 = .ok (.getfield 31, 3) := by decide +kernel
theorem dX7_step_44 : decode cX7_step 44 = .ok (.iconst 1, 1) := by decide +kernel
theorem dX7_step_45 : decode cX7_step 45 = .ok (.iadd, 1) := by decide +kernel
theorem dX7_step_46 : decode cX7_step 46 = .ok (.putfield 31, 3) := by decide +kernel
theorem dX7_step_49 : decode cX7_step 49 = .ok (.goto (-41), 3) := by decide +kernel
theorem dX7_step_52 : decode cX7_step 52 = .ok (.aload_n 0, 1) := by decide +kernel
theorem dX7_step_53 : decode cX7_step 53 = .ok (.aload_n 0, 1) := by decide +kernel
theorem dX7_step_54 : decode cX7_step 54 = .ok (.getfield 31, 3) := by decide +kernel
theorem dX7_step_57 : decode cX7_step 57 = .ok (.putfield 18, 3) := by decide +kernel
theorem dX7_step_60 : decode cX7_step 60 = .ok (.aload_n 0, 1) := by decide +kernel
theorem dX7_step_61 : decode cX7_step 61 = .ok (.getfield 31, 3) := by decide +kernel
theorem dX7_step_64 : decode cX7_step 64 = .ok (.aload_n 0, 1) := by decide +kernel
theorem dX7_step_65 : decode cX7_step 65 = .ok (.getfield 12, 3) := by decide +kernel
theorem dX7_step_68 : decode cX7_step 68 = .ok (.getfield 34, 3) := by decide +kernel
theorem dX7_step_71 : decode cX7_step 71 = .ok (.if_icmp .lt 4, 3) := by decide +kernel
theorem dX7_step_74 : decode cX7_step 74 = .ok (.return_, 1) := by decide +kernel
theorem dX7_step_75 : decode cX7_step 75 = .ok (.aload_n 0, 1) := by decide +kernel
theorem dX7_step_76 : decode cX7_step 76 = .ok (.getfield 12, 3) := by decide +kernel
theorem dX7_step_79 : decode cX7_step 79 = .ok (.getfield 37, 3) := by decide +kernel
theorem dX7_step_82 : decode cX7_step 82 = .ok (.aload_n 0, 1) := by decide +kernel
theorem dX7_step_83 : decode cX7_step 83 = .ok (.getfield 31, 3) := by decide +kernel
theorem dX7_step_86 : decode cX7_step 86 = .ok (.caload, 1) := by decide +kernel
theorem dX7_step_87 : decode cX7_step 87 = .ok (.istore_n 1, 1) := by decide +kernel
theorem dX7_step_88 : decode cX7_step 88 = .ok (.aload_n 0, 1) := by decide +kernel
theorem dX7_step_89 : decode cX7_step 89 = .ok (.dup, 1) := by decide +kernel
theorem dX7_step_90 : decode cX7_step 90 = .ok (.getfield 18, 3) := by decide +kernel
theorem dX7_step_93 : decode cX7_step 93 = .ok (.iconst 1, 1) := by decide +kernel
theorem dX7_step_94 : decode cX7_step 94 = .ok (.iadd, 1) := by decide +kernel
theorem dX7_step_95 : decode cX7_step 95 = .ok (.putfield 18, 3) := by decide +kernel
theorem dX7_step_98 : decode cX7_step 98 = .ok (.iload_n 1, 1) := by decide +kernel
theorem dX7_step_99 : decode cX7_step 99 = .ok (.bipush 46, 2) := by decide +kernel
theorem dX7_step_101 : decode cX7_step 101 = .ok (.if_icmp .ne 48, 3) := by decide +kernel
theorem dX7_step_104 : decode cX7_step 104 = .ok (.aload_n 0, 1) := by decide +kernel
theorem dX7_step_105 : decode cX7_step 105 = .ok (.getfield 18, 3) := by decide +kernel
theorem dX7_step_108 : decode cX7_step 108 = .ok (.aload_n 0, 1) := by decide +kernel
theorem dX7_step_109 : decode cX7_step 109 = .ok (.getfield 12, 3) := by decide +kernel
theorem dX7_step_112 : decode cX7_step 112 = .ok (.getfield 34, 3) := by decide +kernel
theorem dX7_step_115 : decode cX7_step 115 = .ok (.if_icmp .ge 111, 3) := by decide +kernel
theorem dX7_step_118 : decode cX7_step 118 = .ok (.aload_n 0, 1) := by decide +kernel
theorem dX7_step_119 : decode cX7_step 119 = .ok (.getfield 12, 3) := by decide +kernel
theorem dX7_step_122 : decode cX7_step 122 = .ok (.getfield 37, 3) := by decide +kernel
theorem dX7_step_125 : decode cX7_step 125 = .ok (.aload_n 0, 1) := by decide +kernel
theorem dX7_step_126 : decode cX7_step 126 = .ok (.getfield 18, 3) := by decide +kernel
theorem dX7_step_129 : decode cX7_step 129 = .ok (.caload, 1) := by decide +kernel
theorem dX7_step_130 : decode cX7_step 130 = .ok (.invokestatic 41, 3) := by decide +kernel
theorem dX7_step_133 : decode cX7_step 133 = .ok (.ifCond .eq 93, 3) := by decide +kernel
theorem dX7_step_136 : decode cX7_step 136 = .ok (.aload_n 0, 1) := by decide +kernel
theorem dX7_step_137 : decode cX7_step 137 = .ok (.dup, 1) := by decide +kernel
theorem dX7_step_138 : decode cX7_step 138 = .ok (.getfield 18, 3) := by decide +kernel
theorem dX7_step_141 : decode cX7_step 141 = .ok (.iconst 1, 1) := by decide +kernel
theorem dX7_step_142 : decode cX7_step 142 = .ok (.iadd, 1) := by decide +kernel
theorem dX7_step_143 : decode cX7_step 143 = .ok (.putfield 18, 3) := by decide +kernel
theorem dX7_step_146 : decode cX7_step 146 = .ok (.goto (-42), 3) := by decide +kernel
theorem dX7_step_149 : decode cX7_step 149 = .ok (.iload_n 1, 1) := by decide +kernel
theorem dX7_step_150 : decode cX7_step 150 = .ok (.invokestatic 41, 3) := by decide +kernel
theorem dX7_step_153 : decode cX7_step 153 = .ok (.ifCond .ne 10, 3) := by decide +kernel
theorem dX7_step_156 : decode cX7_step 156 = .ok (.iload_n 1, 1) := by decide +kernel
theorem dX7_step_157 : decode cX7_step 157 = .ok (.invokestatic 45, 3) := by decide +kernel
theorem dX7_step_160 : decode cX7_step 160 = .ok (.ifCond .eq 66, 3) := by decide +kernel
theorem dX7_step_163 : decode cX7_step 163 = .ok (.aload_n 0, 1) := by decide +kernel
theorem dX7_step_164 : decode cX7_step 164 = .ok (.getfield 18, 3) := by decide +kernel
theorem dX7_step_167 : decode cX7_step 167 = .ok (.aload_n 0, 1) := by decide +kernel
theorem dX7_step_168 : decode cX7_step 168 = .ok (.getfield 12, 3) := by decide +kernel
theorem dX7_step_171 : decode cX7_step 171 = .ok (.getfield 34, 3) := by decide +kernel
theorem dX7_step_174 : decode cX7_step 174 = .ok (.if_icmp .ge 52, 3) := by decide +kernel
theorem dX7_step_177 : decode cX7_step 177 = .ok (.aload_n 0, 1) := by decide +kernel
theorem dX7_step_178 : decode cX7_step 178 = .ok (.getfield 12, 3) := by decide +kernel
theorem dX7_step_181 : decode cX7_step 181 = .ok (.getfield 37, 3) := by decide +kernel
theorem dX7_step_184 : decode cX7_step 184 = .ok (.aload_n 0, 1) := by decide +kernel
theorem dX7_step_185 : decode cX7_step 185 = .ok (.getfield 18, 3) := by decide +kernel
theorem dX7_step_188 : decode cX7_step 188 = .ok (.caload, 1) := by decide +kernel
theorem dX7_step_189 : decode cX7_step 189 = .ok (.invokestatic 41, 3) := by decide +kernel
theorem dX7_step_192 : decode cX7_step 192 = .ok (.ifCond .ne 21, 3) := by decide +kernel
theorem dX7_step_195 : decode cX7_step 195 = .ok (.aload_n 0, 1) := by decide +kernel
theorem dX7_step_196 : decode cX7_step 196 = .ok (.getfield 12, 3) := by decide +kernel
theorem dX7_step_199 : decode cX7_step 199 = .ok (.getfield 37, 3) := by decide +kernel
theorem dX7_step_202 : decode cX7_step 202 = .ok (.aload_n 0, 1) := by decide +kernel
theorem dX7_step_203 : decode cX7_step 203 = .ok (.getfield 18, 3) := by decide +kernel
theorem dX7_step_206 : decode cX7_step 206 = .ok (.caload, 1) := by decide +kernel
theorem dX7_step_207 : decode cX7_step 207 = .ok (.invokestatic 45, 3) := by decide +kernel
theorem dX7_step_210 : decode cX7_step 210 = .ok (.ifCond .eq 16, 3) := by decide +kernel
theorem dX7_step_213 : decode cX7_step 213 = .ok (.aload_n 0, 1) := by decide +kernel
theorem dX7_step_214 : decode cX7_step 214 = .ok (.dup, 1) := by decide +kernel
theorem dX7_step_215 : decode cX7_step 215 = .ok (.getfield 18, 3) := by decide +kernel
theorem dX7_step_218 : decode cX7_step 218 = .ok (.iconst 1, 1) := by decide +kernel
theorem dX7_step_219 : decode cX7_step 219 = .ok (.iadd, 1) := by decide +kernel
theorem dX7_step_220 : decode cX7_step 220 = .ok (.putfield 18, 3) := by decide +kernel
theorem dX7_step_223 : decode cX7_step 223 = .ok (.goto (-60), 3) := by decide +kernel
theorem dX7_step_226 : decode cX7_step 226 = .ok (.return_, 1) := by decide +kernel
theorem dX7_stepBackTo_0 : decode cX7_stepBackTo 0 = .ok (.aload_n 0, 1) := by decide +kernel
theorem dX7_stepBackTo_1 : decode cX7_stepBackTo 1 = .ok (.iload_n 1, 1) := by decide +kernel
theorem dX7_stepBackTo_2 : decode cX7_stepBackTo 2 = .ok (.putfield 18, 3) := by decide +kernel
theorem dX7_stepBackTo_5 : decode cX7_stepBackTo 5 = .ok (.aload_n 0, 1) := by decide +kernel
theorem dX7_stepBackTo_6 : decode cX7_stepBackTo 6 = .ok (.invokevirtual 28, 3) := by decide +kernel
theorem dX7_stepBackTo_9 : decode cX7_stepBackTo 9 = .ok (.return_, 1) := by decide +kernel
theorem dX7_fail_0 : decode cX7_fail 0 = .ok (.aload_n 0, 1) := by decide +kernel
theorem dX7_fail_1 : decode cX7_fail 1 = .ok (.getfield 22, 3) := by decide +kernel
theorem dX7_fail_4 : decode cX7_fail 4 = .ok (.ifCond .ne 13, 3) := by decide +kernel
theorem dX7_fail_7 : decode cX7_fail 7 = .ok (.aload_n 0, 1) := by decide +kernel
theorem dX7_fail_8 : decode cX7_fail 8 = .ok (.iload_n 1, 1) := by decide +kernel
theorem dX7_fail_9 : decode cX7_fail 9 = .ok (.putfield 22, 3) := by decide +kernel
theorem dX7_fail_12 : decode cX7_fail 12 = .ok (.aload_n 0, 1) := by decide +kernel
theorem dX7_fail_13 : decode cX7_fail 13 = .ok (.iload_n 2, 1) := by decide +kernel
theorem dX7_fail_14 : decode cX7_fail 14 = .ok (.putfield 25, 3) := by decide +kernel
theorem dX7_fail_17 : decode cX7_fail 17 = .ok (.return_, 1) := by decide +kernel
theorem dX7_atEnd_0 : decode cX7_atEnd 0 = .ok (.aload_n 0, 1) := by decide +kernel
theorem dX7_atEnd_1 : decode cX7_atEnd 1 = .ok (.getfield 31, 3) := by decide +kernel
theorem dX7_atEnd_4 : decode cX7_atEnd 4 = .ok (.aload_n 0, 1) := by decide +kernel
theorem dX7_atEnd_5 : decode cX7_atEnd 5 = .ok (.getfield 12, 3) := by decide +kernel
theorem dX7_atEnd_8 : decode cX7_atEnd 8 = .ok (.getfield 34, 3) := by decide +kernel
theorem dX7_atEnd_11 : decode cX7_atEnd 11 = .ok (.if_icmp .lt 7, 3) := by decide +kernel
theorem dX7_atEnd_14 : decode cX7_atEnd 14 = .ok (.iconst 1, 1) := by decide +kernel
theorem dX7_atEnd_15 : decode cX7_atEnd 15 = .ok (.goto 4, 3) := by decide +kernel
theorem dX7_atEnd_18 : decode cX7_atEnd 18 = .ok (.iconst 0, 1) := by decide +kernel
theorem dX7_atEnd_19 : decode cX7_atEnd 19 = .ok (.ireturn, 1) := by decide +kernel
theorem dX7_sees_0 : decode cX7_sees 0 = .ok (.aload_n 0, 1) := by decide +kernel
theorem dX7_sees_1 : decode cX7_sees 1 = .ok (.getfield 31, 3) := by decide +kernel
theorem dX7_sees_4 : decode cX7_sees 4 = .ok (.aload_n 0, 1) := by decide +kernel
theorem dX7_sees_5 : decode cX7_sees 5 = .ok (.getfield 12, 3) := by decide +kernel
theorem dX7_sees_8 : decode cX7_sees 8 = .ok (.getfield 34, 3) := by decide +kernel
theorem dX7_sees_11 : decode cX7_sees 11 = .ok (.if_icmp .ge 23, 3) := by decide +kernel
theorem dX7_sees_14 : decode cX7_sees 14 = .ok (.aload_n 0, 1) := by decide +kernel
theorem dX7_sees_15 : decode cX7_sees 15 = .ok (.getfield 12, 3) := by decide +kernel
theorem dX7_sees_18 : decode cX7_sees 18 = .ok (.getfield 37, 3) := by decide +kernel
theorem dX7_sees_21 : decode cX7_sees 21 = .ok (.aload_n 0, 1) := by decide +kernel
theorem dX7_sees_22 : decode cX7_sees 22 = .ok (.getfield 31, 3) := by decide +kernel
theorem dX7_sees_25 : decode cX7_sees 25 = .ok (.caload, 1) := by decide +kernel
theorem dX7_sees_26 : decode cX7_sees 26 = .ok (.iload_n 1, 1) := by decide +kernel
theorem dX7_sees_27 : decode cX7_sees 27 = .ok (.if_icmp .ne 7, 3) := by decide +kernel
theorem dX7_sees_30 : decode cX7_sees 30 = .ok (.iconst 1, 1) := by decide +kernel
theorem dX7_sees_31 : decode cX7_sees 31 = .ok (.goto 4, 3) := by decide +kernel
theorem dX7_sees_34 : decode cX7_sees 34 = .ok (.iconst 0, 1) := by decide +kernel
theorem dX7_sees_35 : decode cX7_sees 35 = .ok (.ireturn, 1) := by decide +kernel
theorem dX7_seesLetter_0 : decode cX7_seesLetter 0 = .ok (.aload_n 0, 1) := by decide +kernel
theorem dX7_seesLetter_1 : decode cX7_seesLetter 1 = .ok (.getfield 31, 3) := by decide +kernel
theorem dX7_seesLetter_4 : decode cX7_seesLetter 4 = .ok (.aload_n 0, 1) := by decide +kernel
theorem dX7_seesLetter_5 : decode cX7_seesLetter 5 = .ok (.getfield 12, 3) := by decide +kernel
theorem dX7_seesLetter_8 : decode cX7_seesLetter 8 = .ok (.getfield 34, 3) := by decide +kernel
theorem dX7_seesLetter_11 : decode cX7_seesLetter 11 = .ok (.if_icmp .ge 25, 3) := by decide +kernel
theorem dX7_seesLetter_14 : decode cX7_seesLetter 14 = .ok (.aload_n 0, 1) := by decide +kernel
theorem dX7_seesLetter_15 : decode cX7_seesLetter 15 = .ok (.getfield 12, 3) := by decide +kernel
theorem dX7_seesLetter_18 : decode cX7_seesLetter 18 = .ok (.getfield 37, 3) := by decide +kernel
theorem dX7_seesLetter_21 : decode cX7_seesLetter 21 = .ok (.aload_n 0, 1) := by decide +kernel
theorem dX7_seesLetter_22 : decode cX7_seesLetter 22 = .ok (.getfield 31, 3) := by decide +kernel
theorem dX7_seesLetter_25 : decode cX7_seesLetter 25 = .ok (.caload, 1) := by decide +kernel
theorem dX7_seesLetter_26 : decode cX7_seesLetter 26 = .ok (.invokestatic 41, 3) := by decide +kernel
theorem dX7_seesLetter_29 : decode cX7_seesLetter 29 = .ok (.ifCond .eq 7, 3) := by decide +kernel
theorem dX7_seesLetter_32 : decode cX7_seesLetter 32 = .ok (.iconst 1, 1) := by decide +kernel
theorem dX7_seesLetter_33 : decode cX7_seesLetter 33 = .ok (.goto 4, 3) := by decide +kernel
theorem dX7_seesLetter_36 : decode cX7_seesLetter 36 = .ok (.iconst 0, 1) := by decide +kernel
theorem dX7_seesLetter_37 : decode cX7_seesLetter 37 = .ok (.ireturn, 1) := by decide +kernel
theorem dX7_seesWord_0 : decode cX7_seesWord 0 = .ok (.aload_n 0, 1) := by decide +kernel
theorem dX7_seesWord_1 : decode cX7_seesWord 1 = .ok (.getfield 18, 3) := by decide +kernel
theorem dX7_seesWord_4 : decode cX7_seesWord 4 = .ok (.aload_n 0, 1) := by decide +kernel
theorem dX7_seesWord_5 : decode cX7_seesWord 5 = .ok (.getfield 31, 3) := by decide +kernel
theorem dX7_seesWord_8 : decode cX7_seesWord 8 = .ok (.isub, 1) := by decide +kernel
theorem dX7_seesWord_9 : decode cX7_seesWord 9 = .ok (.aload_n 1, 1) := by decide +kernel
theorem dX7_seesWord_10 : decode cX7_seesWord 10 = .ok (.invokevirtual 48, 3) := by decide +kernel
theorem dX7_seesWord_13 : decode cX7_seesWord 13 = .ok (.if_icmp .eq 5, 3) := by decide +kernel
theorem dX7_seesWord_16 : decode cX7_seesWord 16 = .ok (.iconst 0, 1) := by decide +kernel
theorem dX7_seesWord_17 : decode cX7_seesWord 17 = .ok (.ireturn, 1) := by decide +kernel
theorem dX7_seesWord_18 : decode cX7_seesWord 18 = .ok (.iconst 0, 1) := by decide +kernel
theorem dX7_seesWord_19 : decode cX7_seesWord 19 = .ok (.istore_n 2, 1) := by decide +kernel
theorem dX7_seesWord_20 : decode cX7_seesWord 20 = .ok (.iload_n 2, 1) := by decide +kernel
theorem dX7_seesWord_21 : decode cX7_seesWord 21 = .ok (.aload_n 1, 1) := by decide +kernel
theorem dX7_seesWord_22 : decode cX7_seesWord 22 = .ok (.invokevirtual 48, 3) := by decide +kernel
theorem dX7_seesWord_25 : decode cX7_seesWord 25 = .ok (.if_icmp .ge 33, 3) := by decide +kernel
theorem dX7_seesWord_28 : decode cX7_seesWord 28 = .ok (.aload_n 0, 1) := by decide +kernel
theorem dX7_seesWord_29 : decode cX7_seesWord 29 = .ok (.getfield 12, 3) := by decide +kernel
theorem dX7_seesWord_32 : decode cX7_seesWord 32 = .ok (.getfield 37, 3) := by decide +kernel
theorem dX7_seesWord_35 : decode cX7_seesWord 35 = .ok (.aload_n 0, 1) := by decide +kernel
theorem dX7_seesWord_36 : decode cX7_seesWord 36 = .ok (.getfield 31, 3) := by decide +kernel
theorem dX7_seesWord_39 : decode cX7_seesWord 39 = .ok (.iload_n 2, 1) := by decide +kernel
theorem dX7_seesWord_40 : decode cX7_seesWord 40 = .ok (.iadd, 1) := by decide +kernel
theorem dX7_seesWord_41 : decode cX7_seesWord 41 = .ok (.caload, 1) := by decide +kernel
theorem dX7_seesWord_42 : decode cX7_seesWord 42 = .ok (.aload_n 1, 1) := by decide +kernel
theorem dX7_seesWord_43 : decode cX7_seesWord 43 = .ok (.iload_n 2, 1) := by decide +kernel
theorem dX7_seesWord_44 : decode cX7_seesWord 44 = .ok (.invokevirtual 53, 3) := by decide +kernel
theorem dX7_seesWord_47 : decode cX7_seesWord 47 = .ok (.if_icmp .eq 5, 3) := by decide +kernel
theorem dX7_seesWord_50 : decode cX7_seesWord 50 = .ok (.iconst 0, 1) := by decide +kernel
theorem dX7_seesWord_51 : decode cX7_seesWord 51 = .ok (.ireturn, 1) := by decide +kernel
theorem dX7_seesWord_52 : decode cX7_seesWord 52 = .ok (.iinc 2 1, 3) := by decide +kernel
theorem dX7_seesWord_55 : decode cX7_seesWord 55 = .ok (.goto (-35), 3) := by decide +kernel
theorem dX7_seesWord_58 : decode cX7_seesWord 58 = .ok (.iconst 1, 1) := by decide +kernel
theorem dX7_seesWord_59 : decode cX7_seesWord 59 = .ok (.ireturn, 1) := by decide +kernel
theorem dX7_seenMnemonic_0 : decode cX7_seenMnemonic 0 = .ok (.iconst 0, 1) := by decide +kernel
theorem dX7_seenMnemonic_1 : decode cX7_seenMnemonic 1 = .ok (.istore_n 1, 1) := by decide +kernel
theorem dX7_seenMnemonic_2 : decode cX7_seenMnemonic 2 = .ok (.iload_n 1, 1) := by decide +kernel
theorem dX7_seenMnemonic_3 : decode cX7_seenMnemonic 3 = .ok (.getstatic 57, 3) := by decide +kernel
theorem dX7_seenMnemonic_6 : decode cX7_seenMnemonic 6 = .ok (.arraylength, 1) := by decide +kernel
theorem dX7_seenMnemonic_7 : decode cX7_seenMnemonic 7 = .ok (.if_icmp .ge 30, 3) := by decide +kernel
theorem dX7_seenMnemonic_10 : decode cX7_seenMnemonic 10 = .ok (.aload_n 0, 1) := by decide +kernel
theorem dX7_seenMnemonic_11 : decode cX7_seenMnemonic 11 = .ok (.getstatic 57, 3) := by decide +kernel
theorem dX7_seenMnemonic_14 : decode cX7_seenMnemonic 14 = .ok (.iload_n 1, 1) := by decide +kernel
theorem dX7_seenMnemonic_15 : decode cX7_seenMnemonic 15 = .ok (.aaload, 1) := by decide +kernel
theorem dX7_seenMnemonic_16 : decode cX7_seenMnemonic 16 = .ok (.getfield 63, 3) := by decide +kernel
theorem dX7_seenMnemonic_19 : decode cX7_seenMnemonic 19 = .ok (.invokevirtual 67, 3) := by decide +kernel
theorem dX7_seenMnemonic_22 : decode cX7_seenMnemonic 22 = .ok (.ifCond .eq 9, 3) := by decide +kernel
theorem dX7_seenMnemonic_25 : decode cX7_seenMnemonic 25 = .ok (.getstatic 57, 3) := by decide +kernel
theorem dX7_seenMnemonic_28 : decode cX7_seenMnemonic 28 = .ok (.iload_n 1, 1) := by decide +kernel
theorem dX7_seenMnemonic_29 : decode cX7_seenMnemonic 29 = .ok (.aaload, 1) := by decide +kernel
theorem dX7_seenMnemonic_30 : decode cX7_seenMnemonic 30 = .ok (.areturn, 1) := by decide +kernel
theorem dX7_seenMnemonic_31 : decode cX7_seenMnemonic 31 = .ok (.iinc 1 1, 3) := by decide +kernel
theorem dX7_seenMnemonic_34 : decode cX7_seenMnemonic 34 = .ok (.goto (-32), 3) := by decide +kernel
theorem dX7_seenMnemonic_37 : decode cX7_seenMnemonic 37 = .ok (.aconst_null, 1) := by decide +kernel
theorem dX7_seenMnemonic_38 : decode cX7_seenMnemonic 38 = .ok (.areturn, 1) := by decide +kernel
theorem dX7_seenRegister_0 : decode cX7_seenRegister 0 = .ok (.aload_n 0, 1) := by decide +kernel
theorem dX7_seenRegister_1 : decode cX7_seenRegister 1 = .ok (.getfield 18, 3) := by decide +kernel
theorem dX7_seenRegister_4 : decode cX7_seenRegister 4 = .ok (.aload_n 0, 1) := by decide +kernel
theorem dX7_seenRegister_5 : decode cX7_seenRegister 5 = .ok (.getfield 31, 3) := by decide +kernel
theorem dX7_seenRegister_8 : decode cX7_seenRegister 8 = .ok (.isub, 1) := by decide +kernel
theorem dX7_seenRegister_9 : decode cX7_seenRegister 9 = .ok (.iconst 2, 1) := by decide +kernel
theorem dX7_seenRegister_10 : decode cX7_seenRegister 10 = .ok (.if_icmp .ne 20, 3) := by decide +kernel
theorem dX7_seenRegister_13 : decode cX7_seenRegister 13 = .ok (.aload_n 0, 1) := by decide +kernel
theorem dX7_seenRegister_14 : decode cX7_seenRegister 14 = .ok (.getfield 12, 3) := by decide +kernel
theorem dX7_seenRegister_17 : decode cX7_seenRegister 17 = .ok (.getfield 37, 3) := by decide +kernel
theorem dX7_seenRegister_20 : decode cX7_seenRegister 20 = .ok (.aload_n 0, 1) := by decide +kernel
theorem dX7_seenRegister_21 : decode cX7_seenRegister 21 = .ok (.getfield 31, 3) := by decide +kernel
theorem dX7_seenRegister_24 : decode cX7_seenRegister 24 = .ok (.caload, 1) := by decide +kernel
theorem dX7_seenRegister_25 : decode cX7_seenRegister 25 = .ok (.bipush 114, 2) := by decide +kernel
theorem dX7_seenRegister_27 : decode cX7_seenRegister 27 = .ok (.if_icmp .eq 5, 3) := by decide +kernel
theorem dX7_seenRegister_30 : decode cX7_seenRegister 30 = .ok (.iconst (-1), 1) := by decide +kernel
theorem dX7_seenRegister_31 : decode cX7_seenRegister 31 = .ok (.ireturn, 1) := by decide +kernel
theorem dX7_seenRegister_32 : decode cX7_seenRegister 32 = .ok (.aload_n 0, 1) := by decide +kernel
theorem dX7_seenRegister_33 : decode cX7_seenRegister 33 = .ok (.getfield 12, 3) := by decide +kernel
theorem dX7_seenRegister_36 : decode cX7_seenRegister 36 = .ok (.getfield 37, 3) := by decide +kernel
theorem dX7_seenRegister_39 : decode cX7_seenRegister 39 = .ok (.aload_n 0, 1) := by decide +kernel
theorem dX7_seenRegister_40 : decode cX7_seenRegister 40 = .ok (.getfield 31, 3) := by decide +kernel
theorem dX7_seenRegister_43 : decode cX7_seenRegister 43 = .ok (.iconst 1, 1) := by decide +kernel
theorem dX7_seenRegister_44 : decode cX7_seenRegister 44 = .ok (.iadd, 1) := by decide +kernel
theorem dX7_seenRegister_45 : decode cX7_seenRegister 45 = .ok (.caload, 1) := by decide +kernel
theorem dX7_seenRegister_46 : decode cX7_seenRegister 46 = .ok (.istore_n 1, 1) := by decide +kernel
theorem dX7_seenRegister_47 : decode cX7_seenRegister 47 = .ok (.iload_n 1, 1) := by decide +kernel
theorem dX7_seenRegister_48 : decode cX7_seenRegister 48 = .ok (.bipush 48, 2) := by decide +kernel
theorem dX7_seenRegister_50 : decode cX7_seenRegister 50 = .ok (.if_icmp .lt 16, 3) := by decide +kernel
theorem dX7_seenRegister_53 : decode cX7_seenRegister 53 = .ok (.iload_n 1, 1) := by decide +kernel
theorem dX7_seenRegister_54 : decode cX7_seenRegister 54 = .ok (.bipush 55, 2) := by decide +kernel
theorem dX7_seenRegister_56 : decode cX7_seenRegister 56 = .ok (.if_icmp .gt 10, 3) := by decide +kernel
theorem dX7_seenRegister_59 : decode cX7_seenRegister 59 = .ok (.iload_n 1, 1) := by decide +kernel
theorem dX7_seenRegister_60 : decode cX7_seenRegister 60 = .ok (.bipush 48, 2) := by decide +kernel
theorem dX7_seenRegister_62 : decode cX7_seenRegister 62 = .ok (.isub, 1) := by decide +kernel
theorem dX7_seenRegister_63 : decode cX7_seenRegister 63 = .ok (.goto 4, 3) := by decide +kernel
theorem dX7_seenRegister_66 : decode cX7_seenRegister 66 = .ok (.iconst (-1), 1) := by decide +kernel
theorem dX7_seenRegister_67 : decode cX7_seenRegister 67 = .ok (.ireturn, 1) := by decide +kernel
theorem dX7_seenName_0 : decode cX7_seenName 0 = .ok (.aload_n 0, 1) := by decide +kernel
theorem dX7_seenName_1 : decode cX7_seenName 1 = .ok (.getfield 12, 3) := by decide +kernel
theorem dX7_seenName_4 : decode cX7_seenName 4 = .ok (.aload_n 0, 1) := by decide +kernel
theorem dX7_seenName_5 : decode cX7_seenName 5 = .ok (.getfield 31, 3) := by decide +kernel
theorem dX7_seenName_8 : decode cX7_seenName 8 = .ok (.aload_n 0, 1) := by decide +kernel
theorem dX7_seenName_9 : decode cX7_seenName 9 = .ok (.getfield 18, 3) := by decide +kernel
theorem dX7_seenName_12 : decode cX7_seenName 12 = .ok (.invokevirtual 71, 3) := by decide +kernel
theorem dX7_seenName_15 : decode cX7_seenName 15 = .ok (.lreturn, 1) := by decide +kernel
theorem dX7_accept_0 : decode cX7_accept 0 = .ok (.aload_n 0, 1) := by decide +kernel
theorem dX7_accept_1 : decode cX7_accept 1 = .ok (.iload_n 1, 1) := by decide +kernel
theorem dX7_accept_2 : decode cX7_accept 2 = .ok (.invokevirtual 75, 3) := by decide +kernel
theorem dX7_accept_5 : decode cX7_accept 5 = .ok (.istore_n 2, 1) := by decide +kernel
theorem dX7_accept_6 : decode cX7_accept 6 = .ok (.iload_n 2, 1) := by decide +kernel
theorem dX7_accept_7 : decode cX7_accept 7 = .ok (.ifCond .eq 7, 3) := by decide +kernel
theorem dX7_accept_10 : decode cX7_accept 10 = .ok (.aload_n 0, 1) := by decide +kernel
theorem dX7_accept_11 : decode cX7_accept 11 = .ok (.invokevirtual 28, 3) := by decide +kernel
theorem dX7_accept_14 : decode cX7_accept 14 = .ok (.iload_n 2, 1) := by decide +kernel
theorem dX7_accept_15 : decode cX7_accept 15 = .ok (.ireturn, 1) := by decide +kernel
theorem dX7_expect_0 : decode cX7_expect 0 = .ok (.aload_n 0, 1) := by decide +kernel
theorem dX7_expect_1 : decode cX7_expect 1 = .ok (.iload_n 1, 1) := by decide +kernel
theorem dX7_expect_2 : decode cX7_expect 2 = .ok (.invokevirtual 75, 3) := by decide +kernel
theorem dX7_expect_5 : decode cX7_expect 5 = .ok (.ifCond .eq 10, 3) := by decide +kernel
theorem dX7_expect_8 : decode cX7_expect 8 = .ok (.aload_n 0, 1) := by decide +kernel
theorem dX7_expect_9 : decode cX7_expect 9 = .ok (.invokevirtual 28, 3) := by decide +kernel
theorem dX7_expect_12 : decode cX7_expect 12 = .ok (.goto 13, 3) := by decide +kernel
theorem dX7_expect_15 : decode cX7_expect 15 = .ok (.aload_n 0, 1) := by decide +kernel
theorem dX7_expect_16 : decode cX7_expect 16 = .ok (.bipush (-3), 2) := by decide +kernel
theorem dX7_expect_18 : decode cX7_expect 18 = .ok (.aload_n 0, 1) := by decide +kernel
theorem dX7_expect_19 : decode cX7_expect 19 = .ok (.getfield 31, 3) := by decide +kernel
theorem dX7_expect_22 : decode cX7_expect 22 = .ok (.invokevirtual 78, 3) := by decide +kernel
theorem dX7_expect_25 : decode cX7_expect 25 = .ok (.return_, 1) := by decide +kernel
theorem dX7_register_0 : decode cX7_register 0 = .ok (.aload_n 0, 1) := by decide +kernel
theorem dX7_register_1 : decode cX7_register 1 = .ok (.invokevirtual 82, 3) := by decide +kernel
theorem dX7_register_4 : decode cX7_register 4 = .ok (.istore_n 1, 1) := by decide +kernel
theorem dX7_register_5 : decode cX7_register 5 = .ok (.iload_n 1, 1) := by decide +kernel
theorem dX7_register_6 : decode cX7_register 6 = .ok (.iconst (-1), 1) := by decide +kernel
theorem dX7_register_7 : decode cX7_register 7 = .ok (.if_icmp .ne 15, 3) := by decide +kernel
theorem dX7_register_10 : decode cX7_register 10 = .ok (.aload_n 0, 1) := by decide +kernel
theorem dX7_register_11 : decode cX7_register 11 = .ok (.bipush (-3), 2) := by decide +kernel
theorem dX7_register_13 : decode cX7_register 13 = .ok (.aload_n 0, 1) := by decide +kernel
theorem dX7_register_14 : decode cX7_register 14 = .ok (.getfield 31, 3) := by decide +kernel
theorem dX7_register_17 : decode cX7_register 17 = .ok (.invokevirtual 78, 3) := by decide +kernel
theorem dX7_register_20 : decode cX7_register 20 = .ok (.iconst 0, 1) := by decide +kernel
theorem dX7_register_21 : decode cX7_register 21 = .ok (.ireturn, 1) := by decide +kernel
theorem dX7_register_22 : decode cX7_register 22 = .ok (.aload_n 0, 1) := by decide +kernel
theorem dX7_register_23 : decode cX7_register 23 = .ok (.invokevirtual 28, 3) := by decide +kernel
theorem dX7_register_26 : decode cX7_register 26 = .ok (.iload_n 1, 1) := by decide +kernel
theorem dX7_register_27 : decode cX7_register 27 = .ok (.ireturn, 1) := by decide +kernel
theorem dX7_name_0 : decode cX7_name 0 = .ok (.aload_n 0, 1) := by decide +kernel
theorem dX7_name_1 : decode cX7_name 1 = .ok (.getfield 12, 3) := by decide +kernel
theorem dX7_name_4 : decode cX7_name 4 = .ok (.aload_n 0, 1) := by decide +kernel
theorem dX7_name_5 : decode cX7_name 5 = .ok (.getfield 31, 3) := by decide +kernel
theorem dX7_name_8 : decode cX7_name 8 = .ok (.aload_n 0, 1) := by decide +kernel
theorem dX7_name_9 : decode cX7_name 9 = .ok (.getfield 18, 3) := by decide +kernel
theorem dX7_name_12 : decode cX7_name 12 = .ok (.invokevirtual 71, 3) := by decide +kernel
theorem dX7_name_15 : decode cX7_name 15 = .ok (.lstore_n 1, 1) := by decide +kernel
theorem dX7_name_16 : decode cX7_name 16 = .ok (.lload_n 1, 1) := by decide +kernel
theorem dX7_name_17 : decode cX7_name 17 = .ok (.lconst 0, 1) := by decide +kernel
theorem dX7_name_18 : decode cX7_name 18 = .ok (.lcmp, 1) := by decide +kernel
theorem dX7_name_19 : decode cX7_name 19 = .ok (.ifCond .ne 16, 3) := by decide +kernel
theorem dX7_name_22 : decode cX7_name 22 = .ok (.aload_n 0, 1) := by decide +kernel
theorem dX7_name_23 : decode cX7_name 23 = .ok (.bipush (-3), 2) := by decide +kernel
theorem dX7_name_25 : decode cX7_name 25 = .ok (.aload_n 0, 1) := by decide +kernel
theorem dX7_name_26 : decode cX7_name 26 = .ok (.getfield 31, 3) := by decide +kernel
theorem dX7_name_29 : decode cX7_name 29 = .ok (.invokevirtual 78, 3) := by decide +kernel
theorem dX7_name_32 : decode cX7_name 32 = .ok (.goto 7, 3) := by decide +kernel
theorem dX7_name_35 : decode cX7_name 35 = .ok (.aload_n 0, 1) := by decide +kernel
theorem dX7_name_36 : decode cX7_name 36 = .ok (.invokevirtual 28, 3) := by decide +kernel
theorem dX7_name_39 : decode cX7_name 39 = .ok (.lload_n 1, 1) := by decide +kernel
theorem dX7_name_40 : decode cX7_name 40 = .ok (.lreturn, 1) := by decide +kernel
theorem dX7_digits_0 : decode cX7_digits 0 = .ok (.aload_n 0, 1) := by decide +kernel
theorem dX7_digits_1 : decode cX7_digits 1 = .ok (.getfield 18, 3) := by decide +kernel
theorem dX7_digits_4 : decode cX7_digits 4 = .ok (.aload_n 0, 1) := by decide +kernel
theorem dX7_digits_5 : decode cX7_digits 5 = .ok (.getfield 31, 3) := by decide +kernel
theorem dX7_digits_8 : decode cX7_digits 8 = .ok (.if_icmp .le 20, 3) := by decide +kernel
theorem dX7_digits_11 : decode cX7_digits 11 = .ok (.aload_n 0, 1) := by decide +kernel
theorem dX7_digits_12 : decode cX7_digits 12 = .ok (.getfield 18, 3) := by decide +kernel
theorem dX7_digits_15 : decode cX7_digits 15 = .ok (.aload_n 0, 1) := by decide +kernel
theorem dX7_digits_16 : decode cX7_digits 16 = .ok (.getfield 31, 3) := by decide +kernel
theorem dX7_digits_19 : decode cX7_digits 19 = .ok (.isub, 1) := by decide +kernel
theorem dX7_digits_20 : decode cX7_digits 20 = .ok (.iconst 4, 1) := by decide +kernel
theorem dX7_digits_21 : decode cX7_digits 21 = .ok (.if_icmp .gt 7, 3) := by decide +kernel
theorem dX7_digits_24 : decode cX7_digits 24 = .ok (.iconst 1, 1) := by decide +kernel
theorem dX7_digits_25 : decode cX7_digits 25 = .ok (.goto 4, 3) := by decide +kernel
theorem dX7_digits_28 : decode cX7_digits 28 = .ok (.iconst 0, 1) := by decide +kernel
theorem dX7_digits_29 : decode cX7_digits 29 = .ok (.istore_n 1, 1) := by decide +kernel
theorem dX7_digits_30 : decode cX7_digits 30 = .ok (.iconst 0, 1) := by decide +kernel
theorem dX7_digits_31 : decode cX7_digits 31 = .ok (.istore_n 2, 1) := by decide +kernel
theorem dX7_digits_32 : decode cX7_digits 32 = .ok (.aload_n 0, 1) := by decide +kernel
theorem dX7_digits_33 : decode cX7_digits 33 = .ok (.getfield 31, 3) := by decide +kernel
theorem dX7_digits_36 : decode cX7_digits 36 = .ok (.istore_n 3, 1) := by decide +kernel
theorem dX7_digits_37 : decode cX7_digits 37 = .ok (.iload_n 1, 1) := by decide +kernel
theorem dX7_digits_38 : decode cX7_digits 38 = .ok (.ifCond .eq 48, 3) := by decide +kernel
theorem dX7_digits_41 : decode cX7_digits 41 = .ok (.iload_n 3, 1) := by decide +kernel
theorem dX7_digits_42 : decode cX7_digits 42 = .ok (.aload_n 0, 1) := by decide +kernel
theorem dX7_digits_43 : decode cX7_digits 43 = .ok (.getfield 18, 3) := by decide +kernel
theorem dX7_digits_46 : decode cX7_digits 46 = .ok (.if_icmp .ge 40, 3) := by decide +kernel
theorem dX7_digits_49 : decode cX7_digits 49 = .ok (.aload_n 0, 1) := by decide +kernel
theorem dX7_digits_50 : decode cX7_digits 50 = .ok (.getfield 12, 3) := by decide +kernel
theorem dX7_digits_53 : decode cX7_digits 53 = .ok (.getfield 37, 3) := by decide +kernel
theorem dX7_digits_56 : decode cX7_digits 56 = .ok (.iload_n 3, 1) := by decide +kernel
theorem dX7_digits_57 : decode cX7_digits 57 = .ok (.caload, 1) := by decide +kernel
theorem dX7_digits_58 : decode cX7_digits 58 = .ok (.invokestatic 45, 3) := by decide +kernel
theorem dX7_digits_61 : decode cX7_digits 61 = .ok (.istore_n 1, 1) := by decide +kernel
theorem dX7_digits_62 : decode cX7_digits 62 = .ok (.iload_n 2, 1) := by decide +kernel
theorem dX7_digits_63 : decode cX7_digits 63 = .ok (.bipush 10, 2) := by decide +kernel
theorem dX7_digits_65 : decode cX7_digits 65 = .ok (.imul, 1) := by decide +kernel
theorem dX7_digits_66 : decode cX7_digits 66 = .ok (.aload_n 0, 1) := by decide +kernel
theorem dX7_digits_67 : decode cX7_digits 67 = .ok (.getfield 12, 3) := by decide +kernel
theorem dX7_digits_70 : decode cX7_digits 70 = .ok (.getfield 37, 3) := by decide +kernel
theorem dX7_digits_73 : decode cX7_digits 73 = .ok (.iload_n 3, 1) := by decide +kernel
theorem dX7_digits_74 : decode cX7_digits 74 = .ok (.caload, 1) := by decide +kernel
theorem dX7_digits_75 : decode cX7_digits 75 = .ok (.iadd, 1) := by decide +kernel
theorem dX7_digits_76 : decode cX7_digits 76 = .ok (.bipush 48, 2) := by decide +kernel
theorem dX7_digits_78 : decode cX7_digits 78 = .ok (.isub, 1) := by decide +kernel
theorem dX7_digits_79 : decode cX7_digits 79 = .ok (.istore_n 2, 1) := by decide +kernel
theorem dX7_digits_80 : decode cX7_digits 80 = .ok (.iinc 3 1, 3) := by decide +kernel
theorem dX7_digits_83 : decode cX7_digits 83 = .ok (.goto (-46), 3) := by decide +kernel
theorem dX7_digits_86 : decode cX7_digits 86 = .ok (.iload_n 1, 1) := by decide +kernel
theorem dX7_digits_87 : decode cX7_digits 87 = .ok (.ifCond .ne 15, 3) := by decide +kernel
theorem dX7_digits_90 : decode cX7_digits 90 = .ok (.aload_n 0, 1) := by decide +kernel
theorem dX7_digits_91 : decode cX7_digits 91 = .ok (.bipush (-3), 2) := by decide +kernel
theorem dX7_digits_93 : decode cX7_digits 93 = .ok (.aload_n 0, 1) := by decide +kernel
theorem dX7_digits_94 : decode cX7_digits 94 = .ok (.getfield 31, 3) := by decide +kernel
theorem dX7_digits_97 : decode cX7_digits 97 = .ok (.invokevirtual 78, 3) := by decide +kernel
theorem dX7_digits_100 : decode cX7_digits 100 = .ok (.iconst 0, 1) := by decide +kernel
theorem dX7_digits_101 : decode cX7_digits 101 = .ok (.ireturn, 1) := by decide +kernel
theorem dX7_digits_102 : decode cX7_digits 102 = .ok (.aload_n 0, 1) := by decide +kernel
theorem dX7_digits_103 : decode cX7_digits 103 = .ok (.invokevirtual 28, 3) := by decide +kernel
theorem dX7_digits_106 : decode cX7_digits 106 = .ok (.iload_n 2, 1) := by decide +kernel
theorem dX7_digits_107 : decode cX7_digits 107 = .ok (.ireturn, 1) := by decide +kernel
theorem dX7_number_0 : decode cX7_number 0 = .ok (.aload_n 0, 1) := by decide +kernel
theorem dX7_number_1 : decode cX7_number 1 = .ok (.getfield 31, 3) := by decide +kernel
theorem dX7_number_4 : decode cX7_number 4 = .ok (.istore_n 3, 1) := by decide +kernel
theorem dX7_number_5 : decode cX7_number 5 = .ok (.aload_n 0, 1) := by decide +kernel
theorem dX7_number_6 : decode cX7_number 6 = .ok (.bipush 45, 2) := by decide +kernel
theorem dX7_number_8 : decode cX7_number 8 = .ok (.invokevirtual 85, 3) := by decide +kernel
theorem dX7_number_11 : decode cX7_number 11 = .ok (.ifCond .eq 11, 3) := by decide +kernel
theorem dX7_number_14 : decode cX7_number 14 = .ok (.aload_n 0, 1) := by decide +kernel
theorem dX7_number_15 : decode cX7_number 15 = .ok (.invokevirtual 88, 3) := by decide +kernel
theorem dX7_number_18 : decode cX7_number 18 = .ok (.ineg, 1) := by decide +kernel
theorem dX7_number_19 : decode cX7_number 19 = .ok (.goto 7, 3) := by decide +kernel
theorem dX7_number_22 : decode cX7_number 22 = .ok (.aload_n 0, 1) := by decide +kernel
theorem dX7_number_23 : decode cX7_number 23 = .ok (.invokevirtual 88, 3) := by decide +kernel
theorem dX7_number_26 : decode cX7_number 26 = .ok (.istore 4, 2) := by decide +kernel
theorem dX7_number_28 : decode cX7_number 28 = .ok (.iload 4, 2) := by decide +kernel
theorem dX7_number_30 : decode cX7_number 30 = .ok (.iload_n 1, 1) := by decide +kernel
theorem dX7_number_31 : decode cX7_number 31 = .ok (.if_icmp .lt 9, 3) := by decide +kernel
theorem dX7_number_34 : decode cX7_number 34 = .ok (.iload 4, 2) := by decide +kernel
theorem dX7_number_36 : decode cX7_number 36 = .ok (.iload_n 2, 1) := by decide +kernel
theorem dX7_number_37 : decode cX7_number 37 = .ok (.if_icmp .le 10, 3) := by decide +kernel
theorem dX7_number_40 : decode cX7_number 40 = .ok (.aload_n 0, 1) := by decide +kernel
theorem dX7_number_41 : decode cX7_number 41 = .ok (.bipush (-4), 2) := by decide +kernel
theorem dX7_number_43 : decode cX7_number 43 = .ok (.iload_n 3, 1) := by decide +kernel
theorem dX7_number_44 : decode cX7_number 44 = .ok (.invokevirtual 78, 3) := by decide +kernel
theorem dX7_number_47 : decode cX7_number 47 = .ok (.iload 4, 2) := by decide +kernel
theorem dX7_number_49 : decode cX7_number 49 = .ok (.ireturn, 1) := by decide +kernel
theorem dX8_init_0 : decode cX8_init 0 = .ok (.aload_n 0, 1) := by decide +kernel
theorem dX8_init_1 : decode cX8_init 1 = .ok (.invokespecial 3, 3) := by decide +kernel
theorem dX8_init_4 : decode cX8_init 4 = .ok (.aload_n 0, 1) := by decide +kernel
theorem dX8_init_5 : decode cX8_init 5 = .ok (.bipush 24, 2) := by decide +kernel
theorem dX8_init_7 : decode cX8_init 7 = .ok (.anewarray 9, 3) := by decide +kernel
theorem dX8_init_10 : decode cX8_init 10 = .ok (.putfield 11, 3) := by decide +kernel
theorem dX8_init_13 : decode cX8_init 13 = .ok (.iconst 0, 1) := by decide +kernel
theorem dX8_init_14 : decode cX8_init 14 = .ok (.istore_n 1, 1) := by decide +kernel
theorem dX8_init_15 : decode cX8_init 15 = .ok (.iload_n 1, 1) := by decide +kernel
theorem dX8_init_16 : decode cX8_init 16 = .ok (.bipush 24, 2) := by decide +kernel
theorem dX8_init_18 : decode cX8_init 18 = .ok (.if_icmp .ge 22, 3) := by decide +kernel
theorem dX8_init_21 : decode cX8_init 21 = .ok (.aload_n 0, 1) := by decide +kernel
theorem dX8_init_22 : decode cX8_init 22 = .ok (.getfield 11, 3) := by decide +kernel
theorem dX8_init_25 : decode cX8_init 25 = .ok (.iload_n 1, 1) := by decide +kernel
theorem dX8_init_26 : decode cX8_init 26 = .ok (.new 9, 3) := by decide +kernel
theorem dX8_init_29 : decode cX8_init 29 = .ok (.dup, 1) := by decide +kernel
theorem dX8_init_30 : decode cX8_init 30 = .ok (.invokespecial 17, 3) := by decide +kernel
theorem dX8_init_33 : decode cX8_init 33 = .ok (.aastore, 1) := by decide +kernel
theorem dX8_init_34 : decode cX8_init 34 = .ok (.iinc 1 1, 3) := by decide +kernel
theorem dX8_init_37 : decode cX8_init 37 = .ok (.goto (-22), 3) := by decide +kernel
theorem dX8_init_40 : decode cX8_init 40 = .ok (.return_, 1) := by decide +kernel
theorem dX9_init_0 : decode cX9_init 0 = .ok (.aload_n 0, 1) := by decide +kernel
theorem dX9_init_1 : decode cX9_init 1 = .ok (.invokespecial 3, 3) := by decide +kernel
theorem dX9_init_4 : decode cX9_init 4 = .ok (.return_, 1) := by decide +kernel
theorem dX9_clear_0 : decode cX9_clear 0 = .ok (.aload_n 0, 1) := by decide +kernel
theorem dX9_clear_1 : decode cX9_clear 1 = .ok (.lconst 0, 1) := by decide +kernel
theorem dX9_clear_2 : decode cX9_clear 2 = .ok (.putfield 9, 3) := by decide +kernel
theorem dX9_clear_5 : decode cX9_clear 5 = .ok (.aload_n 0, 1) := by decide +kernel
theorem dX9_clear_6 : decode cX9_clear 6 = .ok (.iconst 0, 1) := by decide +kernel
theorem dX9_clear_7 : decode cX9_clear 7 = .ok (.putfield 15, 3) := by decide +kernel
theorem dX9_clear_10 : decode cX9_clear 10 = .ok (.aload_n 0, 1) := by decide +kernel
theorem dX9_clear_11 : decode cX9_clear 11 = .ok (.iconst 0, 1) := by decide +kernel
theorem dX9_clear_12 : decode cX9_clear 12 = .ok (.putfield 19, 3) := by decide +kernel
theorem dX9_clear_15 : decode cX9_clear 15 = .ok (.aload_n 0, 1) := by decide +kernel
theorem dX9_clear_16 : decode cX9_clear 16 = .ok (.iconst 0, 1) := by decide +kernel
theorem dX9_clear_17 : decode cX9_clear 17 = .ok (.putfield 22, 3) := by decide +kernel
theorem dX9_clear_20 : decode cX9_clear 20 = .ok (.aload_n 0, 1) := by decide +kernel
theorem dX9_clear_21 : decode cX9_clear 21 = .ok (.iconst 0, 1) := by decide +kernel
theorem dX9_clear_22 : decode cX9_clear 22 = .ok (.putfield 25, 3) := by decide +kernel
theorem dX9_clear_25 : decode cX9_clear 25 = .ok (.aload_n 0, 1) := by decide +kernel
theorem dX9_clear_26 : decode cX9_clear 26 = .ok (.iconst 0, 1) := by decide +kernel
theorem dX9_clear_27 : decode cX9_clear 27 = .ok (.putfield 28, 3) := by decide +kernel
theorem dX9_clear_30 : decode cX9_clear 30 = .ok (.aload_n 0, 1) := by decide +kernel
theorem dX9_clear_31 : decode cX9_clear 31 = .ok (.iconst 0, 1) := by decide +kernel
theorem dX9_clear_32 : decode cX9_clear 32 = .ok (.putfield 31, 3) := by decide +kernel
theorem dX9_clear_35 : decode cX9_clear 35 = .ok (.aload_n 0, 1) := by decide +kernel
theorem dX9_clear_36 : decode cX9_clear 36 = .ok (.lconst 0, 1) := by decide +kernel
theorem dX9_clear_37 : decode cX9_clear 37 = .ok (.putfield 34, 3) := by decide +kernel
theorem dX9_clear_40 : decode cX9_clear 40 = .ok (.aload_n 0, 1) := by decide +kernel
theorem dX9_clear_41 : decode cX9_clear 41 = .ok (.iconst 0, 1) := by decide +kernel
theorem dX9_clear_42 : decode cX9_clear 42 = .ok (.putfield 37, 3) := by decide +kernel
theorem dX9_clear_45 : decode cX9_clear 45 = .ok (.aload_n 0, 1) := by decide +kernel
theorem dX9_clear_46 : decode cX9_clear 46 = .ok (.iconst 0, 1) := by decide +kernel
theorem dX9_clear_47 : decode cX9_clear 47 = .ok (.putfield 40, 3) := by decide +kernel
theorem dX9_clear_50 : decode cX9_clear 50 = .ok (.aload_n 0, 1) := by decide +kernel
theorem dX9_clear_51 : decode cX9_clear 51 = .ok (.iconst 0, 1) := by decide +kernel
theorem dX9_clear_52 : decode cX9_clear 52 = .ok (.putfield 43, 3) := by decide +kernel
theorem dX9_clear_55 : decode cX9_clear 55 = .ok (.aload_n 0, 1) := by decide +kernel
theorem dX9_clear_56 : decode cX9_clear 56 = .ok (.iconst 0, 1) := by decide +kernel
theorem dX9_clear_57 : decode cX9_clear 57 = .ok (.putfield 46, 3) := by decide +kernel
theorem dX9_clear_60 : decode cX9_clear 60 = .ok (.aload_n 0, 1) := by decide +kernel
theorem dX9_clear_61 : decode cX9_clear 61 = .ok (.iconst 0, 1) := by decide +kernel
theorem dX9_clear_62 : decode cX9_clear 62 = .ok (.putfield 49, 3) := by decide +kernel
theorem dX9_clear_65 : decode cX9_clear 65 = .ok (.return_, 1) := by decide +kernel
theorem dX10_init_0 : decode cX10_init 0 = .ok (.aload_n 0, 1) := by decide +kernel
theorem dX10_init_1 : decode cX10_init 1 = .ok (.invokespecial 3, 3) := by decide +kernel
theorem dX10_init_4 : decode cX10_init 4 = .ok (.aload_n 0, 1) := by decide +kernel
theorem dX10_init_5 : decode cX10_init 5 = .ok (.bipush 48, 2) := by decide +kernel
theorem dX10_init_7 : decode cX10_init 7 = .ok (.newarray .char, 2) := by decide +kernel
theorem dX10_init_9 : decode cX10_init 9 = .ok (.putfield 9, 3) := by decide +kernel
theorem dX10_init_12 : decode cX10_init 12 = .ok (.return_, 1) := by decide +kernel
theorem dX10_charactersIn_0 : decode cX10_charactersIn 0 = .ok (.iconst 0, 1) := by decide +kernel
theorem dX10_charactersIn_1 : decode cX10_charactersIn 1 = .ok (.istore_n 1, 1) := by decide +kernel
theorem dX10_charactersIn_2 : decode cX10_charactersIn 2 = .ok (.bipush 24, 2) := by decide +kernel
theorem dX10_charactersIn_4 : decode cX10_charactersIn 4 = .ok (.istore_n 2, 1) := by decide +kernel
theorem dX10_charactersIn_5 : decode cX10_charactersIn 5 = .ok (.iload_n 2, 1) := by decide +kernel
theorem dX10_charactersIn_6 : decode cX10_charactersIn 6 = .ok (.ifCond .lt 27, 3) := by decide +kernel
theorem dX10_charactersIn_9 : decode cX10_charactersIn 9 = .ok (.iload_n 1, 1) := by decide +kernel
theorem dX10_charactersIn_10 : decode cX10_charactersIn 10 = .ok (.iload_n 0, 1) := by decide +kernel
theorem dX10_charactersIn_11 : decode cX10_charactersIn 11 = .ok (.iload_n 2, 1) := by decide +kernel
theorem dX10_charactersIn_12 : decode cX10_charactersIn 12 = .ok (.iushr, 1) := by decide +kernel
theorem dX10_charactersIn_13 : decode cX10_charactersIn 13 = .ok (.sipush 255, 3) := by decide +kernel
theorem dX10_charactersIn_16 : decode cX10_charactersIn 16 = .ok (.iand, 1) := by decide +kernel
theorem dX10_charactersIn_17 : decode cX10_charactersIn 17 = .ok (.ifCond .eq 7, 3) := by decide +kernel
theorem dX10_charactersIn_20 : decode cX10_charactersIn 20 = .ok (.iconst 1, 1) := by decide +kernel
theorem dX10_charactersIn_21 : decode cX10_charactersIn 21 = .ok (.goto 4, 3) := by decide +kernel
theorem dX10_charactersIn_24 : decode cX10_charactersIn 24 = .ok (.iconst 0, 1) := by decide +kernel
theorem dX10_charactersIn_25 : decode cX10_charactersIn 25 = .ok (.iadd, 1) := by decide +kernel
theorem dX10_charactersIn_26 : decode cX10_charactersIn 26 = .ok (.istore_n 1, 1) := by decide +kernel
theorem dX10_charactersIn_27 : decode cX10_charactersIn 27 = .ok (.iinc 2 (-8), 3) := by decide +kernel
theorem dX10_charactersIn_30 : decode cX10_charactersIn 30 = .ok (.goto (-25), 3) := by decide +kernel
theorem dX10_charactersIn_33 : decode cX10_charactersIn 33 = .ok (.iload_n 1, 1) := by decide +kernel
theorem dX10_charactersIn_34 : decode cX10_charactersIn 34 = .ok (.ireturn, 1) := by decide +kernel
theorem dX10_appendFour_0 : decode cX10_appendFour 0 = .ok (.bipush 24, 2) := by decide +kernel
theorem dX10_appendFour_2 : decode cX10_appendFour 2 = .ok (.istore_n 2, 1) := by decide +kernel
theorem dX10_appendFour_3 : decode cX10_appendFour 3 = .ok (.iload_n 2, 1) := by decide +kernel
theorem dX10_appendFour_4 : decode cX10_appendFour 4 = .ok (.ifCond .lt 51, 3) := by decide +kernel
theorem dX10_appendFour_7 : decode cX10_appendFour 7 = .ok (.iload_n 1, 1) := by decide +kernel
theorem dX10_appendFour_8 : decode cX10_appendFour 8 = .ok (.iload_n 2, 1) := by decide +kernel
theorem dX10_appendFour_9 : decode cX10_appendFour 9 = .ok (.iushr, 1) := by decide +kernel
theorem dX10_appendFour_10 : decode cX10_appendFour 10 = .ok (.sipush 255, 3) := by decide +kernel
theorem dX10_appendFour_13 : decode cX10_appendFour 13 = .ok (.iand, 1) := by decide +kernel
theorem dX10_appendFour_14 : decode cX10_appendFour 14 = .ok (.istore_n 3, 1) := by decide +kernel
theorem dX10_appendFour_15 : decode cX10_appendFour 15 = .ok (.iload_n 3, 1) := by decide +kernel
theorem dX10_appendFour_16 : decode cX10_appendFour 16 = .ok (.ifCond .eq 33, 3) := by decide +kernel
theorem dX10_appendFour_19 : decode cX10_appendFour 19 = .ok (.aload_n 0, 1) := by decide +kernel
theorem dX10_appendFour_20 : decode cX10_appendFour 20 = .ok (.getfield 15, 3) := by decide +kernel
theorem dX10_appendFour_23 : decode cX10_appendFour 23 = .ok (.bipush 48, 2) := by decide +kernel
theorem dX10_appendFour_25 : decode cX10_appendFour 25 = .ok (.if_icmp .ge 24, 3) := by decide +kernel
theorem dX10_appendFour_28 : decode cX10_appendFour 28 = .ok (.aload_n 0, 1) := by decide +kernel
theorem dX10_appendFour_29 : decode cX10_appendFour 29 = .ok (.getfield 9, 3) := by decide +kernel
theorem dX10_appendFour_32 : decode cX10_appendFour 32 = .ok (.aload_n 0, 1) := by decide +kernel
theorem dX10_appendFour_33 : decode cX10_appendFour 33 = .ok (.getfield 15, 3) := by decide +kernel
theorem dX10_appendFour_36 : decode cX10_appendFour 36 = .ok (.iload_n 3, 1) := by decide +kernel
theorem dX10_appendFour_37 : decode cX10_appendFour 37 = .ok (.i2c, 1) := by decide +kernel
theorem dX10_appendFour_38 : decode cX10_appendFour 38 = .ok (.castore, 1) := by decide +kernel
theorem dX10_appendFour_39 : decode cX10_appendFour 39 = .ok (.aload_n 0, 1) := by decide +kernel
theorem dX10_appendFour_40 : decode cX10_appendFour 40 = .ok (.dup, 1) := by decide +kernel
theorem dX10_appendFour_41 : decode cX10_appendFour 41 = .ok (.getfield 15, 3) := by decide +kernel
theorem dX10_appendFour_44 : decode cX10_appendFour 44 = .ok (.iconst 1, 1) := by decide +kernel
theorem dX10_appendFour_45 : decode cX10_appendFour 45 = .ok (.iadd, 1) := by decide +kernel
theorem dX10_appendFour_46 : decode cX10_appendFour 46 = .ok (.putfield 15, 3) := by decide +kernel
theorem dX10_appendFour_49 : decode cX10_appendFour 49 = .ok (.iinc 2 (-8), 3) := by decide +kernel
theorem dX10_appendFour_52 : decode cX10_appendFour 52 = .ok (.goto (-49), 3) := by decide +kernel
theorem dX10_appendFour_55 : decode cX10_appendFour 55 = .ok (.return_, 1) := by decide +kernel
theorem dX10_nameBetween_0 : decode cX10_nameBetween 0 = .ok (.iload_n 1, 1) := by decide +kernel
theorem dX10_nameBetween_1 : decode cX10_nameBetween 1 = .ok (.ifCond .lt 36, 3) := by decide +kernel
theorem dX10_nameBetween_4 : decode cX10_nameBetween 4 = .ok (.iload_n 2, 1) := by decide +kernel
theorem dX10_nameBetween_5 : decode cX10_nameBetween 5 = .ok (.aload_n 0, 1) := by decide +kernel
theorem dX10_nameBetween_6 : decode cX10_nameBetween 6 = .ok (.getfield 15, 3) := by decide +kernel
theorem dX10_nameBetween_9 : decode cX10_nameBetween 9 = .ok (.if_icmp .gt 28, 3) := by decide +kernel
theorem dX10_nameBetween_12 : decode cX10_nameBetween 12 = .ok (.iload_n 2, 1) := by decide +kernel
theorem dX10_nameBetween_13 : decode cX10_nameBetween 13 = .ok (.iload_n 1, 1) := by decide +kernel
theorem dX10_nameBetween_14 : decode cX10_nameBetween 14 = .ok (.if_icmp .le 23, 3) := by decide +kernel
theorem dX10_nameBetween_17 : decode cX10_nameBetween 17 = .ok (.iload_n 2, 1) := by decide +kernel
theorem dX10_nameBetween_18 : decode cX10_nameBetween 18 = .ok (.iload_n 1, 1) := by decide +kernel
theorem dX10_nameBetween_19 : decode cX10_nameBetween 19 = .ok (.isub, 1) := by decide +kernel
theorem dX10_nameBetween_20 : decode cX10_nameBetween 20 = .ok (.bipush 6, 2) := by decide +kernel
theorem dX10_nameBetween_22 : decode cX10_nameBetween 22 = .ok (.if_icmp .gt 15, 3) := by decide +kernel
theorem dX10_nameBetween_25 : decode cX10_nameBetween 25 = .ok (.aload_n 0, 1) := by decide +kernel
theorem dX10_nameBetween_26 : decode cX10_nameBetween 26 = .ok (.getfield 9, 3) := by decide +kernel
theorem dX10_nameBetween_29 : decode cX10_nameBetween 29 = .ok (.iload_n 1, 1) := by decide +kernel
theorem dX10_nameBetween_30 : decode cX10_nameBetween 30 = .ok (.caload, 1) := by decide +kernel
theorem dX10_nameBetween_31 : decode cX10_nameBetween 31 = .ok (.invokestatic 19, 3) := by decide +kernel
theorem dX10_nameBetween_34 : decode cX10_nameBetween 34 = .ok (.ifCond .ne 5, 3) := by decide +kernel
theorem dX10_nameBetween_37 : decode cX10_nameBetween 37 = .ok (.lconst 0, 1) := by decide +kernel
theorem dX10_nameBetween_38 : decode cX10_nameBetween 38 = .ok (.lreturn, 1) := by decide +kernel
theorem dX10_nameBetween_39 : decode cX10_nameBetween 39 = .ok (.lconst 0, 1) := by decide +kernel
theorem dX10_nameBetween_40 : decode cX10_nameBetween 40 = .ok (.lstore_n 3, 1) := by decide +kernel
theorem dX10_nameBetween_41 : decode cX10_nameBetween 41 = .ok (.iload_n 1, 1) := by decide +kernel
theorem dX10_nameBetween_42 : decode cX10_nameBetween 42 = .ok (.istore 5, 2) := by decide +kernel
theorem dX10_nameBetween_44 : decode cX10_nameBetween 44 = .ok (.iload 5, 2) := by decide +kernel
theorem dX10_nameBetween_46 : decode cX10_nameBetween 46 = .ok (.iload_n 2, 1) := by decide +kernel
theorem dX10_nameBetween_47 : decode cX10_nameBetween 47 = .ok (.if_icmp .ge 51, 3) := by decide +kernel
theorem dX10_nameBetween_50 : decode cX10_nameBetween 50 = .ok (.aload_n 0, 1) := by decide +kernel
theorem dX10_nameBetween_51 : decode cX10_nameBetween 51 = .ok (.getfield 9, 3) := by decide +kernel
theorem dX10_nameBetween_54 : decode cX10_nameBetween 54 = .ok (.iload 5, 2) := by decide +kernel
theorem dX10_nameBetween_56 : decode cX10_nameBetween 56 = .ok (.caload, 1) := by decide +kernel
theorem dX10_nameBetween_57 : decode cX10_nameBetween 57 = .ok (.invokestatic 19, 3) := by decide +kernel
theorem dX10_nameBetween_60 : decode cX10_nameBetween 60 = .ok (.ifCond .ne 18, 3) := by decide +kernel
theorem dX10_nameBetween_63 : decode cX10_nameBetween 63 = .ok (.aload_n 0, 1) := by decide +kernel
theorem dX10_nameBetween_64 : decode cX10_nameBetween 64 = .ok (.getfield 9, 3) := by decide +kernel
theorem dX10_nameBetween_67 : decode cX10_nameBetween 67 = .ok (.iload 5, 2) := by decide +kernel
theorem dX10_nameBetween_69 : decode cX10_nameBetween 69 = .ok (.caload, 1) := by decide +kernel
theorem dX10_nameBetween_70 : decode cX10_nameBetween 70 = .ok (.invokestatic 23, 3) := by decide +kernel
theorem dX10_nameBetween_73 : decode cX10_nameBetween 73 = .ok (.ifCond .ne 5, 3) := by decide +kernel
theorem dX10_nameBetween_76 : decode cX10_nameBetween 76 = .ok (.lconst 0, 1) := by decide +kernel
theorem dX10_nameBetween_77 : decode cX10_nameBetween 77 = .ok (.lreturn, 1) := by decide +kernel
theorem dX10_nameBetween_78 : decode cX10_nameBetween 78 = .ok (.lload_n 3, 1) := by decide +kernel
theorem dX10_nameBetween_79 : decode cX10_nameBetween 79 = .ok (.bipush 8, 2) := by decide +kernel
theorem dX10_nameBetween_81 : decode cX10_nameBetween 81 = .ok (.lshl, 1) := by decide +kernel
theorem dX10_nameBetween_82 : decode cX10_nameBetween 82 = .ok (.aload_n 0, 1) := by decide +kernel
theorem dX10_nameBetween_83 : decode cX10_nameBetween 83 = .ok (.getfield 9, 3) := by decide +kernel
theorem dX10_nameBetween_86 : decode cX10_nameBetween 86 = .ok (.iload 5, 2) := by decide +kernel
theorem dX10_nameBetween_88 : decode cX10_nameBetween 88 = .ok (.caload, 1) := by decide +kernel
theorem dX10_nameBetween_89 : decode cX10_nameBetween 89 = .ok (.i2l, 1) := by decide +kernel
theorem dX10_nameBetween_90 : decode cX10_nameBetween 90 = .ok (.lor, 1) := by decide +kernel
theorem dX10_nameBetween_91 : decode cX10_nameBetween 91 = .ok (.lstore_n 3, 1) := by decide +kernel
theorem dX10_nameBetween_92 : decode cX10_nameBetween 92 = .ok (.iinc 5 1, 3) := by decide +kernel
theorem dX10_nameBetween_95 : decode cX10_nameBetween 95 = .ok (.goto (-51), 3) := by decide +kernel
theorem dX10_nameBetween_98 : decode cX10_nameBetween 98 = .ok (.lload_n 3, 1) := by decide +kernel
theorem dX10_nameBetween_99 : decode cX10_nameBetween 99 = .ok (.lreturn, 1) := by decide +kernel
theorem dX11_init_0 : decode cX11_init 0 = .ok (.aload_n 0, 1) := by decide +kernel
theorem dX11_init_1 : decode cX11_init 1 = .ok (.invokespecial 1, 3) := by decide +kernel
theorem dX11_init_4 : decode cX11_init 4 = .ok (.aload_n 0, 1) := by decide +kernel
theorem dX11_init_5 : decode cX11_init 5 = .ok (.new 7, 3) := by decide +kernel
theorem dX11_init_8 : decode cX11_init 8 = .ok (.dup, 1) := by decide +kernel
theorem dX11_init_9 : decode cX11_init 9 = .ok (.invokespecial 9, 3) := by decide +kernel
theorem dX11_init_12 : decode cX11_init 12 = .ok (.putfield 10, 3) := by decide +kernel
theorem dX11_init_15 : decode cX11_init 15 = .ok (.aload_n 0, 1) := by decide +kernel
theorem dX11_init_16 : decode cX11_init 16 = .ok (.iconst 4, 1) := by decide +kernel
theorem dX11_init_17 : decode cX11_init 17 = .ok (.anewarray 16, 3) := by decide +kernel
theorem dX11_init_20 : decode cX11_init 20 = .ok (.putfield 18, 3) := by decide +kernel
theorem dX11_init_23 : decode cX11_init 23 = .ok (.iconst 0, 1) := by decide +kernel
theorem dX11_init_24 : decode cX11_init 24 = .ok (.istore_n 1, 1) := by decide +kernel
theorem dX11_init_25 : decode cX11_init 25 = .ok (.iload_n 1, 1) := by decide +kernel
theorem dX11_init_26 : decode cX11_init 26 = .ok (.iconst 4, 1) := by decide +kernel
theorem dX11_init_27 : decode cX11_init 27 = .ok (.if_icmp .ge 22, 3) := by decide +kernel
theorem dX11_init_30 : decode cX11_init 30 = .ok (.aload_n 0, 1) := by decide +kernel
theorem dX11_init_31 : decode cX11_init 31 = .ok (.getfield 18, 3) := by decide +kernel
theorem dX11_init_34 : decode cX11_init 34 = .ok (.iload_n 1, 1) := by decide +kernel
theorem dX11_init_35 : decode cX11_init 35 = .ok (.new 16, 3) := by decide +kernel
theorem dX11_init_38 : decode cX11_init 38 = .ok (.dup, 1) := by decide +kernel
theorem dX11_init_39 : decode cX11_init 39 = .ok (.invokespecial 22, 3) := by decide +kernel
theorem dX11_init_42 : decode cX11_init 42 = .ok (.aastore, 1) := by decide +kernel
theorem dX11_init_43 : decode cX11_init 43 = .ok (.iinc 1 1, 3) := by decide +kernel
theorem dX11_init_46 : decode cX11_init 46 = .ok (.goto (-21), 3) := by decide +kernel
theorem dX11_init_49 : decode cX11_init 49 = .ok (.aload_n 0, 1) := by decide +kernel
theorem dX11_init_50 : decode cX11_init 50 = .ok (.new 23, 3) := by decide +kernel
theorem dX11_init_53 : decode cX11_init 53 = .ok (.dup, 1) := by decide +kernel
theorem dX11_init_54 : decode cX11_init 54 = .ok (.invokespecial 25, 3) := by decide +kernel
theorem dX11_init_57 : decode cX11_init 57 = .ok (.putfield 26, 3) := by decide +kernel
theorem dX11_init_60 : decode cX11_init 60 = .ok (.aload_n 0, 1) := by decide +kernel
theorem dX11_init_61 : decode cX11_init 61 = .ok (.new 30, 3) := by decide +kernel
theorem dX11_init_64 : decode cX11_init 64 = .ok (.dup, 1) := by decide +kernel
theorem dX11_init_65 : decode cX11_init 65 = .ok (.invokespecial 32, 3) := by decide +kernel
theorem dX11_init_68 : decode cX11_init 68 = .ok (.putfield 33, 3) := by decide +kernel
theorem dX11_init_71 : decode cX11_init 71 = .ok (.aload_n 0, 1) := by decide +kernel
theorem dX11_init_72 : decode cX11_init 72 = .ok (.new 37, 3) := by decide +kernel
theorem dX11_init_75 : decode cX11_init 75 = .ok (.dup, 1) := by decide +kernel
theorem dX11_init_76 : decode cX11_init 76 = .ok (.invokespecial 39, 3) := by decide +kernel
theorem dX11_init_79 : decode cX11_init 79 = .ok (.putfield 40, 3) := by decide +kernel
theorem dX11_init_82 : decode cX11_init 82 = .ok (.aload_n 0, 1) := by decide +kernel
theorem dX11_init_83 : decode cX11_init 83 = .ok (.new 37, 3) := by decide +kernel
theorem dX11_init_86 : decode cX11_init 86 = .ok (.dup, 1) := by decide +kernel
theorem dX11_init_87 : decode cX11_init 87 = .ok (.invokespecial 39, 3) := by decide +kernel
theorem dX11_init_90 : decode cX11_init 90 = .ok (.putfield 44, 3) := by decide +kernel
theorem dX11_init_93 : decode cX11_init 93 = .ok (.return_, 1) := by decide +kernel
theorem dX11_type_0 : decode cX11_type 0 = .ok (.iload_n 1, 1) := by decide +kernel
theorem dX11_type_1 : decode cX11_type 1 = .ok (.invokestatic 47, 3) := by decide +kernel
theorem dX11_type_4 : decode cX11_type 4 = .ok (.iload_n 2, 1) := by decide +kernel
theorem dX11_type_5 : decode cX11_type 5 = .ok (.invokestatic 47, 3) := by decide +kernel
theorem dX11_type_8 : decode cX11_type 8 = .ok (.iadd, 1) := by decide +kernel
theorem dX11_type_9 : decode cX11_type 9 = .ok (.iload_n 3, 1) := by decide +kernel
theorem dX11_type_10 : decode cX11_type 10 = .ok (.invokestatic 47, 3) := by decide +kernel
theorem dX11_type_13 : decode cX11_type 13 = .ok (.iadd, 1) := by decide +kernel
theorem dX11_type_14 : decode cX11_type 14 = .ok (.iload 4, 2) := by decide +kernel
theorem dX11_type_16 : decode cX11_type 16 = .ok (.invokestatic 47, 3) := by decide +kernel
theorem dX11_type_19 : decode cX11_type 19 = .ok (.iadd, 1) := by decide +kernel
theorem dX11_type_20 : decode cX11_type 20 = .ok (.istore 5, 2) := by decide +kernel
theorem dX11_type_22 : decode cX11_type 22 = .ok (.aload_n 0, 1) := by decide +kernel
theorem dX11_type_23 : decode cX11_type 23 = .ok (.getfield 10, 3) := by decide +kernel
theorem dX11_type_26 : decode cX11_type 26 = .ok (.getfield 51, 3) := by decide +kernel
theorem dX11_type_29 : decode cX11_type 29 = .ok (.iload 5, 2) := by decide +kernel
theorem dX11_type_31 : decode cX11_type 31 = .ok (.iadd, 1) := by decide +kernel
theorem dX11_type_32 : decode cX11_type 32 = .ok (.bipush 48, 2) := by decide +kernel
theorem dX11_type_34 : decode cX11_type 34 = .ok (.if_icmp .le 13, 3) := by decide +kernel
theorem dX11_type_37 : decode cX11_type 37 = .ok (.new 55, 3) := by decide +kernel
theorem dX11_type_40 : decode cX11_type 40 = .ok (.dup, 1) := by decide +kernel
theorem dX11_type_41 : decode cX11_type 41 = .ok (.ldc 57, 2) := by decide +kernel
theorem dX11_type_43 : decode cX11_type 43 = .ok (.invokespecial 59, 3) := by decide +kernel
theorem dX11_type_46 : decode cX11_type 46 = .ok (.athrow, 1) := by decide +kernel
theorem dX11_type_47 : decode cX11_type 47 = .ok (.aload_n 0, 1) := by decide +kernel
theorem dX11_type_48 : decode cX11_type 48 = .ok (.getfield 10, 3) := by decide +kernel
theorem dX11_type_51 : decode cX11_type 51 = .ok (.iload_n 1, 1) := by decide +kernel
theorem dX11_type_52 : decode cX11_type 52 = .ok (.invokevirtual 62, 3) := by decide +kernel
theorem dX11_type_55 : decode cX11_type 55 = .ok (.aload_n 0, 1) := by decide +kernel
theorem dX11_type_56 : decode cX11_type 56 = .ok (.getfield 10, 3) := by decide +kernel
theorem dX11_type_59 : decode cX11_type 59 = .ok (.iload_n 2, 1) := by decide +kernel
theorem dX11_type_60 : decode cX11_type 60 = .ok (.invokevirtual 62, 3) := by decide +kernel
theorem dX11_type_63 : decode cX11_type 63 = .ok (.aload_n 0, 1) := by decide +kernel
theorem dX11_type_64 : decode cX11_type 64 = .ok (.getfield 10, 3) := by decide +kernel
theorem dX11_type_67 : decode cX11_type 67 = .ok (.iload_n 3, 1) := by decide +kernel
theorem dX11_type_68 : decode cX11_type 68 = .ok (.invokevirtual 62, 3) := by decide +kernel
theorem dX11_type_71 : decode cX11_type 71 = .ok (.aload_n 0, 1) := by decide +kernel
theorem dX11_type_72 : decode cX11_type 72 = .ok (.getfield 10, 3) := by decide +kernel
theorem dX11_type_75 : decode cX11_type 75 = .ok (.iload 4, 2) := by decide +kernel
theorem dX11_type_77 : decode cX11_type 77 = .ok (.invokevirtual 62, 3) := by decide +kernel
theorem dX11_type_80 : decode cX11_type 80 = .ok (.aload_n 0, 1) := by decide +kernel
theorem dX11_type_81 : decode cX11_type 81 = .ok (.getfield 10, 3) := by decide +kernel
theorem dX11_type_84 : decode cX11_type 84 = .ok (.getfield 51, 3) := by decide +kernel
theorem dX11_type_87 : decode cX11_type 87 = .ok (.ireturn, 1) := by decide +kernel
theorem dX11_erase_0 : decode cX11_erase 0 = .ok (.aload_n 0, 1) := by decide +kernel
theorem dX11_erase_1 : decode cX11_erase 1 = .ok (.getfield 10, 3) := by decide +kernel
theorem dX11_erase_4 : decode cX11_erase 4 = .ok (.getfield 51, 3) := by decide +kernel
theorem dX11_erase_7 : decode cX11_erase 7 = .ok (.istore_n 1, 1) := by decide +kernel
theorem dX11_erase_8 : decode cX11_erase 8 = .ok (.aload_n 0, 1) := by decide +kernel
theorem dX11_erase_9 : decode cX11_erase 9 = .ok (.getfield 10, 3) := by decide +kernel
theorem dX11_erase_12 : decode cX11_erase 12 = .ok (.iconst 0, 1) := by decide +kernel
theorem dX11_erase_13 : decode cX11_erase 13 = .ok (.putfield 51, 3) := by decide +kernel
theorem dX11_erase_16 : decode cX11_erase 16 = .ok (.iload_n 1, 1) := by decide +kernel
theorem dX11_erase_17 : decode cX11_erase 17 = .ok (.ireturn, 1) := by decide +kernel
theorem dX11_add_0 : decode cX11_add 0 = .ok (.iload_n 1, 1) := by decide +kernel
theorem dX11_add_1 : decode cX11_add 1 = .ok (.invokestatic 66, 3) := by decide +kernel
theorem dX11_add_4 : decode cX11_add 4 = .ok (.ifCond .ne 13, 3) := by decide +kernel
theorem dX11_add_7 : decode cX11_add 7 = .ok (.new 70, 3) := by decide +kernel
theorem dX11_add_10 : decode cX11_add 10 = .ok (.dup, 1) := by decide +kernel
theorem dX11_add_11 : decode cX11_add 11 = .ok (.ldc 72, 2) := by decide +kernel
theorem dX11_add_13 : decode cX11_add 13 = .ok (.invokespecial 74, 3) := by decide +kernel
theorem dX11_add_16 : decode cX11_add 16 = .ok (.athrow, 1) := by decide +kernel
theorem dX11_add_17 : decode cX11_add 17 = .ok (.aload_n 0, 1) := by decide +kernel
theorem dX11_add_18 : decode cX11_add 18 = .ok (.getfield 18, 3) := by decide +kernel
theorem dX11_add_21 : decode cX11_add 21 = .ok (.iload_n 1, 1) := by decide +kernel
theorem dX11_add_22 : decode cX11_add 22 = .ok (.aaload, 1) := by decide +kernel
theorem dX11_add_23 : decode cX11_add 23 = .ok (.astore_n 2, 1) := by decide +kernel
theorem dX11_add_24 : decode cX11_add 24 = .ok (.aload_n 2, 1) := by decide +kernel
theorem dX11_add_25 : decode cX11_add 25 = .ok (.getfield 75, 3) := by decide +kernel
theorem dX11_add_28 : decode cX11_add 28 = .ok (.bipush 24, 2) := by decide +kernel
theorem dX11_add_30 : decode cX11_add 30 = .ok (.if_icmp .lt 13, 3) := by decide +kernel
theorem dX11_add_33 : decode cX11_add 33 = .ok (.new 55, 3) := by decide +kernel
theorem dX11_add_36 : decode cX11_add 36 = .ok (.dup, 1) := by decide +kernel
theorem dX11_add_37 : decode cX11_add 37 = .ok (.ldc 78, 2) := by decide +kernel
theorem dX11_add_39 : decode cX11_add 39 = .ok (.invokespecial 59, 3) := by decide +kernel
theorem dX11_add_42 : decode cX11_add 42 = .ok (.athrow, 1) := by decide +kernel
theorem dX11_add_43 : decode cX11_add 43 = .ok (.aload_n 0, 1) := by decide +kernel
theorem dX11_add_44 : decode cX11_add 44 = .ok (.getfield 26, 3) := by decide +kernel
theorem dX11_add_47 : decode cX11_add 47 = .ok (.aload_n 0, 1) := by decide +kernel
theorem dX11_add_48 : decode cX11_add 48 = .ok (.getfield 10, 3) := by decide +kernel
theorem dX11_add_51 : decode cX11_add 51 = .ok (.aload_n 2, 1) := by decide +kernel
theorem dX11_add_52 : decode cX11_add 52 = .ok (.getfield 80, 3) := by decide +kernel
theorem dX11_add_55 : decode cX11_add 55 = .ok (.aload_n 2, 1) := by decide +kernel
theorem dX11_add_56 : decode cX11_add 56 = .ok (.getfield 75, 3) := by decide +kernel
theorem dX11_add_59 : decode cX11_add 59 = .ok (.aaload, 1) := by decide +kernel
theorem dX11_add_60 : decode cX11_add 60 = .ok (.invokevirtual 84, 3) := by decide +kernel
theorem dX11_add_63 : decode cX11_add 63 = .ok (.aload_n 2, 1) := by decide +kernel
theorem dX11_add_64 : decode cX11_add 64 = .ok (.dup, 1) := by decide +kernel
theorem dX11_add_65 : decode cX11_add 65 = .ok (.getfield 75, 3) := by decide +kernel
theorem dX11_add_68 : decode cX11_add 68 = .ok (.iconst 1, 1) := by decide +kernel
theorem dX11_add_69 : decode cX11_add 69 = .ok (.iadd, 1) := by decide +kernel
theorem dX11_add_70 : decode cX11_add 70 = .ok (.putfield 75, 3) := by decide +kernel
theorem dX11_add_73 : decode cX11_add 73 = .ok (.aload_n 0, 1) := by decide +kernel
theorem dX11_add_74 : decode cX11_add 74 = .ok (.getfield 10, 3) := by decide +kernel
theorem dX11_add_77 : decode cX11_add 77 = .ok (.iconst 0, 1) := by decide +kernel
theorem dX11_add_78 : decode cX11_add 78 = .ok (.putfield 51, 3) := by decide +kernel
theorem dX11_add_81 : decode cX11_add 81 = .ok (.aload_n 2, 1) := by decide +kernel
theorem dX11_add_82 : decode cX11_add 82 = .ok (.getfield 75, 3) := by decide +kernel
theorem dX11_add_85 : decode cX11_add 85 = .ok (.ireturn, 1) := by decide +kernel
theorem dX11_change_0 : decode cX11_change 0 = .ok (.iload_n 1, 1) := by decide +kernel
theorem dX11_change_1 : decode cX11_change 1 = .ok (.invokestatic 66, 3) := by decide +kernel
theorem dX11_change_4 : decode cX11_change 4 = .ok (.ifCond .ne 13, 3) := by decide +kernel
theorem dX11_change_7 : decode cX11_change 7 = .ok (.new 70, 3) := by decide +kernel
theorem dX11_change_10 : decode cX11_change 10 = .ok (.dup, 1) := by decide +kernel
theorem dX11_change_11 : decode cX11_change 11 = .ok (.ldc 72, 2) := by decide +kernel
theorem dX11_change_13 : decode cX11_change 13 = .ok (.invokespecial 74, 3) := by decide +kernel
theorem dX11_change_16 : decode cX11_change 16 = .ok (.athrow, 1) := by decide +kernel
theorem dX11_change_17 : decode cX11_change 17 = .ok (.aload_n 0, 1) := by decide +kernel
theorem dX11_change_18 : decode cX11_change 18 = .ok (.getfield 18, 3) := by decide +kernel
theorem dX11_change_21 : decode cX11_change 21 = .ok (.iload_n 1, 1) := by decide +kernel
theorem dX11_change_22 : decode cX11_change 22 = .ok (.aaload, 1) := by decide +kernel
theorem dX11_change_23 : decode cX11_change 23 = .ok (.astore_n 3, 1) := by decide +kernel
theorem dX11_change_24 : decode cX11_change 24 = .ok (.iload_n 2, 1) := by decide +kernel
theorem dX11_change_25 : decode cX11_change 25 = .ok (.ifCond .lt 11, 3) := by decide +kernel
theorem dX11_change_28 : decode cX11_change 28 = .ok (.iload_n 2, 1) := by decide +kernel
theorem dX11_change_29 : decode cX11_change 29 = .ok (.aload_n 3, 1) := by decide +kernel
theorem dX11_change_30 : decode cX11_change 30 = .ok (.getfield 75, 3) := by decide +kernel
theorem dX11_change_33 : decode cX11_change 33 = .ok (.if_icmp .lt 13, 3) := by decide +kernel
theorem dX11_change_36 : decode cX11_change 36 = .ok (.new 70, 3) := by decide +kernel
theorem dX11_change_39 : decode cX11_change 39 = .ok (.dup, 1) := by decide +kernel
theorem dX11_change_40 : decode cX11_change 40 = .ok (.ldc 88, 2) := by decide +kernel
theorem dX11_change_42 : decode cX11_change 42 = .ok (.invokespecial 74, 3) := by decide +kernel
theorem dX11_change_45 : decode cX11_change 45 = .ok (.athrow, 1) := by decide +kernel
theorem dX11_change_46 : decode cX11_change 46 = .ok (.aload_n 0, 1) := by decide +kernel
theorem dX11_change_47 : decode cX11_change 47 = .ok (.getfield 26, 3) := by decide +kernel
theorem dX11_change_50 : decode cX11_change 50 = .ok (.aload_n 0, 1) := by decide +kernel
theorem dX11_change_51 : decode cX11_change 51 = .ok (.getfield 10, 3) := by decide +kernel
theorem dX11_change_54 : decode cX11_change 54 = .ok (.aload_n 3, 1) := by decide +kernel
theorem dX11_change_55 : decode cX11_change 55 = .ok (.getfield 80, 3) := by decide +kernel
theorem dX11_change_58 : decode cX11_change 58 = .ok (.iload_n 2, 1) := by decide +kernel
theorem dX11_change_59 : decode cX11_change 59 = .ok (.aaload, 1) := by decide +kernel
theorem dX11_change_60 : decode cX11_change 60 = .ok (.invokevirtual 84, 3) := by decide +kernel
theorem dX11_change_63 : decode cX11_change 63 = .ok (.aload_n 0, 1) := by decide +kernel
theorem dX11_change_64 : decode cX11_change 64 = .ok (.getfield 10, 3) := by decide +kernel
theorem dX11_change_67 : decode cX11_change 67 = .ok (.iconst 0, 1) := by decide +kernel
theorem dX11_change_68 : decode cX11_change 68 = .ok (.putfield 51, 3) := by decide +kernel
theorem dX11_change_71 : decode cX11_change 71 = .ok (.return_, 1) := by decide +kernel
theorem dX11_drop_0 : decode cX11_drop 0 = .ok (.iload_n 1, 1) := by decide +kernel
theorem dX11_drop_1 : decode cX11_drop 1 = .ok (.invokestatic 66, 3) := by decide +kernel
theorem dX11_drop_4 : decode cX11_drop 4 = .ok (.ifCond .ne 13, 3) := by decide +kernel
theorem dX11_drop_7 : decode cX11_drop 7 = .ok (.new 70, 3) := by decide +kernel
theorem dX11_drop_10 : decode cX11_drop 10 = .ok (.dup, 1) := by decide +kernel
theorem dX11_drop_11 : decode cX11_drop 11 = .ok (.ldc 72, 2) := by decide +kernel
theorem dX11_drop_13 : decode cX11_drop 13 = .ok (.invokespecial 74, 3) := by decide +kernel
theorem dX11_drop_16 : decode cX11_drop 16 = .ok (.athrow, 1) := by decide +kernel
theorem dX11_drop_17 : decode cX11_drop 17 = .ok (.aload_n 0, 1) := by decide +kernel
theorem dX11_drop_18 : decode cX11_drop 18 = .ok (.getfield 18, 3) := by decide +kernel
theorem dX11_drop_21 : decode cX11_drop 21 = .ok (.iload_n 1, 1) := by decide +kernel
theorem dX11_drop_22 : decode cX11_drop 22 = .ok (.aaload, 1) := by decide +kernel
theorem dX11_drop_23 : decode cX11_drop 23 = .ok (.getfield 75, 3) := by decide +kernel
theorem dX11_drop_26 : decode cX11_drop 26 = .ok (.istore_n 2, 1) := by decide +kernel
theorem dX11_drop_27 : decode cX11_drop 27 = .ok (.aload_n 0, 1) := by decide +kernel
theorem dX11_drop_28 : decode cX11_drop 28 = .ok (.getfield 18, 3) := by decide +kernel
theorem dX11_drop_31 : decode cX11_drop 31 = .ok (.iload_n 1, 1) := by decide +kernel
theorem dX11_drop_32 : decode cX11_drop 32 = .ok (.aaload, 1) := by decide +kernel
theorem dX11_drop_33 : decode cX11_drop 33 = .ok (.iconst 0, 1) := by decide +kernel
theorem dX11_drop_34 : decode cX11_drop 34 = .ok (.putfield 75, 3) := by decide +kernel
theorem dX11_drop_37 : decode cX11_drop 37 = .ok (.iload_n 2, 1) := by decide +kernel
theorem dX11_drop_38 : decode cX11_drop 38 = .ok (.ireturn, 1) := by decide +kernel
theorem dX11_link_0 : decode cX11_link 0 = .ok (.aload_n 0, 1) := by decide +kernel
theorem dX11_link_1 : decode cX11_link 1 = .ok (.getfield 33, 3) := by decide +kernel
theorem dX11_link_4 : decode cX11_link 4 = .ok (.invokevirtual 90, 3) := by decide +kernel
theorem dX11_link_7 : decode cX11_link 7 = .ok (.aload_n 0, 1) := by decide +kernel
theorem dX11_link_8 : decode cX11_link 8 = .ok (.getfield 44, 3) := by decide +kernel
theorem dX11_link_11 : decode cX11_link 11 = .ok (.invokevirtual 93, 3) := by decide +kernel
theorem dX11_link_14 : decode cX11_link 14 = .ok (.aload_n 0, 1) := by decide +kernel
theorem dX11_link_15 : decode cX11_link 15 = .ok (.invokevirtual 96, 3) := by decide +kernel
theorem dX11_link_18 : decode cX11_link 18 = .ok (.ifCond .eq 31, 3) := by decide +kernel
theorem dX11_link_21 : decode cX11_link 21 = .ok (.aload_n 0, 1) := by decide +kernel
theorem dX11_link_22 : decode cX11_link 22 = .ok (.invokevirtual 100, 3) := by decide +kernel
theorem dX11_link_25 : decode cX11_link 25 = .ok (.ifCond .eq 24, 3) := by decide +kernel
theorem dX11_link_28 : decode cX11_link 28 = .ok (.aload_n 0, 1) := by decide +kernel
theorem dX11_link_29 : decode cX11_link 29 = .ok (.invokevirtual 103, 3) := by decide +kernel
theorem dX11_link_32 : decode cX11_link 32 = .ok (.ifCond .eq 17, 3) := by decide +kernel
theorem dX11_link_35 : decode cX11_link 35 = .ok (.aload_n 0, 1) := by decide +kernel
theorem dX11_link_36 : decode cX11_link 36 = .ok (.invokevirtual 106, 3) := by decide +kernel
theorem dX11_link_39 : decode cX11_link 39 = .ok (.ifCond .eq 10, 3) := by decide +kernel
theorem dX11_link_42 : decode cX11_link 42 = .ok (.aload_n 0, 1) := by decide +kernel
theorem dX11_link_43 : decode cX11_link 43 = .ok (.invokevirtual 109, 3) := by decide +kernel
theorem dX11_link_46 : decode cX11_link 46 = .ok (.ifCond .ne 11, 3) := by decide +kernel
theorem dX11_link_49 : decode cX11_link 49 = .ok (.aload_n 0, 1) := by decide +kernel
theorem dX11_link_50 : decode cX11_link 50 = .ok (.getfield 33, 3) := by decide +kernel
theorem dX11_link_53 : decode cX11_link 53 = .ok (.getfield 112, 3) := by decide +kernel
theorem dX11_link_56 : decode cX11_link 56 = .ok (.ireturn, 1) := by decide +kernel
theorem dX11_link_57 : decode cX11_link 57 = .ok (.aload_n 0, 1) := by decide +kernel
theorem dX11_link_58 : decode cX11_link 58 = .ok (.getfield 44, 3) := by decide +kernel
theorem dX11_link_61 : decode cX11_link 61 = .ok (.astore_n 1, 1) := by decide +kernel
theorem dX11_link_62 : decode cX11_link 62 = .ok (.aload_n 0, 1) := by decide +kernel
theorem dX11_link_63 : decode cX11_link 63 = .ok (.aload_n 0, 1) := by decide +kernel
theorem dX11_link_64 : decode cX11_link 64 = .ok (.getfield 40, 3) := by decide +kernel
theorem dX11_link_67 : decode cX11_link 67 = .ok (.putfield 44, 3) := by decide +kernel
theorem dX11_link_70 : decode cX11_link 70 = .ok (.aload_n 0, 1) := by decide +kernel
theorem dX11_link_71 : decode cX11_link 71 = .ok (.aload_n 1, 1) := by decide +kernel
theorem dX11_link_72 : decode cX11_link 72 = .ok (.putfield 40, 3) := by decide +kernel
theorem dX11_link_75 : decode cX11_link 75 = .ok (.aload_n 0, 1) := by decide +kernel
theorem dX11_link_76 : decode cX11_link 76 = .ok (.getfield 40, 3) := by decide +kernel
theorem dX11_link_79 : decode cX11_link 79 = .ok (.getfield 115, 3) := by decide +kernel
theorem dX11_link_82 : decode cX11_link 82 = .ok (.getfield 119, 3) := by decide +kernel
theorem dX11_link_85 : decode cX11_link 85 = .ok (.ireturn, 1) := by decide +kernel
theorem dX11_fault_0 : decode cX11_fault 0 = .ok (.iload_n 1, 1) := by decide +kernel
theorem dX11_fault_1 : decode cX11_fault 1 = .ok (.tableswitch 51 0 2 #[27, 35, 43], 27) := by decide +kernel
theorem dX11_fault_28 : decode cX11_fault 28 = .ok (.aload_n 0, 1) := by decide +kernel
theorem dX11_fault_29 : decode cX11_fault 29 = .ok (.getfield 33, 3) := by decide +kernel
theorem dX11_fault_32 : decode cX11_fault 32 = .ok (.getfield 122, 3) := by decide +kernel
theorem dX11_fault_35 : decode cX11_fault 35 = .ok (.ireturn, 1) := by decide +kernel
theorem dX11_fault_36 : decode cX11_fault 36 = .ok (.aload_n 0, 1) := by decide +kernel
theorem dX11_fault_37 : decode cX11_fault 37 = .ok (.getfield 33, 3) := by decide +kernel
theorem dX11_fault_40 : decode cX11_fault 40 = .ok (.getfield 125, 3) := by decide +kernel
theorem dX11_fault_43 : decode cX11_fault 43 = .ok (.ireturn, 1) := by decide +kernel
theorem dX11_fault_44 : decode cX11_fault 44 = .ok (.aload_n 0, 1) := by decide +kernel
theorem dX11_fault_45 : decode cX11_fault 45 = .ok (.getfield 33, 3) := by decide +kernel
theorem dX11_fault_48 : decode cX11_fault 48 = .ok (.getfield 128, 3) := by decide +kernel
theorem dX11_fault_51 : decode cX11_fault 51 = .ok (.ireturn, 1) := by decide +kernel
theorem dX11_fault_52 : decode cX11_fault 52 = .ok (.new 70, 3) := by decide +kernel
theorem dX11_fault_55 : decode cX11_fault 55 = .ok (.dup, 1) := by decide +kernel
theorem dX11_fault_56 : decode cX11_fault 56 = .ok (.ldc 131, 2) := by decide +kernel
theorem dX11_fault_58 : decode cX11_fault 58 = .ok (.invokespecial 74, 3) := by decide +kernel
theorem dX11_fault_61 : decode cX11_fault 61 = .ok (.athrow, 1) := by decide +kernel
theorem dX11_octet_0 : decode cX11_octet 0 = .ok (.aload_n 0, 1) := by decide +kernel
theorem dX11_octet_1 : decode cX11_octet 1 = .ok (.getfield 40, 3) := by decide +kernel
theorem dX11_octet_4 : decode cX11_octet 4 = .ok (.getfield 115, 3) := by decide +kernel
theorem dX11_octet_7 : decode cX11_octet 7 = .ok (.iload_n 1, 1) := by decide +kernel
theorem dX11_octet_8 : decode cX11_octet 8 = .ok (.invokevirtual 133, 3) := by decide +kernel
theorem dX11_octet_11 : decode cX11_octet 11 = .ok (.ireturn, 1) := by decide +kernel
theorem dX11_hex_0 : decode cX11_hex 0 = .ok (.aload_n 0, 1) := by decide +kernel
theorem dX11_hex_1 : decode cX11_hex 1 = .ok (.getfield 40, 3) := by decide +kernel
theorem dX11_hex_4 : decode cX11_hex 4 = .ok (.getfield 115, 3) := by decide +kernel
theorem dX11_hex_7 : decode cX11_hex 7 = .ok (.iload_n 1, 1) := by decide +kernel
theorem dX11_hex_8 : decode cX11_hex 8 = .ok (.invokevirtual 136, 3) := by decide +kernel
theorem dX11_hex_11 : decode cX11_hex 11 = .ok (.ireturn, 1) := by decide +kernel
theorem dX11_address_0 : decode cX11_address 0 = .ok (.iload_n 1, 1) := by decide +kernel
theorem dX11_address_1 : decode cX11_address 1 = .ok (.invokestatic 66, 3) := by decide +kernel
theorem dX11_address_4 : decode cX11_address 4 = .ok (.ifCond .ne 13, 3) := by decide +kernel
theorem dX11_address_7 : decode cX11_address 7 = .ok (.new 70, 3) := by decide +kernel
theorem dX11_address_10 : decode cX11_address 10 = .ok (.dup, 1) := by decide +kernel
theorem dX11_address_11 : decode cX11_address 11 = .ok (.ldc 72, 2) := by decide +kernel
theorem dX11_address_13 : decode cX11_address 13 = .ok (.invokespecial 74, 3) := by decide +kernel
theorem dX11_address_16 : decode cX11_address 16 = .ok (.athrow, 1) := by decide +kernel
theorem dX11_address_17 : decode cX11_address 17 = .ok (.aload_n 0, 1) := by decide +kernel
theorem dX11_address_18 : decode cX11_address 18 = .ok (.getfield 40, 3) := by decide +kernel
theorem dX11_address_21 : decode cX11_address 21 = .ok (.aload_n 0, 1) := by decide +kernel
theorem dX11_address_22 : decode cX11_address 22 = .ok (.getfield 40, 3) := by decide +kernel
theorem dX11_address_25 : decode cX11_address 25 = .ok (.getfield 140, 3) := by decide +kernel
theorem dX11_address_28 : decode cX11_address 28 = .ok (.iload_n 1, 1) := by decide +kernel
theorem dX11_address_29 : decode cX11_address 29 = .ok (.aload_n 0, 1) := by decide +kernel
theorem dX11_address_30 : decode cX11_address 30 = .ok (.getfield 10, 3) := by decide +kernel
theorem dX11_address_33 : decode cX11_address 33 = .ok (.iconst 0, 1) := by decide +kernel
theorem dX11_address_34 : decode cX11_address 34 = .ok (.aload_n 0, 1) := by decide +kernel
theorem dX11_address_35 : decode cX11_address 35 = .ok (.getfield 10, 3) := by decide +kernel
theorem dX11_address_38 : decode cX11_address 38 = .ok (.getfield 51, 3) := by decide +kernel
theorem dX11_address_41 : decode cX11_address 41 = .ok (.invokevirtual 144, 3) := by decide +kernel
theorem dX11_address_44 : decode cX11_address 44 = .ok (.invokevirtual 148, 3) := by decide +kernel
theorem dX11_address_47 : decode cX11_address 47 = .ok (.invokevirtual 154, 3) := by decide +kernel
theorem dX11_address_50 : decode cX11_address 50 = .ok (.ireturn, 1) := by decide +kernel
theorem dX11_size_0 : decode cX11_size 0 = .ok (.iload_n 1, 1) := by decide +kernel
theorem dX11_size_1 : decode cX11_size 1 = .ok (.invokestatic 66, 3) := by decide +kernel
theorem dX11_size_4 : decode cX11_size 4 = .ok (.ifCond .eq 12, 3) := by decide +kernel
theorem dX11_size_7 : decode cX11_size 7 = .ok (.iload_n 2, 1) := by decide +kernel
theorem dX11_size_8 : decode cX11_size 8 = .ok (.ifCond .lt 8, 3) := by decide +kernel
theorem dX11_size_11 : decode cX11_size 11 = .ok (.iload_n 2, 1) := by decide +kernel
theorem dX11_size_12 : decode cX11_size 12 = .ok (.iconst 2, 1) := by decide +kernel
theorem dX11_size_13 : decode cX11_size 13 = .ok (.if_icmp .le 13, 3) := by decide +kernel
theorem dX11_size_16 : decode cX11_size 16 = .ok (.new 70, 3) := by decide +kernel
theorem dX11_size_19 : decode cX11_size 19 = .ok (.dup, 1) := by decide +kernel
theorem dX11_size_20 : decode cX11_size 20 = .ok (.ldc 157, 2) := by decide +kernel
theorem dX11_size_22 : decode cX11_size 22 = .ok (.invokespecial 74, 3) := by decide +kernel
theorem dX11_size_25 : decode cX11_size 25 = .ok (.athrow, 1) := by decide +kernel
theorem dX11_size_26 : decode cX11_size 26 = .ok (.aload_n 0, 1) := by decide +kernel
theorem dX11_size_27 : decode cX11_size 27 = .ok (.getfield 40, 3) := by decide +kernel
theorem dX11_size_30 : decode cX11_size 30 = .ok (.getfield 159, 3) := by decide +kernel
theorem dX11_size_33 : decode cX11_size 33 = .ok (.getfield 163, 3) := by decide +kernel
theorem dX11_size_36 : decode cX11_size 36 = .ok (.iload_n 1, 1) := by decide +kernel
theorem dX11_size_37 : decode cX11_size 37 = .ok (.aaload, 1) := by decide +kernel
theorem dX11_size_38 : decode cX11_size 38 = .ok (.iload_n 2, 1) := by decide +kernel
theorem dX11_size_39 : decode cX11_size 39 = .ok (.iaload, 1) := by decide +kernel
theorem dX11_size_40 : decode cX11_size 40 = .ok (.ireturn, 1) := by decide +kernel
theorem dX11_isModule_0 : decode cX11_isModule 0 = .ok (.iload_n 0, 1) := by decide +kernel
theorem dX11_isModule_1 : decode cX11_isModule 1 = .ok (.ifCond .lt 12, 3) := by decide +kernel
theorem dX11_isModule_4 : decode cX11_isModule 4 = .ok (.iload_n 0, 1) := by decide +kernel
theorem dX11_isModule_5 : decode cX11_isModule 5 = .ok (.iconst 4, 1) := by decide +kernel
theorem dX11_isModule_6 : decode cX11_isModule 6 = .ok (.if_icmp .ge 7, 3) := by decide +kernel
theorem dX11_isModule_9 : decode cX11_isModule 9 = .ok (.iconst 1, 1) := by decide +kernel
theorem dX11_isModule_10 : decode cX11_isModule 10 = .ok (.goto 4, 3) := by decide +kernel
theorem dX11_isModule_13 : decode cX11_isModule 13 = .ok (.iconst 0, 1) := by decide +kernel
theorem dX11_isModule_14 : decode cX11_isModule 14 = .ok (.ireturn, 1) := by decide +kernel
theorem dX11_isLetter_0 : decode cX11_isLetter 0 = .ok (.iload_n 0, 1) := by decide +kernel
theorem dX11_isLetter_1 : decode cX11_isLetter 1 = .ok (.bipush 97, 2) := by decide +kernel
theorem dX11_isLetter_3 : decode cX11_isLetter 3 = .ok (.if_icmp .lt 13, 3) := by decide +kernel
theorem dX11_isLetter_6 : decode cX11_isLetter 6 = .ok (.iload_n 0, 1) := by decide +kernel
theorem dX11_isLetter_7 : decode cX11_isLetter 7 = .ok (.bipush 122, 2) := by decide +kernel
theorem dX11_isLetter_9 : decode cX11_isLetter 9 = .ok (.if_icmp .gt 7, 3) := by decide +kernel
theorem dX11_isLetter_12 : decode cX11_isLetter 12 = .ok (.iconst 1, 1) := by decide +kernel
theorem dX11_isLetter_13 : decode cX11_isLetter 13 = .ok (.goto 4, 3) := by decide +kernel
theorem dX11_isLetter_16 : decode cX11_isLetter 16 = .ok (.iconst 0, 1) := by decide +kernel
theorem dX11_isLetter_17 : decode cX11_isLetter 17 = .ok (.ireturn, 1) := by decide +kernel
theorem dX11_isDigit_0 : decode cX11_isDigit 0 = .ok (.iload_n 0, 1) := by decide +kernel
theorem dX11_isDigit_1 : decode cX11_isDigit 1 = .ok (.bipush 48, 2) := by decide +kernel
theorem dX11_isDigit_3 : decode cX11_isDigit 3 = .ok (.if_icmp .lt 13, 3) := by decide +kernel
theorem dX11_isDigit_6 : decode cX11_isDigit 6 = .ok (.iload_n 0, 1) := by decide +kernel
theorem dX11_isDigit_7 : decode cX11_isDigit 7 = .ok (.bipush 57, 2) := by decide +kernel
theorem dX11_isDigit_9 : decode cX11_isDigit 9 = .ok (.if_icmp .gt 7, 3) := by decide +kernel
theorem dX11_isDigit_12 : decode cX11_isDigit 12 = .ok (.iconst 1, 1) := by decide +kernel
theorem dX11_isDigit_13 : decode cX11_isDigit 13 = .ok (.goto 4, 3) := by decide +kernel
theorem dX11_isDigit_16 : decode cX11_isDigit 16 = .ok (.iconst 0, 1) := by decide +kernel
theorem dX11_isDigit_17 : decode cX11_isDigit 17 = .ok (.ireturn, 1) := by decide +kernel
theorem dX11_layOutLines_0 : decode cX11_layOutLines 0 = .ok (.iconst 0, 1) := by decide +kernel
theorem dX11_layOutLines_1 : decode cX11_layOutLines 1 = .ok (.istore_n 1, 1) := by decide +kernel
theorem dX11_layOutLines_2 : decode cX11_layOutLines 2 = .ok (.iload_n 1, 1) := by decide +kernel
theorem dX11_layOutLines_3 : decode cX11_layOutLines 3 = .ok (.iconst 4, 1) := by decide +kernel
theorem dX11_layOutLines_4 : decode cX11_layOutLines 4 = .ok (.if_icmp .ge 177, 3) := by decide +kernel
theorem dX11_layOutLines_7 : decode cX11_layOutLines 7 = .ok (.aload_n 0, 1) := by decide +kernel
theorem dX11_layOutLines_8 : decode cX11_layOutLines 8 = .ok (.getfield 18, 3) := by decide +kernel
theorem dX11_layOutLines_11 : decode cX11_layOutLines 11 = .ok (.iload_n 1, 1) := by decide +kernel
theorem dX11_layOutLines_12 : decode cX11_layOutLines 12 = .ok (.aaload, 1) := by decide +kernel
theorem dX11_layOutLines_13 : decode cX11_layOutLines 13 = .ok (.astore_n 2, 1) := by decide +kernel
theorem dX11_layOutLines_14 : decode cX11_layOutLines 14 = .ok (.iconst 0, 1) := by decide +kernel
theorem dX11_layOutLines_15 : decode cX11_layOutLines 15 = .ok (.istore_n 3, 1) := by decide +kernel
theorem dX11_layOutLines_16 : decode cX11_layOutLines 16 = .ok (.iconst 0, 1) := by decide +kernel
theorem dX11_layOutLines_17 : decode cX11_layOutLines 17 = .ok (.istore 4, 2) := by decide +kernel
theorem dX11_layOutLines_19 : decode cX11_layOutLines 19 = .ok (.iload 4, 2) := by decide +kernel
theorem dX11_layOutLines_21 : decode cX11_layOutLines 21 = .ok (.aload_n 2, 1) := by decide +kernel
theorem dX11_layOutLines_22 : decode cX11_layOutLines 22 = .ok (.getfield 75, 3) := by decide +kernel
theorem dX11_layOutLines_25 : decode cX11_layOutLines 25 = .ok (.if_icmp .ge 150, 3) := by decide +kernel
theorem dX11_layOutLines_28 : decode cX11_layOutLines 28 = .ok (.aload_n 2, 1) := by decide +kernel
theorem dX11_layOutLines_29 : decode cX11_layOutLines 29 = .ok (.getfield 80, 3) := by decide +kernel
theorem dX11_layOutLines_32 : decode cX11_layOutLines 32 = .ok (.iload 4, 2) := by decide +kernel
theorem dX11_layOutLines_34 : decode cX11_layOutLines 34 = .ok (.aaload, 1) := by decide +kernel
theorem dX11_layOutLines_35 : decode cX11_layOutLines 35 = .ok (.astore 5, 2) := by decide +kernel
theorem dX11_layOutLines_37 : decode cX11_layOutLines 37 = .ok (.aload 5, 2) := by decide +kernel
theorem dX11_layOutLines_39 : decode cX11_layOutLines 39 = .ok (.getfield 169, 3) := by decide +kernel
theorem dX11_layOutLines_42 : decode cX11_layOutLines 42 = .ok (.lconst 0, 1) := by decide +kernel
theorem dX11_layOutLines_43 : decode cX11_layOutLines 43 = .ok (.lcmp, 1) := by decide +kernel
theorem dX11_layOutLines_44 : decode cX11_layOutLines 44 = .ok (.ifCond .eq 41, 3) := by decide +kernel
theorem dX11_layOutLines_47 : decode cX11_layOutLines 47 = .ok (.aload_n 0, 1) := by decide +kernel
theorem dX11_layOutLines_48 : decode cX11_layOutLines 48 = .ok (.getfield 44, 3) := by decide +kernel
theorem dX11_layOutLines_51 : decode cX11_layOutLines 51 = .ok (.getfield 140, 3) := by decide +kernel
theorem dX11_layOutLines_54 : decode cX11_layOutLines 54 = .ok (.iload_n 1, 1) := by decide +kernel
theorem dX11_layOutLines_55 : decode cX11_layOutLines 55 = .ok (.aload 5, 2) := by decide +kernel
theorem dX11_layOutLines_57 : decode cX11_layOutLines 57 = .ok (.getfield 169, 3) := by decide +kernel
theorem dX11_layOutLines_60 : decode cX11_layOutLines 60 = .ok (.invokevirtual 148, 3) := by decide +kernel
theorem dX11_layOutLines_63 : decode cX11_layOutLines 63 = .ok (.iconst (-1), 1) := by decide +kernel
theorem dX11_layOutLines_64 : decode cX11_layOutLines 64 = .ok (.if_icmp .eq 21, 3) := by decide +kernel
theorem dX11_layOutLines_67 : decode cX11_layOutLines 67 = .ok (.aload_n 0, 1) := by decide +kernel
theorem dX11_layOutLines_68 : decode cX11_layOutLines 68 = .ok (.getfield 33, 3) := by decide +kernel
theorem dX11_layOutLines_71 : decode cX11_layOutLines 71 = .ok (.bipush (-2), 2) := by decide +kernel
theorem dX11_layOutLines_73 : decode cX11_layOutLines 73 = .ok (.iload_n 1, 1) := by decide +kernel
theorem dX11_layOutLines_74 : decode cX11_layOutLines 74 = .ok (.iload 4, 2) := by decide +kernel
theorem dX11_layOutLines_76 : decode cX11_layOutLines 76 = .ok (.aload 5, 2) := by decide +kernel
theorem dX11_layOutLines_78 : decode cX11_layOutLines 78 = .ok (.getfield 175, 3) := by decide +kernel
theorem dX11_layOutLines_81 : decode cX11_layOutLines 81 = .ok (.invokevirtual 178, 3) := by decide +kernel
theorem dX11_layOutLines_84 : decode cX11_layOutLines 84 = .ok (.ireturn, 1) := by decide +kernel
theorem dX11_layOutLines_85 : decode cX11_layOutLines 85 = .ok (.aload 5, 2) := by decide +kernel
theorem dX11_layOutLines_87 : decode cX11_layOutLines 87 = .ok (.getfield 182, 3) := by decide +kernel
theorem dX11_layOutLines_90 : decode cX11_layOutLines 90 = .ok (.ifCond .eq 24, 3) := by decide +kernel
theorem dX11_layOutLines_93 : decode cX11_layOutLines 93 = .ok (.aload_n 0, 1) := by decide +kernel
theorem dX11_layOutLines_94 : decode cX11_layOutLines 94 = .ok (.getfield 33, 3) := by decide +kernel
theorem dX11_layOutLines_97 : decode cX11_layOutLines 97 = .ok (.aload 5, 2) := by decide +kernel
theorem dX11_layOutLines_99 : decode cX11_layOutLines 99 = .ok (.getfield 182, 3) := by decide +kernel
theorem dX11_layOutLines_102 : decode cX11_layOutLines 102 = .ok (.iload_n 1, 1) := by decide +kernel
theorem dX11_layOutLines_103 : decode cX11_layOutLines 103 = .ok (.iload 4, 2) := by decide +kernel
theorem dX11_layOutLines_105 : decode cX11_layOutLines 105 = .ok (.aload 5, 2) := by decide +kernel
theorem dX11_layOutLines_107 : decode cX11_layOutLines 107 = .ok (.getfield 185, 3) := by decide +kernel
theorem dX11_layOutLines_110 : decode cX11_layOutLines 110 = .ok (.invokevirtual 178, 3) := by decide +kernel
theorem dX11_layOutLines_113 : decode cX11_layOutLines 113 = .ok (.ireturn, 1) := by decide +kernel
theorem dX11_layOutLines_114 : decode cX11_layOutLines 114 = .ok (.aload_n 0, 1) := by decide +kernel
theorem dX11_layOutLines_115 : decode cX11_layOutLines 115 = .ok (.getfield 44, 3) := by decide +kernel
theorem dX11_layOutLines_118 : decode cX11_layOutLines 118 = .ok (.aload 5, 2) := by decide +kernel
theorem dX11_layOutLines_120 : decode cX11_layOutLines 120 = .ok (.iload_n 1, 1) := by decide +kernel
theorem dX11_layOutLines_121 : decode cX11_layOutLines 121 = .ok (.iload_n 3, 1) := by decide +kernel
theorem dX11_layOutLines_122 : decode cX11_layOutLines 122 = .ok (.invokevirtual 188, 3) := by decide +kernel
theorem dX11_layOutLines_125 : decode cX11_layOutLines 125 = .ok (.istore 6, 2) := by decide +kernel
theorem dX11_layOutLines_127 : decode cX11_layOutLines 127 = .ok (.iload 6, 2) := by decide +kernel
theorem dX11_layOutLines_129 : decode cX11_layOutLines 129 = .ok (.ifCond .eq 21, 3) := by decide +kernel
theorem dX11_layOutLines_132 : decode cX11_layOutLines 132 = .ok (.aload_n 0, 1) := by decide +kernel
theorem dX11_layOutLines_133 : decode cX11_layOutLines 133 = .ok (.getfield 33, 3) := by decide +kernel
theorem dX11_layOutLines_136 : decode cX11_layOutLines 136 = .ok (.iload 6, 2) := by decide +kernel
theorem dX11_layOutLines_138 : decode cX11_layOutLines 138 = .ok (.iload_n 1, 1) := by decide +kernel
theorem dX11_layOutLines_139 : decode cX11_layOutLines 139 = .ok (.iload 4, 2) := by decide +kernel
theorem dX11_layOutLines_141 : decode cX11_layOutLines 141 = .ok (.aload 5, 2) := by decide +kernel
theorem dX11_layOutLines_143 : decode cX11_layOutLines 143 = .ok (.getfield 192, 3) := by decide +kernel
theorem dX11_layOutLines_146 : decode cX11_layOutLines 146 = .ok (.invokevirtual 178, 3) := by decide +kernel
theorem dX11_layOutLines_149 : decode cX11_layOutLines 149 = .ok (.ireturn, 1) := by decide +kernel
theorem dX11_layOutLines_150 : decode cX11_layOutLines 150 = .ok (.aload 5, 2) := by decide +kernel
theorem dX11_layOutLines_152 : decode cX11_layOutLines 152 = .ok (.getfield 193, 3) := by decide +kernel
theorem dX11_layOutLines_155 : decode cX11_layOutLines 155 = .ok (.iconst 1, 1) := by decide +kernel
theorem dX11_layOutLines_156 : decode cX11_layOutLines 156 = .ok (.if_icmp .ne 11, 3) := by decide +kernel
theorem dX11_layOutLines_159 : decode cX11_layOutLines 159 = .ok (.aload 5, 2) := by decide +kernel
theorem dX11_layOutLines_161 : decode cX11_layOutLines 161 = .ok (.getfield 194, 3) := by decide +kernel
theorem dX11_layOutLines_164 : decode cX11_layOutLines 164 = .ok (.goto 4, 3) := by decide +kernel
theorem dX11_layOutLines_167 : decode cX11_layOutLines 167 = .ok (.iload_n 3, 1) := by decide +kernel
theorem dX11_layOutLines_168 : decode cX11_layOutLines 168 = .ok (.istore_n 3, 1) := by decide +kernel
theorem dX11_layOutLines_169 : decode cX11_layOutLines 169 = .ok (.iinc 4 1, 3) := by decide +kernel
theorem dX11_layOutLines_172 : decode cX11_layOutLines 172 = .ok (.goto (-153), 3) := by decide +kernel
theorem dX11_layOutLines_175 : decode cX11_layOutLines 175 = .ok (.iinc 1 1, 3) := by decide +kernel
theorem dX11_layOutLines_178 : decode cX11_layOutLines 178 = .ok (.goto (-176), 3) := by decide +kernel
theorem dX11_layOutLines_181 : decode cX11_layOutLines 181 = .ok (.iconst 1, 1) := by decide +kernel
theorem dX11_layOutLines_182 : decode cX11_layOutLines 182 = .ok (.ireturn, 1) := by decide +kernel
theorem dX11_tellGlobals_0 : decode cX11_tellGlobals 0 = .ok (.iconst 0, 1) := by decide +kernel
theorem dX11_tellGlobals_1 : decode cX11_tellGlobals 1 = .ok (.istore_n 1, 1) := by decide +kernel
theorem dX11_tellGlobals_2 : decode cX11_tellGlobals 2 = .ok (.iload_n 1, 1) := by decide +kernel
theorem dX11_tellGlobals_3 : decode cX11_tellGlobals 3 = .ok (.iconst 4, 1) := by decide +kernel
theorem dX11_tellGlobals_4 : decode cX11_tellGlobals 4 = .ok (.if_icmp .ge 93, 3) := by decide +kernel
theorem dX11_tellGlobals_7 : decode cX11_tellGlobals 7 = .ok (.aload_n 0, 1) := by decide +kernel
theorem dX11_tellGlobals_8 : decode cX11_tellGlobals 8 = .ok (.getfield 18, 3) := by decide +kernel
theorem dX11_tellGlobals_11 : decode cX11_tellGlobals 11 = .ok (.iload_n 1, 1) := by decide +kernel
theorem dX11_tellGlobals_12 : decode cX11_tellGlobals 12 = .ok (.aaload, 1) := by decide +kernel
theorem dX11_tellGlobals_13 : decode cX11_tellGlobals 13 = .ok (.astore_n 2, 1) := by decide +kernel
theorem dX11_tellGlobals_14 : decode cX11_tellGlobals 14 = .ok (.iconst 0, 1) := by decide +kernel
theorem dX11_tellGlobals_15 : decode cX11_tellGlobals 15 = .ok (.istore_n 3, 1) := by decide +kernel
theorem dX11_tellGlobals_16 : decode cX11_tellGlobals 16 = .ok (.iload_n 3, 1) := by decide +kernel
theorem dX11_tellGlobals_17 : decode cX11_tellGlobals 17 = .ok (.aload_n 2, 1) := by decide +kernel
theorem dX11_tellGlobals_18 : decode cX11_tellGlobals 18 = .ok (.getfield 75, 3) := by decide +kernel
theorem dX11_tellGlobals_21 : decode cX11_tellGlobals 21 = .ok (.if_icmp .ge 70, 3) := by decide +kernel
theorem dX11_tellGlobals_24 : decode cX11_tellGlobals 24 = .ok (.aload_n 2, 1) := by decide +kernel
theorem dX11_tellGlobals_25 : decode cX11_tellGlobals 25 = .ok (.getfield 80, 3) := by decide +kernel
theorem dX11_tellGlobals_28 : decode cX11_tellGlobals 28 = .ok (.iload_n 3, 1) := by decide +kernel
theorem dX11_tellGlobals_29 : decode cX11_tellGlobals 29 = .ok (.aaload, 1) := by decide +kernel
theorem dX11_tellGlobals_30 : decode cX11_tellGlobals 30 = .ok (.astore 4, 2) := by decide +kernel
theorem dX11_tellGlobals_32 : decode cX11_tellGlobals 32 = .ok (.aload 4, 2) := by decide +kernel
theorem dX11_tellGlobals_34 : decode cX11_tellGlobals 34 = .ok (.getfield 193, 3) := by decide +kernel
theorem dX11_tellGlobals_37 : decode cX11_tellGlobals 37 = .ok (.iconst 2, 1) := by decide +kernel
theorem dX11_tellGlobals_38 : decode cX11_tellGlobals 38 = .ok (.if_icmp .ne 22, 3) := by decide +kernel
theorem dX11_tellGlobals_41 : decode cX11_tellGlobals 41 = .ok (.aload_n 0, 1) := by decide +kernel
theorem dX11_tellGlobals_42 : decode cX11_tellGlobals 42 = .ok (.getfield 44, 3) := by decide +kernel
theorem dX11_tellGlobals_45 : decode cX11_tellGlobals 45 = .ok (.getfield 140, 3) := by decide +kernel
theorem dX11_tellGlobals_48 : decode cX11_tellGlobals 48 = .ok (.iload_n 1, 1) := by decide +kernel
theorem dX11_tellGlobals_49 : decode cX11_tellGlobals 49 = .ok (.aload 4, 2) := by decide +kernel
theorem dX11_tellGlobals_51 : decode cX11_tellGlobals 51 = .ok (.getfield 197, 3) := by decide +kernel
theorem dX11_tellGlobals_54 : decode cX11_tellGlobals 54 = .ok (.invokevirtual 200, 3) := by decide +kernel
theorem dX11_tellGlobals_57 : decode cX11_tellGlobals 57 = .ok (.goto 4, 3) := by decide +kernel
theorem dX11_tellGlobals_60 : decode cX11_tellGlobals 60 = .ok (.iconst 0, 1) := by decide +kernel
theorem dX11_tellGlobals_61 : decode cX11_tellGlobals 61 = .ok (.istore 5, 2) := by decide +kernel
theorem dX11_tellGlobals_63 : decode cX11_tellGlobals 63 = .ok (.iload 5, 2) := by decide +kernel
theorem dX11_tellGlobals_65 : decode cX11_tellGlobals 65 = .ok (.ifCond .eq 20, 3) := by decide +kernel
theorem dX11_tellGlobals_68 : decode cX11_tellGlobals 68 = .ok (.aload_n 0, 1) := by decide +kernel
theorem dX11_tellGlobals_69 : decode cX11_tellGlobals 69 = .ok (.getfield 33, 3) := by decide +kernel
theorem dX11_tellGlobals_72 : decode cX11_tellGlobals 72 = .ok (.iload 5, 2) := by decide +kernel
theorem dX11_tellGlobals_74 : decode cX11_tellGlobals 74 = .ok (.iload_n 1, 1) := by decide +kernel
theorem dX11_tellGlobals_75 : decode cX11_tellGlobals 75 = .ok (.iload_n 3, 1) := by decide +kernel
theorem dX11_tellGlobals_76 : decode cX11_tellGlobals 76 = .ok (.aload 4, 2) := by decide +kernel
theorem dX11_tellGlobals_78 : decode cX11_tellGlobals 78 = .ok (.getfield 203, 3) := by decide +kernel
theorem dX11_tellGlobals_81 : decode cX11_tellGlobals 81 = .ok (.invokevirtual 178, 3) := by decide +kernel
theorem dX11_tellGlobals_84 : decode cX11_tellGlobals 84 = .ok (.ireturn, 1) := by decide +kernel
theorem dX11_tellGlobals_85 : decode cX11_tellGlobals 85 = .ok (.iinc 3 1, 3) := by decide +kernel
theorem dX11_tellGlobals_88 : decode cX11_tellGlobals 88 = .ok (.goto (-72), 3) := by decide +kernel
theorem dX11_tellGlobals_91 : decode cX11_tellGlobals 91 = .ok (.iinc 1 1, 3) := by decide +kernel
theorem dX11_tellGlobals_94 : decode cX11_tellGlobals 94 = .ok (.goto (-92), 3) := by decide +kernel
theorem dX11_tellGlobals_97 : decode cX11_tellGlobals 97 = .ok (.iconst 1, 1) := by decide +kernel
theorem dX11_tellGlobals_98 : decode cX11_tellGlobals 98 = .ok (.ireturn, 1) := by decide +kernel
theorem dX11_findRoom_0 : decode cX11_findRoom 0 = .ok (.aload_n 0, 1) := by decide +kernel
theorem dX11_findRoom_1 : decode cX11_findRoom 1 = .ok (.getfield 44, 3) := by decide +kernel
theorem dX11_findRoom_4 : decode cX11_findRoom 4 = .ok (.getfield 159, 3) := by decide +kernel
theorem dX11_findRoom_7 : decode cX11_findRoom 7 = .ok (.invokevirtual 206, 3) := by decide +kernel
theorem dX11_findRoom_10 : decode cX11_findRoom 10 = .ok (.ifCond .ne 18, 3) := by decide +kernel
theorem dX11_findRoom_13 : decode cX11_findRoom 13 = .ok (.aload_n 0, 1) := by decide +kernel
theorem dX11_findRoom_14 : decode cX11_findRoom 14 = .ok (.getfield 33, 3) := by decide +kernel
theorem dX11_findRoom_17 : decode cX11_findRoom 17 = .ok (.bipush (-7), 2) := by decide +kernel
theorem dX11_findRoom_19 : decode cX11_findRoom 19 = .ok (.iconst (-1), 1) := by decide +kernel
theorem dX11_findRoom_20 : decode cX11_findRoom 20 = .ok (.iconst (-1), 1) := by decide +kernel
theorem dX11_findRoom_21 : decode cX11_findRoom 21 = .ok (.iconst (-1), 1) := by decide +kernel
theorem dX11_findRoom_22 : decode cX11_findRoom 22 = .ok (.invokevirtual 178, 3) := by decide +kernel
theorem dX11_findRoom_25 : decode cX11_findRoom 25 = .ok (.ifCond .eq 7, 3) := by decide +kernel
theorem dX11_findRoom_28 : decode cX11_findRoom 28 = .ok (.iconst 1, 1) := by decide +kernel
theorem dX11_findRoom_29 : decode cX11_findRoom 29 = .ok (.goto 4, 3) := by decide +kernel
theorem dX11_findRoom_32 : decode cX11_findRoom 32 = .ok (.iconst 0, 1) := by decide +kernel
theorem dX11_findRoom_33 : decode cX11_findRoom 33 = .ok (.ireturn, 1) := by decide +kernel
theorem dX11_writeLines_0 : decode cX11_writeLines 0 = .ok (.iconst 0, 1) := by decide +kernel
theorem dX11_writeLines_1 : decode cX11_writeLines 1 = .ok (.istore_n 1, 1) := by decide +kernel
theorem dX11_writeLines_2 : decode cX11_writeLines 2 = .ok (.iload_n 1, 1) := by decide +kernel
theorem dX11_writeLines_3 : decode cX11_writeLines 3 = .ok (.iconst 4, 1) := by decide +kernel
theorem dX11_writeLines_4 : decode cX11_writeLines 4 = .ok (.if_icmp .ge 74, 3) := by decide +kernel
theorem dX11_writeLines_7 : decode cX11_writeLines 7 = .ok (.aload_n 0, 1) := by decide +kernel
theorem dX11_writeLines_8 : decode cX11_writeLines 8 = .ok (.getfield 18, 3) := by decide +kernel
theorem dX11_writeLines_11 : decode cX11_writeLines 11 = .ok (.iload_n 1, 1) := by decide +kernel
theorem dX11_writeLines_12 : decode cX11_writeLines 12 = .ok (.aaload, 1) := by decide +kernel
theorem dX11_writeLines_13 : decode cX11_writeLines 13 = .ok (.astore_n 2, 1) := by decide +kernel
theorem dX11_writeLines_14 : decode cX11_writeLines 14 = .ok (.iconst 0, 1) := by decide +kernel
theorem dX11_writeLines_15 : decode cX11_writeLines 15 = .ok (.istore_n 3, 1) := by decide +kernel
theorem dX11_writeLines_16 : decode cX11_writeLines 16 = .ok (.iload_n 3, 1) := by decide +kernel
theorem dX11_writeLines_17 : decode cX11_writeLines 17 = .ok (.aload_n 2, 1) := by decide +kernel
theorem dX11_writeLines_18 : decode cX11_writeLines 18 = .ok (.getfield 75, 3) := by decide +kernel
theorem dX11_writeLines_21 : decode cX11_writeLines 21 = .ok (.if_icmp .ge 51, 3) := by decide +kernel
theorem dX11_writeLines_24 : decode cX11_writeLines 24 = .ok (.aload_n 0, 1) := by decide +kernel
theorem dX11_writeLines_25 : decode cX11_writeLines 25 = .ok (.getfield 44, 3) := by decide +kernel
theorem dX11_writeLines_28 : decode cX11_writeLines 28 = .ok (.aload_n 2, 1) := by decide +kernel
theorem dX11_writeLines_29 : decode cX11_writeLines 29 = .ok (.getfield 80, 3) := by decide +kernel
theorem dX11_writeLines_32 : decode cX11_writeLines 32 = .ok (.iload_n 3, 1) := by decide +kernel
theorem dX11_writeLines_33 : decode cX11_writeLines 33 = .ok (.aaload, 1) := by decide +kernel
theorem dX11_writeLines_34 : decode cX11_writeLines 34 = .ok (.iload_n 1, 1) := by decide +kernel
theorem dX11_writeLines_35 : decode cX11_writeLines 35 = .ok (.invokevirtual 209, 3) := by decide +kernel
theorem dX11_writeLines_38 : decode cX11_writeLines 38 = .ok (.istore 4, 2) := by decide +kernel
theorem dX11_writeLines_40 : decode cX11_writeLines 40 = .ok (.iload 4, 2) := by decide +kernel
theorem dX11_writeLines_42 : decode cX11_writeLines 42 = .ok (.ifCond .eq 24, 3) := by decide +kernel
theorem dX11_writeLines_45 : decode cX11_writeLines 45 = .ok (.aload_n 0, 1) := by decide +kernel
theorem dX11_writeLines_46 : decode cX11_writeLines 46 = .ok (.getfield 33, 3) := by decide +kernel
theorem dX11_writeLines_49 : decode cX11_writeLines 49 = .ok (.iload 4, 2) := by decide +kernel
theorem dX11_writeLines_51 : decode cX11_writeLines 51 = .ok (.iload_n 1, 1) := by decide +kernel
theorem dX11_writeLines_52 : decode cX11_writeLines 52 = .ok (.iload_n 3, 1) := by decide +kernel
theorem dX11_writeLines_53 : decode cX11_writeLines 53 = .ok (.aload_n 2, 1) := by decide +kernel
theorem dX11_writeLines_54 : decode cX11_writeLines 54 = .ok (.getfield 80, 3) := by decide +kernel
theorem dX11_writeLines_57 : decode cX11_writeLines 57 = .ok (.iload_n 3, 1) := by decide +kernel
theorem dX11_writeLines_58 : decode cX11_writeLines 58 = .ok (.aaload, 1) := by decide +kernel
theorem dX11_writeLines_59 : decode cX11_writeLines 59 = .ok (.getfield 203, 3) := by decide +kernel
theorem dX11_writeLines_62 : decode cX11_writeLines 62 = .ok (.invokevirtual 178, 3) := by decide +kernel
theorem dX11_writeLines_65 : decode cX11_writeLines 65 = .ok (.ireturn, 1) := by decide +kernel
theorem dX11_writeLines_66 : decode cX11_writeLines 66 = .ok (.iinc 3 1, 3) := by decide +kernel
theorem dX11_writeLines_69 : decode cX11_writeLines 69 = .ok (.goto (-53), 3) := by decide +kernel
theorem dX11_writeLines_72 : decode cX11_writeLines 72 = .ok (.iinc 1 1, 3) := by decide +kernel
theorem dX11_writeLines_75 : decode cX11_writeLines 75 = .ok (.goto (-73), 3) := by decide +kernel
theorem dX11_writeLines_78 : decode cX11_writeLines 78 = .ok (.iconst 1, 1) := by decide +kernel
theorem dX11_writeLines_79 : decode cX11_writeLines 79 = .ok (.ireturn, 1) := by decide +kernel
theorem dX11_writeVectors_0 : decode cX11_writeVectors 0 = .ok (.aload_n 0, 1) := by decide +kernel
theorem dX11_writeVectors_1 : decode cX11_writeVectors 1 = .ok (.getfield 44, 3) := by decide +kernel
theorem dX11_writeVectors_4 : decode cX11_writeVectors 4 = .ok (.getfield 140, 3) := by decide +kernel
theorem dX11_writeVectors_7 : decode cX11_writeVectors 7 = .ok (.ldc2_w 213, 3) := by decide +kernel
theorem dX11_writeVectors_10 : decode cX11_writeVectors 10 = .ok (.invokevirtual 215, 3) := by decide +kernel
theorem dX11_writeVectors_13 : decode cX11_writeVectors 13 = .ok (.istore_n 1, 1) := by decide +kernel
theorem dX11_writeVectors_14 : decode cX11_writeVectors 14 = .ok (.iload_n 1, 1) := by decide +kernel
theorem dX11_writeVectors_15 : decode cX11_writeVectors 15 = .ok (.iconst (-1), 1) := by decide +kernel
theorem dX11_writeVectors_16 : decode cX11_writeVectors 16 = .ok (.if_icmp .eq 18, 3) := by decide +kernel
theorem dX11_writeVectors_19 : decode cX11_writeVectors 19 = .ok (.aload_n 0, 1) := by decide +kernel
theorem dX11_writeVectors_20 : decode cX11_writeVectors 20 = .ok (.getfield 44, 3) := by decide +kernel
theorem dX11_writeVectors_23 : decode cX11_writeVectors 23 = .ok (.getfield 140, 3) := by decide +kernel
theorem dX11_writeVectors_26 : decode cX11_writeVectors 26 = .ok (.getfield 219, 3) := by decide +kernel
theorem dX11_writeVectors_29 : decode cX11_writeVectors 29 = .ok (.iload_n 1, 1) := by decide +kernel
theorem dX11_writeVectors_30 : decode cX11_writeVectors 30 = .ok (.iaload, 1) := by decide +kernel
theorem dX11_writeVectors_31 : decode cX11_writeVectors 31 = .ok (.ifCond .eq 16, 3) := by decide +kernel
theorem dX11_writeVectors_34 : decode cX11_writeVectors 34 = .ok (.aload_n 0, 1) := by decide +kernel
theorem dX11_writeVectors_35 : decode cX11_writeVectors 35 = .ok (.getfield 33, 3) := by decide +kernel
theorem dX11_writeVectors_38 : decode cX11_writeVectors 38 = .ok (.bipush (-8), 2) := by decide +kernel
theorem dX11_writeVectors_40 : decode cX11_writeVectors 40 = .ok (.iconst (-1), 1) := by decide +kernel
theorem dX11_writeVectors_41 : decode cX11_writeVectors 41 = .ok (.iconst (-1), 1) := by decide +kernel
theorem dX11_writeVectors_42 : decode cX11_writeVectors 42 = .ok (.iconst (-1), 1) := by decide +kernel
theorem dX11_writeVectors_43 : decode cX11_writeVectors 43 = .ok (.invokevirtual 178, 3) := by decide +kernel
theorem dX11_writeVectors_46 : decode cX11_writeVectors 46 = .ok (.ireturn, 1) := by decide +kernel
theorem dX11_writeVectors_47 : decode cX11_writeVectors 47 = .ok (.aload_n 0, 1) := by decide +kernel
theorem dX11_writeVectors_48 : decode cX11_writeVectors 48 = .ok (.getfield 44, 3) := by decide +kernel
theorem dX11_writeVectors_51 : decode cX11_writeVectors 51 = .ok (.getfield 115, 3) := by decide +kernel
theorem dX11_writeVectors_54 : decode cX11_writeVectors 54 = .ok (.iconst 0, 1) := by decide +kernel
theorem dX11_writeVectors_55 : decode cX11_writeVectors 55 = .ok (.ldc 223, 2) := by decide +kernel
theorem dX11_writeVectors_57 : decode cX11_writeVectors 57 = .ok (.invokevirtual 224, 3) := by decide +kernel
theorem dX11_writeVectors_60 : decode cX11_writeVectors 60 = .ok (.aload_n 0, 1) := by decide +kernel
theorem dX11_writeVectors_61 : decode cX11_writeVectors 61 = .ok (.getfield 44, 3) := by decide +kernel
theorem dX11_writeVectors_64 : decode cX11_writeVectors 64 = .ok (.getfield 115, 3) := by decide +kernel
theorem dX11_writeVectors_67 : decode cX11_writeVectors 67 = .ok (.iconst 4, 1) := by decide +kernel
theorem dX11_writeVectors_68 : decode cX11_writeVectors 68 = .ok (.aload_n 0, 1) := by decide +kernel
theorem dX11_writeVectors_69 : decode cX11_writeVectors 69 = .ok (.getfield 44, 3) := by decide +kernel
theorem dX11_writeVectors_72 : decode cX11_writeVectors 72 = .ok (.iload_n 1, 1) := by decide +kernel
theorem dX11_writeVectors_73 : decode cX11_writeVectors 73 = .ok (.invokevirtual 154, 3) := by decide +kernel
theorem dX11_writeVectors_76 : decode cX11_writeVectors 76 = .ok (.iconst 1, 1) := by decide +kernel
theorem dX11_writeVectors_77 : decode cX11_writeVectors 77 = .ok (.iadd, 1) := by decide +kernel
theorem dX11_writeVectors_78 : decode cX11_writeVectors 78 = .ok (.invokevirtual 224, 3) := by decide +kernel
theorem dX11_writeVectors_81 : decode cX11_writeVectors 81 = .ok (.aload_n 0, 1) := by decide +kernel
theorem dX11_writeVectors_82 : decode cX11_writeVectors 82 = .ok (.getfield 44, 3) := by decide +kernel
theorem dX11_writeVectors_85 : decode cX11_writeVectors 85 = .ok (.getfield 115, 3) := by decide +kernel
theorem dX11_writeVectors_88 : decode cX11_writeVectors 88 = .ok (.aload_n 0, 1) := by decide +kernel
theorem dX11_writeVectors_89 : decode cX11_writeVectors 89 = .ok (.getfield 44, 3) := by decide +kernel
theorem dX11_writeVectors_92 : decode cX11_writeVectors 92 = .ok (.getfield 159, 3) := by decide +kernel
theorem dX11_writeVectors_95 : decode cX11_writeVectors 95 = .ok (.getfield 228, 3) := by decide +kernel
theorem dX11_writeVectors_98 : decode cX11_writeVectors 98 = .ok (.putfield 119, 3) := by decide +kernel
theorem dX11_writeVectors_101 : decode cX11_writeVectors 101 = .ok (.iconst 1, 1) := by decide +kernel
theorem dX11_writeVectors_102 : decode cX11_writeVectors 102 = .ok (.ireturn, 1) := by decide +kernel
theorem dJ9_min_7cf53_0 : decode cJ9_min_7cf53 0 = .ok (.iload_n 0, 1) := by decide +kernel
theorem dJ9_min_7cf53_1 : decode cJ9_min_7cf53 1 = .ok (.iload_n 1, 1) := by decide +kernel
theorem dJ9_min_7cf53_2 : decode cJ9_min_7cf53 2 = .ok (.if_icmp .gt 7, 3) := by decide +kernel
theorem dJ9_min_7cf53_5 : decode cJ9_min_7cf53 5 = .ok (.iload_n 0, 1) := by decide +kernel
theorem dJ9_min_7cf53_6 : decode cJ9_min_7cf53 6 = .ok (.goto 4, 3) := by decide +kernel
theorem dJ9_min_7cf53_9 : decode cJ9_min_7cf53 9 = .ok (.iload_n 1, 1) := by decide +kernel
theorem dJ9_min_7cf53_10 : decode cJ9_min_7cf53 10 = .ok (.ireturn, 1) := by decide +kernel
theorem dJ0_length_8abf5_0 : decode cJ0_length_8abf5 0 = .ok (.aload_n 0, 1) := by decide +kernel
theorem dJ0_length_8abf5_1 : decode cJ0_length_8abf5 1 = .ok (.getfield 9, 3) := by decide +kernel
theorem dJ0_length_8abf5_4 : decode cJ0_length_8abf5 4 = .ok (.arraylength, 1) := by decide +kernel
theorem dJ0_length_8abf5_5 : decode cJ0_length_8abf5 5 = .ok (.aload_n 0, 1) := by decide +kernel
theorem dJ0_length_8abf5_6 : decode cJ0_length_8abf5 6 = .ok (.invokevirtual 335, 3) := by decide +kernel
theorem dJ0_length_8abf5_9 : decode cJ0_length_8abf5 9 = .ok (.ishr, 1) := by decide +kernel
theorem dJ0_length_8abf5_10 : decode cJ0_length_8abf5 10 = .ok (.ireturn, 1) := by decide +kernel
theorem dJ0_charAt_5068e_0 : decode cJ0_charAt_5068e 0 = .ok (.aload_n 0, 1) := by decide +kernel
theorem dJ0_charAt_5068e_1 : decode cJ0_charAt_5068e 1 = .ok (.invokevirtual 492, 3) := by decide +kernel
theorem dJ0_charAt_5068e_4 : decode cJ0_charAt_5068e 4 = .ok (.ifCond .eq 12, 3) := by decide +kernel
theorem dJ0_charAt_5068e_7 : decode cJ0_charAt_5068e 7 = .ok (.aload_n 0, 1) := by decide +kernel
theorem dJ0_charAt_5068e_8 : decode cJ0_charAt_5068e 8 = .ok (.getfield 9, 3) := by decide +kernel
theorem dJ0_charAt_5068e_11 : decode cJ0_charAt_5068e 11 = .ok (.iload_n 1, 1) := by decide +kernel
theorem dJ0_charAt_5068e_12 : decode cJ0_charAt_5068e 12 = .ok (.invokestatic 495, 3) := by decide +kernel
theorem dJ0_charAt_5068e_15 : decode cJ0_charAt_5068e 15 = .ok (.ireturn, 1) := by decide +kernel
theorem dJ0_charAt_5068e_16 : decode cJ0_charAt_5068e 16 = .ok (.aload_n 0, 1) := by decide +kernel
theorem dJ0_charAt_5068e_17 : decode cJ0_charAt_5068e 17 = .ok (.getfield 9, 3) := by decide +kernel
theorem dJ0_charAt_5068e_20 : decode cJ0_charAt_5068e 20 = .ok (.iload_n 1, 1) := by decide +kernel
theorem dJ0_charAt_5068e_21 : decode cJ0_charAt_5068e 21 = .ok (.invokestatic 498, 3) := by decide +kernel
theorem dJ0_charAt_5068e_24 : decode cJ0_charAt_5068e 24 = .ok (.ireturn, 1) := by decide +kernel
theorem dJ0_coder_7d493_0 : decode cJ0_coder_7d493 0 = .ok (.getstatic 38, 3) := by decide +kernel
theorem dJ0_coder_7d493_3 : decode cJ0_coder_7d493 3 = .ok (.ifCond .eq 10, 3) := by decide +kernel
theorem dJ0_coder_7d493_6 : decode cJ0_coder_7d493 6 = .ok (.aload_n 0, 1) := by decide +kernel
theorem dJ0_coder_7d493_7 : decode cJ0_coder_7d493 7 = .ok (.getfield 15, 3) := by decide +kernel
theorem dJ0_coder_7d493_10 : decode cJ0_coder_7d493 10 = .ok (.goto 4, 3) := by decide +kernel
theorem dJ0_coder_7d493_13 : decode cJ0_coder_7d493 13 = .ok (.iconst 1, 1) := by decide +kernel
theorem dJ0_coder_7d493_14 : decode cJ0_coder_7d493 14 = .ok (.ireturn, 1) := by decide +kernel
theorem dJ0_isLatin1_aae02_0 : decode cJ0_isLatin1_aae02 0 = .ok (.getstatic 38, 3) := by decide +kernel
theorem dJ0_isLatin1_aae02_3 : decode cJ0_isLatin1_aae02 3 = .ok (.ifCond .eq 14, 3) := by decide +kernel
theorem dJ0_isLatin1_aae02_6 : decode cJ0_isLatin1_aae02 6 = .ok (.aload_n 0, 1) := by decide +kernel
theorem dJ0_isLatin1_aae02_7 : decode cJ0_isLatin1_aae02 7 = .ok (.getfield 15, 3) := by decide +kernel
theorem dJ0_isLatin1_aae02_10 : decode cJ0_isLatin1_aae02 10 = .ok (.ifCond .ne 7, 3) := by decide +kernel
theorem dJ0_isLatin1_aae02_13 : decode cJ0_isLatin1_aae02 13 = .ok (.iconst 1, 1) := by decide +kernel
theorem dJ0_isLatin1_aae02_14 : decode cJ0_isLatin1_aae02 14 = .ok (.goto 4, 3) := by decide +kernel
theorem dJ0_isLatin1_aae02_17 : decode cJ0_isLatin1_aae02 17 = .ok (.iconst 0, 1) := by decide +kernel
theorem dJ0_isLatin1_aae02_18 : decode cJ0_isLatin1_aae02 18 = .ok (.ireturn, 1) := by decide +kernel
theorem dJ0_checkIndex_df160_0 : decode cJ0_checkIndex_df160 0 = .ok (.iload_n 0, 1) := by decide +kernel
theorem dJ0_checkIndex_df160_1 : decode cJ0_checkIndex_df160 1 = .ok (.iload_n 1, 1) := by decide +kernel
theorem dJ0_checkIndex_df160_2 : decode cJ0_checkIndex_df160 2 = .ok (.getstatic 1053, 3) := by decide +kernel
theorem dJ0_checkIndex_df160_5 : decode cJ0_checkIndex_df160 5 = .ok (.invokestatic 1059, 3) := by decide +kernel
theorem dJ0_checkIndex_df160_8 : decode cJ0_checkIndex_df160 8 = .ok (.pop, 1) := by decide +kernel
theorem dJ0_checkIndex_df160_9 : decode cJ0_checkIndex_df160 9 = .ok (.return_, 1) := by decide +kernel
theorem dJ1_charAt_3b067_0 : decode cJ1_charAt_3b067 0 = .ok (.iload_n 1, 1) := by decide +kernel
theorem dJ1_charAt_3b067_1 : decode cJ1_charAt_3b067 1 = .ok (.aload_n 0, 1) := by decide +kernel
theorem dJ1_charAt_3b067_2 : decode cJ1_charAt_3b067 2 = .ok (.arraylength, 1) := by decide +kernel
theorem dJ1_charAt_3b067_3 : decode cJ1_charAt_3b067 3 = .ok (.invokestatic 9, 3) := by decide +kernel
theorem dJ1_charAt_3b067_6 : decode cJ1_charAt_3b067 6 = .ok (.aload_n 0, 1) := by decide +kernel
theorem dJ1_charAt_3b067_7 : decode cJ1_charAt_3b067 7 = .ok (.iload_n 1, 1) := by decide +kernel
theorem dJ1_charAt_3b067_8 : decode cJ1_charAt_3b067 8 = .ok (.baload, 1) := by decide +kernel
theorem dJ1_charAt_3b067_9 : decode cJ1_charAt_3b067 9 = .ok (.sipush 255, 3) := by decide +kernel
theorem dJ1_charAt_3b067_12 : decode cJ1_charAt_3b067 12 = .ok (.iand, 1) := by decide +kernel
theorem dJ1_charAt_3b067_13 : decode cJ1_charAt_3b067 13 = .ok (.i2c, 1) := by decide +kernel
theorem dJ1_charAt_3b067_14 : decode cJ1_charAt_3b067 14 = .ok (.ireturn, 1) := by decide +kernel
theorem dJ2_getChar_3b067_0 : decode cJ2_getChar_3b067 0 = .ok (.getstatic 44, 3) := by decide +kernel
theorem dJ2_getChar_3b067_3 : decode cJ2_getChar_3b067 3 = .ok (.ifCond .ne 25, 3) := by decide +kernel
theorem dJ2_getChar_3b067_6 : decode cJ2_getChar_3b067 6 = .ok (.iload_n 1, 1) := by decide +kernel
theorem dJ2_getChar_3b067_7 : decode cJ2_getChar_3b067 7 = .ok (.ifCond .lt 11, 3) := by decide +kernel
theorem dJ2_getChar_3b067_10 : decode cJ2_getChar_3b067 10 = .ok (.iload_n 1, 1) := by decide +kernel
theorem dJ2_getChar_3b067_11 : decode cJ2_getChar_3b067 11 = .ok (.aload_n 0, 1) := by decide +kernel
theorem dJ2_getChar_3b067_12 : decode cJ2_getChar_3b067 12 = .ok (.invokestatic 48, 3) := by decide +kernel
theorem dJ2_getChar_3b067_15 : decode cJ2_getChar_3b067 15 = .ok (.if_icmp .lt 13, 3) := by decide +kernel
theorem dJ2_getChar_3b067_18 : decode cJ2_getChar_3b067 18 = .ok (.new 52, 3) := by decide +kernel
theorem dJ2_getChar_3b067_21 : decode cJ2_getChar_3b067 21 = .ok (.dup, 1) := by decide +kernel
theorem dJ2_getChar_3b067_22 : decode cJ2_getChar_3b067 22 = .ok (.ldc 54, 2) := by decide +kernel
theorem dJ2_getChar_3b067_24 : decode cJ2_getChar_3b067 24 = .ok (.invokespecial 56, 3) := by decide +kernel
theorem dJ2_getChar_3b067_27 : decode cJ2_getChar_3b067 27 = .ok (.athrow, 1) := by decide +kernel
theorem dJ2_getChar_3b067_28 : decode cJ2_getChar_3b067 28 = .ok (.iload_n 1, 1) := by decide +kernel
theorem dJ2_getChar_3b067_29 : decode cJ2_getChar_3b067 29 = .ok (.iconst 1, 1) := by decide +kernel
theorem dJ2_getChar_3b067_30 : decode cJ2_getChar_3b067 30 = .ok (.ishl, 1) := by decide +kernel
theorem dJ2_getChar_3b067_31 : decode cJ2_getChar_3b067 31 = .ok (.istore_n 1, 1) := by decide +kernel
theorem dJ2_getChar_3b067_32 : decode cJ2_getChar_3b067 32 = .ok (.aload_n 0, 1) := by decide +kernel
theorem dJ2_getChar_3b067_33 : decode cJ2_getChar_3b067 33 = .ok (.iload_n 1, 1) := by decide +kernel
theorem dJ2_getChar_3b067_34 : decode cJ2_getChar_3b067 34 = .ok (.iinc 1 1, 3) := by decide +kernel
theorem dJ2_getChar_3b067_37 : decode cJ2_getChar_3b067 37 = .ok (.baload, 1) := by decide +kernel
theorem dJ2_getChar_3b067_38 : decode cJ2_getChar_3b067 38 = .ok (.sipush 255, 3) := by decide +kernel
theorem dJ2_getChar_3b067_41 : decode cJ2_getChar_3b067 41 = .ok (.iand, 1) := by decide +kernel
theorem dJ2_getChar_3b067_42 : decode cJ2_getChar_3b067 42 = .ok (.getstatic 59, 3) := by decide +kernel
theorem dJ2_getChar_3b067_45 : decode cJ2_getChar_3b067 45 = .ok (.ishl, 1) := by decide +kernel
theorem dJ2_getChar_3b067_46 : decode cJ2_getChar_3b067 46 = .ok (.aload_n 0, 1) := by decide +kernel
theorem dJ2_getChar_3b067_47 : decode cJ2_getChar_3b067 47 = .ok (.iload_n 1, 1) := by decide +kernel
theorem dJ2_getChar_3b067_48 : decode cJ2_getChar_3b067 48 = .ok (.baload, 1) := by decide +kernel
theorem dJ2_getChar_3b067_49 : decode cJ2_getChar_3b067 49 = .ok (.sipush 255, 3) := by decide +kernel
theorem dJ2_getChar_3b067_52 : decode cJ2_getChar_3b067 52 = .ok (.iand, 1) := by decide +kernel
theorem dJ2_getChar_3b067_53 : decode cJ2_getChar_3b067 53 = .ok (.getstatic 63, 3) := by decide +kernel
theorem dJ2_getChar_3b067_56 : decode cJ2_getChar_3b067 56 = .ok (.ishl, 1) := by decide +kernel
theorem dJ2_getChar_3b067_57 : decode cJ2_getChar_3b067 57 = .ok (.ior, 1) := by decide +kernel
theorem dJ2_getChar_3b067_58 : decode cJ2_getChar_3b067 58 = .ok (.i2c, 1) := by decide +kernel
theorem dJ2_getChar_3b067_59 : decode cJ2_getChar_3b067 59 = .ok (.ireturn, 1) := by decide +kernel
theorem dJ2_length_9d52b_0 : decode cJ2_length_9d52b 0 = .ok (.aload_n 0, 1) := by decide +kernel
theorem dJ2_length_9d52b_1 : decode cJ2_length_9d52b 1 = .ok (.arraylength, 1) := by decide +kernel
theorem dJ2_length_9d52b_2 : decode cJ2_length_9d52b 2 = .ok (.iconst 1, 1) := by decide +kernel
theorem dJ2_length_9d52b_3 : decode cJ2_length_9d52b 3 = .ok (.ishr, 1) := by decide +kernel
theorem dJ2_length_9d52b_4 : decode cJ2_length_9d52b 4 = .ok (.ireturn, 1) := by decide +kernel
theorem dJ2_charAt_3b067_0 : decode cJ2_charAt_3b067 0 = .ok (.iload_n 1, 1) := by decide +kernel
theorem dJ2_charAt_3b067_1 : decode cJ2_charAt_3b067 1 = .ok (.aload_n 0, 1) := by decide +kernel
theorem dJ2_charAt_3b067_2 : decode cJ2_charAt_3b067 2 = .ok (.invokestatic 67, 3) := by decide +kernel
theorem dJ2_charAt_3b067_5 : decode cJ2_charAt_3b067 5 = .ok (.aload_n 0, 1) := by decide +kernel
theorem dJ2_charAt_3b067_6 : decode cJ2_charAt_3b067 6 = .ok (.iload_n 1, 1) := by decide +kernel
theorem dJ2_charAt_3b067_7 : decode cJ2_charAt_3b067 7 = .ok (.invokestatic 71, 3) := by decide +kernel
theorem dJ2_charAt_3b067_10 : decode cJ2_charAt_3b067 10 = .ok (.ireturn, 1) := by decide +kernel
theorem dJ2_checkIndex_2214a_0 : decode cJ2_checkIndex_2214a 0 = .ok (.iload_n 0, 1) := by decide +kernel
theorem dJ2_checkIndex_2214a_1 : decode cJ2_checkIndex_2214a 1 = .ok (.aload_n 1, 1) := by decide +kernel
theorem dJ2_checkIndex_2214a_2 : decode cJ2_checkIndex_2214a 2 = .ok (.invokestatic 48, 3) := by decide +kernel
theorem dJ2_checkIndex_2214a_5 : decode cJ2_checkIndex_2214a 5 = .ok (.invokestatic 414, 3) := by decide +kernel
theorem dJ2_checkIndex_2214a_8 : decode cJ2_checkIndex_2214a 8 = .ok (.return_, 1) := by decide +kernel
theorem dJ7_fill_53178_0 : decode cJ7_fill_53178 0 = .ok (.iconst 0, 1) := by decide +kernel
theorem dJ7_fill_53178_1 : decode cJ7_fill_53178 1 = .ok (.istore_n 2, 1) := by decide +kernel
theorem dJ7_fill_53178_2 : decode cJ7_fill_53178 2 = .ok (.aload_n 0, 1) := by decide +kernel
theorem dJ7_fill_53178_3 : decode cJ7_fill_53178 3 = .ok (.arraylength, 1) := by decide +kernel
theorem dJ7_fill_53178_4 : decode cJ7_fill_53178 4 = .ok (.istore_n 3, 1) := by decide +kernel
theorem dJ7_fill_53178_5 : decode cJ7_fill_53178 5 = .ok (.iload_n 2, 1) := by decide +kernel
theorem dJ7_fill_53178_6 : decode cJ7_fill_53178 6 = .ok (.iload_n 3, 1) := by decide +kernel
theorem dJ7_fill_53178_7 : decode cJ7_fill_53178 7 = .ok (.if_icmp .ge 13, 3) := by decide +kernel
theorem dJ7_fill_53178_10 : decode cJ7_fill_53178 10 = .ok (.aload_n 0, 1) := by decide +kernel
theorem dJ7_fill_53178_11 : decode cJ7_fill_53178 11 = .ok (.iload_n 2, 1) := by decide +kernel
theorem dJ7_fill_53178_12 : decode cJ7_fill_53178 12 = .ok (.iload_n 1, 1) := by decide +kernel
theorem dJ7_fill_53178_13 : decode cJ7_fill_53178 13 = .ok (.iastore, 1) := by decide +kernel
theorem dJ7_fill_53178_14 : decode cJ7_fill_53178 14 = .ok (.iinc 2 1, 3) := by decide +kernel
theorem dJ7_fill_53178_17 : decode cJ7_fill_53178 17 = .ok (.goto (-12), 3) := by decide +kernel
theorem dJ7_fill_53178_20 : decode cJ7_fill_53178 20 = .ok (.return_, 1) := by decide +kernel
theorem dJ7_fill_031fb_0 : decode cJ7_fill_031fb 0 = .ok (.iconst 0, 1) := by decide +kernel
theorem dJ7_fill_031fb_1 : decode cJ7_fill_031fb 1 = .ok (.istore_n 2, 1) := by decide +kernel
theorem dJ7_fill_031fb_2 : decode cJ7_fill_031fb 2 = .ok (.aload_n 0, 1) := by decide +kernel
theorem dJ7_fill_031fb_3 : decode cJ7_fill_031fb 3 = .ok (.arraylength, 1) := by decide +kernel
theorem dJ7_fill_031fb_4 : decode cJ7_fill_031fb 4 = .ok (.istore_n 3, 1) := by decide +kernel
theorem dJ7_fill_031fb_5 : decode cJ7_fill_031fb 5 = .ok (.iload_n 2, 1) := by decide +kernel
theorem dJ7_fill_031fb_6 : decode cJ7_fill_031fb 6 = .ok (.iload_n 3, 1) := by decide +kernel
theorem dJ7_fill_031fb_7 : decode cJ7_fill_031fb 7 = .ok (.if_icmp .ge 13, 3) := by decide +kernel
theorem dJ7_fill_031fb_10 : decode cJ7_fill_031fb 10 = .ok (.aload_n 0, 1) := by decide +kernel
theorem dJ7_fill_031fb_11 : decode cJ7_fill_031fb 11 = .ok (.iload_n 2, 1) := by decide +kernel
theorem dJ7_fill_031fb_12 : decode cJ7_fill_031fb 12 = .ok (.iload_n 1, 1) := by decide +kernel
theorem dJ7_fill_031fb_13 : decode cJ7_fill_031fb 13 = .ok (.bastore, 1) := by decide +kernel
theorem dJ7_fill_031fb_14 : decode cJ7_fill_031fb 14 = .ok (.iinc 2 1, 3) := by decide +kernel
theorem dJ7_fill_031fb_17 : decode cJ7_fill_031fb 17 = .ok (.goto (-12), 3) := by decide +kernel
theorem dJ7_fill_031fb_20 : decode cJ7_fill_031fb 20 = .ok (.return_, 1) := by decide +kernel
theorem dJ3_checkIndex_8e157_0 : decode cJ3_checkIndex_8e157 0 = .ok (.iload_n 0, 1) := by decide +kernel
theorem dJ3_checkIndex_8e157_1 : decode cJ3_checkIndex_8e157 1 = .ok (.ifCond .lt 8, 3) := by decide +kernel
theorem dJ3_checkIndex_8e157_4 : decode cJ3_checkIndex_8e157 4 = .ok (.iload_n 0, 1) := by decide +kernel
theorem dJ3_checkIndex_8e157_5 : decode cJ3_checkIndex_8e157 5 = .ok (.iload_n 1, 1) := by decide +kernel
theorem dJ3_checkIndex_8e157_6 : decode cJ3_checkIndex_8e157 6 = .ok (.if_icmp .lt 10, 3) := by decide +kernel
theorem dJ3_checkIndex_8e157_9 : decode cJ3_checkIndex_8e157 9 = .ok (.aload_n 2, 1) := by decide +kernel
theorem dJ3_checkIndex_8e157_10 : decode cJ3_checkIndex_8e157 10 = .ok (.iload_n 0, 1) := by decide +kernel
theorem dJ3_checkIndex_8e157_11 : decode cJ3_checkIndex_8e157 11 = .ok (.iload_n 1, 1) := by decide +kernel
theorem dJ3_checkIndex_8e157_12 : decode cJ3_checkIndex_8e157 12 = .ok (.invokestatic 95, 3) := by decide +kernel
theorem dJ3_checkIndex_8e157_15 : decode cJ3_checkIndex_8e157 15 = .ok (.athrow, 1) := by decide +kernel
theorem dJ3_checkIndex_8e157_16 : decode cJ3_checkIndex_8e157 16 = .ok (.iload_n 0, 1) := by decide +kernel
theorem dJ3_checkIndex_8e157_17 : decode cJ3_checkIndex_8e157 17 = .ok (.ireturn, 1) := by decide +kernel
theorem dL_type_0 : decode cL_type 0 = .ok (.aload 5, 2) := by decide +kernel
theorem dL_type_2 : decode cL_type 2 = .ok (.iconst 0, 1) := by decide +kernel
theorem dL_type_3 : decode cL_type 3 = .ok (.aload_n 0, 1) := by decide +kernel
theorem dL_type_4 : decode cL_type 4 = .ok (.iload_n 1, 1) := by decide +kernel
theorem dL_type_5 : decode cL_type 5 = .ok (.iload_n 2, 1) := by decide +kernel
theorem dL_type_6 : decode cL_type 6 = .ok (.iload_n 3, 1) := by decide +kernel
theorem dL_type_7 : decode cL_type 7 = .ok (.iload 4, 2) := by decide +kernel
theorem dL_type_9 : decode cL_type 9 = .ok (.invokevirtual 7, 3) := by decide +kernel
theorem dL_type_12 : decode cL_type 12 = .ok (.i2l, 1) := by decide +kernel
theorem dL_type_13 : decode cL_type 13 = .ok (.lastore, 1) := by decide +kernel
theorem dL_type_14 : decode cL_type 14 = .ok (.goto 7, 3) := by decide +kernel
theorem dL_type_17 : decode cL_type 17 = .ok (.astore 6, 2) := by decide +kernel
theorem dL_type_19 : decode cL_type 19 = .ok (.iconst 1, 1) := by decide +kernel
theorem dL_type_20 : decode cL_type 20 = .ok (.ireturn, 1) := by decide +kernel
theorem dL_type_21 : decode cL_type 21 = .ok (.iconst 0, 1) := by decide +kernel
theorem dL_type_22 : decode cL_type 22 = .ok (.ireturn, 1) := by decide +kernel
theorem dL_add_0 : decode cL_add 0 = .ok (.aload_n 2, 1) := by decide +kernel
theorem dL_add_1 : decode cL_add 1 = .ok (.iconst 0, 1) := by decide +kernel
theorem dL_add_2 : decode cL_add 2 = .ok (.aload_n 0, 1) := by decide +kernel
theorem dL_add_3 : decode cL_add 3 = .ok (.iload_n 1, 1) := by decide +kernel
theorem dL_add_4 : decode cL_add 4 = .ok (.invokevirtual 15, 3) := by decide +kernel
theorem dL_add_7 : decode cL_add 7 = .ok (.i2l, 1) := by decide +kernel
theorem dL_add_8 : decode cL_add 8 = .ok (.lastore, 1) := by decide +kernel
theorem dL_add_9 : decode cL_add 9 = .ok (.goto 9, 3) := by decide +kernel
theorem dL_add_12 : decode cL_add 12 = .ok (.astore_n 3, 1) := by decide +kernel
theorem dL_add_13 : decode cL_add 13 = .ok (.iconst 1, 1) := by decide +kernel
theorem dL_add_14 : decode cL_add 14 = .ok (.ireturn, 1) := by decide +kernel
theorem dL_add_15 : decode cL_add 15 = .ok (.astore_n 3, 1) := by decide +kernel
theorem dL_add_16 : decode cL_add 16 = .ok (.iconst 2, 1) := by decide +kernel
theorem dL_add_17 : decode cL_add 17 = .ok (.ireturn, 1) := by decide +kernel
theorem dL_add_18 : decode cL_add 18 = .ok (.iconst 0, 1) := by decide +kernel
theorem dL_add_19 : decode cL_add 19 = .ok (.ireturn, 1) := by decide +kernel
theorem dL_change_0 : decode cL_change 0 = .ok (.aload_n 0, 1) := by decide +kernel
theorem dL_change_1 : decode cL_change 1 = .ok (.iload_n 1, 1) := by decide +kernel
theorem dL_change_2 : decode cL_change 2 = .ok (.iload_n 2, 1) := by decide +kernel
theorem dL_change_3 : decode cL_change 3 = .ok (.invokevirtual 21, 3) := by decide +kernel
theorem dL_change_6 : decode cL_change 6 = .ok (.goto 6, 3) := by decide +kernel
theorem dL_change_9 : decode cL_change 9 = .ok (.astore_n 3, 1) := by decide +kernel
theorem dL_change_10 : decode cL_change 10 = .ok (.iconst 1, 1) := by decide +kernel
theorem dL_change_11 : decode cL_change 11 = .ok (.ireturn, 1) := by decide +kernel
theorem dL_change_12 : decode cL_change 12 = .ok (.iconst 0, 1) := by decide +kernel
theorem dL_change_13 : decode cL_change 13 = .ok (.ireturn, 1) := by decide +kernel
theorem dL_drop_0 : decode cL_drop 0 = .ok (.aload_n 2, 1) := by decide +kernel
theorem dL_drop_1 : decode cL_drop 1 = .ok (.iconst 0, 1) := by decide +kernel
theorem dL_drop_2 : decode cL_drop 2 = .ok (.aload_n 0, 1) := by decide +kernel
theorem dL_drop_3 : decode cL_drop 3 = .ok (.iload_n 1, 1) := by decide +kernel
theorem dL_drop_4 : decode cL_drop 4 = .ok (.invokevirtual 25, 3) := by decide +kernel
theorem dL_drop_7 : decode cL_drop 7 = .ok (.i2l, 1) := by decide +kernel
theorem dL_drop_8 : decode cL_drop 8 = .ok (.lastore, 1) := by decide +kernel
theorem dL_drop_9 : decode cL_drop 9 = .ok (.goto 6, 3) := by decide +kernel
theorem dL_drop_12 : decode cL_drop 12 = .ok (.astore_n 3, 1) := by decide +kernel
theorem dL_drop_13 : decode cL_drop 13 = .ok (.iconst 1, 1) := by decide +kernel
theorem dL_drop_14 : decode cL_drop 14 = .ok (.ireturn, 1) := by decide +kernel
theorem dL_drop_15 : decode cL_drop 15 = .ok (.iconst 0, 1) := by decide +kernel
theorem dL_drop_16 : decode cL_drop 16 = .ok (.ireturn, 1) := by decide +kernel
theorem dL_fault_0 : decode cL_fault 0 = .ok (.aload_n 2, 1) := by decide +kernel
theorem dL_fault_1 : decode cL_fault 1 = .ok (.iconst 0, 1) := by decide +kernel
theorem dL_fault_2 : decode cL_fault 2 = .ok (.aload_n 0, 1) := by decide +kernel
theorem dL_fault_3 : decode cL_fault 3 = .ok (.iload_n 1, 1) := by decide +kernel
theorem dL_fault_4 : decode cL_fault 4 = .ok (.invokevirtual 28, 3) := by decide +kernel
theorem dL_fault_7 : decode cL_fault 7 = .ok (.i2l, 1) := by decide +kernel
theorem dL_fault_8 : decode cL_fault 8 = .ok (.lastore, 1) := by decide +kernel
theorem dL_fault_9 : decode cL_fault 9 = .ok (.goto 6, 3) := by decide +kernel
theorem dL_fault_12 : decode cL_fault 12 = .ok (.astore_n 3, 1) := by decide +kernel
theorem dL_fault_13 : decode cL_fault 13 = .ok (.iconst 1, 1) := by decide +kernel
theorem dL_fault_14 : decode cL_fault 14 = .ok (.ireturn, 1) := by decide +kernel
theorem dL_fault_15 : decode cL_fault 15 = .ok (.iconst 0, 1) := by decide +kernel
theorem dL_fault_16 : decode cL_fault 16 = .ok (.ireturn, 1) := by decide +kernel
theorem dL_address_0 : decode cL_address 0 = .ok (.aload_n 2, 1) := by decide +kernel
theorem dL_address_1 : decode cL_address 1 = .ok (.iconst 0, 1) := by decide +kernel
theorem dL_address_2 : decode cL_address 2 = .ok (.aload_n 0, 1) := by decide +kernel
theorem dL_address_3 : decode cL_address 3 = .ok (.iload_n 1, 1) := by decide +kernel
theorem dL_address_4 : decode cL_address 4 = .ok (.invokevirtual 31, 3) := by decide +kernel
theorem dL_address_7 : decode cL_address 7 = .ok (.i2l, 1) := by decide +kernel
theorem dL_address_8 : decode cL_address 8 = .ok (.lastore, 1) := by decide +kernel
theorem dL_address_9 : decode cL_address 9 = .ok (.goto 6, 3) := by decide +kernel
theorem dL_address_12 : decode cL_address 12 = .ok (.astore_n 3, 1) := by decide +kernel
theorem dL_address_13 : decode cL_address 13 = .ok (.iconst 1, 1) := by decide +kernel
theorem dL_address_14 : decode cL_address 14 = .ok (.ireturn, 1) := by decide +kernel
theorem dL_address_15 : decode cL_address 15 = .ok (.iconst 0, 1) := by decide +kernel
theorem dL_address_16 : decode cL_address 16 = .ok (.ireturn, 1) := by decide +kernel
theorem dL_size_0 : decode cL_size 0 = .ok (.aload_n 3, 1) := by decide +kernel
theorem dL_size_1 : decode cL_size 1 = .ok (.iconst 0, 1) := by decide +kernel
theorem dL_size_2 : decode cL_size 2 = .ok (.aload_n 0, 1) := by decide +kernel
theorem dL_size_3 : decode cL_size 3 = .ok (.iload_n 1, 1) := by decide +kernel
theorem dL_size_4 : decode cL_size 4 = .ok (.iload_n 2, 1) := by decide +kernel
theorem dL_size_5 : decode cL_size 5 = .ok (.invokevirtual 34, 3) := by decide +kernel
theorem dL_size_8 : decode cL_size 8 = .ok (.i2l, 1) := by decide +kernel
theorem dL_size_9 : decode cL_size 9 = .ok (.lastore, 1) := by decide +kernel
theorem dL_size_10 : decode cL_size 10 = .ok (.goto 7, 3) := by decide +kernel
theorem dL_size_13 : decode cL_size 13 = .ok (.astore 4, 2) := by decide +kernel
theorem dL_size_15 : decode cL_size 15 = .ok (.iconst 1, 1) := by decide +kernel
theorem dL_size_16 : decode cL_size 16 = .ok (.ireturn, 1) := by decide +kernel
theorem dL_size_17 : decode cL_size 17 = .ok (.iconst 0, 1) := by decide +kernel
theorem dL_size_18 : decode cL_size 18 = .ok (.ireturn, 1) := by decide +kernel
theorem dL_law_0 : decode cL_law 0 = .ok (.new 8, 3) := by decide +kernel
theorem dL_law_3 : decode cL_law 3 = .ok (.dup, 1) := by decide +kernel
theorem dL_law_4 : decode cL_law 4 = .ok (.invokespecial 38, 3) := by decide +kernel
theorem dL_law_7 : decode cL_law 7 = .ok (.astore_n 1, 1) := by decide +kernel
theorem dL_law_8 : decode cL_law 8 = .ok (.new 39, 3) := by decide +kernel
theorem dL_law_11 : decode cL_law 11 = .ok (.dup, 1) := by decide +kernel
theorem dL_law_12 : decode cL_law 12 = .ok (.invokespecial 41, 3) := by decide +kernel
theorem dL_law_15 : decode cL_law 15 = .ok (.astore_n 2, 1) := by decide +kernel
theorem dL_law_16 : decode cL_law 16 = .ok (.iconst 1, 1) := by decide +kernel
theorem dL_law_17 : decode cL_law 17 = .ok (.newarray .long, 2) := by decide +kernel
theorem dL_law_19 : decode cL_law 19 = .ok (.astore_n 3, 1) := by decide +kernel
theorem dL_law_20 : decode cL_law 20 = .ok (.iconst 0, 1) := by decide +kernel
theorem dL_law_21 : decode cL_law 21 = .ok (.istore 4, 2) := by decide +kernel
theorem dL_law_23 : decode cL_law 23 = .ok (.iload 4, 2) := by decide +kernel
theorem dL_law_25 : decode cL_law 25 = .ok (.aload_n 0, 1) := by decide +kernel
theorem dL_law_26 : decode cL_law 26 = .ok (.arraylength, 1) := by decide +kernel
theorem dL_law_27 : decode cL_law 27 = .ok (.iconst 5, 1) := by decide +kernel
theorem dL_law_28 : decode cL_law 28 = .ok (.isub, 1) := by decide +kernel
theorem dL_law_29 : decode cL_law 29 = .ok (.if_icmp .gt 581, 3) := by decide +kernel
theorem dL_law_32 : decode cL_law 32 = .ok (.aload_n 0, 1) := by decide +kernel
theorem dL_law_33 : decode cL_law 33 = .ok (.iload 4, 2) := by decide +kernel
theorem dL_law_35 : decode cL_law 35 = .ok (.iaload, 1) := by decide +kernel
theorem dL_law_36 : decode cL_law 36 = .ok (.bipush 15, 2) := by decide +kernel
theorem dL_law_38 : decode cL_law 38 = .ok (.iand, 1) := by decide +kernel
theorem dL_law_39 : decode cL_law 39 = .ok (.tableswitch 565 0 10 #[57, 149, 162, 218, 266, 322, 335, 391, 416, 441, 497], 57) := by decide +kernel
theorem dL_law_96 : decode cL_law 96 = .ok (.aload_n 1, 1) := by decide +kernel
theorem dL_law_97 : decode cL_law 97 = .ok (.aload_n 0, 1) := by decide +kernel
theorem dL_law_98 : decode cL_law 98 = .ok (.iload 4, 2) := by decide +kernel
theorem dL_law_100 : decode cL_law 100 = .ok (.iconst 1, 1) := by decide +kernel
theorem dL_law_101 : decode cL_law 101 = .ok (.iadd, 1) := by decide +kernel
theorem dL_law_102 : decode cL_law 102 = .ok (.iaload, 1) := by decide +kernel
theorem dL_law_103 : decode cL_law 103 = .ok (.aload_n 0, 1) := by decide +kernel
theorem dL_law_104 : decode cL_law 104 = .ok (.iload 4, 2) := by decide +kernel
theorem dL_law_106 : decode cL_law 106 = .ok (.iconst 2, 1) := by decide +kernel
theorem dL_law_107 : decode cL_law 107 = .ok (.iadd, 1) := by decide +kernel
theorem dL_law_108 : decode cL_law 108 = .ok (.iaload, 1) := by decide +kernel
theorem dL_law_109 : decode cL_law 109 = .ok (.aload_n 0, 1) := by decide +kernel
theorem dL_law_110 : decode cL_law 110 = .ok (.iload 4, 2) := by decide +kernel
theorem dL_law_112 : decode cL_law 112 = .ok (.iconst 3, 1) := by decide +kernel
theorem dL_law_113 : decode cL_law 113 = .ok (.iadd, 1) := by decide +kernel
theorem dL_law_114 : decode cL_law 114 = .ok (.iaload, 1) := by decide +kernel
theorem dL_law_115 : decode cL_law 115 = .ok (.aload_n 0, 1) := by decide +kernel
theorem dL_law_116 : decode cL_law 116 = .ok (.iload 4, 2) := by decide +kernel
theorem dL_law_118 : decode cL_law 118 = .ok (.iconst 4, 1) := by decide +kernel
theorem dL_law_119 : decode cL_law 119 = .ok (.iadd, 1) := by decide +kernel
theorem dL_law_120 : decode cL_law 120 = .ok (.iaload, 1) := by decide +kernel
theorem dL_law_121 : decode cL_law 121 = .ok (.aload_n 3, 1) := by decide +kernel
theorem dL_law_122 : decode cL_law 122 = .ok (.invokestatic 42, 3) := by decide +kernel
theorem dL_law_125 : decode cL_law 125 = .ok (.istore 5, 2) := by decide +kernel
theorem dL_law_127 : decode cL_law 127 = .ok (.aload_n 2, 1) := by decide +kernel
theorem dL_law_128 : decode cL_law 128 = .ok (.aload_n 0, 1) := by decide +kernel
theorem dL_law_129 : decode cL_law 129 = .ok (.iload 4, 2) := by decide +kernel
theorem dL_law_131 : decode cL_law 131 = .ok (.iconst 1, 1) := by decide +kernel
theorem dL_law_132 : decode cL_law 132 = .ok (.iadd, 1) := by decide +kernel
theorem dL_law_133 : decode cL_law 133 = .ok (.iaload, 1) := by decide +kernel
theorem dL_law_134 : decode cL_law 134 = .ok (.aload_n 0, 1) := by decide +kernel
theorem dL_law_135 : decode cL_law 135 = .ok (.iload 4, 2) := by decide +kernel
theorem dL_law_137 : decode cL_law 137 = .ok (.iconst 2, 1) := by decide +kernel
theorem dL_law_138 : decode cL_law 138 = .ok (.iadd, 1) := by decide +kernel
theorem dL_law_139 : decode cL_law 139 = .ok (.iaload, 1) := by decide +kernel
theorem dL_law_140 : decode cL_law 140 = .ok (.aload_n 0, 1) := by decide +kernel
theorem dL_law_141 : decode cL_law 141 = .ok (.iload 4, 2) := by decide +kernel
theorem dL_law_143 : decode cL_law 143 = .ok (.iconst 3, 1) := by decide +kernel
theorem dL_law_144 : decode cL_law 144 = .ok (.iadd, 1) := by decide +kernel
theorem dL_law_145 : decode cL_law 145 = .ok (.iaload, 1) := by decide +kernel
theorem dL_law_146 : decode cL_law 146 = .ok (.aload_n 0, 1) := by decide +kernel
theorem dL_law_147 : decode cL_law 147 = .ok (.iload 4, 2) := by decide +kernel
theorem dL_law_149 : decode cL_law 149 = .ok (.iconst 4, 1) := by decide +kernel
theorem dL_law_150 : decode cL_law 150 = .ok (.iadd, 1) := by decide +kernel
theorem dL_law_151 : decode cL_law 151 = .ok (.iaload, 1) := by decide +kernel
theorem dL_law_152 : decode cL_law 152 = .ok (.invokevirtual 47, 3) := by decide +kernel
theorem dL_law_155 : decode cL_law 155 = .ok (.istore 6, 2) := by decide +kernel
theorem dL_law_157 : decode cL_law 157 = .ok (.aload_n 2, 1) := by decide +kernel
theorem dL_law_158 : decode cL_law 158 = .ok (.invokevirtual 48, 3) := by decide +kernel
theorem dL_law_161 : decode cL_law 161 = .ok (.iload 5, 2) := by decide +kernel
theorem dL_law_163 : decode cL_law 163 = .ok (.if_icmp .eq 5, 3) := by decide +kernel
theorem dL_law_166 : decode cL_law 166 = .ok (.iconst 0, 1) := by decide +kernel
theorem dL_law_167 : decode cL_law 167 = .ok (.ireturn, 1) := by decide +kernel
theorem dL_law_168 : decode cL_law 168 = .ok (.iload 5, 2) := by decide +kernel
theorem dL_law_170 : decode cL_law 170 = .ok (.ifCond .ne 15, 3) := by decide +kernel
theorem dL_law_173 : decode cL_law 173 = .ok (.aload_n 3, 1) := by decide +kernel
theorem dL_law_174 : decode cL_law 174 = .ok (.iconst 0, 1) := by decide +kernel
theorem dL_law_175 : decode cL_law 175 = .ok (.laload, 1) := by decide +kernel
theorem dL_law_176 : decode cL_law 176 = .ok (.iload 6, 2) := by decide +kernel
theorem dL_law_178 : decode cL_law 178 = .ok (.i2l, 1) := by decide +kernel
theorem dL_law_179 : decode cL_law 179 = .ok (.lcmp, 1) := by decide +kernel
theorem dL_law_180 : decode cL_law 180 = .ok (.ifCond .eq 5, 3) := by decide +kernel
theorem dL_law_183 : decode cL_law 183 = .ok (.iconst 0, 1) := by decide +kernel
theorem dL_law_184 : decode cL_law 184 = .ok (.ireturn, 1) := by decide +kernel
theorem dL_law_185 : decode cL_law 185 = .ok (.goto 419, 3) := by decide +kernel
theorem dL_law_188 : decode cL_law 188 = .ok (.aload_n 1, 1) := by decide +kernel
theorem dL_law_189 : decode cL_law 189 = .ok (.invokevirtual 52, 3) := by decide +kernel
theorem dL_law_192 : decode cL_law 192 = .ok (.aload_n 2, 1) := by decide +kernel
theorem dL_law_193 : decode cL_law 193 = .ok (.invokevirtual 55, 3) := by decide +kernel
theorem dL_law_196 : decode cL_law 196 = .ok (.if_icmp .eq 408, 3) := by decide +kernel
theorem dL_law_199 : decode cL_law 199 = .ok (.iconst 0, 1) := by decide +kernel
theorem dL_law_200 : decode cL_law 200 = .ok (.ireturn, 1) := by decide +kernel
theorem dL_law_201 : decode cL_law 201 = .ok (.aload_n 1, 1) := by decide +kernel
theorem dL_law_202 : decode cL_law 202 = .ok (.aload_n 0, 1) := by decide +kernel
theorem dL_law_203 : decode cL_law 203 = .ok (.iload 4, 2) := by decide +kernel
theorem dL_law_205 : decode cL_law 205 = .ok (.iconst 1, 1) := by decide +kernel
theorem dL_law_206 : decode cL_law 206 = .ok (.iadd, 1) := by decide +kernel
theorem dL_law_207 : decode cL_law 207 = .ok (.iaload, 1) := by decide +kernel
theorem dL_law_208 : decode cL_law 208 = .ok (.aload_n 3, 1) := by decide +kernel
theorem dL_law_209 : decode cL_law 209 = .ok (.invokestatic 56, 3) := by decide +kernel
theorem dL_law_212 : decode cL_law 212 = .ok (.istore 5, 2) := by decide +kernel
theorem dL_law_214 : decode cL_law 214 = .ok (.aload_n 2, 1) := by decide +kernel
theorem dL_law_215 : decode cL_law 215 = .ok (.aload_n 0, 1) := by decide +kernel
theorem dL_law_216 : decode cL_law 216 = .ok (.iload 4, 2) := by decide +kernel
theorem dL_law_218 : decode cL_law 218 = .ok (.iconst 1, 1) := by decide +kernel
theorem dL_law_219 : decode cL_law 219 = .ok (.iadd, 1) := by decide +kernel
theorem dL_law_220 : decode cL_law 220 = .ok (.iaload, 1) := by decide +kernel
theorem dL_law_221 : decode cL_law 221 = .ok (.invokevirtual 59, 3) := by decide +kernel
theorem dL_law_224 : decode cL_law 224 = .ok (.istore 6, 2) := by decide +kernel
theorem dL_law_226 : decode cL_law 226 = .ok (.aload_n 2, 1) := by decide +kernel
theorem dL_law_227 : decode cL_law 227 = .ok (.invokevirtual 48, 3) := by decide +kernel
theorem dL_law_230 : decode cL_law 230 = .ok (.iload 5, 2) := by decide +kernel
theorem dL_law_232 : decode cL_law 232 = .ok (.if_icmp .eq 5, 3) := by decide +kernel
theorem dL_law_235 : decode cL_law 235 = .ok (.iconst 0, 1) := by decide +kernel
theorem dL_law_236 : decode cL_law 236 = .ok (.ireturn, 1) := by decide +kernel
theorem dL_law_237 : decode cL_law 237 = .ok (.iload 5, 2) := by decide +kernel
theorem dL_law_239 : decode cL_law 239 = .ok (.ifCond .ne 15, 3) := by decide +kernel
theorem dL_law_242 : decode cL_law 242 = .ok (.aload_n 3, 1) := by decide +kernel
theorem dL_law_243 : decode cL_law 243 = .ok (.iconst 0, 1) := by decide +kernel
theorem dL_law_244 : decode cL_law 244 = .ok (.laload, 1) := by decide +kernel
theorem dL_law_245 : decode cL_law 245 = .ok (.iload 6, 2) := by decide +kernel
theorem dL_law_247 : decode cL_law 247 = .ok (.i2l, 1) := by decide +kernel
theorem dL_law_248 : decode cL_law 248 = .ok (.lcmp, 1) := by decide +kernel
theorem dL_law_249 : decode cL_law 249 = .ok (.ifCond .eq 5, 3) := by decide +kernel
theorem dL_law_252 : decode cL_law 252 = .ok (.iconst 0, 1) := by decide +kernel
theorem dL_law_253 : decode cL_law 253 = .ok (.ireturn, 1) := by decide +kernel
theorem dL_law_254 : decode cL_law 254 = .ok (.goto 350, 3) := by decide +kernel
theorem dL_law_257 : decode cL_law 257 = .ok (.aload_n 1, 1) := by decide +kernel
theorem dL_law_258 : decode cL_law 258 = .ok (.aload_n 0, 1) := by decide +kernel
theorem dL_law_259 : decode cL_law 259 = .ok (.iload 4, 2) := by decide +kernel
theorem dL_law_261 : decode cL_law 261 = .ok (.iconst 1, 1) := by decide +kernel
theorem dL_law_262 : decode cL_law 262 = .ok (.iadd, 1) := by decide +kernel
theorem dL_law_263 : decode cL_law 263 = .ok (.iaload, 1) := by decide +kernel
theorem dL_law_264 : decode cL_law 264 = .ok (.aload_n 0, 1) := by decide +kernel
theorem dL_law_265 : decode cL_law 265 = .ok (.iload 4, 2) := by decide +kernel
theorem dL_law_267 : decode cL_law 267 = .ok (.iconst 2, 1) := by decide +kernel
theorem dL_law_268 : decode cL_law 268 = .ok (.iadd, 1) := by decide +kernel
theorem dL_law_269 : decode cL_law 269 = .ok (.iaload, 1) := by decide +kernel
theorem dL_law_270 : decode cL_law 270 = .ok (.invokestatic 60, 3) := by decide +kernel
theorem dL_law_273 : decode cL_law 273 = .ok (.istore 5, 2) := by decide +kernel
theorem dL_law_275 : decode cL_law 275 = .ok (.aload_n 2, 1) := by decide +kernel
theorem dL_law_276 : decode cL_law 276 = .ok (.aload_n 0, 1) := by decide +kernel
theorem dL_law_277 : decode cL_law 277 = .ok (.iload 4, 2) := by decide +kernel
theorem dL_law_279 : decode cL_law 279 = .ok (.iconst 1, 1) := by decide +kernel
theorem dL_law_280 : decode cL_law 280 = .ok (.iadd, 1) := by decide +kernel
theorem dL_law_281 : decode cL_law 281 = .ok (.iaload, 1) := by decide +kernel
theorem dL_law_282 : decode cL_law 282 = .ok (.aload_n 0, 1) := by decide +kernel
theorem dL_law_283 : decode cL_law 283 = .ok (.iload 4, 2) := by decide +kernel
theorem dL_law_285 : decode cL_law 285 = .ok (.iconst 2, 1) := by decide +kernel
theorem dL_law_286 : decode cL_law 286 = .ok (.iadd, 1) := by decide +kernel
theorem dL_law_287 : decode cL_law 287 = .ok (.iaload, 1) := by decide +kernel
theorem dL_law_288 : decode cL_law 288 = .ok (.invokevirtual 63, 3) := by decide +kernel
theorem dL_law_291 : decode cL_law 291 = .ok (.aload_n 2, 1) := by decide +kernel
theorem dL_law_292 : decode cL_law 292 = .ok (.invokevirtual 48, 3) := by decide +kernel
theorem dL_law_295 : decode cL_law 295 = .ok (.iload 5, 2) := by decide +kernel
theorem dL_law_297 : decode cL_law 297 = .ok (.if_icmp .eq 5, 3) := by decide +kernel
theorem dL_law_300 : decode cL_law 300 = .ok (.iconst 0, 1) := by decide +kernel
theorem dL_law_301 : decode cL_law 301 = .ok (.ireturn, 1) := by decide +kernel
theorem dL_law_302 : decode cL_law 302 = .ok (.goto 302, 3) := by decide +kernel
theorem dL_law_305 : decode cL_law 305 = .ok (.aload_n 1, 1) := by decide +kernel
theorem dL_law_306 : decode cL_law 306 = .ok (.aload_n 0, 1) := by decide +kernel
theorem dL_law_307 : decode cL_law 307 = .ok (.iload 4, 2) := by decide +kernel
theorem dL_law_309 : decode cL_law 309 = .ok (.iconst 1, 1) := by decide +kernel
theorem dL_law_310 : decode cL_law 310 = .ok (.iadd, 1) := by decide +kernel
theorem dL_law_311 : decode cL_law 311 = .ok (.iaload, 1) := by decide +kernel
theorem dL_law_312 : decode cL_law 312 = .ok (.aload_n 3, 1) := by decide +kernel
theorem dL_law_313 : decode cL_law 313 = .ok (.invokestatic 64, 3) := by decide +kernel
theorem dL_law_316 : decode cL_law 316 = .ok (.istore 5, 2) := by decide +kernel
theorem dL_law_318 : decode cL_law 318 = .ok (.aload_n 2, 1) := by decide +kernel
theorem dL_law_319 : decode cL_law 319 = .ok (.aload_n 0, 1) := by decide +kernel
theorem dL_law_320 : decode cL_law 320 = .ok (.iload 4, 2) := by decide +kernel
theorem dL_law_322 : decode cL_law 322 = .ok (.iconst 1, 1) := by decide +kernel
theorem dL_law_323 : decode cL_law 323 = .ok (.iadd, 1) := by decide +kernel
theorem dL_law_324 : decode cL_law 324 = .ok (.iaload, 1) := by decide +kernel
theorem dL_law_325 : decode cL_law 325 = .ok (.invokevirtual 66, 3) := by decide +kernel
theorem dL_law_328 : decode cL_law 328 = .ok (.istore 6, 2) := by decide +kernel
theorem dL_law_330 : decode cL_law 330 = .ok (.aload_n 2, 1) := by decide +kernel
theorem dL_law_331 : decode cL_law 331 = .ok (.invokevirtual 48, 3) := by decide +kernel
theorem dL_law_334 : decode cL_law 334 = .ok (.iload 5, 2) := by decide +kernel
theorem dL_law_336 : decode cL_law 336 = .ok (.if_icmp .eq 5, 3) := by decide +kernel
theorem dL_law_339 : decode cL_law 339 = .ok (.iconst 0, 1) := by decide +kernel
theorem dL_law_340 : decode cL_law 340 = .ok (.ireturn, 1) := by decide +kernel
theorem dL_law_341 : decode cL_law 341 = .ok (.iload 5, 2) := by decide +kernel
theorem dL_law_343 : decode cL_law 343 = .ok (.ifCond .ne 15, 3) := by decide +kernel
theorem dL_law_346 : decode cL_law 346 = .ok (.aload_n 3, 1) := by decide +kernel
theorem dL_law_347 : decode cL_law 347 = .ok (.iconst 0, 1) := by decide +kernel
theorem dL_law_348 : decode cL_law 348 = .ok (.laload, 1) := by decide +kernel
theorem dL_law_349 : decode cL_law 349 = .ok (.iload 6, 2) := by decide +kernel
theorem dL_law_351 : decode cL_law 351 = .ok (.i2l, 1) := by decide +kernel
theorem dL_law_352 : decode cL_law 352 = .ok (.lcmp, 1) := by decide +kernel
theorem dL_law_353 : decode cL_law 353 = .ok (.ifCond .eq 5, 3) := by decide +kernel
theorem dL_law_356 : decode cL_law 356 = .ok (.iconst 0, 1) := by decide +kernel
theorem dL_law_357 : decode cL_law 357 = .ok (.ireturn, 1) := by decide +kernel
theorem dL_law_358 : decode cL_law 358 = .ok (.goto 246, 3) := by decide +kernel
theorem dL_law_361 : decode cL_law 361 = .ok (.aload_n 1, 1) := by decide +kernel
theorem dL_law_362 : decode cL_law 362 = .ok (.invokevirtual 67, 3) := by decide +kernel
theorem dL_law_365 : decode cL_law 365 = .ok (.aload_n 2, 1) := by decide +kernel
theorem dL_law_366 : decode cL_law 366 = .ok (.invokevirtual 70, 3) := by decide +kernel
theorem dL_law_369 : decode cL_law 369 = .ok (.if_icmp .eq 235, 3) := by decide +kernel
theorem dL_law_372 : decode cL_law 372 = .ok (.iconst 0, 1) := by decide +kernel
theorem dL_law_373 : decode cL_law 373 = .ok (.ireturn, 1) := by decide +kernel
theorem dL_law_374 : decode cL_law 374 = .ok (.aload_n 1, 1) := by decide +kernel
theorem dL_law_375 : decode cL_law 375 = .ok (.aload_n 0, 1) := by decide +kernel
theorem dL_law_376 : decode cL_law 376 = .ok (.iload 4, 2) := by decide +kernel
theorem dL_law_378 : decode cL_law 378 = .ok (.iconst 1, 1) := by decide +kernel
theorem dL_law_379 : decode cL_law 379 = .ok (.iadd, 1) := by decide +kernel
theorem dL_law_380 : decode cL_law 380 = .ok (.iaload, 1) := by decide +kernel
theorem dL_law_381 : decode cL_law 381 = .ok (.aload_n 3, 1) := by decide +kernel
theorem dL_law_382 : decode cL_law 382 = .ok (.invokestatic 71, 3) := by decide +kernel
theorem dL_law_385 : decode cL_law 385 = .ok (.istore 5, 2) := by decide +kernel
theorem dL_law_387 : decode cL_law 387 = .ok (.aload_n 2, 1) := by decide +kernel
theorem dL_law_388 : decode cL_law 388 = .ok (.aload_n 0, 1) := by decide +kernel
theorem dL_law_389 : decode cL_law 389 = .ok (.iload 4, 2) := by decide +kernel
theorem dL_law_391 : decode cL_law 391 = .ok (.iconst 1, 1) := by decide +kernel
theorem dL_law_392 : decode cL_law 392 = .ok (.iadd, 1) := by decide +kernel
theorem dL_law_393 : decode cL_law 393 = .ok (.iaload, 1) := by decide +kernel
theorem dL_law_394 : decode cL_law 394 = .ok (.invokevirtual 73, 3) := by decide +kernel
theorem dL_law_397 : decode cL_law 397 = .ok (.istore 6, 2) := by decide +kernel
theorem dL_law_399 : decode cL_law 399 = .ok (.aload_n 2, 1) := by decide +kernel
theorem dL_law_400 : decode cL_law 400 = .ok (.invokevirtual 48, 3) := by decide +kernel
theorem dL_law_403 : decode cL_law 403 = .ok (.iload 5, 2) := by decide +kernel
theorem dL_law_405 : decode cL_law 405 = .ok (.if_icmp .eq 5, 3) := by decide +kernel
theorem dL_law_408 : decode cL_law 408 = .ok (.iconst 0, 1) := by decide +kernel
theorem dL_law_409 : decode cL_law 409 = .ok (.ireturn, 1) := by decide +kernel
theorem dL_law_410 : decode cL_law 410 = .ok (.iload 5, 2) := by decide +kernel
theorem dL_law_412 : decode cL_law 412 = .ok (.ifCond .ne 15, 3) := by decide +kernel
theorem dL_law_415 : decode cL_law 415 = .ok (.aload_n 3, 1) := by decide +kernel
theorem dL_law_416 : decode cL_law 416 = .ok (.iconst 0, 1) := by decide +kernel
theorem dL_law_417 : decode cL_law 417 = .ok (.laload, 1) := by decide +kernel
theorem dL_law_418 : decode cL_law 418 = .ok (.iload 6, 2) := by decide +kernel
theorem dL_law_420 : decode cL_law 420 = .ok (.i2l, 1) := by decide +kernel
theorem dL_law_421 : decode cL_law 421 = .ok (.lcmp, 1) := by decide +kernel
theorem dL_law_422 : decode cL_law 422 = .ok (.ifCond .eq 5, 3) := by decide +kernel
theorem dL_law_425 : decode cL_law 425 = .ok (.iconst 0, 1) := by decide +kernel
theorem dL_law_426 : decode cL_law 426 = .ok (.ireturn, 1) := by decide +kernel
theorem dL_law_427 : decode cL_law 427 = .ok (.goto 177, 3) := by decide +kernel
theorem dL_law_430 : decode cL_law 430 = .ok (.aload_n 1, 1) := by decide +kernel
theorem dL_law_431 : decode cL_law 431 = .ok (.aload_n 0, 1) := by decide +kernel
theorem dL_law_432 : decode cL_law 432 = .ok (.iload 4, 2) := by decide +kernel
theorem dL_law_434 : decode cL_law 434 = .ok (.iconst 1, 1) := by decide +kernel
theorem dL_law_435 : decode cL_law 435 = .ok (.iadd, 1) := by decide +kernel
theorem dL_law_436 : decode cL_law 436 = .ok (.iaload, 1) := by decide +kernel
theorem dL_law_437 : decode cL_law 437 = .ok (.invokevirtual 74, 3) := by decide +kernel
theorem dL_law_440 : decode cL_law 440 = .ok (.aload_n 2, 1) := by decide +kernel
theorem dL_law_441 : decode cL_law 441 = .ok (.aload_n 0, 1) := by decide +kernel
theorem dL_law_442 : decode cL_law 442 = .ok (.iload 4, 2) := by decide +kernel
theorem dL_law_444 : decode cL_law 444 = .ok (.iconst 1, 1) := by decide +kernel
theorem dL_law_445 : decode cL_law 445 = .ok (.iadd, 1) := by decide +kernel
theorem dL_law_446 : decode cL_law 446 = .ok (.iaload, 1) := by decide +kernel
theorem dL_law_447 : decode cL_law 447 = .ok (.invokevirtual 77, 3) := by decide +kernel
theorem dL_law_450 : decode cL_law 450 = .ok (.if_icmp .eq 154, 3) := by decide +kernel
theorem dL_law_453 : decode cL_law 453 = .ok (.iconst 0, 1) := by decide +kernel
theorem dL_law_454 : decode cL_law 454 = .ok (.ireturn, 1) := by decide +kernel
theorem dL_law_455 : decode cL_law 455 = .ok (.aload_n 1, 1) := by decide +kernel
theorem dL_law_456 : decode cL_law 456 = .ok (.aload_n 0, 1) := by decide +kernel
theorem dL_law_457 : decode cL_law 457 = .ok (.iload 4, 2) := by decide +kernel
theorem dL_law_459 : decode cL_law 459 = .ok (.iconst 1, 1) := by decide +kernel
theorem dL_law_460 : decode cL_law 460 = .ok (.iadd, 1) := by decide +kernel
theorem dL_law_461 : decode cL_law 461 = .ok (.iaload, 1) := by decide +kernel
theorem dL_law_462 : decode cL_law 462 = .ok (.invokevirtual 78, 3) := by decide +kernel
theorem dL_law_465 : decode cL_law 465 = .ok (.aload_n 2, 1) := by decide +kernel
theorem dL_law_466 : decode cL_law 466 = .ok (.aload_n 0, 1) := by decide +kernel
theorem dL_law_467 : decode cL_law 467 = .ok (.iload 4, 2) := by decide +kernel
theorem dL_law_469 : decode cL_law 469 = .ok (.iconst 1, 1) := by decide +kernel
theorem dL_law_470 : decode cL_law 470 = .ok (.iadd, 1) := by decide +kernel
theorem dL_law_471 : decode cL_law 471 = .ok (.iaload, 1) := by decide +kernel
theorem dL_law_472 : decode cL_law 472 = .ok (.invokevirtual 82, 3) := by decide +kernel
theorem dL_law_475 : decode cL_law 475 = .ok (.if_icmp .eq 129, 3) := by decide +kernel
theorem dL_law_478 : decode cL_law 478 = .ok (.iconst 0, 1) := by decide +kernel
theorem dL_law_479 : decode cL_law 479 = .ok (.ireturn, 1) := by decide +kernel
theorem dL_law_480 : decode cL_law 480 = .ok (.aload_n 1, 1) := by decide +kernel
theorem dL_law_481 : decode cL_law 481 = .ok (.aload_n 0, 1) := by decide +kernel
theorem dL_law_482 : decode cL_law 482 = .ok (.iload 4, 2) := by decide +kernel
theorem dL_law_484 : decode cL_law 484 = .ok (.iconst 1, 1) := by decide +kernel
theorem dL_law_485 : decode cL_law 485 = .ok (.iadd, 1) := by decide +kernel
theorem dL_law_486 : decode cL_law 486 = .ok (.iaload, 1) := by decide +kernel
theorem dL_law_487 : decode cL_law 487 = .ok (.aload_n 3, 1) := by decide +kernel
theorem dL_law_488 : decode cL_law 488 = .ok (.invokestatic 83, 3) := by decide +kernel
theorem dL_law_491 : decode cL_law 491 = .ok (.istore 5, 2) := by decide +kernel
theorem dL_law_493 : decode cL_law 493 = .ok (.aload_n 2, 1) := by decide +kernel
theorem dL_law_494 : decode cL_law 494 = .ok (.aload_n 0, 1) := by decide +kernel
theorem dL_law_495 : decode cL_law 495 = .ok (.iload 4, 2) := by decide +kernel
theorem dL_law_497 : decode cL_law 497 = .ok (.iconst 1, 1) := by decide +kernel
theorem dL_law_498 : decode cL_law 498 = .ok (.iadd, 1) := by decide +kernel
theorem dL_law_499 : decode cL_law 499 = .ok (.iaload, 1) := by decide +kernel
theorem dL_law_500 : decode cL_law 500 = .ok (.invokevirtual 85, 3) := by decide +kernel
theorem dL_law_503 : decode cL_law 503 = .ok (.istore 6, 2) := by decide +kernel
theorem dL_law_505 : decode cL_law 505 = .ok (.aload_n 2, 1) := by decide +kernel
theorem dL_law_506 : decode cL_law 506 = .ok (.invokevirtual 48, 3) := by decide +kernel
theorem dL_law_509 : decode cL_law 509 = .ok (.iload 5, 2) := by decide +kernel
theorem dL_law_511 : decode cL_law 511 = .ok (.if_icmp .eq 5, 3) := by decide +kernel
theorem dL_law_514 : decode cL_law 514 = .ok (.iconst 0, 1) := by decide +kernel
theorem dL_law_515 : decode cL_law 515 = .ok (.ireturn, 1) := by decide +kernel
theorem dL_law_516 : decode cL_law 516 = .ok (.iload 5, 2) := by decide +kernel
theorem dL_law_518 : decode cL_law 518 = .ok (.ifCond .ne 15, 3) := by decide +kernel
theorem dL_law_521 : decode cL_law 521 = .ok (.aload_n 3, 1) := by decide +kernel
theorem dL_law_522 : decode cL_law 522 = .ok (.iconst 0, 1) := by decide +kernel
theorem dL_law_523 : decode cL_law 523 = .ok (.laload, 1) := by decide +kernel
theorem dL_law_524 : decode cL_law 524 = .ok (.iload 6, 2) := by decide +kernel
theorem dL_law_526 : decode cL_law 526 = .ok (.i2l, 1) := by decide +kernel
theorem dL_law_527 : decode cL_law 527 = .ok (.lcmp, 1) := by decide +kernel
theorem dL_law_528 : decode cL_law 528 = .ok (.ifCond .eq 5, 3) := by decide +kernel
theorem dL_law_531 : decode cL_law 531 = .ok (.iconst 0, 1) := by decide +kernel
theorem dL_law_532 : decode cL_law 532 = .ok (.ireturn, 1) := by decide +kernel
theorem dL_law_533 : decode cL_law 533 = .ok (.goto 71, 3) := by decide +kernel
theorem dL_law_536 : decode cL_law 536 = .ok (.aload_n 1, 1) := by decide +kernel
theorem dL_law_537 : decode cL_law 537 = .ok (.aload_n 0, 1) := by decide +kernel
theorem dL_law_538 : decode cL_law 538 = .ok (.iload 4, 2) := by decide +kernel
theorem dL_law_540 : decode cL_law 540 = .ok (.iconst 1, 1) := by decide +kernel
theorem dL_law_541 : decode cL_law 541 = .ok (.iadd, 1) := by decide +kernel
theorem dL_law_542 : decode cL_law 542 = .ok (.iaload, 1) := by decide +kernel
theorem dL_law_543 : decode cL_law 543 = .ok (.aload_n 0, 1) := by decide +kernel
theorem dL_law_544 : decode cL_law 544 = .ok (.iload 4, 2) := by decide +kernel
theorem dL_law_546 : decode cL_law 546 = .ok (.iconst 2, 1) := by decide +kernel
theorem dL_law_547 : decode cL_law 547 = .ok (.iadd, 1) := by decide +kernel
theorem dL_law_548 : decode cL_law 548 = .ok (.iaload, 1) := by decide +kernel
theorem dL_law_549 : decode cL_law 549 = .ok (.aload_n 3, 1) := by decide +kernel
theorem dL_law_550 : decode cL_law 550 = .ok (.invokestatic 86, 3) := by decide +kernel
theorem dL_law_553 : decode cL_law 553 = .ok (.istore 5, 2) := by decide +kernel
theorem dL_law_555 : decode cL_law 555 = .ok (.aload_n 2, 1) := by decide +kernel
theorem dL_law_556 : decode cL_law 556 = .ok (.aload_n 0, 1) := by decide +kernel
theorem dL_law_557 : decode cL_law 557 = .ok (.iload 4, 2) := by decide +kernel
theorem dL_law_559 : decode cL_law 559 = .ok (.iconst 1, 1) := by decide +kernel
theorem dL_law_560 : decode cL_law 560 = .ok (.iadd, 1) := by decide +kernel
theorem dL_law_561 : decode cL_law 561 = .ok (.iaload, 1) := by decide +kernel
theorem dL_law_562 : decode cL_law 562 = .ok (.aload_n 0, 1) := by decide +kernel
theorem dL_law_563 : decode cL_law 563 = .ok (.iload 4, 2) := by decide +kernel
theorem dL_law_565 : decode cL_law 565 = .ok (.iconst 2, 1) := by decide +kernel
theorem dL_law_566 : decode cL_law 566 = .ok (.iadd, 1) := by decide +kernel
theorem dL_law_567 : decode cL_law 567 = .ok (.iaload, 1) := by decide +kernel
theorem dL_law_568 : decode cL_law 568 = .ok (.invokevirtual 89, 3) := by decide +kernel
theorem dL_law_571 : decode cL_law 571 = .ok (.istore 6, 2) := by decide +kernel
theorem dL_law_573 : decode cL_law 573 = .ok (.aload_n 2, 1) := by decide +kernel
theorem dL_law_574 : decode cL_law 574 = .ok (.invokevirtual 48, 3) := by decide +kernel
theorem dL_law_577 : decode cL_law 577 = .ok (.iload 5, 2) := by decide +kernel
theorem dL_law_579 : decode cL_law 579 = .ok (.if_icmp .eq 5, 3) := by decide +kernel
theorem dL_law_582 : decode cL_law 582 = .ok (.iconst 0, 1) := by decide +kernel
theorem dL_law_583 : decode cL_law 583 = .ok (.ireturn, 1) := by decide +kernel
theorem dL_law_584 : decode cL_law 584 = .ok (.iload 5, 2) := by decide +kernel
theorem dL_law_586 : decode cL_law 586 = .ok (.ifCond .ne 15, 3) := by decide +kernel
theorem dL_law_589 : decode cL_law 589 = .ok (.aload_n 3, 1) := by decide +kernel
theorem dL_law_590 : decode cL_law 590 = .ok (.iconst 0, 1) := by decide +kernel
theorem dL_law_591 : decode cL_law 591 = .ok (.laload, 1) := by decide +kernel
theorem dL_law_592 : decode cL_law 592 = .ok (.iload 6, 2) := by decide +kernel
theorem dL_law_594 : decode cL_law 594 = .ok (.i2l, 1) := by decide +kernel
theorem dL_law_595 : decode cL_law 595 = .ok (.lcmp, 1) := by decide +kernel
theorem dL_law_596 : decode cL_law 596 = .ok (.ifCond .eq 5, 3) := by decide +kernel
theorem dL_law_599 : decode cL_law 599 = .ok (.iconst 0, 1) := by decide +kernel
theorem dL_law_600 : decode cL_law 600 = .ok (.ireturn, 1) := by decide +kernel
theorem dL_law_601 : decode cL_law 601 = .ok (.goto 3, 3) := by decide +kernel
theorem dL_law_604 : decode cL_law 604 = .ok (.iinc 4 5, 3) := by decide +kernel
theorem dL_law_607 : decode cL_law 607 = .ok (.goto (-584), 3) := by decide +kernel
theorem dL_law_610 : decode cL_law 610 = .ok (.iconst 1, 1) := by decide +kernel
theorem dL_law_611 : decode cL_law 611 = .ok (.ireturn, 1) := by decide +kernel
