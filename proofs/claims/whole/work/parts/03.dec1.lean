theorem dX12_init_0 : decode cX12_init 0 = .ok (.aload_n 0, 1) := by decide +kernel
theorem dX12_init_1 : decode cX12_init 1 = .ok (.invokespecial 1, 3) := by decide +kernel
theorem dX12_init_4 : decode cX12_init 4 = .ok (.aload_n 0, 1) := by decide +kernel
theorem dX12_init_5 : decode cX12_init 5 = .ok (.bipush 48, 2) := by decide +kernel
theorem dX12_init_7 : decode cX12_init 7 = .ok (.newarray .char, 2) := by decide +kernel
theorem dX12_init_9 : decode cX12_init 9 = .ok (.putfield 7, 3) := by decide +kernel
theorem dX12_init_12 : decode cX12_init 12 = .ok (.aload_n 0, 1) := by decide +kernel
theorem dX12_init_13 : decode cX12_init 13 = .ok (.iconst 4, 1) := by decide +kernel
theorem dX12_init_14 : decode cX12_init 14 = .ok (.newarray .int, 2) := by decide +kernel
theorem dX12_init_16 : decode cX12_init 16 = .ok (.putfield 13, 3) := by decide +kernel
theorem dX12_init_19 : decode cX12_init 19 = .ok (.aload_n 0, 1) := by decide +kernel
theorem dX12_init_20 : decode cX12_init 20 = .ok (.bipush 96, 2) := by decide +kernel
theorem dX12_init_22 : decode cX12_init 22 = .ok (.newarray .int, 2) := by decide +kernel
theorem dX12_init_24 : decode cX12_init 24 = .ok (.putfield 17, 3) := by decide +kernel
theorem dX12_init_27 : decode cX12_init 27 = .ok (.aload_n 0, 1) := by decide +kernel
theorem dX12_init_28 : decode cX12_init 28 = .ok (.sipush 4608, 3) := by decide +kernel
theorem dX12_init_31 : decode cX12_init 31 = .ok (.newarray .char, 2) := by decide +kernel
theorem dX12_init_33 : decode cX12_init 33 = .ok (.putfield 20, 3) := by decide +kernel
theorem dX12_init_36 : decode cX12_init 36 = .ok (.aload_n 0, 1) := by decide +kernel
theorem dX12_init_37 : decode cX12_init 37 = .ok (.sipush 1152, 3) := by decide +kernel
theorem dX12_init_40 : decode cX12_init 40 = .ok (.newarray .char, 2) := by decide +kernel
theorem dX12_init_42 : decode cX12_init 42 = .ok (.putfield 23, 3) := by decide +kernel
theorem dX12_init_45 : decode cX12_init 45 = .ok (.aload_n 0, 1) := by decide +kernel
theorem dX12_init_46 : decode cX12_init 46 = .ok (.sipush 192, 3) := by decide +kernel
theorem dX12_init_49 : decode cX12_init 49 = .ok (.newarray .int, 2) := by decide +kernel
theorem dX12_init_51 : decode cX12_init 51 = .ok (.putfield 26, 3) := by decide +kernel
theorem dX12_init_54 : decode cX12_init 54 = .ok (.aload_n 0, 1) := by decide +kernel
theorem dX12_init_55 : decode cX12_init 55 = .ok (.sipush 192, 3) := by decide +kernel
theorem dX12_init_58 : decode cX12_init 58 = .ok (.newarray .int, 2) := by decide +kernel
theorem dX12_init_60 : decode cX12_init 60 = .ok (.putfield 29, 3) := by decide +kernel
theorem dX12_init_63 : decode cX12_init 63 = .ok (.aload_n 0, 1) := by decide +kernel
theorem dX12_init_64 : decode cX12_init 64 = .ok (.sipush 192, 3) := by decide +kernel
theorem dX12_init_67 : decode cX12_init 67 = .ok (.newarray .int, 2) := by decide +kernel
theorem dX12_init_69 : decode cX12_init 69 = .ok (.putfield 32, 3) := by decide +kernel
theorem dX12_init_72 : decode cX12_init 72 = .ok (.aload_n 0, 1) := by decide +kernel
theorem dX12_init_73 : decode cX12_init 73 = .ok (.sipush 192, 3) := by decide +kernel
theorem dX12_init_76 : decode cX12_init 76 = .ok (.newarray .boolean, 2) := by decide +kernel
theorem dX12_init_78 : decode cX12_init 78 = .ok (.putfield 35, 3) := by decide +kernel
theorem dX12_init_81 : decode cX12_init 81 = .ok (.aload_n 0, 1) := by decide +kernel
theorem dX12_init_82 : decode cX12_init 82 = .ok (.bipush 12, 2) := by decide +kernel
theorem dX12_init_84 : decode cX12_init 84 = .ok (.newarray .int, 2) := by decide +kernel
theorem dX12_init_86 : decode cX12_init 86 = .ok (.putfield 39, 3) := by decide +kernel
theorem dX12_init_89 : decode cX12_init 89 = .ok (.aload_n 0, 1) := by decide +kernel
theorem dX12_init_90 : decode cX12_init 90 = .ok (.bipush 12, 2) := by decide +kernel
theorem dX12_init_92 : decode cX12_init 92 = .ok (.newarray .int, 2) := by decide +kernel
theorem dX12_init_94 : decode cX12_init 94 = .ok (.putfield 42, 3) := by decide +kernel
theorem dX12_init_97 : decode cX12_init 97 = .ok (.aload_n 0, 1) := by decide +kernel
theorem dX12_init_98 : decode cX12_init 98 = .ok (.bipush 12, 2) := by decide +kernel
theorem dX12_init_100 : decode cX12_init 100 = .ok (.newarray .int, 2) := by decide +kernel
theorem dX12_init_102 : decode cX12_init 102 = .ok (.putfield 45, 3) := by decide +kernel
theorem dX12_init_105 : decode cX12_init 105 = .ok (.aload_n 0, 1) := by decide +kernel
theorem dX12_init_106 : decode cX12_init 106 = .ok (.sipush 12288, 3) := by decide +kernel
theorem dX12_init_109 : decode cX12_init 109 = .ok (.newarray .int, 2) := by decide +kernel
theorem dX12_init_111 : decode cX12_init 111 = .ok (.putfield 48, 3) := by decide +kernel
theorem dX12_init_114 : decode cX12_init 114 = .ok (.aload_n 0, 1) := by decide +kernel
theorem dX12_init_115 : decode cX12_init 115 = .ok (.bipush 12, 2) := by decide +kernel
theorem dX12_init_117 : decode cX12_init 117 = .ok (.newarray .int, 2) := by decide +kernel
theorem dX12_init_119 : decode cX12_init 119 = .ok (.putfield 51, 3) := by decide +kernel
theorem dX12_init_122 : decode cX12_init 122 = .ok (.aload_n 0, 1) := by decide +kernel
theorem dX12_init_123 : decode cX12_init 123 = .ok (.bipush 12, 2) := by decide +kernel
theorem dX12_init_125 : decode cX12_init 125 = .ok (.newarray .int, 2) := by decide +kernel
theorem dX12_init_127 : decode cX12_init 127 = .ok (.putfield 54, 3) := by decide +kernel
theorem dX12_init_130 : decode cX12_init 130 = .ok (.aload_n 0, 1) := by decide +kernel
theorem dX12_init_131 : decode cX12_init 131 = .ok (.sipush 2048, 3) := by decide +kernel
theorem dX12_init_134 : decode cX12_init 134 = .ok (.newarray .int, 2) := by decide +kernel
theorem dX12_init_136 : decode cX12_init 136 = .ok (.putfield 57, 3) := by decide +kernel
theorem dX12_init_139 : decode cX12_init 139 = .ok (.aload_n 0, 1) := by decide +kernel
theorem dX12_init_140 : decode cX12_init 140 = .ok (.iconst 3, 1) := by decide +kernel
theorem dX12_init_141 : decode cX12_init 141 = .ok (.newarray .int, 2) := by decide +kernel
theorem dX12_init_143 : decode cX12_init 143 = .ok (.putfield 60, 3) := by decide +kernel
theorem dX12_init_146 : decode cX12_init 146 = .ok (.aload_n 0, 1) := by decide +kernel
theorem dX12_init_147 : decode cX12_init 147 = .ok (.sipush 6400, 3) := by decide +kernel
theorem dX12_init_150 : decode cX12_init 150 = .ok (.newarray .char, 2) := by decide +kernel
theorem dX12_init_152 : decode cX12_init 152 = .ok (.putfield 63, 3) := by decide +kernel
theorem dX12_init_155 : decode cX12_init 155 = .ok (.aload_n 0, 1) := by decide +kernel
theorem dX12_init_156 : decode cX12_init 156 = .ok (.bipush 12, 2) := by decide +kernel
theorem dX12_init_158 : decode cX12_init 158 = .ok (.newarray .int, 2) := by decide +kernel
theorem dX12_init_160 : decode cX12_init 160 = .ok (.putfield 66, 3) := by decide +kernel
theorem dX12_init_163 : decode cX12_init 163 = .ok (.aload_n 0, 1) := by decide +kernel
theorem dX12_init_164 : decode cX12_init 164 = .ok (.invokevirtual 69, 3) := by decide +kernel
theorem dX12_init_167 : decode cX12_init 167 = .ok (.return_, 1) := by decide +kernel
theorem dX12_thrown_0 : decode cX12_thrown 0 = .ok (.aload_n 0, 1) := by decide +kernel
theorem dX12_thrown_1 : decode cX12_thrown 1 = .ok (.getfield 72, 3) := by decide +kernel
theorem dX12_thrown_4 : decode cX12_thrown 4 = .ok (.ireturn, 1) := by decide +kernel
theorem dX12_refused_0 : decode cX12_refused 0 = .ok (.aload_n 0, 1) := by decide +kernel
theorem dX12_refused_1 : decode cX12_refused 1 = .ok (.iload_n 1, 1) := by decide +kernel
theorem dX12_refused_2 : decode cX12_refused 2 = .ok (.putfield 72, 3) := by decide +kernel
theorem dX12_refused_5 : decode cX12_refused 5 = .ok (.iload_n 1, 1) := by decide +kernel
theorem dX12_refused_6 : decode cX12_refused 6 = .ok (.ifCond .le 7, 3) := by decide +kernel
theorem dX12_refused_9 : decode cX12_refused 9 = .ok (.iconst 1, 1) := by decide +kernel
theorem dX12_refused_10 : decode cX12_refused 10 = .ok (.goto 4, 3) := by decide +kernel
theorem dX12_refused_13 : decode cX12_refused 13 = .ok (.iconst 0, 1) := by decide +kernel
theorem dX12_refused_14 : decode cX12_refused 14 = .ok (.ireturn, 1) := by decide +kernel
theorem dX12_forget_0 : decode cX12_forget 0 = .ok (.iconst 0, 1) := by decide +kernel
theorem dX12_forget_1 : decode cX12_forget 1 = .ok (.istore_n 1, 1) := by decide +kernel
theorem dX12_forget_2 : decode cX12_forget 2 = .ok (.iload_n 1, 1) := by decide +kernel
theorem dX12_forget_3 : decode cX12_forget 3 = .ok (.iconst 3, 1) := by decide +kernel
theorem dX12_forget_4 : decode cX12_forget 4 = .ok (.if_icmp .ge 16, 3) := by decide +kernel
theorem dX12_forget_7 : decode cX12_forget 7 = .ok (.aload_n 0, 1) := by decide +kernel
theorem dX12_forget_8 : decode cX12_forget 8 = .ok (.getfield 60, 3) := by decide +kernel
theorem dX12_forget_11 : decode cX12_forget 11 = .ok (.iload_n 1, 1) := by decide +kernel
theorem dX12_forget_12 : decode cX12_forget 12 = .ok (.iconst (-1), 1) := by decide +kernel
theorem dX12_forget_13 : decode cX12_forget 13 = .ok (.iastore, 1) := by decide +kernel
theorem dX12_forget_14 : decode cX12_forget 14 = .ok (.iinc 1 1, 3) := by decide +kernel
theorem dX12_forget_17 : decode cX12_forget 17 = .ok (.goto (-15), 3) := by decide +kernel
theorem dX12_forget_20 : decode cX12_forget 20 = .ok (.return_, 1) := by decide +kernel
theorem dX12_isIn_0 : decode cX12_isIn 0 = .ok (.iload_n 0, 1) := by decide +kernel
theorem dX12_isIn_1 : decode cX12_isIn 1 = .ok (.iload_n 1, 1) := by decide +kernel
theorem dX12_isIn_2 : decode cX12_isIn 2 = .ok (.if_icmp .lt 12, 3) := by decide +kernel
theorem dX12_isIn_5 : decode cX12_isIn 5 = .ok (.iload_n 0, 1) := by decide +kernel
theorem dX12_isIn_6 : decode cX12_isIn 6 = .ok (.iload_n 2, 1) := by decide +kernel
theorem dX12_isIn_7 : decode cX12_isIn 7 = .ok (.if_icmp .gt 7, 3) := by decide +kernel
theorem dX12_isIn_10 : decode cX12_isIn 10 = .ok (.iconst 1, 1) := by decide +kernel
theorem dX12_isIn_11 : decode cX12_isIn 11 = .ok (.goto 4, 3) := by decide +kernel
theorem dX12_isIn_14 : decode cX12_isIn 14 = .ok (.iconst 0, 1) := by decide +kernel
theorem dX12_isIn_15 : decode cX12_isIn 15 = .ok (.ireturn, 1) := by decide +kernel
theorem dX12_put_0 : decode cX12_put 0 = .ok (.iload_n 1, 1) := by decide +kernel
theorem dX12_put_1 : decode cX12_put 1 = .ok (.iload_n 2, 1) := by decide +kernel
theorem dX12_put_2 : decode cX12_put 2 = .ok (.ishr, 1) := by decide +kernel
theorem dX12_put_3 : decode cX12_put 3 = .ok (.sipush 255, 3) := by decide +kernel
theorem dX12_put_6 : decode cX12_put 6 = .ok (.iand, 1) := by decide +kernel
theorem dX12_put_7 : decode cX12_put 7 = .ok (.istore_n 3, 1) := by decide +kernel
theorem dX12_put_8 : decode cX12_put 8 = .ok (.iload_n 3, 1) := by decide +kernel
theorem dX12_put_9 : decode cX12_put 9 = .ok (.ifCond .le 33, 3) := by decide +kernel
theorem dX12_put_12 : decode cX12_put 12 = .ok (.aload_n 0, 1) := by decide +kernel
theorem dX12_put_13 : decode cX12_put 13 = .ok (.getfield 76, 3) := by decide +kernel
theorem dX12_put_16 : decode cX12_put 16 = .ok (.bipush 48, 2) := by decide +kernel
theorem dX12_put_18 : decode cX12_put 18 = .ok (.if_icmp .ge 14, 3) := by decide +kernel
theorem dX12_put_21 : decode cX12_put 21 = .ok (.aload_n 0, 1) := by decide +kernel
theorem dX12_put_22 : decode cX12_put 22 = .ok (.getfield 7, 3) := by decide +kernel
theorem dX12_put_25 : decode cX12_put 25 = .ok (.aload_n 0, 1) := by decide +kernel
theorem dX12_put_26 : decode cX12_put 26 = .ok (.getfield 76, 3) := by decide +kernel
theorem dX12_put_29 : decode cX12_put 29 = .ok (.iload_n 3, 1) := by decide +kernel
theorem dX12_put_30 : decode cX12_put 30 = .ok (.i2c, 1) := by decide +kernel
theorem dX12_put_31 : decode cX12_put 31 = .ok (.castore, 1) := by decide +kernel
theorem dX12_put_32 : decode cX12_put 32 = .ok (.aload_n 0, 1) := by decide +kernel
theorem dX12_put_33 : decode cX12_put 33 = .ok (.dup, 1) := by decide +kernel
theorem dX12_put_34 : decode cX12_put 34 = .ok (.getfield 76, 3) := by decide +kernel
theorem dX12_put_37 : decode cX12_put 37 = .ok (.iconst 1, 1) := by decide +kernel
theorem dX12_put_38 : decode cX12_put 38 = .ok (.iadd, 1) := by decide +kernel
theorem dX12_put_39 : decode cX12_put 39 = .ok (.putfield 76, 3) := by decide +kernel
theorem dX12_put_42 : decode cX12_put 42 = .ok (.return_, 1) := by decide +kernel
theorem dX12_type_0 : decode cX12_type 0 = .ok (.aload_n 0, 1) := by decide +kernel
theorem dX12_type_1 : decode cX12_type 1 = .ok (.getfield 76, 3) := by decide +kernel
theorem dX12_type_4 : decode cX12_type 4 = .ok (.istore 5, 2) := by decide +kernel
theorem dX12_type_6 : decode cX12_type 6 = .ok (.iconst 0, 1) := by decide +kernel
theorem dX12_type_7 : decode cX12_type 7 = .ok (.istore 6, 2) := by decide +kernel
theorem dX12_type_9 : decode cX12_type 9 = .ok (.iload 6, 2) := by decide +kernel
theorem dX12_type_11 : decode cX12_type 11 = .ok (.iconst 4, 1) := by decide +kernel
theorem dX12_type_12 : decode cX12_type 12 = .ok (.if_icmp .ge 69, 3) := by decide +kernel
theorem dX12_type_15 : decode cX12_type 15 = .ok (.iload 6, 2) := by decide +kernel
theorem dX12_type_17 : decode cX12_type 17 = .ok (.ifCond .ne 7, 3) := by decide +kernel
theorem dX12_type_20 : decode cX12_type 20 = .ok (.iload_n 1, 1) := by decide +kernel
theorem dX12_type_21 : decode cX12_type 21 = .ok (.goto 25, 3) := by decide +kernel
theorem dX12_type_24 : decode cX12_type 24 = .ok (.iload 6, 2) := by decide +kernel
theorem dX12_type_26 : decode cX12_type 26 = .ok (.iconst 1, 1) := by decide +kernel
theorem dX12_type_27 : decode cX12_type 27 = .ok (.if_icmp .ne 7, 3) := by decide +kernel
theorem dX12_type_30 : decode cX12_type 30 = .ok (.iload_n 2, 1) := by decide +kernel
theorem dX12_type_31 : decode cX12_type 31 = .ok (.goto 15, 3) := by decide +kernel
theorem dX12_type_34 : decode cX12_type 34 = .ok (.iload 6, 2) := by decide +kernel
theorem dX12_type_36 : decode cX12_type 36 = .ok (.iconst 2, 1) := by decide +kernel
theorem dX12_type_37 : decode cX12_type 37 = .ok (.if_icmp .ne 7, 3) := by decide +kernel
theorem dX12_type_40 : decode cX12_type 40 = .ok (.iload_n 3, 1) := by decide +kernel
theorem dX12_type_41 : decode cX12_type 41 = .ok (.goto 5, 3) := by decide +kernel
theorem dX12_type_44 : decode cX12_type 44 = .ok (.iload 4, 2) := by decide +kernel
theorem dX12_type_46 : decode cX12_type 46 = .ok (.istore 7, 2) := by decide +kernel
theorem dX12_type_48 : decode cX12_type 48 = .ok (.bipush 24, 2) := by decide +kernel
theorem dX12_type_50 : decode cX12_type 50 = .ok (.istore 8, 2) := by decide +kernel
theorem dX12_type_52 : decode cX12_type 52 = .ok (.iload 8, 2) := by decide +kernel
theorem dX12_type_54 : decode cX12_type 54 = .ok (.ifCond .lt 21, 3) := by decide +kernel
theorem dX12_type_57 : decode cX12_type 57 = .ok (.aload_n 0, 1) := by decide +kernel
theorem dX12_type_58 : decode cX12_type 58 = .ok (.iload 7, 2) := by decide +kernel
theorem dX12_type_60 : decode cX12_type 60 = .ok (.iload 8, 2) := by decide +kernel
theorem dX12_type_62 : decode cX12_type 62 = .ok (.invokevirtual 79, 3) := by decide +kernel
theorem dX12_type_65 : decode cX12_type 65 = .ok (.iload 8, 2) := by decide +kernel
theorem dX12_type_67 : decode cX12_type 67 = .ok (.bipush 8, 2) := by decide +kernel
theorem dX12_type_69 : decode cX12_type 69 = .ok (.isub, 1) := by decide +kernel
theorem dX12_type_70 : decode cX12_type 70 = .ok (.istore 8, 2) := by decide +kernel
theorem dX12_type_72 : decode cX12_type 72 = .ok (.goto (-20), 3) := by decide +kernel
theorem dX12_type_75 : decode cX12_type 75 = .ok (.iinc 6 1, 3) := by decide +kernel
theorem dX12_type_78 : decode cX12_type 78 = .ok (.goto (-69), 3) := by decide +kernel
theorem dX12_type_81 : decode cX12_type 81 = .ok (.aload_n 0, 1) := by decide +kernel
theorem dX12_type_82 : decode cX12_type 82 = .ok (.aload_n 0, 1) := by decide +kernel
theorem dX12_type_83 : decode cX12_type 83 = .ok (.getfield 76, 3) := by decide +kernel
theorem dX12_type_86 : decode cX12_type 86 = .ok (.bipush 48, 2) := by decide +kernel
theorem dX12_type_88 : decode cX12_type 88 = .ok (.if_icmp .le 7, 3) := by decide +kernel
theorem dX12_type_91 : decode cX12_type 91 = .ok (.iconst 1, 1) := by decide +kernel
theorem dX12_type_92 : decode cX12_type 92 = .ok (.goto 4, 3) := by decide +kernel
theorem dX12_type_95 : decode cX12_type 95 = .ok (.iconst 0, 1) := by decide +kernel
theorem dX12_type_96 : decode cX12_type 96 = .ok (.invokevirtual 83, 3) := by decide +kernel
theorem dX12_type_99 : decode cX12_type 99 = .ok (.ifCond .eq 11, 3) := by decide +kernel
theorem dX12_type_102 : decode cX12_type 102 = .ok (.aload_n 0, 1) := by decide +kernel
theorem dX12_type_103 : decode cX12_type 103 = .ok (.iload 5, 2) := by decide +kernel
theorem dX12_type_105 : decode cX12_type 105 = .ok (.putfield 76, 3) := by decide +kernel
theorem dX12_type_108 : decode cX12_type 108 = .ok (.iconst 0, 1) := by decide +kernel
theorem dX12_type_109 : decode cX12_type 109 = .ok (.ireturn, 1) := by decide +kernel
theorem dX12_type_110 : decode cX12_type 110 = .ok (.aload_n 0, 1) := by decide +kernel
theorem dX12_type_111 : decode cX12_type 111 = .ok (.getfield 76, 3) := by decide +kernel
theorem dX12_type_114 : decode cX12_type 114 = .ok (.ireturn, 1) := by decide +kernel
theorem dX12_erase_0 : decode cX12_erase 0 = .ok (.aload_n 0, 1) := by decide +kernel
theorem dX12_erase_1 : decode cX12_erase 1 = .ok (.iconst 0, 1) := by decide +kernel
theorem dX12_erase_2 : decode cX12_erase 2 = .ok (.putfield 72, 3) := by decide +kernel
theorem dX12_erase_5 : decode cX12_erase 5 = .ok (.aload_n 0, 1) := by decide +kernel
theorem dX12_erase_6 : decode cX12_erase 6 = .ok (.getfield 76, 3) := by decide +kernel
theorem dX12_erase_9 : decode cX12_erase 9 = .ok (.istore_n 1, 1) := by decide +kernel
theorem dX12_erase_10 : decode cX12_erase 10 = .ok (.aload_n 0, 1) := by decide +kernel
theorem dX12_erase_11 : decode cX12_erase 11 = .ok (.iconst 0, 1) := by decide +kernel
theorem dX12_erase_12 : decode cX12_erase 12 = .ok (.putfield 76, 3) := by decide +kernel
theorem dX12_erase_15 : decode cX12_erase 15 = .ok (.iload_n 1, 1) := by decide +kernel
theorem dX12_erase_16 : decode cX12_erase 16 = .ok (.ireturn, 1) := by decide +kernel
theorem dX12_store_0 : decode cX12_store 0 = .ok (.aload_n 0, 1) := by decide +kernel
theorem dX12_store_1 : decode cX12_store 1 = .ok (.getfield 17, 3) := by decide +kernel
theorem dX12_store_4 : decode cX12_store 4 = .ok (.iload_n 1, 1) := by decide +kernel
theorem dX12_store_5 : decode cX12_store 5 = .ok (.aload_n 0, 1) := by decide +kernel
theorem dX12_store_6 : decode cX12_store 6 = .ok (.getfield 76, 3) := by decide +kernel
theorem dX12_store_9 : decode cX12_store 9 = .ok (.iastore, 1) := by decide +kernel
theorem dX12_store_10 : decode cX12_store 10 = .ok (.iconst 0, 1) := by decide +kernel
theorem dX12_store_11 : decode cX12_store 11 = .ok (.istore_n 2, 1) := by decide +kernel
theorem dX12_store_12 : decode cX12_store 12 = .ok (.iload_n 2, 1) := by decide +kernel
theorem dX12_store_13 : decode cX12_store 13 = .ok (.aload_n 0, 1) := by decide +kernel
theorem dX12_store_14 : decode cX12_store 14 = .ok (.getfield 76, 3) := by decide +kernel
theorem dX12_store_17 : decode cX12_store 17 = .ok (.if_icmp .ge 26, 3) := by decide +kernel
theorem dX12_store_20 : decode cX12_store 20 = .ok (.aload_n 0, 1) := by decide +kernel
theorem dX12_store_21 : decode cX12_store 21 = .ok (.getfield 20, 3) := by decide +kernel
theorem dX12_store_24 : decode cX12_store 24 = .ok (.bipush 48, 2) := by decide +kernel
theorem dX12_store_26 : decode cX12_store 26 = .ok (.iload_n 1, 1) := by decide +kernel
theorem dX12_store_27 : decode cX12_store 27 = .ok (.imul, 1) := by decide +kernel
theorem dX12_store_28 : decode cX12_store 28 = .ok (.iload_n 2, 1) := by decide +kernel
theorem dX12_store_29 : decode cX12_store 29 = .ok (.iadd, 1) := by decide +kernel
theorem dX12_store_30 : decode cX12_store 30 = .ok (.aload_n 0, 1) := by decide +kernel
theorem dX12_store_31 : decode cX12_store 31 = .ok (.getfield 7, 3) := by decide +kernel
theorem dX12_store_34 : decode cX12_store 34 = .ok (.iload_n 2, 1) := by decide +kernel
theorem dX12_store_35 : decode cX12_store 35 = .ok (.caload, 1) := by decide +kernel
theorem dX12_store_36 : decode cX12_store 36 = .ok (.castore, 1) := by decide +kernel
theorem dX12_store_37 : decode cX12_store 37 = .ok (.iinc 2 1, 3) := by decide +kernel
theorem dX12_store_40 : decode cX12_store 40 = .ok (.goto (-28), 3) := by decide +kernel
theorem dX12_store_43 : decode cX12_store 43 = .ok (.aload_n 0, 1) := by decide +kernel
theorem dX12_store_44 : decode cX12_store 44 = .ok (.iconst 0, 1) := by decide +kernel
theorem dX12_store_45 : decode cX12_store 45 = .ok (.putfield 76, 3) := by decide +kernel
theorem dX12_store_48 : decode cX12_store 48 = .ok (.return_, 1) := by decide +kernel
theorem dX12_isModule_0 : decode cX12_isModule 0 = .ok (.iload_n 0, 1) := by decide +kernel
theorem dX12_isModule_1 : decode cX12_isModule 1 = .ok (.ifCond .lt 12, 3) := by decide +kernel
theorem dX12_isModule_4 : decode cX12_isModule 4 = .ok (.iload_n 0, 1) := by decide +kernel
theorem dX12_isModule_5 : decode cX12_isModule 5 = .ok (.iconst 4, 1) := by decide +kernel
theorem dX12_isModule_6 : decode cX12_isModule 6 = .ok (.if_icmp .ge 7, 3) := by decide +kernel
theorem dX12_isModule_9 : decode cX12_isModule 9 = .ok (.iconst 1, 1) := by decide +kernel
theorem dX12_isModule_10 : decode cX12_isModule 10 = .ok (.goto 4, 3) := by decide +kernel
theorem dX12_isModule_13 : decode cX12_isModule 13 = .ok (.iconst 0, 1) := by decide +kernel
theorem dX12_isModule_14 : decode cX12_isModule 14 = .ok (.ireturn, 1) := by decide +kernel
theorem dX12_add_0 : decode cX12_add 0 = .ok (.aload_n 0, 1) := by decide +kernel
theorem dX12_add_1 : decode cX12_add 1 = .ok (.iload_n 1, 1) := by decide +kernel
theorem dX12_add_2 : decode cX12_add 2 = .ok (.invokestatic 87, 3) := by decide +kernel
theorem dX12_add_5 : decode cX12_add 5 = .ok (.ifCond .ne 7, 3) := by decide +kernel
theorem dX12_add_8 : decode cX12_add 8 = .ok (.iconst 1, 1) := by decide +kernel
theorem dX12_add_9 : decode cX12_add 9 = .ok (.goto 19, 3) := by decide +kernel
theorem dX12_add_12 : decode cX12_add 12 = .ok (.aload_n 0, 1) := by decide +kernel
theorem dX12_add_13 : decode cX12_add 13 = .ok (.getfield 13, 3) := by decide +kernel
theorem dX12_add_16 : decode cX12_add 16 = .ok (.iload_n 1, 1) := by decide +kernel
theorem dX12_add_17 : decode cX12_add 17 = .ok (.iaload, 1) := by decide +kernel
theorem dX12_add_18 : decode cX12_add 18 = .ok (.bipush 24, 2) := by decide +kernel
theorem dX12_add_20 : decode cX12_add 20 = .ok (.if_icmp .ne 7, 3) := by decide +kernel
theorem dX12_add_23 : decode cX12_add 23 = .ok (.iconst 2, 1) := by decide +kernel
theorem dX12_add_24 : decode cX12_add 24 = .ok (.goto 4, 3) := by decide +kernel
theorem dX12_add_27 : decode cX12_add 27 = .ok (.iconst 0, 1) := by decide +kernel
theorem dX12_add_28 : decode cX12_add 28 = .ok (.invokevirtual 83, 3) := by decide +kernel
theorem dX12_add_31 : decode cX12_add 31 = .ok (.ifCond .eq 5, 3) := by decide +kernel
theorem dX12_add_34 : decode cX12_add 34 = .ok (.iconst 0, 1) := by decide +kernel
theorem dX12_add_35 : decode cX12_add 35 = .ok (.ireturn, 1) := by decide +kernel
theorem dX12_add_36 : decode cX12_add 36 = .ok (.aload_n 0, 1) := by decide +kernel
theorem dX12_add_37 : decode cX12_add 37 = .ok (.bipush 24, 2) := by decide +kernel
theorem dX12_add_39 : decode cX12_add 39 = .ok (.iload_n 1, 1) := by decide +kernel
theorem dX12_add_40 : decode cX12_add 40 = .ok (.imul, 1) := by decide +kernel
theorem dX12_add_41 : decode cX12_add 41 = .ok (.aload_n 0, 1) := by decide +kernel
theorem dX12_add_42 : decode cX12_add 42 = .ok (.getfield 13, 3) := by decide +kernel
theorem dX12_add_45 : decode cX12_add 45 = .ok (.iload_n 1, 1) := by decide +kernel
theorem dX12_add_46 : decode cX12_add 46 = .ok (.iaload, 1) := by decide +kernel
theorem dX12_add_47 : decode cX12_add 47 = .ok (.iadd, 1) := by decide +kernel
theorem dX12_add_48 : decode cX12_add 48 = .ok (.invokevirtual 90, 3) := by decide +kernel
theorem dX12_add_51 : decode cX12_add 51 = .ok (.aload_n 0, 1) := by decide +kernel
theorem dX12_add_52 : decode cX12_add 52 = .ok (.getfield 13, 3) := by decide +kernel
theorem dX12_add_55 : decode cX12_add 55 = .ok (.iload_n 1, 1) := by decide +kernel
theorem dX12_add_56 : decode cX12_add 56 = .ok (.dup2, 1) := by decide +kernel
theorem dX12_add_57 : decode cX12_add 57 = .ok (.iaload, 1) := by decide +kernel
theorem dX12_add_58 : decode cX12_add 58 = .ok (.iconst 1, 1) := by decide +kernel
theorem dX12_add_59 : decode cX12_add 59 = .ok (.iadd, 1) := by decide +kernel
theorem dX12_add_60 : decode cX12_add 60 = .ok (.iastore, 1) := by decide +kernel
theorem dX12_add_61 : decode cX12_add 61 = .ok (.aload_n 0, 1) := by decide +kernel
theorem dX12_add_62 : decode cX12_add 62 = .ok (.getfield 13, 3) := by decide +kernel
theorem dX12_add_65 : decode cX12_add 65 = .ok (.iload_n 1, 1) := by decide +kernel
theorem dX12_add_66 : decode cX12_add 66 = .ok (.iaload, 1) := by decide +kernel
theorem dX12_add_67 : decode cX12_add 67 = .ok (.ireturn, 1) := by decide +kernel
theorem dX12_change_0 : decode cX12_change 0 = .ok (.aload_n 0, 1) := by decide +kernel
theorem dX12_change_1 : decode cX12_change 1 = .ok (.iload_n 1, 1) := by decide +kernel
theorem dX12_change_2 : decode cX12_change 2 = .ok (.invokestatic 87, 3) := by decide +kernel
theorem dX12_change_5 : decode cX12_change 5 = .ok (.ifCond .eq 21, 3) := by decide +kernel
theorem dX12_change_8 : decode cX12_change 8 = .ok (.iload_n 2, 1) := by decide +kernel
theorem dX12_change_9 : decode cX12_change 9 = .ok (.ifCond .lt 17, 3) := by decide +kernel
theorem dX12_change_12 : decode cX12_change 12 = .ok (.iload_n 2, 1) := by decide +kernel
theorem dX12_change_13 : decode cX12_change 13 = .ok (.aload_n 0, 1) := by decide +kernel
theorem dX12_change_14 : decode cX12_change 14 = .ok (.getfield 13, 3) := by decide +kernel
theorem dX12_change_17 : decode cX12_change 17 = .ok (.iload_n 1, 1) := by decide +kernel
theorem dX12_change_18 : decode cX12_change 18 = .ok (.iaload, 1) := by decide +kernel
theorem dX12_change_19 : decode cX12_change 19 = .ok (.if_icmp .ge 7, 3) := by decide +kernel
theorem dX12_change_22 : decode cX12_change 22 = .ok (.iconst 0, 1) := by decide +kernel
theorem dX12_change_23 : decode cX12_change 23 = .ok (.goto 4, 3) := by decide +kernel
theorem dX12_change_26 : decode cX12_change 26 = .ok (.iconst 1, 1) := by decide +kernel
theorem dX12_change_27 : decode cX12_change 27 = .ok (.invokevirtual 83, 3) := by decide +kernel
theorem dX12_change_30 : decode cX12_change 30 = .ok (.ifCond .eq 4, 3) := by decide +kernel
theorem dX12_change_33 : decode cX12_change 33 = .ok (.return_, 1) := by decide +kernel
theorem dX12_change_34 : decode cX12_change 34 = .ok (.aload_n 0, 1) := by decide +kernel
theorem dX12_change_35 : decode cX12_change 35 = .ok (.bipush 24, 2) := by decide +kernel
theorem dX12_change_37 : decode cX12_change 37 = .ok (.iload_n 1, 1) := by decide +kernel
theorem dX12_change_38 : decode cX12_change 38 = .ok (.imul, 1) := by decide +kernel
theorem dX12_change_39 : decode cX12_change 39 = .ok (.iload_n 2, 1) := by decide +kernel
theorem dX12_change_40 : decode cX12_change 40 = .ok (.iadd, 1) := by decide +kernel
theorem dX12_change_41 : decode cX12_change 41 = .ok (.invokevirtual 90, 3) := by decide +kernel
theorem dX12_change_44 : decode cX12_change 44 = .ok (.return_, 1) := by decide +kernel
theorem dX12_drop_0 : decode cX12_drop 0 = .ok (.aload_n 0, 1) := by decide +kernel
theorem dX12_drop_1 : decode cX12_drop 1 = .ok (.iload_n 1, 1) := by decide +kernel
theorem dX12_drop_2 : decode cX12_drop 2 = .ok (.invokestatic 87, 3) := by decide +kernel
theorem dX12_drop_5 : decode cX12_drop 5 = .ok (.ifCond .eq 7, 3) := by decide +kernel
theorem dX12_drop_8 : decode cX12_drop 8 = .ok (.iconst 0, 1) := by decide +kernel
theorem dX12_drop_9 : decode cX12_drop 9 = .ok (.goto 4, 3) := by decide +kernel
theorem dX12_drop_12 : decode cX12_drop 12 = .ok (.iconst 1, 1) := by decide +kernel
theorem dX12_drop_13 : decode cX12_drop 13 = .ok (.invokevirtual 83, 3) := by decide +kernel
theorem dX12_drop_16 : decode cX12_drop 16 = .ok (.ifCond .eq 5, 3) := by decide +kernel
theorem dX12_drop_19 : decode cX12_drop 19 = .ok (.iconst 0, 1) := by decide +kernel
theorem dX12_drop_20 : decode cX12_drop 20 = .ok (.ireturn, 1) := by decide +kernel
theorem dX12_drop_21 : decode cX12_drop 21 = .ok (.aload_n 0, 1) := by decide +kernel
theorem dX12_drop_22 : decode cX12_drop 22 = .ok (.getfield 13, 3) := by decide +kernel
theorem dX12_drop_25 : decode cX12_drop 25 = .ok (.iload_n 1, 1) := by decide +kernel
theorem dX12_drop_26 : decode cX12_drop 26 = .ok (.iaload, 1) := by decide +kernel
theorem dX12_drop_27 : decode cX12_drop 27 = .ok (.istore_n 2, 1) := by decide +kernel
theorem dX12_drop_28 : decode cX12_drop 28 = .ok (.aload_n 0, 1) := by decide +kernel
theorem dX12_drop_29 : decode cX12_drop 29 = .ok (.getfield 13, 3) := by decide +kernel
theorem dX12_drop_32 : decode cX12_drop 32 = .ok (.iload_n 1, 1) := by decide +kernel
theorem dX12_drop_33 : decode cX12_drop 33 = .ok (.iconst 0, 1) := by decide +kernel
theorem dX12_drop_34 : decode cX12_drop 34 = .ok (.iastore, 1) := by decide +kernel
theorem dX12_drop_35 : decode cX12_drop 35 = .ok (.iload_n 2, 1) := by decide +kernel
theorem dX12_drop_36 : decode cX12_drop 36 = .ok (.ireturn, 1) := by decide +kernel
theorem dX12_next_0 : decode cX12_next 0 = .ok (.aload_n 0, 1) := by decide +kernel
theorem dX12_next_1 : decode cX12_next 1 = .ok (.getfield 94, 3) := by decide +kernel
theorem dX12_next_4 : decode cX12_next 4 = .ok (.aload_n 0, 1) := by decide +kernel
theorem dX12_next_5 : decode cX12_next 5 = .ok (.getfield 97, 3) := by decide +kernel
theorem dX12_next_8 : decode cX12_next 8 = .ok (.if_icmp .ge 30, 3) := by decide +kernel
theorem dX12_next_11 : decode cX12_next 11 = .ok (.aload_n 0, 1) := by decide +kernel
theorem dX12_next_12 : decode cX12_next 12 = .ok (.getfield 20, 3) := by decide +kernel
theorem dX12_next_15 : decode cX12_next 15 = .ok (.aload_n 0, 1) := by decide +kernel
theorem dX12_next_16 : decode cX12_next 16 = .ok (.getfield 94, 3) := by decide +kernel
theorem dX12_next_19 : decode cX12_next 19 = .ok (.caload, 1) := by decide +kernel
theorem dX12_next_20 : decode cX12_next 20 = .ok (.bipush 32, 2) := by decide +kernel
theorem dX12_next_22 : decode cX12_next 22 = .ok (.if_icmp .ne 16, 3) := by decide +kernel
theorem dX12_next_25 : decode cX12_next 25 = .ok (.aload_n 0, 1) := by decide +kernel
theorem dX12_next_26 : decode cX12_next 26 = .ok (.dup, 1) := by decide +kernel
theorem dX12_next_27 : decode cX12_next 27 = .ok (.getfield 94, 3) := by decide +kernel
theorem dX12_next_30 : decode cX12_next 30 = .ok (.iconst 1, 1) := by decide +kernel
theorem dX12_next_31 : decode cX12_next 31 = .ok (.iadd, 1) := by decide +kernel
theorem dX12_next_32 : decode cX12_next 32 = .ok (.putfield 94, 3) := by decide +kernel
theorem dX12_next_35 : decode cX12_next 35 = .ok (.goto (-35), 3) := by decide +kernel
theorem dX12_next_38 : decode cX12_next 38 = .ok (.aload_n 0, 1) := by decide +kernel
theorem dX12_next_39 : decode cX12_next 39 = .ok (.getfield 94, 3) := by decide +kernel
theorem dX12_next_42 : decode cX12_next 42 = .ok (.aload_n 0, 1) := by decide +kernel
theorem dX12_next_43 : decode cX12_next 43 = .ok (.getfield 97, 3) := by decide +kernel
theorem dX12_next_46 : decode cX12_next 46 = .ok (.if_icmp .ge 15, 3) := by decide +kernel
theorem dX12_next_49 : decode cX12_next 49 = .ok (.aload_n 0, 1) := by decide +kernel
theorem dX12_next_50 : decode cX12_next 50 = .ok (.getfield 20, 3) := by decide +kernel
theorem dX12_next_53 : decode cX12_next 53 = .ok (.aload_n 0, 1) := by decide +kernel
theorem dX12_next_54 : decode cX12_next 54 = .ok (.getfield 94, 3) := by decide +kernel
theorem dX12_next_57 : decode cX12_next 57 = .ok (.caload, 1) := by decide +kernel
theorem dX12_next_58 : decode cX12_next 58 = .ok (.goto 4, 3) := by decide +kernel
theorem dX12_next_61 : decode cX12_next 61 = .ok (.iconst 0, 1) := by decide +kernel
theorem dX12_next_62 : decode cX12_next 62 = .ok (.ireturn, 1) := by decide +kernel
theorem dX12_wrong_0 : decode cX12_wrong 0 = .ok (.aload_n 0, 1) := by decide +kernel
theorem dX12_wrong_1 : decode cX12_wrong 1 = .ok (.getfield 100, 3) := by decide +kernel
theorem dX12_wrong_4 : decode cX12_wrong 4 = .ok (.ifCond .ne 21, 3) := by decide +kernel
theorem dX12_wrong_7 : decode cX12_wrong 7 = .ok (.aload_n 0, 1) := by decide +kernel
theorem dX12_wrong_8 : decode cX12_wrong 8 = .ok (.iload_n 1, 1) := by decide +kernel
theorem dX12_wrong_9 : decode cX12_wrong 9 = .ok (.putfield 100, 3) := by decide +kernel
theorem dX12_wrong_12 : decode cX12_wrong 12 = .ok (.aload_n 0, 1) := by decide +kernel
theorem dX12_wrong_13 : decode cX12_wrong 13 = .ok (.iload_n 2, 1) := by decide +kernel
theorem dX12_wrong_14 : decode cX12_wrong 14 = .ok (.bipush 48, 2) := by decide +kernel
theorem dX12_wrong_16 : decode cX12_wrong 16 = .ok (.aload_n 0, 1) := by decide +kernel
theorem dX12_wrong_17 : decode cX12_wrong 17 = .ok (.getfield 103, 3) := by decide +kernel
theorem dX12_wrong_20 : decode cX12_wrong 20 = .ok (.imul, 1) := by decide +kernel
theorem dX12_wrong_21 : decode cX12_wrong 21 = .ok (.isub, 1) := by decide +kernel
theorem dX12_wrong_22 : decode cX12_wrong 22 = .ok (.putfield 106, 3) := by decide +kernel
theorem dX12_wrong_25 : decode cX12_wrong 25 = .ok (.return_, 1) := by decide +kernel
theorem dX12_isSmall_0 : decode cX12_isSmall 0 = .ok (.iload_n 0, 1) := by decide +kernel
theorem dX12_isSmall_1 : decode cX12_isSmall 1 = .ok (.bipush 97, 2) := by decide +kernel
theorem dX12_isSmall_3 : decode cX12_isSmall 3 = .ok (.if_icmp .lt 13, 3) := by decide +kernel
theorem dX12_isSmall_6 : decode cX12_isSmall 6 = .ok (.iload_n 0, 1) := by decide +kernel
theorem dX12_isSmall_7 : decode cX12_isSmall 7 = .ok (.bipush 122, 2) := by decide +kernel
theorem dX12_isSmall_9 : decode cX12_isSmall 9 = .ok (.if_icmp .gt 7, 3) := by decide +kernel
theorem dX12_isSmall_12 : decode cX12_isSmall 12 = .ok (.iconst 1, 1) := by decide +kernel
theorem dX12_isSmall_13 : decode cX12_isSmall 13 = .ok (.goto 4, 3) := by decide +kernel
theorem dX12_isSmall_16 : decode cX12_isSmall 16 = .ok (.iconst 0, 1) := by decide +kernel
theorem dX12_isSmall_17 : decode cX12_isSmall 17 = .ok (.ireturn, 1) := by decide +kernel
theorem dX12_isDigit_0 : decode cX12_isDigit 0 = .ok (.iload_n 0, 1) := by decide +kernel
theorem dX12_isDigit_1 : decode cX12_isDigit 1 = .ok (.bipush 48, 2) := by decide +kernel
theorem dX12_isDigit_3 : decode cX12_isDigit 3 = .ok (.if_icmp .lt 13, 3) := by decide +kernel
theorem dX12_isDigit_6 : decode cX12_isDigit 6 = .ok (.iload_n 0, 1) := by decide +kernel
theorem dX12_isDigit_7 : decode cX12_isDigit 7 = .ok (.bipush 57, 2) := by decide +kernel
theorem dX12_isDigit_9 : decode cX12_isDigit 9 = .ok (.if_icmp .gt 7, 3) := by decide +kernel
theorem dX12_isDigit_12 : decode cX12_isDigit 12 = .ok (.iconst 1, 1) := by decide +kernel
theorem dX12_isDigit_13 : decode cX12_isDigit 13 = .ok (.goto 4, 3) := by decide +kernel
theorem dX12_isDigit_16 : decode cX12_isDigit 16 = .ok (.iconst 0, 1) := by decide +kernel
theorem dX12_isDigit_17 : decode cX12_isDigit 17 = .ok (.ireturn, 1) := by decide +kernel
theorem dX12_isWordSign_0 : decode cX12_isWordSign 0 = .ok (.iload_n 0, 1) := by decide +kernel
theorem dX12_isWordSign_1 : decode cX12_isWordSign 1 = .ok (.invokestatic 109, 3) := by decide +kernel
theorem dX12_isWordSign_4 : decode cX12_isWordSign 4 = .ok (.ifCond .ne 10, 3) := by decide +kernel
theorem dX12_isWordSign_7 : decode cX12_isWordSign 7 = .ok (.iload_n 0, 1) := by decide +kernel
theorem dX12_isWordSign_8 : decode cX12_isWordSign 8 = .ok (.invokestatic 113, 3) := by decide +kernel
theorem dX12_isWordSign_11 : decode cX12_isWordSign 11 = .ok (.ifCond .eq 7, 3) := by decide +kernel
theorem dX12_isWordSign_14 : decode cX12_isWordSign 14 = .ok (.iconst 1, 1) := by decide +kernel
theorem dX12_isWordSign_15 : decode cX12_isWordSign 15 = .ok (.goto 4, 3) := by decide +kernel
theorem dX12_isWordSign_18 : decode cX12_isWordSign 18 = .ok (.iconst 0, 1) := by decide +kernel
theorem dX12_isWordSign_19 : decode cX12_isWordSign 19 = .ok (.ireturn, 1) := by decide +kernel
theorem dX12_takes_0 : decode cX12_takes 0 = .ok (.aload_n 0, 1) := by decide +kernel
theorem dX12_takes_1 : decode cX12_takes 1 = .ok (.getfield 100, 3) := by decide +kernel
theorem dX12_takes_4 : decode cX12_takes 4 = .ok (.ifCond .ne 11, 3) := by decide +kernel
theorem dX12_takes_7 : decode cX12_takes 7 = .ok (.aload_n 0, 1) := by decide +kernel
theorem dX12_takes_8 : decode cX12_takes 8 = .ok (.invokevirtual 116, 3) := by decide +kernel
theorem dX12_takes_11 : decode cX12_takes 11 = .ok (.iload_n 1, 1) := by decide +kernel
theorem dX12_takes_12 : decode cX12_takes 12 = .ok (.if_icmp .eq 5, 3) := by decide +kernel
theorem dX12_takes_15 : decode cX12_takes 15 = .ok (.iconst 0, 1) := by decide +kernel
theorem dX12_takes_16 : decode cX12_takes 16 = .ok (.ireturn, 1) := by decide +kernel
theorem dX12_takes_17 : decode cX12_takes 17 = .ok (.aload_n 0, 1) := by decide +kernel
theorem dX12_takes_18 : decode cX12_takes 18 = .ok (.dup, 1) := by decide +kernel
theorem dX12_takes_19 : decode cX12_takes 19 = .ok (.getfield 94, 3) := by decide +kernel
theorem dX12_takes_22 : decode cX12_takes 22 = .ok (.iconst 1, 1) := by decide +kernel
theorem dX12_takes_23 : decode cX12_takes 23 = .ok (.iadd, 1) := by decide +kernel
theorem dX12_takes_24 : decode cX12_takes 24 = .ok (.putfield 94, 3) := by decide +kernel
theorem dX12_takes_27 : decode cX12_takes 27 = .ok (.iconst 1, 1) := by decide +kernel
theorem dX12_takes_28 : decode cX12_takes 28 = .ok (.ireturn, 1) := by decide +kernel
theorem dX12_want_0 : decode cX12_want 0 = .ok (.aload_n 0, 1) := by decide +kernel
theorem dX12_want_1 : decode cX12_want 1 = .ok (.iload_n 1, 1) := by decide +kernel
theorem dX12_want_2 : decode cX12_want 2 = .ok (.invokevirtual 120, 3) := by decide +kernel
theorem dX12_want_5 : decode cX12_want 5 = .ok (.ifCond .ne 13, 3) := by decide +kernel
theorem dX12_want_8 : decode cX12_want 8 = .ok (.aload_n 0, 1) := by decide +kernel
theorem dX12_want_9 : decode cX12_want 9 = .ok (.bipush (-3), 2) := by decide +kernel
theorem dX12_want_11 : decode cX12_want 11 = .ok (.aload_n 0, 1) := by decide +kernel
theorem dX12_want_12 : decode cX12_want 12 = .ok (.getfield 94, 3) := by decide +kernel
theorem dX12_want_15 : decode cX12_want 15 = .ok (.invokevirtual 123, 3) := by decide +kernel
theorem dX12_want_18 : decode cX12_want 18 = .ok (.return_, 1) := by decide +kernel
theorem dX12_wordEnd_0 : decode cX12_wordEnd 0 = .ok (.aload_n 0, 1) := by decide +kernel
theorem dX12_wordEnd_1 : decode cX12_wordEnd 1 = .ok (.invokevirtual 116, 3) := by decide +kernel
theorem dX12_wordEnd_4 : decode cX12_wordEnd 4 = .ok (.pop, 1) := by decide +kernel
theorem dX12_wordEnd_5 : decode cX12_wordEnd 5 = .ok (.aload_n 0, 1) := by decide +kernel
theorem dX12_wordEnd_6 : decode cX12_wordEnd 6 = .ok (.getfield 94, 3) := by decide +kernel
theorem dX12_wordEnd_9 : decode cX12_wordEnd 9 = .ok (.istore_n 1, 1) := by decide +kernel
theorem dX12_wordEnd_10 : decode cX12_wordEnd 10 = .ok (.iload_n 1, 1) := by decide +kernel
theorem dX12_wordEnd_11 : decode cX12_wordEnd 11 = .ok (.aload_n 0, 1) := by decide +kernel
theorem dX12_wordEnd_12 : decode cX12_wordEnd 12 = .ok (.getfield 97, 3) := by decide +kernel
theorem dX12_wordEnd_15 : decode cX12_wordEnd 15 = .ok (.if_icmp .ge 45, 3) := by decide +kernel
theorem dX12_wordEnd_18 : decode cX12_wordEnd 18 = .ok (.aload_n 0, 1) := by decide +kernel
theorem dX12_wordEnd_19 : decode cX12_wordEnd 19 = .ok (.getfield 20, 3) := by decide +kernel
theorem dX12_wordEnd_22 : decode cX12_wordEnd 22 = .ok (.iload_n 1, 1) := by decide +kernel
theorem dX12_wordEnd_23 : decode cX12_wordEnd 23 = .ok (.caload, 1) := by decide +kernel
theorem dX12_wordEnd_24 : decode cX12_wordEnd 24 = .ok (.bipush 46, 2) := by decide +kernel
theorem dX12_wordEnd_26 : decode cX12_wordEnd 26 = .ok (.if_icmp .ne 34, 3) := by decide +kernel
theorem dX12_wordEnd_29 : decode cX12_wordEnd 29 = .ok (.iinc 1 1, 3) := by decide +kernel
theorem dX12_wordEnd_32 : decode cX12_wordEnd 32 = .ok (.iload_n 1, 1) := by decide +kernel
theorem dX12_wordEnd_33 : decode cX12_wordEnd 33 = .ok (.aload_n 0, 1) := by decide +kernel
theorem dX12_wordEnd_34 : decode cX12_wordEnd 34 = .ok (.getfield 97, 3) := by decide +kernel
theorem dX12_wordEnd_37 : decode cX12_wordEnd 37 = .ok (.if_icmp .ge 21, 3) := by decide +kernel
theorem dX12_wordEnd_40 : decode cX12_wordEnd 40 = .ok (.aload_n 0, 1) := by decide +kernel
theorem dX12_wordEnd_41 : decode cX12_wordEnd 41 = .ok (.getfield 20, 3) := by decide +kernel
theorem dX12_wordEnd_44 : decode cX12_wordEnd 44 = .ok (.iload_n 1, 1) := by decide +kernel
theorem dX12_wordEnd_45 : decode cX12_wordEnd 45 = .ok (.caload, 1) := by decide +kernel
theorem dX12_wordEnd_46 : decode cX12_wordEnd 46 = .ok (.invokestatic 109, 3) := by decide +kernel
theorem dX12_wordEnd_49 : decode cX12_wordEnd 49 = .ok (.ifCond .eq 9, 3) := by decide +kernel
theorem dX12_wordEnd_52 : decode cX12_wordEnd 52 = .ok (.iinc 1 1, 3) := by decide +kernel
theorem dX12_wordEnd_55 : decode cX12_wordEnd 55 = .ok (.goto (-23), 3) := by decide +kernel
theorem dX12_wordEnd_58 : decode cX12_wordEnd 58 = .ok (.iload_n 1, 1) := by decide +kernel
theorem dX12_wordEnd_59 : decode cX12_wordEnd 59 = .ok (.ireturn, 1) := by decide +kernel
theorem dX12_wordEnd_60 : decode cX12_wordEnd 60 = .ok (.iload_n 1, 1) := by decide +kernel
theorem dX12_wordEnd_61 : decode cX12_wordEnd 61 = .ok (.aload_n 0, 1) := by decide +kernel
theorem dX12_wordEnd_62 : decode cX12_wordEnd 62 = .ok (.getfield 97, 3) := by decide +kernel
theorem dX12_wordEnd_65 : decode cX12_wordEnd 65 = .ok (.if_icmp .ge 21, 3) := by decide +kernel
theorem dX12_wordEnd_68 : decode cX12_wordEnd 68 = .ok (.aload_n 0, 1) := by decide +kernel
theorem dX12_wordEnd_69 : decode cX12_wordEnd 69 = .ok (.getfield 20, 3) := by decide +kernel
theorem dX12_wordEnd_72 : decode cX12_wordEnd 72 = .ok (.iload_n 1, 1) := by decide +kernel
theorem dX12_wordEnd_73 : decode cX12_wordEnd 73 = .ok (.caload, 1) := by decide +kernel
theorem dX12_wordEnd_74 : decode cX12_wordEnd 74 = .ok (.invokestatic 126, 3) := by decide +kernel
theorem dX12_wordEnd_77 : decode cX12_wordEnd 77 = .ok (.ifCond .eq 9, 3) := by decide +kernel
theorem dX12_wordEnd_80 : decode cX12_wordEnd 80 = .ok (.iinc 1 1, 3) := by decide +kernel
theorem dX12_wordEnd_83 : decode cX12_wordEnd 83 = .ok (.goto (-23), 3) := by decide +kernel
theorem dX12_wordEnd_86 : decode cX12_wordEnd 86 = .ok (.iload_n 1, 1) := by decide +kernel
theorem dX12_wordEnd_87 : decode cX12_wordEnd 87 = .ok (.ireturn, 1) := by decide +kernel
theorem dX12_isWord_0 : decode cX12_isWord 0 = .ok (.iconst 0, 1) := by decide +kernel
theorem dX12_isWord_1 : decode cX12_isWord 1 = .ok (.istore 5, 2) := by decide +kernel
theorem dX12_isWord_3 : decode cX12_isWord 3 = .ok (.lload_n 3, 1) := by decide +kernel
theorem dX12_isWord_4 : decode cX12_isWord 4 = .ok (.lstore 6, 2) := by decide +kernel
theorem dX12_isWord_6 : decode cX12_isWord 6 = .ok (.lload 6, 2) := by decide +kernel
theorem dX12_isWord_8 : decode cX12_isWord 8 = .ok (.lconst 0, 1) := by decide +kernel
theorem dX12_isWord_9 : decode cX12_isWord 9 = .ok (.lcmp, 1) := by decide +kernel
theorem dX12_isWord_10 : decode cX12_isWord 10 = .ok (.ifCond .eq 16, 3) := by decide +kernel
theorem dX12_isWord_13 : decode cX12_isWord 13 = .ok (.iinc 5 1, 3) := by decide +kernel
theorem dX12_isWord_16 : decode cX12_isWord 16 = .ok (.lload 6, 2) := by decide +kernel
theorem dX12_isWord_18 : decode cX12_isWord 18 = .ok (.bipush 8, 2) := by decide +kernel
theorem dX12_isWord_20 : decode cX12_isWord 20 = .ok (.lshr, 1) := by decide +kernel
theorem dX12_isWord_21 : decode cX12_isWord 21 = .ok (.lstore 6, 2) := by decide +kernel
theorem dX12_isWord_23 : decode cX12_isWord 23 = .ok (.goto (-17), 3) := by decide +kernel
theorem dX12_isWord_26 : decode cX12_isWord 26 = .ok (.iload_n 2, 1) := by decide +kernel
theorem dX12_isWord_27 : decode cX12_isWord 27 = .ok (.iload_n 1, 1) := by decide +kernel
theorem dX12_isWord_28 : decode cX12_isWord 28 = .ok (.isub, 1) := by decide +kernel
theorem dX12_isWord_29 : decode cX12_isWord 29 = .ok (.iload 5, 2) := by decide +kernel
theorem dX12_isWord_31 : decode cX12_isWord 31 = .ok (.if_icmp .ne 7, 3) := by decide +kernel
theorem dX12_isWord_34 : decode cX12_isWord 34 = .ok (.iconst 1, 1) := by decide +kernel
theorem dX12_isWord_35 : decode cX12_isWord 35 = .ok (.goto 4, 3) := by decide +kernel
theorem dX12_isWord_38 : decode cX12_isWord 38 = .ok (.iconst 0, 1) := by decide +kernel
theorem dX12_isWord_39 : decode cX12_isWord 39 = .ok (.istore 6, 2) := by decide +kernel
theorem dX12_isWord_41 : decode cX12_isWord 41 = .ok (.iconst 0, 1) := by decide +kernel
theorem dX12_isWord_42 : decode cX12_isWord 42 = .ok (.istore 7, 2) := by decide +kernel
theorem dX12_isWord_44 : decode cX12_isWord 44 = .ok (.iload 7, 2) := by decide +kernel
theorem dX12_isWord_46 : decode cX12_isWord 46 = .ok (.iload 5, 2) := by decide +kernel
theorem dX12_isWord_48 : decode cX12_isWord 48 = .ok (.if_icmp .ge 51, 3) := by decide +kernel
theorem dX12_isWord_51 : decode cX12_isWord 51 = .ok (.iload 6, 2) := by decide +kernel
theorem dX12_isWord_53 : decode cX12_isWord 53 = .ok (.ifCond .eq 46, 3) := by decide +kernel
theorem dX12_isWord_56 : decode cX12_isWord 56 = .ok (.aload_n 0, 1) := by decide +kernel
theorem dX12_isWord_57 : decode cX12_isWord 57 = .ok (.getfield 20, 3) := by decide +kernel
theorem dX12_isWord_60 : decode cX12_isWord 60 = .ok (.iload_n 1, 1) := by decide +kernel
theorem dX12_isWord_61 : decode cX12_isWord 61 = .ok (.iload 7, 2) := by decide +kernel
theorem dX12_isWord_63 : decode cX12_isWord 63 = .ok (.iadd, 1) := by decide +kernel
theorem dX12_isWord_64 : decode cX12_isWord 64 = .ok (.caload, 1) := by decide +kernel
theorem dX12_isWord_65 : decode cX12_isWord 65 = .ok (.lload_n 3, 1) := by decide +kernel
theorem dX12_isWord_66 : decode cX12_isWord 66 = .ok (.bipush 8, 2) := by decide +kernel
theorem dX12_isWord_68 : decode cX12_isWord 68 = .ok (.iload 5, 2) := by decide +kernel
theorem dX12_isWord_70 : decode cX12_isWord 70 = .ok (.iconst 1, 1) := by decide +kernel
theorem dX12_isWord_71 : decode cX12_isWord 71 = .ok (.isub, 1) := by decide +kernel
theorem dX12_isWord_72 : decode cX12_isWord 72 = .ok (.iload 7, 2) := by decide +kernel
theorem dX12_isWord_74 : decode cX12_isWord 74 = .ok (.isub, 1) := by decide +kernel
theorem dX12_isWord_75 : decode cX12_isWord 75 = .ok (.imul, 1) := by decide +kernel
theorem dX12_isWord_76 : decode cX12_isWord 76 = .ok (.lshr, 1) := by decide +kernel
theorem dX12_isWord_77 : decode cX12_isWord 77 = .ok (.ldc2_w 129, 3) := by decide +kernel
theorem dX12_isWord_80 : decode cX12_isWord 80 = .ok (.land, 1) := by decide +kernel
theorem dX12_isWord_81 : decode cX12_isWord 81 = .ok (.l2i, 1) := by decide +kernel
theorem dX12_isWord_82 : decode cX12_isWord 82 = .ok (.i2c, 1) := by decide +kernel
theorem dX12_isWord_83 : decode cX12_isWord 83 = .ok (.if_icmp .ne 7, 3) := by decide +kernel
theorem dX12_isWord_86 : decode cX12_isWord 86 = .ok (.iconst 1, 1) := by decide +kernel
theorem dX12_isWord_87 : decode cX12_isWord 87 = .ok (.goto 4, 3) := by decide +kernel
theorem dX12_isWord_90 : decode cX12_isWord 90 = .ok (.iconst 0, 1) := by decide +kernel
theorem dX12_isWord_91 : decode cX12_isWord 91 = .ok (.istore 6, 2) := by decide +kernel
theorem dX12_isWord_93 : decode cX12_isWord 93 = .ok (.iinc 7 1, 3) := by decide +kernel
theorem dX12_isWord_96 : decode cX12_isWord 96 = .ok (.goto (-52), 3) := by decide +kernel
theorem dX12_isWord_99 : decode cX12_isWord 99 = .ok (.iload 6, 2) := by decide +kernel
theorem dX12_isWord_101 : decode cX12_isWord 101 = .ok (.ireturn, 1) := by decide +kernel
theorem dX12_isName_0 : decode cX12_isName 0 = .ok (.iload_n 2, 1) := by decide +kernel
theorem dX12_isName_1 : decode cX12_isName 1 = .ok (.iload_n 1, 1) := by decide +kernel
theorem dX12_isName_2 : decode cX12_isName 2 = .ok (.isub, 1) := by decide +kernel
theorem dX12_isName_3 : decode cX12_isName 3 = .ok (.iconst 1, 1) := by decide +kernel
theorem dX12_isName_4 : decode cX12_isName 4 = .ok (.if_icmp .lt 27, 3) := by decide +kernel
theorem dX12_isName_7 : decode cX12_isName 7 = .ok (.iload_n 2, 1) := by decide +kernel
theorem dX12_isName_8 : decode cX12_isName 8 = .ok (.iload_n 1, 1) := by decide +kernel
theorem dX12_isName_9 : decode cX12_isName 9 = .ok (.isub, 1) := by decide +kernel
theorem dX12_isName_10 : decode cX12_isName 10 = .ok (.bipush 6, 2) := by decide +kernel
theorem dX12_isName_12 : decode cX12_isName 12 = .ok (.if_icmp .gt 19, 3) := by decide +kernel
theorem dX12_isName_15 : decode cX12_isName 15 = .ok (.aload_n 0, 1) := by decide +kernel
theorem dX12_isName_16 : decode cX12_isName 16 = .ok (.getfield 20, 3) := by decide +kernel
theorem dX12_isName_19 : decode cX12_isName 19 = .ok (.iload_n 1, 1) := by decide +kernel
theorem dX12_isName_20 : decode cX12_isName 20 = .ok (.caload, 1) := by decide +kernel
theorem dX12_isName_21 : decode cX12_isName 21 = .ok (.invokestatic 109, 3) := by decide +kernel
theorem dX12_isName_24 : decode cX12_isName 24 = .ok (.ifCond .eq 7, 3) := by decide +kernel
theorem dX12_isName_27 : decode cX12_isName 27 = .ok (.iconst 1, 1) := by decide +kernel
theorem dX12_isName_28 : decode cX12_isName 28 = .ok (.goto 4, 3) := by decide +kernel
theorem dX12_isName_31 : decode cX12_isName 31 = .ok (.iconst 0, 1) := by decide +kernel
theorem dX12_isName_32 : decode cX12_isName 32 = .ok (.istore_n 3, 1) := by decide +kernel
theorem dX12_isName_33 : decode cX12_isName 33 = .ok (.iload_n 1, 1) := by decide +kernel
theorem dX12_isName_34 : decode cX12_isName 34 = .ok (.istore 4, 2) := by decide +kernel
theorem dX12_isName_36 : decode cX12_isName 36 = .ok (.iload 4, 2) := by decide +kernel
theorem dX12_isName_38 : decode cX12_isName 38 = .ok (.iload_n 2, 1) := by decide +kernel
theorem dX12_isName_39 : decode cX12_isName 39 = .ok (.if_icmp .ge 45, 3) := by decide +kernel
theorem dX12_isName_42 : decode cX12_isName 42 = .ok (.iload_n 3, 1) := by decide +kernel
theorem dX12_isName_43 : decode cX12_isName 43 = .ok (.ifCond .eq 41, 3) := by decide +kernel
theorem dX12_isName_46 : decode cX12_isName 46 = .ok (.aload_n 0, 1) := by decide +kernel
theorem dX12_isName_47 : decode cX12_isName 47 = .ok (.getfield 20, 3) := by decide +kernel
theorem dX12_isName_50 : decode cX12_isName 50 = .ok (.iload 4, 2) := by decide +kernel
theorem dX12_isName_52 : decode cX12_isName 52 = .ok (.caload, 1) := by decide +kernel
theorem dX12_isName_53 : decode cX12_isName 53 = .ok (.invokestatic 109, 3) := by decide +kernel
theorem dX12_isName_56 : decode cX12_isName 56 = .ok (.ifCond .ne 16, 3) := by decide +kernel
theorem dX12_isName_59 : decode cX12_isName 59 = .ok (.aload_n 0, 1) := by decide +kernel
theorem dX12_isName_60 : decode cX12_isName 60 = .ok (.getfield 20, 3) := by decide +kernel
theorem dX12_isName_63 : decode cX12_isName 63 = .ok (.iload 4, 2) := by decide +kernel
theorem dX12_isName_65 : decode cX12_isName 65 = .ok (.caload, 1) := by decide +kernel
theorem dX12_isName_66 : decode cX12_isName 66 = .ok (.invokestatic 113, 3) := by decide +kernel
theorem dX12_isName_69 : decode cX12_isName 69 = .ok (.ifCond .eq 7, 3) := by decide +kernel
theorem dX12_isName_72 : decode cX12_isName 72 = .ok (.iconst 1, 1) := by decide +kernel
theorem dX12_isName_73 : decode cX12_isName 73 = .ok (.goto 4, 3) := by decide +kernel
theorem dX12_isName_76 : decode cX12_isName 76 = .ok (.iconst 0, 1) := by decide +kernel
theorem dX12_isName_77 : decode cX12_isName 77 = .ok (.istore_n 3, 1) := by decide +kernel
theorem dX12_isName_78 : decode cX12_isName 78 = .ok (.iinc 4 1, 3) := by decide +kernel
theorem dX12_isName_81 : decode cX12_isName 81 = .ok (.goto (-45), 3) := by decide +kernel
theorem dX12_isName_84 : decode cX12_isName 84 = .ok (.iload_n 3, 1) := by decide +kernel
theorem dX12_isName_85 : decode cX12_isName 85 = .ok (.ireturn, 1) := by decide +kernel
theorem dX12_register_0 : decode cX12_register 0 = .ok (.aload_n 0, 1) := by decide +kernel
theorem dX12_register_1 : decode cX12_register 1 = .ok (.invokevirtual 131, 3) := by decide +kernel
theorem dX12_register_4 : decode cX12_register 4 = .ok (.istore_n 1, 1) := by decide +kernel
theorem dX12_register_5 : decode cX12_register 5 = .ok (.iload_n 1, 1) := by decide +kernel
theorem dX12_register_6 : decode cX12_register 6 = .ok (.aload_n 0, 1) := by decide +kernel
theorem dX12_register_7 : decode cX12_register 7 = .ok (.getfield 94, 3) := by decide +kernel
theorem dX12_register_10 : decode cX12_register 10 = .ok (.isub, 1) := by decide +kernel
theorem dX12_register_11 : decode cX12_register 11 = .ok (.iconst 2, 1) := by decide +kernel
theorem dX12_register_12 : decode cX12_register 12 = .ok (.if_icmp .ne 53, 3) := by decide +kernel
theorem dX12_register_15 : decode cX12_register 15 = .ok (.aload_n 0, 1) := by decide +kernel
theorem dX12_register_16 : decode cX12_register 16 = .ok (.getfield 20, 3) := by decide +kernel
theorem dX12_register_19 : decode cX12_register 19 = .ok (.aload_n 0, 1) := by decide +kernel
theorem dX12_register_20 : decode cX12_register 20 = .ok (.getfield 94, 3) := by decide +kernel
theorem dX12_register_23 : decode cX12_register 23 = .ok (.caload, 1) := by decide +kernel
theorem dX12_register_24 : decode cX12_register 24 = .ok (.bipush 114, 2) := by decide +kernel
theorem dX12_register_26 : decode cX12_register 26 = .ok (.if_icmp .ne 39, 3) := by decide +kernel
theorem dX12_register_29 : decode cX12_register 29 = .ok (.aload_n 0, 1) := by decide +kernel
theorem dX12_register_30 : decode cX12_register 30 = .ok (.getfield 20, 3) := by decide +kernel
theorem dX12_register_33 : decode cX12_register 33 = .ok (.aload_n 0, 1) := by decide +kernel
theorem dX12_register_34 : decode cX12_register 34 = .ok (.getfield 94, 3) := by decide +kernel
theorem dX12_register_37 : decode cX12_register 37 = .ok (.iconst 1, 1) := by decide +kernel
theorem dX12_register_38 : decode cX12_register 38 = .ok (.iadd, 1) := by decide +kernel
theorem dX12_register_39 : decode cX12_register 39 = .ok (.caload, 1) := by decide +kernel
theorem dX12_register_40 : decode cX12_register 40 = .ok (.bipush 48, 2) := by decide +kernel
theorem dX12_register_42 : decode cX12_register 42 = .ok (.if_icmp .lt 23, 3) := by decide +kernel
theorem dX12_register_45 : decode cX12_register 45 = .ok (.aload_n 0, 1) := by decide +kernel
theorem dX12_register_46 : decode cX12_register 46 = .ok (.getfield 20, 3) := by decide +kernel
theorem dX12_register_49 : decode cX12_register 49 = .ok (.aload_n 0, 1) := by decide +kernel
theorem dX12_register_50 : decode cX12_register 50 = .ok (.getfield 94, 3) := by decide +kernel
theorem dX12_register_53 : decode cX12_register 53 = .ok (.iconst 1, 1) := by decide +kernel
theorem dX12_register_54 : decode cX12_register 54 = .ok (.iadd, 1) := by decide +kernel
theorem dX12_register_55 : decode cX12_register 55 = .ok (.caload, 1) := by decide +kernel
theorem dX12_register_56 : decode cX12_register 56 = .ok (.bipush 55, 2) := by decide +kernel
theorem dX12_register_58 : decode cX12_register 58 = .ok (.if_icmp .gt 7, 3) := by decide +kernel
theorem dX12_register_61 : decode cX12_register 61 = .ok (.iconst 1, 1) := by decide +kernel
theorem dX12_register_62 : decode cX12_register 62 = .ok (.goto 4, 3) := by decide +kernel
theorem dX12_register_65 : decode cX12_register 65 = .ok (.iconst 0, 1) := by decide +kernel
theorem dX12_register_66 : decode cX12_register 66 = .ok (.istore_n 2, 1) := by decide +kernel
theorem dX12_register_67 : decode cX12_register 67 = .ok (.aload_n 0, 1) := by decide +kernel
theorem dX12_register_68 : decode cX12_register 68 = .ok (.getfield 100, 3) := by decide +kernel
theorem dX12_register_71 : decode cX12_register 71 = .ok (.ifCond .ne 7, 3) := by decide +kernel
theorem dX12_register_74 : decode cX12_register 74 = .ok (.iload_n 2, 1) := by decide +kernel
theorem dX12_register_75 : decode cX12_register 75 = .ok (.ifCond .ne 15, 3) := by decide +kernel
theorem dX12_register_78 : decode cX12_register 78 = .ok (.aload_n 0, 1) := by decide +kernel
theorem dX12_register_79 : decode cX12_register 79 = .ok (.bipush (-3), 2) := by decide +kernel
theorem dX12_register_81 : decode cX12_register 81 = .ok (.aload_n 0, 1) := by decide +kernel
theorem dX12_register_82 : decode cX12_register 82 = .ok (.getfield 94, 3) := by decide +kernel
theorem dX12_register_85 : decode cX12_register 85 = .ok (.invokevirtual 123, 3) := by decide +kernel
theorem dX12_register_88 : decode cX12_register 88 = .ok (.iconst 0, 1) := by decide +kernel
theorem dX12_register_89 : decode cX12_register 89 = .ok (.ireturn, 1) := by decide +kernel
theorem dX12_register_90 : decode cX12_register 90 = .ok (.aload_n 0, 1) := by decide +kernel
theorem dX12_register_91 : decode cX12_register 91 = .ok (.getfield 20, 3) := by decide +kernel
theorem dX12_register_94 : decode cX12_register 94 = .ok (.aload_n 0, 1) := by decide +kernel
theorem dX12_register_95 : decode cX12_register 95 = .ok (.getfield 94, 3) := by decide +kernel
theorem dX12_register_98 : decode cX12_register 98 = .ok (.iconst 1, 1) := by decide +kernel
theorem dX12_register_99 : decode cX12_register 99 = .ok (.iadd, 1) := by decide +kernel
theorem dX12_register_100 : decode cX12_register 100 = .ok (.caload, 1) := by decide +kernel
theorem dX12_register_101 : decode cX12_register 101 = .ok (.bipush 48, 2) := by decide +kernel
theorem dX12_register_103 : decode cX12_register 103 = .ok (.isub, 1) := by decide +kernel
theorem dX12_register_104 : decode cX12_register 104 = .ok (.istore_n 3, 1) := by decide +kernel
theorem dX12_register_105 : decode cX12_register 105 = .ok (.aload_n 0, 1) := by decide +kernel
theorem dX12_register_106 : decode cX12_register 106 = .ok (.iload_n 1, 1) := by decide +kernel
theorem dX12_register_107 : decode cX12_register 107 = .ok (.putfield 94, 3) := by decide +kernel
theorem dX12_register_110 : decode cX12_register 110 = .ok (.iload_n 3, 1) := by decide +kernel
theorem dX12_register_111 : decode cX12_register 111 = .ok (.ireturn, 1) := by decide +kernel
theorem dX12_digits_0 : decode cX12_digits 0 = .ok (.aload_n 0, 1) := by decide +kernel
theorem dX12_digits_1 : decode cX12_digits 1 = .ok (.invokevirtual 131, 3) := by decide +kernel
theorem dX12_digits_4 : decode cX12_digits 4 = .ok (.istore_n 1, 1) := by decide +kernel
theorem dX12_digits_5 : decode cX12_digits 5 = .ok (.iload_n 1, 1) := by decide +kernel
theorem dX12_digits_6 : decode cX12_digits 6 = .ok (.aload_n 0, 1) := by decide +kernel
theorem dX12_digits_7 : decode cX12_digits 7 = .ok (.getfield 94, 3) := by decide +kernel
theorem dX12_digits_10 : decode cX12_digits 10 = .ok (.if_icmp .le 17, 3) := by decide +kernel
theorem dX12_digits_13 : decode cX12_digits 13 = .ok (.iload_n 1, 1) := by decide +kernel
theorem dX12_digits_14 : decode cX12_digits 14 = .ok (.aload_n 0, 1) := by decide +kernel
theorem dX12_digits_15 : decode cX12_digits 15 = .ok (.getfield 94, 3) := by decide +kernel
theorem dX12_digits_18 : decode cX12_digits 18 = .ok (.isub, 1) := by decide +kernel
theorem dX12_digits_19 : decode cX12_digits 19 = .ok (.iconst 4, 1) := by decide +kernel
theorem dX12_digits_20 : decode cX12_digits 20 = .ok (.if_icmp .gt 7, 3) := by decide +kernel
theorem dX12_digits_23 : decode cX12_digits 23 = .ok (.iconst 1, 1) := by decide +kernel
theorem dX12_digits_24 : decode cX12_digits 24 = .ok (.goto 4, 3) := by decide +kernel
theorem dX12_digits_27 : decode cX12_digits 27 = .ok (.iconst 0, 1) := by decide +kernel
theorem dX12_digits_28 : decode cX12_digits 28 = .ok (.istore_n 2, 1) := by decide +kernel
theorem dX12_digits_29 : decode cX12_digits 29 = .ok (.iconst 0, 1) := by decide +kernel
theorem dX12_digits_30 : decode cX12_digits 30 = .ok (.istore_n 3, 1) := by decide +kernel
theorem dX12_digits_31 : decode cX12_digits 31 = .ok (.aload_n 0, 1) := by decide +kernel
theorem dX12_digits_32 : decode cX12_digits 32 = .ok (.getfield 94, 3) := by decide +kernel
theorem dX12_digits_35 : decode cX12_digits 35 = .ok (.istore 4, 2) := by decide +kernel
theorem dX12_digits_37 : decode cX12_digits 37 = .ok (.iload 4, 2) := by decide +kernel
theorem dX12_digits_39 : decode cX12_digits 39 = .ok (.iload_n 1, 1) := by decide +kernel
theorem dX12_digits_40 : decode cX12_digits 40 = .ok (.if_icmp .ge 40, 3) := by decide +kernel
theorem dX12_digits_43 : decode cX12_digits 43 = .ok (.iload_n 2, 1) := by decide +kernel
theorem dX12_digits_44 : decode cX12_digits 44 = .ok (.ifCond .eq 36, 3) := by decide +kernel
theorem dX12_digits_47 : decode cX12_digits 47 = .ok (.aload_n 0, 1) := by decide +kernel
theorem dX12_digits_48 : decode cX12_digits 48 = .ok (.getfield 20, 3) := by decide +kernel
theorem dX12_digits_51 : decode cX12_digits 51 = .ok (.iload 4, 2) := by decide +kernel
theorem dX12_digits_53 : decode cX12_digits 53 = .ok (.caload, 1) := by decide +kernel
theorem dX12_digits_54 : decode cX12_digits 54 = .ok (.invokestatic 113, 3) := by decide +kernel
theorem dX12_digits_57 : decode cX12_digits 57 = .ok (.istore_n 2, 1) := by decide +kernel
theorem dX12_digits_58 : decode cX12_digits 58 = .ok (.bipush 10, 2) := by decide +kernel
theorem dX12_digits_60 : decode cX12_digits 60 = .ok (.iload_n 3, 1) := by decide +kernel
theorem dX12_digits_61 : decode cX12_digits 61 = .ok (.imul, 1) := by decide +kernel
theorem dX12_digits_62 : decode cX12_digits 62 = .ok (.aload_n 0, 1) := by decide +kernel
theorem dX12_digits_63 : decode cX12_digits 63 = .ok (.getfield 20, 3) := by decide +kernel
theorem dX12_digits_66 : decode cX12_digits 66 = .ok (.iload 4, 2) := by decide +kernel
theorem dX12_digits_68 : decode cX12_digits 68 = .ok (.caload, 1) := by decide +kernel
theorem dX12_digits_69 : decode cX12_digits 69 = .ok (.iadd, 1) := by decide +kernel
theorem dX12_digits_70 : decode cX12_digits 70 = .ok (.bipush 48, 2) := by decide +kernel
theorem dX12_digits_72 : decode cX12_digits 72 = .ok (.isub, 1) := by decide +kernel
theorem dX12_digits_73 : decode cX12_digits 73 = .ok (.istore_n 3, 1) := by decide +kernel
theorem dX12_digits_74 : decode cX12_digits 74 = .ok (.iinc 4 1, 3) := by decide +kernel
theorem dX12_digits_77 : decode cX12_digits 77 = .ok (.goto (-40), 3) := by decide +kernel
theorem dX12_digits_80 : decode cX12_digits 80 = .ok (.aload_n 0, 1) := by decide +kernel
theorem dX12_digits_81 : decode cX12_digits 81 = .ok (.getfield 100, 3) := by decide +kernel
theorem dX12_digits_84 : decode cX12_digits 84 = .ok (.ifCond .ne 7, 3) := by decide +kernel
theorem dX12_digits_87 : decode cX12_digits 87 = .ok (.iload_n 2, 1) := by decide +kernel
theorem dX12_digits_88 : decode cX12_digits 88 = .ok (.ifCond .ne 15, 3) := by decide +kernel
theorem dX12_digits_91 : decode cX12_digits 91 = .ok (.aload_n 0, 1) := by decide +kernel
theorem dX12_digits_92 : decode cX12_digits 92 = .ok (.bipush (-3), 2) := by decide +kernel
theorem dX12_digits_94 : decode cX12_digits 94 = .ok (.aload_n 0, 1) := by decide +kernel
theorem dX12_digits_95 : decode cX12_digits 95 = .ok (.getfield 94, 3) := by decide +kernel
theorem dX12_digits_98 : decode cX12_digits 98 = .ok (.invokevirtual 123, 3) := by decide +kernel
theorem dX12_digits_101 : decode cX12_digits 101 = .ok (.iconst 0, 1) := by decide +kernel
theorem dX12_digits_102 : decode cX12_digits 102 = .ok (.ireturn, 1) := by decide +kernel
theorem dX12_digits_103 : decode cX12_digits 103 = .ok (.aload_n 0, 1) := by decide +kernel
theorem dX12_digits_104 : decode cX12_digits 104 = .ok (.iload_n 1, 1) := by decide +kernel
theorem dX12_digits_105 : decode cX12_digits 105 = .ok (.putfield 94, 3) := by decide +kernel
theorem dX12_digits_108 : decode cX12_digits 108 = .ok (.iload_n 3, 1) := by decide +kernel
theorem dX12_digits_109 : decode cX12_digits 109 = .ok (.ireturn, 1) := by decide +kernel
theorem dX12_readNumber_0 : decode cX12_readNumber 0 = .ok (.aload_n 0, 1) := by decide +kernel
theorem dX12_readNumber_1 : decode cX12_readNumber 1 = .ok (.getfield 100, 3) := by decide +kernel
theorem dX12_readNumber_4 : decode cX12_readNumber 4 = .ok (.ifCond .eq 5, 3) := by decide +kernel
theorem dX12_readNumber_7 : decode cX12_readNumber 7 = .ok (.iconst 0, 1) := by decide +kernel
theorem dX12_readNumber_8 : decode cX12_readNumber 8 = .ok (.ireturn, 1) := by decide +kernel
theorem dX12_readNumber_9 : decode cX12_readNumber 9 = .ok (.aload_n 0, 1) := by decide +kernel
theorem dX12_readNumber_10 : decode cX12_readNumber 10 = .ok (.invokevirtual 116, 3) := by decide +kernel
theorem dX12_readNumber_13 : decode cX12_readNumber 13 = .ok (.istore 4, 2) := by decide +kernel
theorem dX12_readNumber_15 : decode cX12_readNumber 15 = .ok (.aload_n 0, 1) := by decide +kernel
theorem dX12_readNumber_16 : decode cX12_readNumber 16 = .ok (.getfield 94, 3) := by decide +kernel
theorem dX12_readNumber_19 : decode cX12_readNumber 19 = .ok (.istore 5, 2) := by decide +kernel
theorem dX12_readNumber_21 : decode cX12_readNumber 21 = .ok (.iload 4, 2) := by decide +kernel
theorem dX12_readNumber_23 : decode cX12_readNumber 23 = .ok (.bipush 45, 2) := by decide +kernel
theorem dX12_readNumber_25 : decode cX12_readNumber 25 = .ok (.if_icmp .ne 13, 3) := by decide +kernel
theorem dX12_readNumber_28 : decode cX12_readNumber 28 = .ok (.aload_n 0, 1) := by decide +kernel
theorem dX12_readNumber_29 : decode cX12_readNumber 29 = .ok (.dup, 1) := by decide +kernel
theorem dX12_readNumber_30 : decode cX12_readNumber 30 = .ok (.getfield 94, 3) := by decide +kernel
theorem dX12_readNumber_33 : decode cX12_readNumber 33 = .ok (.iconst 1, 1) := by decide +kernel
theorem dX12_readNumber_34 : decode cX12_readNumber 34 = .ok (.iadd, 1) := by decide +kernel
theorem dX12_readNumber_35 : decode cX12_readNumber 35 = .ok (.putfield 94, 3) := by decide +kernel
theorem dX12_readNumber_38 : decode cX12_readNumber 38 = .ok (.aload_n 0, 1) := by decide +kernel
theorem dX12_readNumber_39 : decode cX12_readNumber 39 = .ok (.invokevirtual 135, 3) := by decide +kernel
theorem dX12_readNumber_42 : decode cX12_readNumber 42 = .ok (.istore 6, 2) := by decide +kernel
theorem dX12_readNumber_44 : decode cX12_readNumber 44 = .ok (.iload 4, 2) := by decide +kernel
theorem dX12_readNumber_46 : decode cX12_readNumber 46 = .ok (.bipush 45, 2) := by decide +kernel
theorem dX12_readNumber_48 : decode cX12_readNumber 48 = .ok (.if_icmp .ne 9, 3) := by decide +kernel
theorem dX12_readNumber_51 : decode cX12_readNumber 51 = .ok (.iload 6, 2) := by decide +kernel
theorem dX12_readNumber_53 : decode cX12_readNumber 53 = .ok (.ineg, 1) := by decide +kernel
theorem dX12_readNumber_54 : decode cX12_readNumber 54 = .ok (.goto 5, 3) := by decide +kernel
theorem dX12_readNumber_57 : decode cX12_readNumber 57 = .ok (.iload 6, 2) := by decide +kernel
theorem dX12_readNumber_59 : decode cX12_readNumber 59 = .ok (.istore 6, 2) := by decide +kernel
theorem dX12_readNumber_61 : decode cX12_readNumber 61 = .ok (.aload_n 0, 1) := by decide +kernel
theorem dX12_readNumber_62 : decode cX12_readNumber 62 = .ok (.getfield 100, 3) := by decide +kernel
theorem dX12_readNumber_65 : decode cX12_readNumber 65 = .ok (.ifCond .ne 30, 3) := by decide +kernel
theorem dX12_readNumber_68 : decode cX12_readNumber 68 = .ok (.iload 6, 2) := by decide +kernel
theorem dX12_readNumber_70 : decode cX12_readNumber 70 = .ok (.iload_n 1, 1) := by decide +kernel
theorem dX12_readNumber_71 : decode cX12_readNumber 71 = .ok (.if_icmp .lt 16, 3) := by decide +kernel
theorem dX12_readNumber_74 : decode cX12_readNumber 74 = .ok (.iload 6, 2) := by decide +kernel
theorem dX12_readNumber_76 : decode cX12_readNumber 76 = .ok (.iload_n 2, 1) := by decide +kernel
theorem dX12_readNumber_77 : decode cX12_readNumber 77 = .ok (.if_icmp .gt 10, 3) := by decide +kernel
theorem dX12_readNumber_80 : decode cX12_readNumber 80 = .ok (.iload 6, 2) := by decide +kernel
theorem dX12_readNumber_82 : decode cX12_readNumber 82 = .ok (.iload_n 3, 1) := by decide +kernel
theorem dX12_readNumber_83 : decode cX12_readNumber 83 = .ok (.irem, 1) := by decide +kernel
theorem dX12_readNumber_84 : decode cX12_readNumber 84 = .ok (.ifCond .eq 11, 3) := by decide +kernel
theorem dX12_readNumber_87 : decode cX12_readNumber 87 = .ok (.aload_n 0, 1) := by decide +kernel
theorem dX12_readNumber_88 : decode cX12_readNumber 88 = .ok (.bipush (-4), 2) := by decide +kernel
theorem dX12_readNumber_90 : decode cX12_readNumber 90 = .ok (.iload 5, 2) := by decide +kernel
theorem dX12_readNumber_92 : decode cX12_readNumber 92 = .ok (.invokevirtual 123, 3) := by decide +kernel
theorem dX12_readNumber_95 : decode cX12_readNumber 95 = .ok (.iload 6, 2) := by decide +kernel
theorem dX12_readNumber_97 : decode cX12_readNumber 97 = .ok (.ireturn, 1) := by decide +kernel
theorem dX12_readName_0 : decode cX12_readName 0 = .ok (.aload_n 0, 1) := by decide +kernel
theorem dX12_readName_1 : decode cX12_readName 1 = .ok (.invokevirtual 131, 3) := by decide +kernel
theorem dX12_readName_4 : decode cX12_readName 4 = .ok (.istore_n 1, 1) := by decide +kernel
theorem dX12_readName_5 : decode cX12_readName 5 = .ok (.aload_n 0, 1) := by decide +kernel
theorem dX12_readName_6 : decode cX12_readName 6 = .ok (.getfield 100, 3) := by decide +kernel
theorem dX12_readName_9 : decode cX12_readName 9 = .ok (.ifCond .ne 15, 3) := by decide +kernel
theorem dX12_readName_12 : decode cX12_readName 12 = .ok (.aload_n 0, 1) := by decide +kernel
theorem dX12_readName_13 : decode cX12_readName 13 = .ok (.aload_n 0, 1) := by decide +kernel
theorem dX12_readName_14 : decode cX12_readName 14 = .ok (.getfield 94, 3) := by decide +kernel
theorem dX12_readName_17 : decode cX12_readName 17 = .ok (.iload_n 1, 1) := by decide +kernel
theorem dX12_readName_18 : decode cX12_readName 18 = .ok (.invokevirtual 138, 3) := by decide +kernel
theorem dX12_readName_21 : decode cX12_readName 21 = .ok (.ifCond .ne 14, 3) := by decide +kernel
theorem dX12_readName_24 : decode cX12_readName 24 = .ok (.aload_n 0, 1) := by decide +kernel
theorem dX12_readName_25 : decode cX12_readName 25 = .ok (.bipush (-3), 2) := by decide +kernel
theorem dX12_readName_27 : decode cX12_readName 27 = .ok (.aload_n 0, 1) := by decide +kernel
theorem dX12_readName_28 : decode cX12_readName 28 = .ok (.getfield 94, 3) := by decide +kernel
theorem dX12_readName_31 : decode cX12_readName 31 = .ok (.invokevirtual 123, 3) := by decide +kernel
theorem dX12_readName_34 : decode cX12_readName 34 = .ok (.return_, 1) := by decide +kernel
theorem dX12_readName_35 : decode cX12_readName 35 = .ok (.aload_n 0, 1) := by decide +kernel
theorem dX12_readName_36 : decode cX12_readName 36 = .ok (.aload_n 0, 1) := by decide +kernel
theorem dX12_readName_37 : decode cX12_readName 37 = .ok (.getfield 94, 3) := by decide +kernel
theorem dX12_readName_40 : decode cX12_readName 40 = .ok (.putfield 142, 3) := by decide +kernel
theorem dX12_readName_43 : decode cX12_readName 43 = .ok (.aload_n 0, 1) := by decide +kernel
theorem dX12_readName_44 : decode cX12_readName 44 = .ok (.iload_n 1, 1) := by decide +kernel
theorem dX12_readName_45 : decode cX12_readName 45 = .ok (.putfield 145, 3) := by decide +kernel
theorem dX12_readName_48 : decode cX12_readName 48 = .ok (.aload_n 0, 1) := by decide +kernel
theorem dX12_readName_49 : decode cX12_readName 49 = .ok (.iload_n 1, 1) := by decide +kernel
theorem dX12_readName_50 : decode cX12_readName 50 = .ok (.putfield 94, 3) := by decide +kernel
theorem dX12_readName_53 : decode cX12_readName 53 = .ok (.return_, 1) := by decide +kernel
theorem dX12_immediate_0 : decode cX12_immediate 0 = .ok (.aload_n 0, 1) := by decide +kernel
theorem dX12_immediate_1 : decode cX12_immediate 1 = .ok (.bipush 35, 2) := by decide +kernel
theorem dX12_immediate_3 : decode cX12_immediate 3 = .ok (.invokevirtual 148, 3) := by decide +kernel
theorem dX12_immediate_6 : decode cX12_immediate 6 = .ok (.aload_n 0, 1) := by decide +kernel
theorem dX12_immediate_7 : decode cX12_immediate 7 = .ok (.iload_n 1, 1) := by decide +kernel
theorem dX12_immediate_8 : decode cX12_immediate 8 = .ok (.iload_n 2, 1) := by decide +kernel
theorem dX12_immediate_9 : decode cX12_immediate 9 = .ok (.iload_n 3, 1) := by decide +kernel
theorem dX12_immediate_10 : decode cX12_immediate 10 = .ok (.invokevirtual 152, 3) := by decide +kernel
theorem dX12_immediate_13 : decode cX12_immediate 13 = .ok (.ireturn, 1) := by decide +kernel
theorem dX12_plain_0 : decode cX12_plain 0 = .ok (.aload_n 0, 1) := by decide +kernel
theorem dX12_plain_1 : decode cX12_plain 1 = .ok (.bipush 10, 2) := by decide +kernel
theorem dX12_plain_3 : decode cX12_plain 3 = .ok (.putfield 156, 3) := by decide +kernel
theorem dX12_plain_6 : decode cX12_plain 6 = .ok (.aload_n 0, 1) := by decide +kernel
theorem dX12_plain_7 : decode cX12_plain 7 = .ok (.iload_n 1, 1) := by decide +kernel
theorem dX12_plain_8 : decode cX12_plain 8 = .ok (.putfield 159, 3) := by decide +kernel
theorem dX12_plain_11 : decode cX12_plain 11 = .ok (.return_, 1) := by decide +kernel
theorem dX12_two_0 : decode cX12_two 0 = .ok (.aload_n 0, 1) := by decide +kernel
theorem dX12_two_1 : decode cX12_two 1 = .ok (.invokevirtual 162, 3) := by decide +kernel
theorem dX12_two_4 : decode cX12_two 4 = .ok (.istore_n 2, 1) := by decide +kernel
theorem dX12_two_5 : decode cX12_two 5 = .ok (.aload_n 0, 1) := by decide +kernel
theorem dX12_two_6 : decode cX12_two 6 = .ok (.bipush 44, 2) := by decide +kernel
theorem dX12_two_8 : decode cX12_two 8 = .ok (.invokevirtual 148, 3) := by decide +kernel
theorem dX12_two_11 : decode cX12_two 11 = .ok (.aload_n 0, 1) := by decide +kernel
theorem dX12_two_12 : decode cX12_two 12 = .ok (.sipush 16384, 3) := by decide +kernel
theorem dX12_two_15 : decode cX12_two 15 = .ok (.bipush 64, 2) := by decide +kernel
theorem dX12_two_17 : decode cX12_two 17 = .ok (.iload_n 1, 1) := by decide +kernel
theorem dX12_two_18 : decode cX12_two 18 = .ok (.imul, 1) := by decide +kernel
theorem dX12_two_19 : decode cX12_two 19 = .ok (.iadd, 1) := by decide +kernel
theorem dX12_two_20 : decode cX12_two 20 = .ok (.bipush 8, 2) := by decide +kernel
theorem dX12_two_22 : decode cX12_two 22 = .ok (.aload_n 0, 1) := by decide +kernel
theorem dX12_two_23 : decode cX12_two 23 = .ok (.invokevirtual 162, 3) := by decide +kernel
theorem dX12_two_26 : decode cX12_two 26 = .ok (.imul, 1) := by decide +kernel
theorem dX12_two_27 : decode cX12_two 27 = .ok (.iadd, 1) := by decide +kernel
theorem dX12_two_28 : decode cX12_two 28 = .ok (.iload_n 2, 1) := by decide +kernel
theorem dX12_two_29 : decode cX12_two 29 = .ok (.iadd, 1) := by decide +kernel
theorem dX12_two_30 : decode cX12_two 30 = .ok (.invokevirtual 165, 3) := by decide +kernel
theorem dX12_two_33 : decode cX12_two 33 = .ok (.return_, 1) := by decide +kernel
theorem dX12_oneOrNumber_0 : decode cX12_oneOrNumber 0 = .ok (.aload_n 0, 1) := by decide +kernel
theorem dX12_oneOrNumber_1 : decode cX12_oneOrNumber 1 = .ok (.invokevirtual 162, 3) := by decide +kernel
theorem dX12_oneOrNumber_4 : decode cX12_oneOrNumber 4 = .ok (.istore_n 3, 1) := by decide +kernel
theorem dX12_oneOrNumber_5 : decode cX12_oneOrNumber 5 = .ok (.aload_n 0, 1) := by decide +kernel
theorem dX12_oneOrNumber_6 : decode cX12_oneOrNumber 6 = .ok (.bipush 44, 2) := by decide +kernel
theorem dX12_oneOrNumber_8 : decode cX12_oneOrNumber 8 = .ok (.invokevirtual 148, 3) := by decide +kernel
theorem dX12_oneOrNumber_11 : decode cX12_oneOrNumber 11 = .ok (.aload_n 0, 1) := by decide +kernel
theorem dX12_oneOrNumber_12 : decode cX12_oneOrNumber 12 = .ok (.invokevirtual 116, 3) := by decide +kernel
theorem dX12_oneOrNumber_15 : decode cX12_oneOrNumber 15 = .ok (.bipush 35, 2) := by decide +kernel
theorem dX12_oneOrNumber_17 : decode cX12_oneOrNumber 17 = .ok (.if_icmp .ne 27, 3) := by decide +kernel
theorem dX12_oneOrNumber_20 : decode cX12_oneOrNumber 20 = .ok (.aload_n 0, 1) := by decide +kernel
theorem dX12_oneOrNumber_21 : decode cX12_oneOrNumber 21 = .ok (.iload_n 1, 1) := by decide +kernel
theorem dX12_oneOrNumber_22 : decode cX12_oneOrNumber 22 = .ok (.sipush 256, 3) := by decide +kernel
theorem dX12_oneOrNumber_25 : decode cX12_oneOrNumber 25 = .ok (.iload_n 3, 1) := by decide +kernel
theorem dX12_oneOrNumber_26 : decode cX12_oneOrNumber 26 = .ok (.imul, 1) := by decide +kernel
theorem dX12_oneOrNumber_27 : decode cX12_oneOrNumber 27 = .ok (.iadd, 1) := by decide +kernel
theorem dX12_oneOrNumber_28 : decode cX12_oneOrNumber 28 = .ok (.aload_n 0, 1) := by decide +kernel
theorem dX12_oneOrNumber_29 : decode cX12_oneOrNumber 29 = .ok (.iconst 0, 1) := by decide +kernel
theorem dX12_oneOrNumber_30 : decode cX12_oneOrNumber 30 = .ok (.sipush 255, 3) := by decide +kernel
theorem dX12_oneOrNumber_33 : decode cX12_oneOrNumber 33 = .ok (.iconst 1, 1) := by decide +kernel
theorem dX12_oneOrNumber_34 : decode cX12_oneOrNumber 34 = .ok (.invokevirtual 168, 3) := by decide +kernel
theorem dX12_oneOrNumber_37 : decode cX12_oneOrNumber 37 = .ok (.iadd, 1) := by decide +kernel
theorem dX12_oneOrNumber_38 : decode cX12_oneOrNumber 38 = .ok (.invokevirtual 165, 3) := by decide +kernel
theorem dX12_oneOrNumber_41 : decode cX12_oneOrNumber 41 = .ok (.goto 43, 3) := by decide +kernel
theorem dX12_oneOrNumber_44 : decode cX12_oneOrNumber 44 = .ok (.aload_n 0, 1) := by decide +kernel
theorem dX12_oneOrNumber_45 : decode cX12_oneOrNumber 45 = .ok (.invokevirtual 162, 3) := by decide +kernel
theorem dX12_oneOrNumber_48 : decode cX12_oneOrNumber 48 = .ok (.istore 4, 2) := by decide +kernel
theorem dX12_oneOrNumber_50 : decode cX12_oneOrNumber 50 = .ok (.aload_n 0, 1) := by decide +kernel
theorem dX12_oneOrNumber_51 : decode cX12_oneOrNumber 51 = .ok (.iload_n 2, 1) := by decide +kernel
theorem dX12_oneOrNumber_52 : decode cX12_oneOrNumber 52 = .ok (.ifCond .ge 13, 3) := by decide +kernel
theorem dX12_oneOrNumber_55 : decode cX12_oneOrNumber 55 = .ok (.bipush 8, 2) := by decide +kernel
theorem dX12_oneOrNumber_57 : decode cX12_oneOrNumber 57 = .ok (.iload 4, 2) := by decide +kernel
theorem dX12_oneOrNumber_59 : decode cX12_oneOrNumber 59 = .ok (.imul, 1) := by decide +kernel
theorem dX12_oneOrNumber_60 : decode cX12_oneOrNumber 60 = .ok (.iload_n 3, 1) := by decide +kernel
theorem dX12_oneOrNumber_61 : decode cX12_oneOrNumber 61 = .ok (.iadd, 1) := by decide +kernel
theorem dX12_oneOrNumber_62 : decode cX12_oneOrNumber 62 = .ok (.goto 19, 3) := by decide +kernel
theorem dX12_oneOrNumber_65 : decode cX12_oneOrNumber 65 = .ok (.sipush 16384, 3) := by decide +kernel
theorem dX12_oneOrNumber_68 : decode cX12_oneOrNumber 68 = .ok (.bipush 64, 2) := by decide +kernel
theorem dX12_oneOrNumber_70 : decode cX12_oneOrNumber 70 = .ok (.iload_n 2, 1) := by decide +kernel
theorem dX12_oneOrNumber_71 : decode cX12_oneOrNumber 71 = .ok (.imul, 1) := by decide +kernel
theorem dX12_oneOrNumber_72 : decode cX12_oneOrNumber 72 = .ok (.iadd, 1) := by decide +kernel
theorem dX12_oneOrNumber_73 : decode cX12_oneOrNumber 73 = .ok (.bipush 8, 2) := by decide +kernel
theorem dX12_oneOrNumber_75 : decode cX12_oneOrNumber 75 = .ok (.iload 4, 2) := by decide +kernel
theorem dX12_oneOrNumber_77 : decode cX12_oneOrNumber 77 = .ok (.imul, 1) := by decide +kernel
theorem dX12_oneOrNumber_78 : decode cX12_oneOrNumber 78 = .ok (.iadd, 1) := by decide +kernel
theorem dX12_oneOrNumber_79 : decode cX12_oneOrNumber 79 = .ok (.iload_n 3, 1) := by decide +kernel
theorem dX12_oneOrNumber_80 : decode cX12_oneOrNumber 80 = .ok (.iadd, 1) := by decide +kernel
theorem dX12_oneOrNumber_81 : decode cX12_oneOrNumber 81 = .ok (.invokevirtual 165, 3) := by decide +kernel
theorem dX12_oneOrNumber_84 : decode cX12_oneOrNumber 84 = .ok (.return_, 1) := by decide +kernel
theorem dX12_sums_0 : decode cX12_sums 0 = .ok (.aload_n 0, 1) := by decide +kernel
theorem dX12_sums_1 : decode cX12_sums 1 = .ok (.invokevirtual 162, 3) := by decide +kernel
theorem dX12_sums_4 : decode cX12_sums 4 = .ok (.istore_n 3, 1) := by decide +kernel
theorem dX12_sums_5 : decode cX12_sums 5 = .ok (.aload_n 0, 1) := by decide +kernel
theorem dX12_sums_6 : decode cX12_sums 6 = .ok (.bipush 44, 2) := by decide +kernel
theorem dX12_sums_8 : decode cX12_sums 8 = .ok (.invokevirtual 148, 3) := by decide +kernel
theorem dX12_sums_11 : decode cX12_sums 11 = .ok (.aload_n 0, 1) := by decide +kernel
theorem dX12_sums_12 : decode cX12_sums 12 = .ok (.invokevirtual 116, 3) := by decide +kernel
theorem dX12_sums_15 : decode cX12_sums 15 = .ok (.bipush 35, 2) := by decide +kernel
theorem dX12_sums_17 : decode cX12_sums 17 = .ok (.if_icmp .ne 25, 3) := by decide +kernel
theorem dX12_sums_20 : decode cX12_sums 20 = .ok (.aload_n 0, 1) := by decide +kernel
theorem dX12_sums_21 : decode cX12_sums 21 = .ok (.iload_n 1, 1) := by decide +kernel
theorem dX12_sums_22 : decode cX12_sums 22 = .ok (.sipush 256, 3) := by decide +kernel
theorem dX12_sums_25 : decode cX12_sums 25 = .ok (.iload_n 3, 1) := by decide +kernel
theorem dX12_sums_26 : decode cX12_sums 26 = .ok (.imul, 1) := by decide +kernel
theorem dX12_sums_27 : decode cX12_sums 27 = .ok (.iadd, 1) := by decide +kernel
theorem dX12_sums_28 : decode cX12_sums 28 = .ok (.aload_n 0, 1) := by decide +kernel
theorem dX12_sums_29 : decode cX12_sums 29 = .ok (.iconst 0, 1) := by decide +kernel
theorem dX12_sums_30 : decode cX12_sums 30 = .ok (.sipush 255, 3) := by decide +kernel
theorem dX12_sums_33 : decode cX12_sums 33 = .ok (.iconst 1, 1) := by decide +kernel
theorem dX12_sums_34 : decode cX12_sums 34 = .ok (.invokevirtual 168, 3) := by decide +kernel
theorem dX12_sums_37 : decode cX12_sums 37 = .ok (.iadd, 1) := by decide +kernel
theorem dX12_sums_38 : decode cX12_sums 38 = .ok (.invokevirtual 165, 3) := by decide +kernel
theorem dX12_sums_41 : decode cX12_sums 41 = .ok (.return_, 1) := by decide +kernel
theorem dX12_sums_42 : decode cX12_sums 42 = .ok (.aload_n 0, 1) := by decide +kernel
theorem dX12_sums_43 : decode cX12_sums 43 = .ok (.invokevirtual 162, 3) := by decide +kernel
theorem dX12_sums_46 : decode cX12_sums 46 = .ok (.istore 4, 2) := by decide +kernel
theorem dX12_sums_48 : decode cX12_sums 48 = .ok (.aload_n 0, 1) := by decide +kernel
theorem dX12_sums_49 : decode cX12_sums 49 = .ok (.bipush 44, 2) := by decide +kernel
theorem dX12_sums_51 : decode cX12_sums 51 = .ok (.invokevirtual 148, 3) := by decide +kernel
theorem dX12_sums_54 : decode cX12_sums 54 = .ok (.aload_n 0, 1) := by decide +kernel
theorem dX12_sums_55 : decode cX12_sums 55 = .ok (.invokevirtual 116, 3) := by decide +kernel
theorem dX12_sums_58 : decode cX12_sums 58 = .ok (.bipush 35, 2) := by decide +kernel
theorem dX12_sums_60 : decode cX12_sums 60 = .ok (.if_icmp .ne 35, 3) := by decide +kernel
theorem dX12_sums_63 : decode cX12_sums 63 = .ok (.aload_n 0, 1) := by decide +kernel
theorem dX12_sums_64 : decode cX12_sums 64 = .ok (.iload_n 2, 1) := by decide +kernel
theorem dX12_sums_65 : decode cX12_sums 65 = .ok (.sipush 1024, 3) := by decide +kernel
theorem dX12_sums_68 : decode cX12_sums 68 = .ok (.iadd, 1) := by decide +kernel
theorem dX12_sums_69 : decode cX12_sums 69 = .ok (.bipush 64, 2) := by decide +kernel
theorem dX12_sums_71 : decode cX12_sums 71 = .ok (.aload_n 0, 1) := by decide +kernel
theorem dX12_sums_72 : decode cX12_sums 72 = .ok (.iconst 0, 1) := by decide +kernel
theorem dX12_sums_73 : decode cX12_sums 73 = .ok (.bipush 7, 2) := by decide +kernel
theorem dX12_sums_75 : decode cX12_sums 75 = .ok (.iconst 1, 1) := by decide +kernel
theorem dX12_sums_76 : decode cX12_sums 76 = .ok (.invokevirtual 168, 3) := by decide +kernel
theorem dX12_sums_79 : decode cX12_sums 79 = .ok (.imul, 1) := by decide +kernel
theorem dX12_sums_80 : decode cX12_sums 80 = .ok (.iadd, 1) := by decide +kernel
theorem dX12_sums_81 : decode cX12_sums 81 = .ok (.bipush 8, 2) := by decide +kernel
theorem dX12_sums_83 : decode cX12_sums 83 = .ok (.iload 4, 2) := by decide +kernel
theorem dX12_sums_85 : decode cX12_sums 85 = .ok (.imul, 1) := by decide +kernel
theorem dX12_sums_86 : decode cX12_sums 86 = .ok (.iadd, 1) := by decide +kernel
theorem dX12_sums_87 : decode cX12_sums 87 = .ok (.iload_n 3, 1) := by decide +kernel
theorem dX12_sums_88 : decode cX12_sums 88 = .ok (.iadd, 1) := by decide +kernel
theorem dX12_sums_89 : decode cX12_sums 89 = .ok (.invokevirtual 165, 3) := by decide +kernel
theorem dX12_sums_92 : decode cX12_sums 92 = .ok (.goto 24, 3) := by decide +kernel
theorem dX12_sums_95 : decode cX12_sums 95 = .ok (.aload_n 0, 1) := by decide +kernel
theorem dX12_sums_96 : decode cX12_sums 96 = .ok (.iload_n 2, 1) := by decide +kernel
theorem dX12_sums_97 : decode cX12_sums 97 = .ok (.bipush 64, 2) := by decide +kernel
theorem dX12_sums_99 : decode cX12_sums 99 = .ok (.aload_n 0, 1) := by decide +kernel
theorem dX12_sums_100 : decode cX12_sums 100 = .ok (.invokevirtual 162, 3) := by decide +kernel
theorem dX12_sums_103 : decode cX12_sums 103 = .ok (.imul, 1) := by decide +kernel
theorem dX12_sums_104 : decode cX12_sums 104 = .ok (.iadd, 1) := by decide +kernel
theorem dX12_sums_105 : decode cX12_sums 105 = .ok (.bipush 8, 2) := by decide +kernel
theorem dX12_sums_107 : decode cX12_sums 107 = .ok (.iload 4, 2) := by decide +kernel
theorem dX12_sums_109 : decode cX12_sums 109 = .ok (.imul, 1) := by decide +kernel
theorem dX12_sums_110 : decode cX12_sums 110 = .ok (.iadd, 1) := by decide +kernel
theorem dX12_sums_111 : decode cX12_sums 111 = .ok (.iload_n 3, 1) := by decide +kernel
theorem dX12_sums_112 : decode cX12_sums 112 = .ok (.iadd, 1) := by decide +kernel
theorem dX12_sums_113 : decode cX12_sums 113 = .ok (.invokevirtual 165, 3) := by decide +kernel
theorem dX12_sums_116 : decode cX12_sums 116 = .ok (.return_, 1) := by decide +kernel
theorem dX12_shifts_0 : decode cX12_shifts 0 = .ok (.aload_n 0, 1) := by decide +kernel
theorem dX12_shifts_1 : decode cX12_shifts 1 = .ok (.invokevirtual 162, 3) := by decide +kernel
theorem dX12_shifts_4 : decode cX12_shifts 4 = .ok (.istore 4, 2) := by decide +kernel
theorem dX12_shifts_6 : decode cX12_shifts 6 = .ok (.aload_n 0, 1) := by decide +kernel
theorem dX12_shifts_7 : decode cX12_shifts 7 = .ok (.bipush 44, 2) := by decide +kernel
theorem dX12_shifts_9 : decode cX12_shifts 9 = .ok (.invokevirtual 148, 3) := by decide +kernel
theorem dX12_shifts_12 : decode cX12_shifts 12 = .ok (.aload_n 0, 1) := by decide +kernel
theorem dX12_shifts_13 : decode cX12_shifts 13 = .ok (.invokevirtual 162, 3) := by decide +kernel
theorem dX12_shifts_16 : decode cX12_shifts 16 = .ok (.istore 5, 2) := by decide +kernel
theorem dX12_shifts_18 : decode cX12_shifts 18 = .ok (.aload_n 0, 1) := by decide +kernel
theorem dX12_shifts_19 : decode cX12_shifts 19 = .ok (.bipush 44, 2) := by decide +kernel
theorem dX12_shifts_21 : decode cX12_shifts 21 = .ok (.invokevirtual 148, 3) := by decide +kernel
theorem dX12_shifts_24 : decode cX12_shifts 24 = .ok (.aload_n 0, 1) := by decide +kernel
theorem dX12_shifts_25 : decode cX12_shifts 25 = .ok (.iload_n 1, 1) := by decide +kernel
theorem dX12_shifts_26 : decode cX12_shifts 26 = .ok (.bipush 64, 2) := by decide +kernel
theorem dX12_shifts_28 : decode cX12_shifts 28 = .ok (.aload_n 0, 1) := by decide +kernel
theorem dX12_shifts_29 : decode cX12_shifts 29 = .ok (.iload_n 2, 1) := by decide +kernel
theorem dX12_shifts_30 : decode cX12_shifts 30 = .ok (.iload_n 3, 1) := by decide +kernel
theorem dX12_shifts_31 : decode cX12_shifts 31 = .ok (.iconst 1, 1) := by decide +kernel
theorem dX12_shifts_32 : decode cX12_shifts 32 = .ok (.invokevirtual 168, 3) := by decide +kernel
theorem dX12_shifts_35 : decode cX12_shifts 35 = .ok (.bipush 31, 2) := by decide +kernel
theorem dX12_shifts_37 : decode cX12_shifts 37 = .ok (.iand, 1) := by decide +kernel
theorem dX12_shifts_38 : decode cX12_shifts 38 = .ok (.imul, 1) := by decide +kernel
theorem dX12_shifts_39 : decode cX12_shifts 39 = .ok (.iadd, 1) := by decide +kernel
theorem dX12_shifts_40 : decode cX12_shifts 40 = .ok (.bipush 8, 2) := by decide +kernel
theorem dX12_shifts_42 : decode cX12_shifts 42 = .ok (.iload 5, 2) := by decide +kernel
theorem dX12_shifts_44 : decode cX12_shifts 44 = .ok (.imul, 1) := by decide +kernel
theorem dX12_shifts_45 : decode cX12_shifts 45 = .ok (.iadd, 1) := by decide +kernel
theorem dX12_shifts_46 : decode cX12_shifts 46 = .ok (.iload 4, 2) := by decide +kernel
theorem dX12_shifts_48 : decode cX12_shifts 48 = .ok (.iadd, 1) := by decide +kernel
theorem dX12_shifts_49 : decode cX12_shifts 49 = .ok (.invokevirtual 165, 3) := by decide +kernel
theorem dX12_shifts_52 : decode cX12_shifts 52 = .ok (.return_, 1) := by decide +kernel
theorem dX12_memory_0 : decode cX12_memory 0 = .ok (.aload_n 0, 1) := by decide +kernel
theorem dX12_memory_1 : decode cX12_memory 1 = .ok (.invokevirtual 162, 3) := by decide +kernel
theorem dX12_memory_4 : decode cX12_memory 4 = .ok (.istore 4, 2) := by decide +kernel
theorem dX12_memory_6 : decode cX12_memory 6 = .ok (.aload_n 0, 1) := by decide +kernel
theorem dX12_memory_7 : decode cX12_memory 7 = .ok (.bipush 44, 2) := by decide +kernel
theorem dX12_memory_9 : decode cX12_memory 9 = .ok (.invokevirtual 148, 3) := by decide +kernel
theorem dX12_memory_12 : decode cX12_memory 12 = .ok (.iload_n 3, 1) := by decide +kernel
theorem dX12_memory_13 : decode cX12_memory 13 = .ok (.ifCond .eq 37, 3) := by decide +kernel
theorem dX12_memory_16 : decode cX12_memory 16 = .ok (.aload_n 0, 1) := by decide +kernel
theorem dX12_memory_17 : decode cX12_memory 17 = .ok (.invokevirtual 116, 3) := by decide +kernel
theorem dX12_memory_20 : decode cX12_memory 20 = .ok (.bipush 91, 2) := by decide +kernel
theorem dX12_memory_22 : decode cX12_memory 22 = .ok (.if_icmp .eq 28, 3) := by decide +kernel
theorem dX12_memory_25 : decode cX12_memory 25 = .ok (.aload_n 0, 1) := by decide +kernel
theorem dX12_memory_26 : decode cX12_memory 26 = .ok (.invokevirtual 171, 3) := by decide +kernel
theorem dX12_memory_29 : decode cX12_memory 29 = .ok (.aload_n 0, 1) := by decide +kernel
theorem dX12_memory_30 : decode cX12_memory 30 = .ok (.bipush 14, 2) := by decide +kernel
theorem dX12_memory_32 : decode cX12_memory 32 = .ok (.putfield 156, 3) := by decide +kernel
theorem dX12_memory_35 : decode cX12_memory 35 = .ok (.aload_n 0, 1) := by decide +kernel
theorem dX12_memory_36 : decode cX12_memory 36 = .ok (.sipush 18432, 3) := by decide +kernel
theorem dX12_memory_39 : decode cX12_memory 39 = .ok (.sipush 256, 3) := by decide +kernel
theorem dX12_memory_42 : decode cX12_memory 42 = .ok (.iload 4, 2) := by decide +kernel
theorem dX12_memory_44 : decode cX12_memory 44 = .ok (.imul, 1) := by decide +kernel
theorem dX12_memory_45 : decode cX12_memory 45 = .ok (.iadd, 1) := by decide +kernel
theorem dX12_memory_46 : decode cX12_memory 46 = .ok (.putfield 159, 3) := by decide +kernel
theorem dX12_memory_49 : decode cX12_memory 49 = .ok (.return_, 1) := by decide +kernel
theorem dX12_memory_50 : decode cX12_memory 50 = .ok (.aload_n 0, 1) := by decide +kernel
theorem dX12_memory_51 : decode cX12_memory 51 = .ok (.bipush 91, 2) := by decide +kernel
theorem dX12_memory_53 : decode cX12_memory 53 = .ok (.invokevirtual 148, 3) := by decide +kernel
theorem dX12_memory_56 : decode cX12_memory 56 = .ok (.aload_n 0, 1) := by decide +kernel
theorem dX12_memory_57 : decode cX12_memory 57 = .ok (.invokevirtual 162, 3) := by decide +kernel
theorem dX12_memory_60 : decode cX12_memory 60 = .ok (.istore 5, 2) := by decide +kernel
theorem dX12_memory_62 : decode cX12_memory 62 = .ok (.aload_n 0, 1) := by decide +kernel
theorem dX12_memory_63 : decode cX12_memory 63 = .ok (.bipush 44, 2) := by decide +kernel
theorem dX12_memory_65 : decode cX12_memory 65 = .ok (.invokevirtual 148, 3) := by decide +kernel
theorem dX12_memory_68 : decode cX12_memory 68 = .ok (.aload_n 0, 1) := by decide +kernel
theorem dX12_memory_69 : decode cX12_memory 69 = .ok (.iconst 0, 1) := by decide +kernel
theorem dX12_memory_70 : decode cX12_memory 70 = .ok (.bipush 31, 2) := by decide +kernel
theorem dX12_memory_72 : decode cX12_memory 72 = .ok (.iload_n 2, 1) := by decide +kernel
theorem dX12_memory_73 : decode cX12_memory 73 = .ok (.imul, 1) := by decide +kernel
theorem dX12_memory_74 : decode cX12_memory 74 = .ok (.iload_n 2, 1) := by decide +kernel
theorem dX12_memory_75 : decode cX12_memory 75 = .ok (.invokevirtual 168, 3) := by decide +kernel
theorem dX12_memory_78 : decode cX12_memory 78 = .ok (.istore 6, 2) := by decide +kernel
theorem dX12_memory_80 : decode cX12_memory 80 = .ok (.aload_n 0, 1) := by decide +kernel
theorem dX12_memory_81 : decode cX12_memory 81 = .ok (.bipush 93, 2) := by decide +kernel
theorem dX12_memory_83 : decode cX12_memory 83 = .ok (.invokevirtual 148, 3) := by decide +kernel
theorem dX12_memory_86 : decode cX12_memory 86 = .ok (.aload_n 0, 1) := by decide +kernel
theorem dX12_memory_87 : decode cX12_memory 87 = .ok (.iload_n 1, 1) := by decide +kernel
theorem dX12_memory_88 : decode cX12_memory 88 = .ok (.bipush 64, 2) := by decide +kernel
theorem dX12_memory_90 : decode cX12_memory 90 = .ok (.iload 6, 2) := by decide +kernel
theorem dX12_memory_92 : decode cX12_memory 92 = .ok (.iload_n 2, 1) := by decide +kernel
theorem dX12_memory_93 : decode cX12_memory 93 = .ok (.idiv, 1) := by decide +kernel
theorem dX12_memory_94 : decode cX12_memory 94 = .ok (.imul, 1) := by decide +kernel
theorem dX12_memory_95 : decode cX12_memory 95 = .ok (.iadd, 1) := by decide +kernel
theorem dX12_memory_96 : decode cX12_memory 96 = .ok (.bipush 8, 2) := by decide +kernel
theorem dX12_memory_98 : decode cX12_memory 98 = .ok (.iload 5, 2) := by decide +kernel
theorem dX12_memory_100 : decode cX12_memory 100 = .ok (.imul, 1) := by decide +kernel
theorem dX12_memory_101 : decode cX12_memory 101 = .ok (.iadd, 1) := by decide +kernel
theorem dX12_memory_102 : decode cX12_memory 102 = .ok (.iload 4, 2) := by decide +kernel
theorem dX12_memory_104 : decode cX12_memory 104 = .ok (.iadd, 1) := by decide +kernel
theorem dX12_memory_105 : decode cX12_memory 105 = .ok (.invokevirtual 165, 3) := by decide +kernel
theorem dX12_memory_108 : decode cX12_memory 108 = .ok (.return_, 1) := by decide +kernel
theorem dX12_listed_0 : decode cX12_listed 0 = .ok (.aload_n 0, 1) := by decide +kernel
theorem dX12_listed_1 : decode cX12_listed 1 = .ok (.bipush 123, 2) := by decide +kernel
theorem dX12_listed_3 : decode cX12_listed 3 = .ok (.invokevirtual 148, 3) := by decide +kernel
theorem dX12_listed_6 : decode cX12_listed 6 = .ok (.iload_n 1, 1) := by decide +kernel
theorem dX12_listed_7 : decode cX12_listed 7 = .ok (.istore 4, 2) := by decide +kernel
theorem dX12_listed_9 : decode cX12_listed 9 = .ok (.iconst (-1), 1) := by decide +kernel
theorem dX12_listed_10 : decode cX12_listed 10 = .ok (.istore 5, 2) := by decide +kernel
theorem dX12_listed_12 : decode cX12_listed 12 = .ok (.aload_n 0, 1) := by decide +kernel
theorem dX12_listed_13 : decode cX12_listed 13 = .ok (.getfield 100, 3) := by decide +kernel
theorem dX12_listed_16 : decode cX12_listed 16 = .ok (.ifCond .ne 7, 3) := by decide +kernel
theorem dX12_listed_19 : decode cX12_listed 19 = .ok (.iconst 1, 1) := by decide +kernel
theorem dX12_listed_20 : decode cX12_listed 20 = .ok (.goto 4, 3) := by decide +kernel
theorem dX12_listed_23 : decode cX12_listed 23 = .ok (.iconst 0, 1) := by decide +kernel
theorem dX12_listed_24 : decode cX12_listed 24 = .ok (.istore 6, 2) := by decide +kernel
theorem dX12_listed_26 : decode cX12_listed 26 = .ok (.iload 6, 2) := by decide +kernel
theorem dX12_listed_28 : decode cX12_listed 28 = .ok (.ifCond .eq 101, 3) := by decide +kernel
theorem dX12_listed_31 : decode cX12_listed 31 = .ok (.aload_n 0, 1) := by decide +kernel
theorem dX12_listed_32 : decode cX12_listed 32 = .ok (.invokevirtual 131, 3) := by decide +kernel
theorem dX12_listed_35 : decode cX12_listed 35 = .ok (.istore 7, 2) := by decide +kernel
theorem dX12_listed_37 : decode cX12_listed 37 = .ok (.aload_n 0, 1) := by decide +kernel
theorem dX12_listed_38 : decode cX12_listed 38 = .ok (.aload_n 0, 1) := by decide +kernel
theorem dX12_listed_39 : decode cX12_listed 39 = .ok (.getfield 94, 3) := by decide +kernel
theorem dX12_listed_42 : decode cX12_listed 42 = .ok (.iload 7, 2) := by decide +kernel
theorem dX12_listed_44 : decode cX12_listed 44 = .ok (.lload_n 2, 1) := by decide +kernel
theorem dX12_listed_45 : decode cX12_listed 45 = .ok (.invokevirtual 174, 3) := by decide +kernel
theorem dX12_listed_48 : decode cX12_listed 48 = .ok (.ifCond .eq 23, 3) := by decide +kernel
theorem dX12_listed_51 : decode cX12_listed 51 = .ok (.iload 4, 2) := by decide +kernel
theorem dX12_listed_53 : decode cX12_listed 53 = .ok (.sipush 256, 3) := by decide +kernel
theorem dX12_listed_56 : decode cX12_listed 56 = .ok (.iadd, 1) := by decide +kernel
theorem dX12_listed_57 : decode cX12_listed 57 = .ok (.istore 4, 2) := by decide +kernel
theorem dX12_listed_59 : decode cX12_listed 59 = .ok (.aload_n 0, 1) := by decide +kernel
theorem dX12_listed_60 : decode cX12_listed 60 = .ok (.iload 7, 2) := by decide +kernel
theorem dX12_listed_62 : decode cX12_listed 62 = .ok (.putfield 94, 3) := by decide +kernel
theorem dX12_listed_65 : decode cX12_listed 65 = .ok (.iconst 0, 1) := by decide +kernel
theorem dX12_listed_66 : decode cX12_listed 66 = .ok (.istore 6, 2) := by decide +kernel
theorem dX12_listed_68 : decode cX12_listed 68 = .ok (.goto 58, 3) := by decide +kernel
theorem dX12_listed_71 : decode cX12_listed 71 = .ok (.aload_n 0, 1) := by decide +kernel
theorem dX12_listed_72 : decode cX12_listed 72 = .ok (.getfield 94, 3) := by decide +kernel
theorem dX12_listed_75 : decode cX12_listed 75 = .ok (.istore 8, 2) := by decide +kernel
theorem dX12_listed_77 : decode cX12_listed 77 = .ok (.aload_n 0, 1) := by decide +kernel
theorem dX12_listed_78 : decode cX12_listed 78 = .ok (.invokevirtual 162, 3) := by decide +kernel
theorem dX12_listed_81 : decode cX12_listed 81 = .ok (.istore 9, 2) := by decide +kernel
theorem dX12_listed_83 : decode cX12_listed 83 = .ok (.aload_n 0, 1) := by decide +kernel
theorem dX12_listed_84 : decode cX12_listed 84 = .ok (.getfield 100, 3) := by decide +kernel
theorem dX12_listed_87 : decode cX12_listed 87 = .ok (.ifCond .ne 18, 3) := by decide +kernel
theorem dX12_listed_90 : decode cX12_listed 90 = .ok (.iload 9, 2) := by decide +kernel
theorem dX12_listed_92 : decode cX12_listed 92 = .ok (.iload 5, 2) := by decide +kernel
theorem dX12_listed_94 : decode cX12_listed 94 = .ok (.if_icmp .gt 11, 3) := by decide +kernel
theorem dX12_listed_97 : decode cX12_listed 97 = .ok (.aload_n 0, 1) := by decide +kernel
theorem dX12_listed_98 : decode cX12_listed 98 = .ok (.bipush (-3), 2) := by decide +kernel
theorem dX12_listed_100 : decode cX12_listed 100 = .ok (.iload 8, 2) := by decide +kernel
theorem dX12_listed_102 : decode cX12_listed 102 = .ok (.invokevirtual 123, 3) := by decide +kernel
theorem dX12_listed_105 : decode cX12_listed 105 = .ok (.iload 9, 2) := by decide +kernel
theorem dX12_listed_107 : decode cX12_listed 107 = .ok (.istore 5, 2) := by decide +kernel
theorem dX12_listed_109 : decode cX12_listed 109 = .ok (.iload 4, 2) := by decide +kernel
theorem dX12_listed_111 : decode cX12_listed 111 = .ok (.iconst 1, 1) := by decide +kernel
theorem dX12_listed_112 : decode cX12_listed 112 = .ok (.iload 9, 2) := by decide +kernel
theorem dX12_listed_114 : decode cX12_listed 114 = .ok (.ishl, 1) := by decide +kernel
theorem dX12_listed_115 : decode cX12_listed 115 = .ok (.iadd, 1) := by decide +kernel
theorem dX12_listed_116 : decode cX12_listed 116 = .ok (.istore 4, 2) := by decide +kernel
theorem dX12_listed_118 : decode cX12_listed 118 = .ok (.aload_n 0, 1) := by decide +kernel
theorem dX12_listed_119 : decode cX12_listed 119 = .ok (.bipush 44, 2) := by decide +kernel
theorem dX12_listed_121 : decode cX12_listed 121 = .ok (.invokevirtual 120, 3) := by decide +kernel
theorem dX12_listed_124 : decode cX12_listed 124 = .ok (.istore 6, 2) := by decide +kernel
theorem dX12_listed_126 : decode cX12_listed 126 = .ok (.goto (-100), 3) := by decide +kernel
theorem dX12_listed_129 : decode cX12_listed 129 = .ok (.aload_n 0, 1) := by decide +kernel
theorem dX12_listed_130 : decode cX12_listed 130 = .ok (.bipush 125, 2) := by decide +kernel
theorem dX12_listed_132 : decode cX12_listed 132 = .ok (.invokevirtual 148, 3) := by decide +kernel
theorem dX12_listed_135 : decode cX12_listed 135 = .ok (.aload_n 0, 1) := by decide +kernel
theorem dX12_listed_136 : decode cX12_listed 136 = .ok (.iload 4, 2) := by decide +kernel
theorem dX12_listed_138 : decode cX12_listed 138 = .ok (.invokevirtual 165, 3) := by decide +kernel
theorem dX12_listed_141 : decode cX12_listed 141 = .ok (.return_, 1) := by decide +kernel
theorem dX12_jump_0 : decode cX12_jump 0 = .ok (.aload_n 0, 1) := by decide +kernel
theorem dX12_jump_1 : decode cX12_jump 1 = .ok (.invokevirtual 171, 3) := by decide +kernel
theorem dX12_jump_4 : decode cX12_jump 4 = .ok (.aload_n 0, 1) := by decide +kernel
theorem dX12_jump_5 : decode cX12_jump 5 = .ok (.iload_n 1, 1) := by decide +kernel
theorem dX12_jump_6 : decode cX12_jump 6 = .ok (.putfield 156, 3) := by decide +kernel
theorem dX12_jump_9 : decode cX12_jump 9 = .ok (.aload_n 0, 1) := by decide +kernel
theorem dX12_jump_10 : decode cX12_jump 10 = .ok (.iload_n 2, 1) := by decide +kernel
theorem dX12_jump_11 : decode cX12_jump 11 = .ok (.putfield 159, 3) := by decide +kernel
theorem dX12_jump_14 : decode cX12_jump 14 = .ok (.return_, 1) := by decide +kernel
theorem dX12_condition_0 : decode cX12_condition 0 = .ok (.iload_n 2, 1) := by decide +kernel
theorem dX12_condition_1 : decode cX12_condition 1 = .ok (.iload_n 1, 1) := by decide +kernel
theorem dX12_condition_2 : decode cX12_condition 2 = .ok (.isub, 1) := by decide +kernel
theorem dX12_condition_3 : decode cX12_condition 3 = .ok (.iconst 2, 1) := by decide +kernel
theorem dX12_condition_4 : decode cX12_condition 4 = .ok (.if_icmp .eq 5, 3) := by decide +kernel
theorem dX12_condition_7 : decode cX12_condition 7 = .ok (.iconst (-1), 1) := by decide +kernel
theorem dX12_condition_8 : decode cX12_condition 8 = .ok (.ireturn, 1) := by decide +kernel
theorem dX12_condition_9 : decode cX12_condition 9 = .ok (.aload_n 0, 1) := by decide +kernel
theorem dX12_condition_10 : decode cX12_condition 10 = .ok (.getfield 20, 3) := by decide +kernel
theorem dX12_condition_13 : decode cX12_condition 13 = .ok (.iload_n 1, 1) := by decide +kernel
theorem dX12_condition_14 : decode cX12_condition 14 = .ok (.caload, 1) := by decide +kernel
theorem dX12_condition_15 : decode cX12_condition 15 = .ok (.bipush 8, 2) := by decide +kernel
theorem dX12_condition_17 : decode cX12_condition 17 = .ok (.ishl, 1) := by decide +kernel
theorem dX12_condition_18 : decode cX12_condition 18 = .ok (.aload_n 0, 1) := by decide +kernel
theorem dX12_condition_19 : decode cX12_condition 19 = .ok (.getfield 20, 3) := by decide +kernel
theorem dX12_condition_22 : decode cX12_condition 22 = .ok (.iload_n 1, 1) := by decide +kernel
theorem dX12_condition_23 : decode cX12_condition 23 = .ok (.iconst 1, 1) := by decide +kernel
theorem dX12_condition_24 : decode cX12_condition 24 = .ok (.iadd, 1) := by decide +kernel
theorem dX12_condition_25 : decode cX12_condition 25 = .ok (.caload, 1) := by decide +kernel
theorem dX12_condition_26 : decode cX12_condition 26 = .ok (.ior, 1) := by decide +kernel
theorem dX12_condition_27 : decode cX12_condition 27 = .ok (.istore_n 3, 1) := by decide +kernel
theorem dX12_condition_28 : decode cX12_condition 28 = .ok (.iload_n 3, 1) := by decide +kernel
theorem dX12_condition_29 : decode cX12_condition 29 = .ok (.lookupswitch 159 #[(25443, 129), (25459, 127), (25969, 123), (26469, 147), (26484, 153), (26729, 141), (27749, 156), (27763, 144), (27764, 150), (28009, 131), (28261, 125), (28780, 133), (30307, 138), (30323, 135)], 123) := by decide +kernel
theorem dX12_condition_152 : decode cX12_condition 152 = .ok (.iconst 0, 1) := by decide +kernel
theorem dX12_condition_153 : decode cX12_condition 153 = .ok (.ireturn, 1) := by decide +kernel
theorem dX12_condition_154 : decode cX12_condition 154 = .ok (.iconst 1, 1) := by decide +kernel
theorem dX12_condition_155 : decode cX12_condition 155 = .ok (.ireturn, 1) := by decide +kernel
theorem dX12_condition_156 : decode cX12_condition 156 = .ok (.iconst 2, 1) := by decide +kernel
theorem dX12_condition_157 : decode cX12_condition 157 = .ok (.ireturn, 1) := by decide +kernel
theorem dX12_condition_158 : decode cX12_condition 158 = .ok (.iconst 3, 1) := by decide +kernel
theorem dX12_condition_159 : decode cX12_condition 159 = .ok (.ireturn, 1) := by decide +kernel
theorem dX12_condition_160 : decode cX12_condition 160 = .ok (.iconst 4, 1) := by decide +kernel
theorem dX12_condition_161 : decode cX12_condition 161 = .ok (.ireturn, 1) := by decide +kernel
theorem dX12_condition_162 : decode cX12_condition 162 = .ok (.iconst 5, 1) := by decide +kernel
theorem dX12_condition_163 : decode cX12_condition 163 = .ok (.ireturn, 1) := by decide +kernel
theorem dX12_condition_164 : decode cX12_condition 164 = .ok (.bipush 6, 2) := by decide +kernel
theorem dX12_condition_166 : decode cX12_condition 166 = .ok (.ireturn, 1) := by decide +kernel
theorem dX12_condition_167 : decode cX12_condition 167 = .ok (.bipush 7, 2) := by decide +kernel
theorem dX12_condition_169 : decode cX12_condition 169 = .ok (.ireturn, 1) := by decide +kernel
theorem dX12_condition_170 : decode cX12_condition 170 = .ok (.bipush 8, 2) := by decide +kernel
theorem dX12_condition_172 : decode cX12_condition 172 = .ok (.ireturn, 1) := by decide +kernel
theorem dX12_condition_173 : decode cX12_condition 173 = .ok (.bipush 9, 2) := by decide +kernel
theorem dX12_condition_175 : decode cX12_condition 175 = .ok (.ireturn, 1) := by decide +kernel
theorem dX12_condition_176 : decode cX12_condition 176 = .ok (.bipush 10, 2) := by decide +kernel
theorem dX12_condition_178 : decode cX12_condition 178 = .ok (.ireturn, 1) := by decide +kernel
theorem dX12_condition_179 : decode cX12_condition 179 = .ok (.bipush 11, 2) := by decide +kernel
theorem dX12_condition_181 : decode cX12_condition 181 = .ok (.ireturn, 1) := by decide +kernel
theorem dX12_condition_182 : decode cX12_condition 182 = .ok (.bipush 12, 2) := by decide +kernel
theorem dX12_condition_184 : decode cX12_condition 184 = .ok (.ireturn, 1) := by decide +kernel
theorem dX12_condition_185 : decode cX12_condition 185 = .ok (.bipush 13, 2) := by decide +kernel
theorem dX12_condition_187 : decode cX12_condition 187 = .ok (.ireturn, 1) := by decide +kernel
theorem dX12_condition_188 : decode cX12_condition 188 = .ok (.iconst (-1), 1) := by decide +kernel
theorem dX12_condition_189 : decode cX12_condition 189 = .ok (.ireturn, 1) := by decide +kernel
theorem dX12_directive_0 : decode cX12_directive 0 = .ok (.aload_n 0, 1) := by decide +kernel
theorem dX12_directive_1 : decode cX12_directive 1 = .ok (.iload_n 1, 1) := by decide +kernel
theorem dX12_directive_2 : decode cX12_directive 2 = .ok (.iload_n 2, 1) := by decide +kernel
theorem dX12_directive_3 : decode cX12_directive 3 = .ok (.ldc2_w 178, 3) := by decide +kernel
theorem dX12_directive_6 : decode cX12_directive 6 = .ok (.invokevirtual 174, 3) := by decide +kernel
theorem dX12_directive_9 : decode cX12_directive 9 = .ok (.ifCond .ne 27, 3) := by decide +kernel
theorem dX12_directive_12 : decode cX12_directive 12 = .ok (.aload_n 0, 1) := by decide +kernel
theorem dX12_directive_13 : decode cX12_directive 13 = .ok (.iload_n 1, 1) := by decide +kernel
theorem dX12_directive_14 : decode cX12_directive 14 = .ok (.iload_n 2, 1) := by decide +kernel
theorem dX12_directive_15 : decode cX12_directive 15 = .ok (.ldc2_w 180, 3) := by decide +kernel
theorem dX12_directive_18 : decode cX12_directive 18 = .ok (.invokevirtual 174, 3) := by decide +kernel
theorem dX12_directive_21 : decode cX12_directive 21 = .ok (.ifCond .ne 15, 3) := by decide +kernel
theorem dX12_directive_24 : decode cX12_directive 24 = .ok (.aload_n 0, 1) := by decide +kernel
theorem dX12_directive_25 : decode cX12_directive 25 = .ok (.iload_n 1, 1) := by decide +kernel
theorem dX12_directive_26 : decode cX12_directive 26 = .ok (.iload_n 2, 1) := by decide +kernel
theorem dX12_directive_27 : decode cX12_directive 27 = .ok (.ldc2_w 182, 3) := by decide +kernel
theorem dX12_directive_30 : decode cX12_directive 30 = .ok (.invokevirtual 174, 3) := by decide +kernel
theorem dX12_directive_33 : decode cX12_directive 33 = .ok (.ifCond .eq 47, 3) := by decide +kernel
theorem dX12_directive_36 : decode cX12_directive 36 = .ok (.aload_n 0, 1) := by decide +kernel
theorem dX12_directive_37 : decode cX12_directive 37 = .ok (.iconst 1, 1) := by decide +kernel
theorem dX12_directive_38 : decode cX12_directive 38 = .ok (.aload_n 0, 1) := by decide +kernel
theorem dX12_directive_39 : decode cX12_directive 39 = .ok (.getfield 20, 3) := by decide +kernel
theorem dX12_directive_42 : decode cX12_directive 42 = .ok (.iload_n 1, 1) := by decide +kernel
theorem dX12_directive_43 : decode cX12_directive 43 = .ok (.iconst 1, 1) := by decide +kernel
theorem dX12_directive_44 : decode cX12_directive 44 = .ok (.iadd, 1) := by decide +kernel
theorem dX12_directive_45 : decode cX12_directive 45 = .ok (.caload, 1) := by decide +kernel
theorem dX12_directive_46 : decode cX12_directive 46 = .ok (.bipush 116, 2) := by decide +kernel
theorem dX12_directive_48 : decode cX12_directive 48 = .ok (.if_icmp .ne 7, 3) := by decide +kernel
theorem dX12_directive_51 : decode cX12_directive 51 = .ok (.iconst 0, 1) := by decide +kernel
theorem dX12_directive_52 : decode cX12_directive 52 = .ok (.goto 21, 3) := by decide +kernel
theorem dX12_directive_55 : decode cX12_directive 55 = .ok (.aload_n 0, 1) := by decide +kernel
theorem dX12_directive_56 : decode cX12_directive 56 = .ok (.getfield 20, 3) := by decide +kernel
theorem dX12_directive_59 : decode cX12_directive 59 = .ok (.iload_n 1, 1) := by decide +kernel
theorem dX12_directive_60 : decode cX12_directive 60 = .ok (.iconst 1, 1) := by decide +kernel
theorem dX12_directive_61 : decode cX12_directive 61 = .ok (.iadd, 1) := by decide +kernel
theorem dX12_directive_62 : decode cX12_directive 62 = .ok (.caload, 1) := by decide +kernel
theorem dX12_directive_63 : decode cX12_directive 63 = .ok (.bipush 100, 2) := by decide +kernel
theorem dX12_directive_65 : decode cX12_directive 65 = .ok (.if_icmp .ne 7, 3) := by decide +kernel
theorem dX12_directive_68 : decode cX12_directive 68 = .ok (.iconst 1, 1) := by decide +kernel
theorem dX12_directive_69 : decode cX12_directive 69 = .ok (.goto 4, 3) := by decide +kernel
theorem dX12_directive_72 : decode cX12_directive 72 = .ok (.iconst 2, 1) := by decide +kernel
theorem dX12_directive_73 : decode cX12_directive 73 = .ok (.iadd, 1) := by decide +kernel
theorem dX12_directive_74 : decode cX12_directive 74 = .ok (.putfield 156, 3) := by decide +kernel
theorem dX12_directive_77 : decode cX12_directive 77 = .ok (.goto 138, 3) := by decide +kernel
theorem dX12_directive_80 : decode cX12_directive 80 = .ok (.aload_n 0, 1) := by decide +kernel
theorem dX12_directive_81 : decode cX12_directive 81 = .ok (.iload_n 1, 1) := by decide +kernel
theorem dX12_directive_82 : decode cX12_directive 82 = .ok (.iload_n 2, 1) := by decide +kernel
theorem dX12_directive_83 : decode cX12_directive 83 = .ok (.ldc2_w 184, 3) := by decide +kernel
theorem dX12_directive_86 : decode cX12_directive 86 = .ok (.invokevirtual 174, 3) := by decide +kernel
theorem dX12_directive_89 : decode cX12_directive 89 = .ok (.ifCond .eq 15, 3) := by decide +kernel
theorem dX12_directive_92 : decode cX12_directive 92 = .ok (.aload_n 0, 1) := by decide +kernel
theorem dX12_directive_93 : decode cX12_directive 93 = .ok (.iconst 4, 1) := by decide +kernel
theorem dX12_directive_94 : decode cX12_directive 94 = .ok (.putfield 156, 3) := by decide +kernel
theorem dX12_directive_97 : decode cX12_directive 97 = .ok (.aload_n 0, 1) := by decide +kernel
theorem dX12_directive_98 : decode cX12_directive 98 = .ok (.invokevirtual 171, 3) := by decide +kernel
theorem dX12_directive_101 : decode cX12_directive 101 = .ok (.goto 114, 3) := by decide +kernel
theorem dX12_directive_104 : decode cX12_directive 104 = .ok (.aload_n 0, 1) := by decide +kernel
theorem dX12_directive_105 : decode cX12_directive 105 = .ok (.iload_n 1, 1) := by decide +kernel
theorem dX12_directive_106 : decode cX12_directive 106 = .ok (.iload_n 2, 1) := by decide +kernel
theorem dX12_directive_107 : decode cX12_directive 107 = .ok (.ldc2_w 186, 3) := by decide +kernel
theorem dX12_directive_110 : decode cX12_directive 110 = .ok (.invokevirtual 174, 3) := by decide +kernel
theorem dX12_directive_113 : decode cX12_directive 113 = .ok (.ifCond .eq 10, 3) := by decide +kernel
theorem dX12_directive_116 : decode cX12_directive 116 = .ok (.aload_n 0, 1) := by decide +kernel
theorem dX12_directive_117 : decode cX12_directive 117 = .ok (.invokevirtual 188, 3) := by decide +kernel
theorem dX12_directive_120 : decode cX12_directive 120 = .ok (.goto 95, 3) := by decide +kernel
theorem dX12_directive_123 : decode cX12_directive 123 = .ok (.aload_n 0, 1) := by decide +kernel
theorem dX12_directive_124 : decode cX12_directive 124 = .ok (.iload_n 1, 1) := by decide +kernel
theorem dX12_directive_125 : decode cX12_directive 125 = .ok (.iload_n 2, 1) := by decide +kernel
theorem dX12_directive_126 : decode cX12_directive 126 = .ok (.ldc2_w 191, 3) := by decide +kernel
theorem dX12_directive_129 : decode cX12_directive 129 = .ok (.invokevirtual 174, 3) := by decide +kernel
theorem dX12_directive_132 : decode cX12_directive 132 = .ok (.ifCond .eq 26, 3) := by decide +kernel
theorem dX12_directive_135 : decode cX12_directive 135 = .ok (.aload_n 0, 1) := by decide +kernel
theorem dX12_directive_136 : decode cX12_directive 136 = .ok (.bipush 7, 2) := by decide +kernel
theorem dX12_directive_138 : decode cX12_directive 138 = .ok (.putfield 156, 3) := by decide +kernel
theorem dX12_directive_141 : decode cX12_directive 141 = .ok (.aload_n 0, 1) := by decide +kernel
theorem dX12_directive_142 : decode cX12_directive 142 = .ok (.aload_n 0, 1) := by decide +kernel
theorem dX12_directive_143 : decode cX12_directive 143 = .ok (.bipush (-128), 2) := by decide +kernel
theorem dX12_directive_145 : decode cX12_directive 145 = .ok (.sipush 255, 3) := by decide +kernel
theorem dX12_directive_148 : decode cX12_directive 148 = .ok (.iconst 1, 1) := by decide +kernel
theorem dX12_directive_149 : decode cX12_directive 149 = .ok (.invokevirtual 152, 3) := by decide +kernel
theorem dX12_directive_152 : decode cX12_directive 152 = .ok (.putfield 193, 3) := by decide +kernel
theorem dX12_directive_155 : decode cX12_directive 155 = .ok (.goto 60, 3) := by decide +kernel
theorem dX12_directive_158 : decode cX12_directive 158 = .ok (.aload_n 0, 1) := by decide +kernel
theorem dX12_directive_159 : decode cX12_directive 159 = .ok (.iload_n 1, 1) := by decide +kernel
theorem dX12_directive_160 : decode cX12_directive 160 = .ok (.iload_n 2, 1) := by decide +kernel
theorem dX12_directive_161 : decode cX12_directive 161 = .ok (.ldc2_w 196, 3) := by decide +kernel
theorem dX12_directive_164 : decode cX12_directive 164 = .ok (.invokevirtual 174, 3) := by decide +kernel
theorem dX12_directive_167 : decode cX12_directive 167 = .ok (.ifCond .eq 25, 3) := by decide +kernel
theorem dX12_directive_170 : decode cX12_directive 170 = .ok (.aload_n 0, 1) := by decide +kernel
theorem dX12_directive_171 : decode cX12_directive 171 = .ok (.bipush 8, 2) := by decide +kernel
theorem dX12_directive_173 : decode cX12_directive 173 = .ok (.putfield 156, 3) := by decide +kernel
theorem dX12_directive_176 : decode cX12_directive 176 = .ok (.aload_n 0, 1) := by decide +kernel
theorem dX12_directive_177 : decode cX12_directive 177 = .ok (.aload_n 0, 1) := by decide +kernel
theorem dX12_directive_178 : decode cX12_directive 178 = .ok (.iconst 0, 1) := by decide +kernel
theorem dX12_directive_179 : decode cX12_directive 179 = .ok (.sipush 512, 3) := by decide +kernel
theorem dX12_directive_182 : decode cX12_directive 182 = .ok (.iconst 1, 1) := by decide +kernel
theorem dX12_directive_183 : decode cX12_directive 183 = .ok (.invokevirtual 152, 3) := by decide +kernel
theorem dX12_directive_186 : decode cX12_directive 186 = .ok (.putfield 193, 3) := by decide +kernel
theorem dX12_directive_189 : decode cX12_directive 189 = .ok (.goto 26, 3) := by decide +kernel
theorem dX12_directive_192 : decode cX12_directive 192 = .ok (.aload_n 0, 1) := by decide +kernel
theorem dX12_directive_193 : decode cX12_directive 193 = .ok (.iload_n 1, 1) := by decide +kernel
theorem dX12_directive_194 : decode cX12_directive 194 = .ok (.iload_n 2, 1) := by decide +kernel
theorem dX12_directive_195 : decode cX12_directive 195 = .ok (.ldc2_w 198, 3) := by decide +kernel
theorem dX12_directive_198 : decode cX12_directive 198 = .ok (.invokevirtual 174, 3) := by decide +kernel
theorem dX12_directive_201 : decode cX12_directive 201 = .ok (.ifCond .eq 12, 3) := by decide +kernel
theorem dX12_directive_204 : decode cX12_directive 204 = .ok (.aload_n 0, 1) := by decide +kernel
theorem dX12_directive_205 : decode cX12_directive 205 = .ok (.bipush 9, 2) := by decide +kernel
theorem dX12_directive_207 : decode cX12_directive 207 = .ok (.putfield 156, 3) := by decide +kernel
theorem dX12_directive_210 : decode cX12_directive 210 = .ok (.goto 5, 3) := by decide +kernel
theorem dX12_directive_213 : decode cX12_directive 213 = .ok (.iconst 0, 1) := by decide +kernel
theorem dX12_directive_214 : decode cX12_directive 214 = .ok (.ireturn, 1) := by decide +kernel
theorem dX12_directive_215 : decode cX12_directive 215 = .ok (.iconst 1, 1) := by decide +kernel
theorem dX12_directive_216 : decode cX12_directive 216 = .ok (.ireturn, 1) := by decide +kernel
theorem dX12_word_0 : decode cX12_word 0 = .ok (.aload_n 0, 1) := by decide +kernel
theorem dX12_word_1 : decode cX12_word 1 = .ok (.invokevirtual 116, 3) := by decide +kernel
theorem dX12_word_4 : decode cX12_word 4 = .ok (.istore_n 1, 1) := by decide +kernel
theorem dX12_word_5 : decode cX12_word 5 = .ok (.iload_n 1, 1) := by decide +kernel
theorem dX12_word_6 : decode cX12_word 6 = .ok (.bipush 45, 2) := by decide +kernel
theorem dX12_word_8 : decode cX12_word 8 = .ok (.if_icmp .eq 10, 3) := by decide +kernel
theorem dX12_word_11 : decode cX12_word 11 = .ok (.iload_n 1, 1) := by decide +kernel
theorem dX12_word_12 : decode cX12_word 12 = .ok (.invokestatic 113, 3) := by decide +kernel
theorem dX12_word_15 : decode cX12_word 15 = .ok (.ifCond .eq 24, 3) := by decide +kernel
theorem dX12_word_18 : decode cX12_word 18 = .ok (.aload_n 0, 1) := by decide +kernel
theorem dX12_word_19 : decode cX12_word 19 = .ok (.iconst 5, 1) := by decide +kernel
theorem dX12_word_20 : decode cX12_word 20 = .ok (.putfield 156, 3) := by decide +kernel
theorem dX12_word_23 : decode cX12_word 23 = .ok (.aload_n 0, 1) := by decide +kernel
theorem dX12_word_24 : decode cX12_word 24 = .ok (.aload_n 0, 1) := by decide +kernel
theorem dX12_word_25 : decode cX12_word 25 = .ok (.sipush (-9999), 3) := by decide +kernel
theorem dX12_word_28 : decode cX12_word 28 = .ok (.sipush 9999, 3) := by decide +kernel
theorem dX12_word_31 : decode cX12_word 31 = .ok (.iconst 1, 1) := by decide +kernel
theorem dX12_word_32 : decode cX12_word 32 = .ok (.invokevirtual 152, 3) := by decide +kernel
theorem dX12_word_35 : decode cX12_word 35 = .ok (.putfield 193, 3) := by decide +kernel
theorem dX12_word_38 : decode cX12_word 38 = .ok (.return_, 1) := by decide +kernel
theorem dX12_word_39 : decode cX12_word 39 = .ok (.aload_n 0, 1) := by decide +kernel
theorem dX12_word_40 : decode cX12_word 40 = .ok (.bipush 6, 2) := by decide +kernel
theorem dX12_word_42 : decode cX12_word 42 = .ok (.putfield 156, 3) := by decide +kernel
theorem dX12_word_45 : decode cX12_word 45 = .ok (.aload_n 0, 1) := by decide +kernel
theorem dX12_word_46 : decode cX12_word 46 = .ok (.iconst 0, 1) := by decide +kernel
theorem dX12_word_47 : decode cX12_word 47 = .ok (.putfield 193, 3) := by decide +kernel
theorem dX12_word_50 : decode cX12_word 50 = .ok (.aload_n 0, 1) := by decide +kernel
theorem dX12_word_51 : decode cX12_word 51 = .ok (.invokevirtual 171, 3) := by decide +kernel
theorem dX12_word_54 : decode cX12_word 54 = .ok (.aload_n 0, 1) := by decide +kernel
theorem dX12_word_55 : decode cX12_word 55 = .ok (.bipush 43, 2) := by decide +kernel
theorem dX12_word_57 : decode cX12_word 57 = .ok (.invokevirtual 120, 3) := by decide +kernel
theorem dX12_word_60 : decode cX12_word 60 = .ok (.ifCond .eq 14, 3) := by decide +kernel
theorem dX12_word_63 : decode cX12_word 63 = .ok (.aload_n 0, 1) := by decide +kernel
theorem dX12_word_64 : decode cX12_word 64 = .ok (.aload_n 0, 1) := by decide +kernel
theorem dX12_word_65 : decode cX12_word 65 = .ok (.invokevirtual 135, 3) := by decide +kernel
theorem dX12_word_68 : decode cX12_word 68 = .ok (.putfield 193, 3) := by decide +kernel
theorem dX12_word_71 : decode cX12_word 71 = .ok (.goto 21, 3) := by decide +kernel
theorem dX12_word_74 : decode cX12_word 74 = .ok (.aload_n 0, 1) := by decide +kernel
theorem dX12_word_75 : decode cX12_word 75 = .ok (.bipush 45, 2) := by decide +kernel
theorem dX12_word_77 : decode cX12_word 77 = .ok (.invokevirtual 120, 3) := by decide +kernel
theorem dX12_word_80 : decode cX12_word 80 = .ok (.ifCond .eq 12, 3) := by decide +kernel
theorem dX12_word_83 : decode cX12_word 83 = .ok (.aload_n 0, 1) := by decide +kernel
theorem dX12_word_84 : decode cX12_word 84 = .ok (.aload_n 0, 1) := by decide +kernel
theorem dX12_word_85 : decode cX12_word 85 = .ok (.invokevirtual 135, 3) := by decide +kernel
theorem dX12_word_88 : decode cX12_word 88 = .ok (.ineg, 1) := by decide +kernel
theorem dX12_word_89 : decode cX12_word 89 = .ok (.putfield 193, 3) := by decide +kernel
theorem dX12_word_92 : decode cX12_word 92 = .ok (.return_, 1) := by decide +kernel
theorem dX12_simple_0 : decode cX12_simple 0 = .ok (.aload_n 0, 1) := by decide +kernel
theorem dX12_simple_1 : decode cX12_simple 1 = .ok (.iload_n 1, 1) := by decide +kernel
theorem dX12_simple_2 : decode cX12_simple 2 = .ok (.iload_n 2, 1) := by decide +kernel
theorem dX12_simple_3 : decode cX12_simple 3 = .ok (.ldc2_w 200, 3) := by decide +kernel
theorem dX12_simple_6 : decode cX12_simple 6 = .ok (.invokevirtual 174, 3) := by decide +kernel
theorem dX12_simple_9 : decode cX12_simple 9 = .ok (.ifCond .eq 12, 3) := by decide +kernel
theorem dX12_simple_12 : decode cX12_simple 12 = .ok (.aload_n 0, 1) := by decide +kernel
theorem dX12_simple_13 : decode cX12_simple 13 = .ok (.ldc 202, 2) := by decide +kernel
theorem dX12_simple_15 : decode cX12_simple 15 = .ok (.invokevirtual 165, 3) := by decide +kernel
theorem dX12_simple_18 : decode cX12_simple 18 = .ok (.goto 191, 3) := by decide +kernel
theorem dX12_simple_21 : decode cX12_simple 21 = .ok (.aload_n 0, 1) := by decide +kernel
theorem dX12_simple_22 : decode cX12_simple 22 = .ok (.iload_n 1, 1) := by decide +kernel
theorem dX12_simple_23 : decode cX12_simple 23 = .ok (.iload_n 2, 1) := by decide +kernel
theorem dX12_simple_24 : decode cX12_simple 24 = .ok (.ldc2_w 203, 3) := by decide +kernel
theorem dX12_simple_27 : decode cX12_simple 27 = .ok (.invokevirtual 174, 3) := by decide +kernel
theorem dX12_simple_30 : decode cX12_simple 30 = .ok (.ifCond .eq 14, 3) := by decide +kernel
theorem dX12_simple_33 : decode cX12_simple 33 = .ok (.aload_n 0, 1) := by decide +kernel
theorem dX12_simple_34 : decode cX12_simple 34 = .ok (.sipush 8192, 3) := by decide +kernel
theorem dX12_simple_37 : decode cX12_simple 37 = .ok (.iconst (-1), 1) := by decide +kernel
theorem dX12_simple_38 : decode cX12_simple 38 = .ok (.invokevirtual 205, 3) := by decide +kernel
theorem dX12_simple_41 : decode cX12_simple 41 = .ok (.goto 168, 3) := by decide +kernel
theorem dX12_simple_44 : decode cX12_simple 44 = .ok (.aload_n 0, 1) := by decide +kernel
theorem dX12_simple_45 : decode cX12_simple 45 = .ok (.iload_n 1, 1) := by decide +kernel
theorem dX12_simple_46 : decode cX12_simple 46 = .ok (.iload_n 2, 1) := by decide +kernel
theorem dX12_simple_47 : decode cX12_simple 47 = .ok (.ldc2_w 208, 3) := by decide +kernel
theorem dX12_simple_50 : decode cX12_simple 50 = .ok (.invokevirtual 174, 3) := by decide +kernel
theorem dX12_simple_53 : decode cX12_simple 53 = .ok (.ifCond .eq 15, 3) := by decide +kernel
theorem dX12_simple_56 : decode cX12_simple 56 = .ok (.aload_n 0, 1) := by decide +kernel
theorem dX12_simple_57 : decode cX12_simple 57 = .ok (.sipush 10240, 3) := by decide +kernel
theorem dX12_simple_60 : decode cX12_simple 60 = .ok (.bipush 10, 2) := by decide +kernel
theorem dX12_simple_62 : decode cX12_simple 62 = .ok (.invokevirtual 205, 3) := by decide +kernel
theorem dX12_simple_65 : decode cX12_simple 65 = .ok (.goto 144, 3) := by decide +kernel
theorem dX12_simple_68 : decode cX12_simple 68 = .ok (.aload_n 0, 1) := by decide +kernel
theorem dX12_simple_69 : decode cX12_simple 69 = .ok (.iload_n 1, 1) := by decide +kernel
theorem dX12_simple_70 : decode cX12_simple 70 = .ok (.iload_n 2, 1) := by decide +kernel
theorem dX12_simple_71 : decode cX12_simple 71 = .ok (.ldc2_w 210, 3) := by decide +kernel
theorem dX12_simple_74 : decode cX12_simple 74 = .ok (.invokevirtual 174, 3) := by decide +kernel
theorem dX12_simple_77 : decode cX12_simple 77 = .ok (.ifCond .eq 16, 3) := by decide +kernel
theorem dX12_simple_80 : decode cX12_simple 80 = .ok (.aload_n 0, 1) := by decide +kernel
theorem dX12_simple_81 : decode cX12_simple 81 = .ok (.sipush 12288, 3) := by decide +kernel
theorem dX12_simple_84 : decode cX12_simple 84 = .ok (.sipush 6144, 3) := by decide +kernel
theorem dX12_simple_87 : decode cX12_simple 87 = .ok (.invokevirtual 212, 3) := by decide +kernel
theorem dX12_simple_90 : decode cX12_simple 90 = .ok (.goto 119, 3) := by decide +kernel
theorem dX12_simple_93 : decode cX12_simple 93 = .ok (.aload_n 0, 1) := by decide +kernel
theorem dX12_simple_94 : decode cX12_simple 94 = .ok (.iload_n 1, 1) := by decide +kernel
theorem dX12_simple_95 : decode cX12_simple 95 = .ok (.iload_n 2, 1) := by decide +kernel
theorem dX12_simple_96 : decode cX12_simple 96 = .ok (.ldc2_w 215, 3) := by decide +kernel
theorem dX12_simple_99 : decode cX12_simple 99 = .ok (.invokevirtual 174, 3) := by decide +kernel
theorem dX12_simple_102 : decode cX12_simple 102 = .ok (.ifCond .eq 16, 3) := by decide +kernel
theorem dX12_simple_105 : decode cX12_simple 105 = .ok (.aload_n 0, 1) := by decide +kernel
theorem dX12_simple_106 : decode cX12_simple 106 = .ok (.sipush 14336, 3) := by decide +kernel
theorem dX12_simple_109 : decode cX12_simple 109 = .ok (.sipush 6656, 3) := by decide +kernel
theorem dX12_simple_112 : decode cX12_simple 112 = .ok (.invokevirtual 212, 3) := by decide +kernel
theorem dX12_simple_115 : decode cX12_simple 115 = .ok (.goto 94, 3) := by decide +kernel
theorem dX12_simple_118 : decode cX12_simple 118 = .ok (.aload_n 0, 1) := by decide +kernel
theorem dX12_simple_119 : decode cX12_simple 119 = .ok (.iload_n 1, 1) := by decide +kernel
theorem dX12_simple_120 : decode cX12_simple 120 = .ok (.iload_n 2, 1) := by decide +kernel
theorem dX12_simple_121 : decode cX12_simple 121 = .ok (.ldc2_w 217, 3) := by decide +kernel
theorem dX12_simple_124 : decode cX12_simple 124 = .ok (.invokevirtual 174, 3) := by decide +kernel
theorem dX12_simple_127 : decode cX12_simple 127 = .ok (.ifCond .eq 14, 3) := by decide +kernel
theorem dX12_simple_130 : decode cX12_simple 130 = .ok (.aload_n 0, 1) := by decide +kernel
theorem dX12_simple_131 : decode cX12_simple 131 = .ok (.iconst 0, 1) := by decide +kernel
theorem dX12_simple_132 : decode cX12_simple 132 = .ok (.iconst 0, 1) := by decide +kernel
theorem dX12_simple_133 : decode cX12_simple 133 = .ok (.bipush 31, 2) := by decide +kernel
theorem dX12_simple_135 : decode cX12_simple 135 = .ok (.invokevirtual 219, 3) := by decide +kernel
theorem dX12_simple_138 : decode cX12_simple 138 = .ok (.goto 71, 3) := by decide +kernel
theorem dX12_simple_141 : decode cX12_simple 141 = .ok (.aload_n 0, 1) := by decide +kernel
theorem dX12_simple_142 : decode cX12_simple 142 = .ok (.iload_n 1, 1) := by decide +kernel
theorem dX12_simple_143 : decode cX12_simple 143 = .ok (.iload_n 2, 1) := by decide +kernel
theorem dX12_simple_144 : decode cX12_simple 144 = .ok (.ldc2_w 223, 3) := by decide +kernel
theorem dX12_simple_147 : decode cX12_simple 147 = .ok (.invokevirtual 174, 3) := by decide +kernel
theorem dX12_simple_150 : decode cX12_simple 150 = .ok (.ifCond .eq 16, 3) := by decide +kernel
theorem dX12_simple_153 : decode cX12_simple 153 = .ok (.aload_n 0, 1) := by decide +kernel
theorem dX12_simple_154 : decode cX12_simple 154 = .ok (.sipush 2048, 3) := by decide +kernel
theorem dX12_simple_157 : decode cX12_simple 157 = .ok (.iconst 1, 1) := by decide +kernel
theorem dX12_simple_158 : decode cX12_simple 158 = .ok (.bipush 32, 2) := by decide +kernel
theorem dX12_simple_160 : decode cX12_simple 160 = .ok (.invokevirtual 219, 3) := by decide +kernel
theorem dX12_simple_163 : decode cX12_simple 163 = .ok (.goto 46, 3) := by decide +kernel
theorem dX12_simple_166 : decode cX12_simple 166 = .ok (.aload_n 0, 1) := by decide +kernel
theorem dX12_simple_167 : decode cX12_simple 167 = .ok (.iload_n 1, 1) := by decide +kernel
theorem dX12_simple_168 : decode cX12_simple 168 = .ok (.iload_n 2, 1) := by decide +kernel
theorem dX12_simple_169 : decode cX12_simple 169 = .ok (.ldc2_w 225, 3) := by decide +kernel
theorem dX12_simple_172 : decode cX12_simple 172 = .ok (.invokevirtual 174, 3) := by decide +kernel
theorem dX12_simple_175 : decode cX12_simple 175 = .ok (.ifCond .eq 16, 3) := by decide +kernel
theorem dX12_simple_178 : decode cX12_simple 178 = .ok (.aload_n 0, 1) := by decide +kernel
theorem dX12_simple_179 : decode cX12_simple 179 = .ok (.sipush 4096, 3) := by decide +kernel
theorem dX12_simple_182 : decode cX12_simple 182 = .ok (.iconst 1, 1) := by decide +kernel
theorem dX12_simple_183 : decode cX12_simple 183 = .ok (.bipush 32, 2) := by decide +kernel
theorem dX12_simple_185 : decode cX12_simple 185 = .ok (.invokevirtual 219, 3) := by decide +kernel
theorem dX12_simple_188 : decode cX12_simple 188 = .ok (.goto 21, 3) := by decide +kernel
theorem dX12_simple_191 : decode cX12_simple 191 = .ok (.aload_n 0, 1) := by decide +kernel
theorem dX12_simple_192 : decode cX12_simple 192 = .ok (.iload_n 1, 1) := by decide +kernel
theorem dX12_simple_193 : decode cX12_simple 193 = .ok (.iload_n 2, 1) := by decide +kernel
theorem dX12_simple_194 : decode cX12_simple 194 = .ok (.invokevirtual 227, 3) := by decide +kernel
theorem dX12_simple_197 : decode cX12_simple 197 = .ok (.istore_n 3, 1) := by decide +kernel
theorem dX12_simple_198 : decode cX12_simple 198 = .ok (.iload_n 3, 1) := by decide +kernel
theorem dX12_simple_199 : decode cX12_simple 199 = .ok (.ifCond .ge 5, 3) := by decide +kernel
theorem dX12_simple_202 : decode cX12_simple 202 = .ok (.iconst 0, 1) := by decide +kernel
theorem dX12_simple_203 : decode cX12_simple 203 = .ok (.ireturn, 1) := by decide +kernel
theorem dX12_simple_204 : decode cX12_simple 204 = .ok (.aload_n 0, 1) := by decide +kernel
theorem dX12_simple_205 : decode cX12_simple 205 = .ok (.iload_n 3, 1) := by decide +kernel
theorem dX12_simple_206 : decode cX12_simple 206 = .ok (.invokevirtual 231, 3) := by decide +kernel
theorem dX12_simple_209 : decode cX12_simple 209 = .ok (.iconst 1, 1) := by decide +kernel
theorem dX12_simple_210 : decode cX12_simple 210 = .ok (.ireturn, 1) := by decide +kernel
theorem dX12_pairOf_0 : decode cX12_pairOf 0 = .ok (.aload_n 0, 1) := by decide +kernel
theorem dX12_pairOf_1 : decode cX12_pairOf 1 = .ok (.iload_n 1, 1) := by decide +kernel
theorem dX12_pairOf_2 : decode cX12_pairOf 2 = .ok (.iload_n 2, 1) := by decide +kernel
theorem dX12_pairOf_3 : decode cX12_pairOf 3 = .ok (.ldc2_w 234, 3) := by decide +kernel
theorem dX12_pairOf_6 : decode cX12_pairOf 6 = .ok (.invokevirtual 174, 3) := by decide +kernel
theorem dX12_pairOf_9 : decode cX12_pairOf 9 = .ok (.ifCond .eq 7, 3) := by decide +kernel
theorem dX12_pairOf_12 : decode cX12_pairOf 12 = .ok (.iconst 0, 1) := by decide +kernel
theorem dX12_pairOf_13 : decode cX12_pairOf 13 = .ok (.goto 155, 3) := by decide +kernel
theorem dX12_pairOf_16 : decode cX12_pairOf 16 = .ok (.aload_n 0, 1) := by decide +kernel
theorem dX12_pairOf_17 : decode cX12_pairOf 17 = .ok (.iload_n 1, 1) := by decide +kernel
theorem dX12_pairOf_18 : decode cX12_pairOf 18 = .ok (.iload_n 2, 1) := by decide +kernel
theorem dX12_pairOf_19 : decode cX12_pairOf 19 = .ok (.ldc2_w 236, 3) := by decide +kernel
theorem dX12_pairOf_22 : decode cX12_pairOf 22 = .ok (.invokevirtual 174, 3) := by decide +kernel
theorem dX12_pairOf_25 : decode cX12_pairOf 25 = .ok (.ifCond .eq 7, 3) := by decide +kernel
theorem dX12_pairOf_28 : decode cX12_pairOf 28 = .ok (.iconst 1, 1) := by decide +kernel
theorem dX12_pairOf_29 : decode cX12_pairOf 29 = .ok (.goto 139, 3) := by decide +kernel
theorem dX12_pairOf_32 : decode cX12_pairOf 32 = .ok (.aload_n 0, 1) := by decide +kernel
theorem dX12_pairOf_33 : decode cX12_pairOf 33 = .ok (.iload_n 1, 1) := by decide +kernel
theorem dX12_pairOf_34 : decode cX12_pairOf 34 = .ok (.iload_n 2, 1) := by decide +kernel
theorem dX12_pairOf_35 : decode cX12_pairOf 35 = .ok (.ldc2_w 238, 3) := by decide +kernel
theorem dX12_pairOf_38 : decode cX12_pairOf 38 = .ok (.invokevirtual 174, 3) := by decide +kernel
theorem dX12_pairOf_41 : decode cX12_pairOf 41 = .ok (.ifCond .eq 7, 3) := by decide +kernel
theorem dX12_pairOf_44 : decode cX12_pairOf 44 = .ok (.iconst 5, 1) := by decide +kernel
theorem dX12_pairOf_45 : decode cX12_pairOf 45 = .ok (.goto 123, 3) := by decide +kernel
theorem dX12_pairOf_48 : decode cX12_pairOf 48 = .ok (.aload_n 0, 1) := by decide +kernel
theorem dX12_pairOf_49 : decode cX12_pairOf 49 = .ok (.iload_n 1, 1) := by decide +kernel
theorem dX12_pairOf_50 : decode cX12_pairOf 50 = .ok (.iload_n 2, 1) := by decide +kernel
theorem dX12_pairOf_51 : decode cX12_pairOf 51 = .ok (.ldc2_w 240, 3) := by decide +kernel
theorem dX12_pairOf_54 : decode cX12_pairOf 54 = .ok (.invokevirtual 174, 3) := by decide +kernel
theorem dX12_pairOf_57 : decode cX12_pairOf 57 = .ok (.ifCond .eq 8, 3) := by decide +kernel
theorem dX12_pairOf_60 : decode cX12_pairOf 60 = .ok (.bipush 6, 2) := by decide +kernel
theorem dX12_pairOf_62 : decode cX12_pairOf 62 = .ok (.goto 106, 3) := by decide +kernel
theorem dX12_pairOf_65 : decode cX12_pairOf 65 = .ok (.aload_n 0, 1) := by decide +kernel
theorem dX12_pairOf_66 : decode cX12_pairOf 66 = .ok (.iload_n 1, 1) := by decide +kernel
theorem dX12_pairOf_67 : decode cX12_pairOf 67 = .ok (.iload_n 2, 1) := by decide +kernel
theorem dX12_pairOf_68 : decode cX12_pairOf 68 = .ok (.ldc2_w 242, 3) := by decide +kernel
theorem dX12_pairOf_71 : decode cX12_pairOf 71 = .ok (.invokevirtual 174, 3) := by decide +kernel
theorem dX12_pairOf_74 : decode cX12_pairOf 74 = .ok (.ifCond .eq 8, 3) := by decide +kernel
theorem dX12_pairOf_77 : decode cX12_pairOf 77 = .ok (.bipush 8, 2) := by decide +kernel
theorem dX12_pairOf_79 : decode cX12_pairOf 79 = .ok (.goto 89, 3) := by decide +kernel
theorem dX12_pairOf_82 : decode cX12_pairOf 82 = .ok (.aload_n 0, 1) := by decide +kernel
theorem dX12_pairOf_83 : decode cX12_pairOf 83 = .ok (.iload_n 1, 1) := by decide +kernel
theorem dX12_pairOf_84 : decode cX12_pairOf 84 = .ok (.iload_n 2, 1) := by decide +kernel
theorem dX12_pairOf_85 : decode cX12_pairOf 85 = .ok (.ldc2_w 244, 3) := by decide +kernel
theorem dX12_pairOf_88 : decode cX12_pairOf 88 = .ok (.invokevirtual 174, 3) := by decide +kernel
theorem dX12_pairOf_91 : decode cX12_pairOf 91 = .ok (.ifCond .eq 8, 3) := by decide +kernel
theorem dX12_pairOf_94 : decode cX12_pairOf 94 = .ok (.bipush 9, 2) := by decide +kernel
theorem dX12_pairOf_96 : decode cX12_pairOf 96 = .ok (.goto 72, 3) := by decide +kernel
theorem dX12_pairOf_99 : decode cX12_pairOf 99 = .ok (.aload_n 0, 1) := by decide +kernel
theorem dX12_pairOf_100 : decode cX12_pairOf 100 = .ok (.iload_n 1, 1) := by decide +kernel
theorem dX12_pairOf_101 : decode cX12_pairOf 101 = .ok (.iload_n 2, 1) := by decide +kernel
theorem dX12_pairOf_102 : decode cX12_pairOf 102 = .ok (.ldc2_w 246, 3) := by decide +kernel
theorem dX12_pairOf_105 : decode cX12_pairOf 105 = .ok (.invokevirtual 174, 3) := by decide +kernel
theorem dX12_pairOf_108 : decode cX12_pairOf 108 = .ok (.ifCond .eq 8, 3) := by decide +kernel
theorem dX12_pairOf_111 : decode cX12_pairOf 111 = .ok (.bipush 12, 2) := by decide +kernel
theorem dX12_pairOf_113 : decode cX12_pairOf 113 = .ok (.goto 55, 3) := by decide +kernel
theorem dX12_pairOf_116 : decode cX12_pairOf 116 = .ok (.aload_n 0, 1) := by decide +kernel
theorem dX12_pairOf_117 : decode cX12_pairOf 117 = .ok (.iload_n 1, 1) := by decide +kernel
theorem dX12_pairOf_118 : decode cX12_pairOf 118 = .ok (.iload_n 2, 1) := by decide +kernel
theorem dX12_pairOf_119 : decode cX12_pairOf 119 = .ok (.ldc2_w 248, 3) := by decide +kernel
theorem dX12_pairOf_122 : decode cX12_pairOf 122 = .ok (.invokevirtual 174, 3) := by decide +kernel
theorem dX12_pairOf_125 : decode cX12_pairOf 125 = .ok (.ifCond .eq 8, 3) := by decide +kernel
theorem dX12_pairOf_128 : decode cX12_pairOf 128 = .ok (.bipush 13, 2) := by decide +kernel
theorem dX12_pairOf_130 : decode cX12_pairOf 130 = .ok (.goto 38, 3) := by decide +kernel
theorem dX12_pairOf_133 : decode cX12_pairOf 133 = .ok (.aload_n 0, 1) := by decide +kernel
theorem dX12_pairOf_134 : decode cX12_pairOf 134 = .ok (.iload_n 1, 1) := by decide +kernel
theorem dX12_pairOf_135 : decode cX12_pairOf 135 = .ok (.iload_n 2, 1) := by decide +kernel
theorem dX12_pairOf_136 : decode cX12_pairOf 136 = .ok (.ldc2_w 250, 3) := by decide +kernel
theorem dX12_pairOf_139 : decode cX12_pairOf 139 = .ok (.invokevirtual 174, 3) := by decide +kernel
theorem dX12_pairOf_142 : decode cX12_pairOf 142 = .ok (.ifCond .eq 8, 3) := by decide +kernel
theorem dX12_pairOf_145 : decode cX12_pairOf 145 = .ok (.bipush 14, 2) := by decide +kernel
theorem dX12_pairOf_147 : decode cX12_pairOf 147 = .ok (.goto 21, 3) := by decide +kernel
theorem dX12_pairOf_150 : decode cX12_pairOf 150 = .ok (.aload_n 0, 1) := by decide +kernel
theorem dX12_pairOf_151 : decode cX12_pairOf 151 = .ok (.iload_n 1, 1) := by decide +kernel
theorem dX12_pairOf_152 : decode cX12_pairOf 152 = .ok (.iload_n 2, 1) := by decide +kernel
theorem dX12_pairOf_153 : decode cX12_pairOf 153 = .ok (.ldc2_w 252, 3) := by decide +kernel
theorem dX12_pairOf_156 : decode cX12_pairOf 156 = .ok (.invokevirtual 174, 3) := by decide +kernel
theorem dX12_pairOf_159 : decode cX12_pairOf 159 = .ok (.ifCond .eq 8, 3) := by decide +kernel
theorem dX12_pairOf_162 : decode cX12_pairOf 162 = .ok (.bipush 15, 2) := by decide +kernel
theorem dX12_pairOf_164 : decode cX12_pairOf 164 = .ok (.goto 4, 3) := by decide +kernel
theorem dX12_pairOf_167 : decode cX12_pairOf 167 = .ok (.iconst (-1), 1) := by decide +kernel
theorem dX12_pairOf_168 : decode cX12_pairOf 168 = .ok (.ireturn, 1) := by decide +kernel
theorem dX12_other_0 : decode cX12_other 0 = .ok (.aload_n 0, 1) := by decide +kernel
theorem dX12_other_1 : decode cX12_other 1 = .ok (.iload_n 1, 1) := by decide +kernel
theorem dX12_other_2 : decode cX12_other 2 = .ok (.iload_n 2, 1) := by decide +kernel
theorem dX12_other_3 : decode cX12_other 3 = .ok (.ldc2_w 254, 3) := by decide +kernel
theorem dX12_other_6 : decode cX12_other 6 = .ok (.invokevirtual 174, 3) := by decide +kernel
theorem dX12_other_9 : decode cX12_other 9 = .ok (.ifCond .eq 15, 3) := by decide +kernel
theorem dX12_other_12 : decode cX12_other 12 = .ok (.aload_n 0, 1) := by decide +kernel
theorem dX12_other_13 : decode cX12_other 13 = .ok (.sipush 26624, 3) := by decide +kernel
theorem dX12_other_16 : decode cX12_other 16 = .ok (.iconst 4, 1) := by decide +kernel
theorem dX12_other_17 : decode cX12_other 17 = .ok (.iconst 1, 1) := by decide +kernel
theorem dX12_other_18 : decode cX12_other 18 = .ok (.invokevirtual 256, 3) := by decide +kernel
theorem dX12_other_21 : decode cX12_other 21 = .ok (.goto 300, 3) := by decide +kernel
theorem dX12_other_24 : decode cX12_other 24 = .ok (.aload_n 0, 1) := by decide +kernel
theorem dX12_other_25 : decode cX12_other 25 = .ok (.iload_n 1, 1) := by decide +kernel
theorem dX12_other_26 : decode cX12_other 26 = .ok (.iload_n 2, 1) := by decide +kernel
theorem dX12_other_27 : decode cX12_other 27 = .ok (.ldc2_w 260, 3) := by decide +kernel
theorem dX12_other_30 : decode cX12_other 30 = .ok (.invokevirtual 174, 3) := by decide +kernel
theorem dX12_other_33 : decode cX12_other 33 = .ok (.ifCond .eq 15, 3) := by decide +kernel
theorem dX12_other_36 : decode cX12_other 36 = .ok (.aload_n 0, 1) := by decide +kernel
theorem dX12_other_37 : decode cX12_other 37 = .ok (.sipush 24576, 3) := by decide +kernel
theorem dX12_other_40 : decode cX12_other 40 = .ok (.iconst 4, 1) := by decide +kernel
theorem dX12_other_41 : decode cX12_other 41 = .ok (.iconst 0, 1) := by decide +kernel
theorem dX12_other_42 : decode cX12_other 42 = .ok (.invokevirtual 256, 3) := by decide +kernel
theorem dX12_other_45 : decode cX12_other 45 = .ok (.goto 276, 3) := by decide +kernel
theorem dX12_other_48 : decode cX12_other 48 = .ok (.aload_n 0, 1) := by decide +kernel
theorem dX12_other_49 : decode cX12_other 49 = .ok (.iload_n 1, 1) := by decide +kernel
theorem dX12_other_50 : decode cX12_other 50 = .ok (.iload_n 2, 1) := by decide +kernel
theorem dX12_other_51 : decode cX12_other 51 = .ok (.ldc2_w 262, 3) := by decide +kernel
theorem dX12_other_54 : decode cX12_other 54 = .ok (.invokevirtual 174, 3) := by decide +kernel
theorem dX12_other_57 : decode cX12_other 57 = .ok (.ifCond .eq 15, 3) := by decide +kernel
theorem dX12_other_60 : decode cX12_other 60 = .ok (.aload_n 0, 1) := by decide +kernel
theorem dX12_other_61 : decode cX12_other 61 = .ok (.sipush 30720, 3) := by decide +kernel
theorem dX12_other_64 : decode cX12_other 64 = .ok (.iconst 1, 1) := by decide +kernel
theorem dX12_other_65 : decode cX12_other 65 = .ok (.iconst 0, 1) := by decide +kernel
theorem dX12_other_66 : decode cX12_other 66 = .ok (.invokevirtual 256, 3) := by decide +kernel
theorem dX12_other_69 : decode cX12_other 69 = .ok (.goto 252, 3) := by decide +kernel
theorem dX12_other_72 : decode cX12_other 72 = .ok (.aload_n 0, 1) := by decide +kernel
theorem dX12_other_73 : decode cX12_other 73 = .ok (.iload_n 1, 1) := by decide +kernel
theorem dX12_other_74 : decode cX12_other 74 = .ok (.iload_n 2, 1) := by decide +kernel
theorem dX12_other_75 : decode cX12_other 75 = .ok (.ldc2_w 264, 3) := by decide +kernel
theorem dX12_other_78 : decode cX12_other 78 = .ok (.invokevirtual 174, 3) := by decide +kernel
theorem dX12_other_81 : decode cX12_other 81 = .ok (.ifCond .eq 15, 3) := by decide +kernel
theorem dX12_other_84 : decode cX12_other 84 = .ok (.aload_n 0, 1) := by decide +kernel
theorem dX12_other_85 : decode cX12_other 85 = .ok (.sipush 28672, 3) := by decide +kernel
theorem dX12_other_88 : decode cX12_other 88 = .ok (.iconst 1, 1) := by decide +kernel
theorem dX12_other_89 : decode cX12_other 89 = .ok (.iconst 0, 1) := by decide +kernel
theorem dX12_other_90 : decode cX12_other 90 = .ok (.invokevirtual 256, 3) := by decide +kernel
theorem dX12_other_93 : decode cX12_other 93 = .ok (.goto 228, 3) := by decide +kernel
theorem dX12_other_96 : decode cX12_other 96 = .ok (.aload_n 0, 1) := by decide +kernel
theorem dX12_other_97 : decode cX12_other 97 = .ok (.iload_n 1, 1) := by decide +kernel
theorem dX12_other_98 : decode cX12_other 98 = .ok (.iload_n 2, 1) := by decide +kernel
theorem dX12_other_99 : decode cX12_other 99 = .ok (.ldc2_w 266, 3) := by decide +kernel
theorem dX12_other_102 : decode cX12_other 102 = .ok (.invokevirtual 174, 3) := by decide +kernel
theorem dX12_other_105 : decode cX12_other 105 = .ok (.ifCond .eq 16, 3) := by decide +kernel
theorem dX12_other_108 : decode cX12_other 108 = .ok (.aload_n 0, 1) := by decide +kernel
theorem dX12_other_109 : decode cX12_other 109 = .ok (.ldc_w 268, 3) := by decide +kernel
theorem dX12_other_112 : decode cX12_other 112 = .ok (.ldc2_w 269, 3) := by decide +kernel
theorem dX12_other_115 : decode cX12_other 115 = .ok (.invokevirtual 271, 3) := by decide +kernel
theorem dX12_other_118 : decode cX12_other 118 = .ok (.goto 203, 3) := by decide +kernel
theorem dX12_other_121 : decode cX12_other 121 = .ok (.aload_n 0, 1) := by decide +kernel
theorem dX12_other_122 : decode cX12_other 122 = .ok (.iload_n 1, 1) := by decide +kernel
theorem dX12_other_123 : decode cX12_other 123 = .ok (.iload_n 2, 1) := by decide +kernel
theorem dX12_other_124 : decode cX12_other 124 = .ok (.ldc2_w 275, 3) := by decide +kernel
theorem dX12_other_127 : decode cX12_other 127 = .ok (.invokevirtual 174, 3) := by decide +kernel
theorem dX12_other_130 : decode cX12_other 130 = .ok (.ifCond .eq 16, 3) := by decide +kernel
theorem dX12_other_133 : decode cX12_other 133 = .ok (.aload_n 0, 1) := by decide +kernel
theorem dX12_other_134 : decode cX12_other 134 = .ok (.ldc_w 277, 3) := by decide +kernel
theorem dX12_other_137 : decode cX12_other 137 = .ok (.ldc2_w 278, 3) := by decide +kernel
theorem dX12_other_140 : decode cX12_other 140 = .ok (.invokevirtual 271, 3) := by decide +kernel
theorem dX12_other_143 : decode cX12_other 143 = .ok (.goto 178, 3) := by decide +kernel
theorem dX12_other_146 : decode cX12_other 146 = .ok (.aload_n 0, 1) := by decide +kernel
theorem dX12_other_147 : decode cX12_other 147 = .ok (.iload_n 1, 1) := by decide +kernel
theorem dX12_other_148 : decode cX12_other 148 = .ok (.iload_n 2, 1) := by decide +kernel
theorem dX12_other_149 : decode cX12_other 149 = .ok (.ldc2_w 280, 3) := by decide +kernel
theorem dX12_other_152 : decode cX12_other 152 = .ok (.invokevirtual 174, 3) := by decide +kernel
theorem dX12_other_155 : decode cX12_other 155 = .ok (.ifCond .eq 15, 3) := by decide +kernel
theorem dX12_other_158 : decode cX12_other 158 = .ok (.aload_n 0, 1) := by decide +kernel
theorem dX12_other_159 : decode cX12_other 159 = .ok (.bipush 11, 2) := by decide +kernel
theorem dX12_other_161 : decode cX12_other 161 = .ok (.ldc_w 282, 3) := by decide +kernel
theorem dX12_other_164 : decode cX12_other 164 = .ok (.invokevirtual 283, 3) := by decide +kernel
theorem dX12_other_167 : decode cX12_other 167 = .ok (.goto 154, 3) := by decide +kernel
theorem dX12_other_170 : decode cX12_other 170 = .ok (.aload_n 0, 1) := by decide +kernel
theorem dX12_other_171 : decode cX12_other 171 = .ok (.iload_n 1, 1) := by decide +kernel
theorem dX12_other_172 : decode cX12_other 172 = .ok (.iload_n 2, 1) := by decide +kernel
theorem dX12_other_173 : decode cX12_other 173 = .ok (.ldc2_w 286, 3) := by decide +kernel
theorem dX12_other_176 : decode cX12_other 176 = .ok (.invokevirtual 174, 3) := by decide +kernel
theorem dX12_other_179 : decode cX12_other 179 = .ok (.ifCond .eq 13, 3) := by decide +kernel
theorem dX12_other_182 : decode cX12_other 182 = .ok (.aload_n 0, 1) := by decide +kernel
theorem dX12_other_183 : decode cX12_other 183 = .ok (.bipush 13, 2) := by decide +kernel
theorem dX12_other_185 : decode cX12_other 185 = .ok (.iconst 0, 1) := by decide +kernel
theorem dX12_other_186 : decode cX12_other 186 = .ok (.invokevirtual 283, 3) := by decide +kernel
theorem dX12_other_189 : decode cX12_other 189 = .ok (.goto 132, 3) := by decide +kernel
theorem dX12_other_192 : decode cX12_other 192 = .ok (.aload_n 0, 1) := by decide +kernel
theorem dX12_other_193 : decode cX12_other 193 = .ok (.iload_n 1, 1) := by decide +kernel
theorem dX12_other_194 : decode cX12_other 194 = .ok (.iload_n 2, 1) := by decide +kernel
theorem dX12_other_195 : decode cX12_other 195 = .ok (.ldc2_w 288, 3) := by decide +kernel
theorem dX12_other_198 : decode cX12_other 198 = .ok (.invokevirtual 174, 3) := by decide +kernel
theorem dX12_other_201 : decode cX12_other 201 = .ok (.ifCond .eq 71, 3) := by decide +kernel
theorem dX12_other_204 : decode cX12_other 204 = .ok (.aload_n 0, 1) := by decide +kernel
theorem dX12_other_205 : decode cX12_other 205 = .ok (.invokevirtual 131, 3) := by decide +kernel
theorem dX12_other_208 : decode cX12_other 208 = .ok (.istore_n 3, 1) := by decide +kernel
theorem dX12_other_209 : decode cX12_other 209 = .ok (.aload_n 0, 1) := by decide +kernel
theorem dX12_other_210 : decode cX12_other 210 = .ok (.aload_n 0, 1) := by decide +kernel
theorem dX12_other_211 : decode cX12_other 211 = .ok (.getfield 94, 3) := by decide +kernel
theorem dX12_other_214 : decode cX12_other 214 = .ok (.iload_n 3, 1) := by decide +kernel
theorem dX12_other_215 : decode cX12_other 215 = .ok (.ldc2_w 269, 3) := by decide +kernel
theorem dX12_other_218 : decode cX12_other 218 = .ok (.invokevirtual 174, 3) := by decide +kernel
theorem dX12_other_221 : decode cX12_other 221 = .ok (.istore 4, 2) := by decide +kernel
theorem dX12_other_223 : decode cX12_other 223 = .ok (.iload 4, 2) := by decide +kernel
theorem dX12_other_225 : decode cX12_other 225 = .ok (.ifCond .eq 8, 3) := by decide +kernel
theorem dX12_other_228 : decode cX12_other 228 = .ok (.bipush 14, 2) := by decide +kernel
theorem dX12_other_230 : decode cX12_other 230 = .ok (.goto 7, 3) := by decide +kernel
theorem dX12_other_233 : decode cX12_other 233 = .ok (.aload_n 0, 1) := by decide +kernel
theorem dX12_other_234 : decode cX12_other 234 = .ok (.invokevirtual 162, 3) := by decide +kernel
theorem dX12_other_237 : decode cX12_other 237 = .ok (.istore 5, 2) := by decide +kernel
theorem dX12_other_239 : decode cX12_other 239 = .ok (.aload_n 0, 1) := by decide +kernel
theorem dX12_other_240 : decode cX12_other 240 = .ok (.iload 4, 2) := by decide +kernel
theorem dX12_other_242 : decode cX12_other 242 = .ok (.ifCond .eq 7, 3) := by decide +kernel
theorem dX12_other_245 : decode cX12_other 245 = .ok (.iload_n 3, 1) := by decide +kernel
theorem dX12_other_246 : decode cX12_other 246 = .ok (.goto 7, 3) := by decide +kernel
theorem dX12_other_249 : decode cX12_other 249 = .ok (.aload_n 0, 1) := by decide +kernel
theorem dX12_other_250 : decode cX12_other 250 = .ok (.getfield 94, 3) := by decide +kernel
theorem dX12_other_253 : decode cX12_other 253 = .ok (.putfield 94, 3) := by decide +kernel
theorem dX12_other_256 : decode cX12_other 256 = .ok (.aload_n 0, 1) := by decide +kernel
theorem dX12_other_257 : decode cX12_other 257 = .ok (.sipush 18176, 3) := by decide +kernel
theorem dX12_other_260 : decode cX12_other 260 = .ok (.bipush 8, 2) := by decide +kernel
theorem dX12_other_262 : decode cX12_other 262 = .ok (.iload 5, 2) := by decide +kernel
theorem dX12_other_264 : decode cX12_other 264 = .ok (.imul, 1) := by decide +kernel
theorem dX12_other_265 : decode cX12_other 265 = .ok (.iadd, 1) := by decide +kernel
theorem dX12_other_266 : decode cX12_other 266 = .ok (.invokevirtual 165, 3) := by decide +kernel
theorem dX12_other_269 : decode cX12_other 269 = .ok (.goto 52, 3) := by decide +kernel
theorem dX12_other_272 : decode cX12_other 272 = .ok (.aload_n 0, 1) := by decide +kernel
theorem dX12_other_273 : decode cX12_other 273 = .ok (.getfield 20, 3) := by decide +kernel
theorem dX12_other_276 : decode cX12_other 276 = .ok (.iload_n 1, 1) := by decide +kernel
theorem dX12_other_277 : decode cX12_other 277 = .ok (.caload, 1) := by decide +kernel
theorem dX12_other_278 : decode cX12_other 278 = .ok (.bipush 98, 2) := by decide +kernel
theorem dX12_other_280 : decode cX12_other 280 = .ok (.if_icmp .ne 39, 3) := by decide +kernel
theorem dX12_other_283 : decode cX12_other 283 = .ok (.aload_n 0, 1) := by decide +kernel
theorem dX12_other_284 : decode cX12_other 284 = .ok (.iload_n 1, 1) := by decide +kernel
theorem dX12_other_285 : decode cX12_other 285 = .ok (.iconst 1, 1) := by decide +kernel
theorem dX12_other_286 : decode cX12_other 286 = .ok (.iadd, 1) := by decide +kernel
theorem dX12_other_287 : decode cX12_other 287 = .ok (.iload_n 2, 1) := by decide +kernel
theorem dX12_other_288 : decode cX12_other 288 = .ok (.invokevirtual 290, 3) := by decide +kernel
theorem dX12_other_291 : decode cX12_other 291 = .ok (.ifCond .lt 28, 3) := by decide +kernel
theorem dX12_other_294 : decode cX12_other 294 = .ok (.aload_n 0, 1) := by decide +kernel
theorem dX12_other_295 : decode cX12_other 295 = .ok (.bipush 12, 2) := by decide +kernel
theorem dX12_other_297 : decode cX12_other 297 = .ok (.ldc_w 293, 3) := by decide +kernel
theorem dX12_other_300 : decode cX12_other 300 = .ok (.sipush 256, 3) := by decide +kernel
theorem dX12_other_303 : decode cX12_other 303 = .ok (.aload_n 0, 1) := by decide +kernel
theorem dX12_other_304 : decode cX12_other 304 = .ok (.iload_n 1, 1) := by decide +kernel
theorem dX12_other_305 : decode cX12_other 305 = .ok (.iconst 1, 1) := by decide +kernel
theorem dX12_other_306 : decode cX12_other 306 = .ok (.iadd, 1) := by decide +kernel
theorem dX12_other_307 : decode cX12_other 307 = .ok (.iload_n 2, 1) := by decide +kernel
theorem dX12_other_308 : decode cX12_other 308 = .ok (.invokevirtual 290, 3) := by decide +kernel
theorem dX12_other_311 : decode cX12_other 311 = .ok (.imul, 1) := by decide +kernel
theorem dX12_other_312 : decode cX12_other 312 = .ok (.iadd, 1) := by decide +kernel
theorem dX12_other_313 : decode cX12_other 313 = .ok (.invokevirtual 283, 3) := by decide +kernel
theorem dX12_other_316 : decode cX12_other 316 = .ok (.goto 5, 3) := by decide +kernel
theorem dX12_other_319 : decode cX12_other 319 = .ok (.iconst 0, 1) := by decide +kernel
theorem dX12_other_320 : decode cX12_other 320 = .ok (.ireturn, 1) := by decide +kernel
theorem dX12_other_321 : decode cX12_other 321 = .ok (.iconst 1, 1) := by decide +kernel
theorem dX12_other_322 : decode cX12_other 322 = .ok (.ireturn, 1) := by decide +kernel
theorem dX12_isTwice_0 : decode cX12_isTwice 0 = .ok (.aload_n 0, 1) := by decide +kernel
theorem dX12_isTwice_1 : decode cX12_isTwice 1 = .ok (.iload_n 1, 1) := by decide +kernel
theorem dX12_isTwice_2 : decode cX12_isTwice 2 = .ok (.aload_n 0, 1) := by decide +kernel
theorem dX12_isTwice_3 : decode cX12_isTwice 3 = .ok (.getfield 294, 3) := by decide +kernel
theorem dX12_isTwice_6 : decode cX12_isTwice 6 = .ok (.aload_n 0, 1) := by decide +kernel
theorem dX12_isTwice_7 : decode cX12_isTwice 7 = .ok (.getfield 297, 3) := by decide +kernel
theorem dX12_isTwice_10 : decode cX12_isTwice 10 = .ok (.iconst 0, 1) := by decide +kernel
theorem dX12_isTwice_11 : decode cX12_isTwice 11 = .ok (.invokevirtual 300, 3) := by decide +kernel
theorem dX12_isTwice_14 : decode cX12_isTwice 14 = .ok (.ifCond .lt 7, 3) := by decide +kernel
theorem dX12_isTwice_17 : decode cX12_isTwice 17 = .ok (.iconst 1, 1) := by decide +kernel
theorem dX12_isTwice_18 : decode cX12_isTwice 18 = .ok (.goto 4, 3) := by decide +kernel
theorem dX12_isTwice_21 : decode cX12_isTwice 21 = .ok (.iconst 0, 1) := by decide +kernel
theorem dX12_isTwice_22 : decode cX12_isTwice 22 = .ok (.ireturn, 1) := by decide +kernel
theorem dX12_read_0 : decode cX12_read 0 = .ok (.aload_n 0, 1) := by decide +kernel
theorem dX12_read_1 : decode cX12_read 1 = .ok (.bipush 24, 2) := by decide +kernel
theorem dX12_read_3 : decode cX12_read 3 = .ok (.iload_n 1, 1) := by decide +kernel
theorem dX12_read_4 : decode cX12_read 4 = .ok (.imul, 1) := by decide +kernel
theorem dX12_read_5 : decode cX12_read 5 = .ok (.iload_n 2, 1) := by decide +kernel
theorem dX12_read_6 : decode cX12_read 6 = .ok (.iadd, 1) := by decide +kernel
theorem dX12_read_7 : decode cX12_read 7 = .ok (.putfield 103, 3) := by decide +kernel
theorem dX12_read_10 : decode cX12_read 10 = .ok (.aload_n 0, 1) := by decide +kernel
theorem dX12_read_11 : decode cX12_read 11 = .ok (.bipush 48, 2) := by decide +kernel
theorem dX12_read_13 : decode cX12_read 13 = .ok (.aload_n 0, 1) := by decide +kernel
theorem dX12_read_14 : decode cX12_read 14 = .ok (.getfield 103, 3) := by decide +kernel
theorem dX12_read_17 : decode cX12_read 17 = .ok (.imul, 1) := by decide +kernel
theorem dX12_read_18 : decode cX12_read 18 = .ok (.putfield 94, 3) := by decide +kernel
theorem dX12_read_21 : decode cX12_read 21 = .ok (.aload_n 0, 1) := by decide +kernel
theorem dX12_read_22 : decode cX12_read 22 = .ok (.aload_n 0, 1) := by decide +kernel
theorem dX12_read_23 : decode cX12_read 23 = .ok (.getfield 94, 3) := by decide +kernel
theorem dX12_read_26 : decode cX12_read 26 = .ok (.aload_n 0, 1) := by decide +kernel
theorem dX12_read_27 : decode cX12_read 27 = .ok (.getfield 17, 3) := by decide +kernel
theorem dX12_read_30 : decode cX12_read 30 = .ok (.aload_n 0, 1) := by decide +kernel
theorem dX12_read_31 : decode cX12_read 31 = .ok (.getfield 103, 3) := by decide +kernel
theorem dX12_read_34 : decode cX12_read 34 = .ok (.iaload, 1) := by decide +kernel
theorem dX12_read_35 : decode cX12_read 35 = .ok (.iadd, 1) := by decide +kernel
theorem dX12_read_36 : decode cX12_read 36 = .ok (.putfield 97, 3) := by decide +kernel
theorem dX12_read_39 : decode cX12_read 39 = .ok (.aload_n 0, 1) := by decide +kernel
theorem dX12_read_40 : decode cX12_read 40 = .ok (.iconst 0, 1) := by decide +kernel
theorem dX12_read_41 : decode cX12_read 41 = .ok (.putfield 100, 3) := by decide +kernel
theorem dX12_read_44 : decode cX12_read 44 = .ok (.aload_n 0, 1) := by decide +kernel
theorem dX12_read_45 : decode cX12_read 45 = .ok (.iconst (-1), 1) := by decide +kernel
theorem dX12_read_46 : decode cX12_read 46 = .ok (.putfield 294, 3) := by decide +kernel
theorem dX12_read_49 : decode cX12_read 49 = .ok (.aload_n 0, 1) := by decide +kernel
theorem dX12_read_50 : decode cX12_read 50 = .ok (.iconst 0, 1) := by decide +kernel
theorem dX12_read_51 : decode cX12_read 51 = .ok (.putfield 156, 3) := by decide +kernel
theorem dX12_read_54 : decode cX12_read 54 = .ok (.aload_n 0, 1) := by decide +kernel
theorem dX12_read_55 : decode cX12_read 55 = .ok (.iconst (-1), 1) := by decide +kernel
theorem dX12_read_56 : decode cX12_read 56 = .ok (.putfield 304, 3) := by decide +kernel
theorem dX12_read_59 : decode cX12_read 59 = .ok (.aload_n 0, 1) := by decide +kernel
theorem dX12_read_60 : decode cX12_read 60 = .ok (.invokevirtual 116, 3) := by decide +kernel
theorem dX12_read_63 : decode cX12_read 63 = .ok (.ifCond .ne 4, 3) := by decide +kernel
theorem dX12_read_66 : decode cX12_read 66 = .ok (.return_, 1) := by decide +kernel
theorem dX12_read_67 : decode cX12_read 67 = .ok (.aload_n 0, 1) := by decide +kernel
theorem dX12_read_68 : decode cX12_read 68 = .ok (.getfield 94, 3) := by decide +kernel
theorem dX12_read_71 : decode cX12_read 71 = .ok (.istore 4, 2) := by decide +kernel
theorem dX12_read_73 : decode cX12_read 73 = .ok (.aload_n 0, 1) := by decide +kernel
theorem dX12_read_74 : decode cX12_read 74 = .ok (.invokevirtual 131, 3) := by decide +kernel
theorem dX12_read_77 : decode cX12_read 77 = .ok (.istore 5, 2) := by decide +kernel
theorem dX12_read_79 : decode cX12_read 79 = .ok (.aload_n 0, 1) := by decide +kernel
theorem dX12_read_80 : decode cX12_read 80 = .ok (.iload 5, 2) := by decide +kernel
theorem dX12_read_82 : decode cX12_read 82 = .ok (.putfield 94, 3) := by decide +kernel
theorem dX12_read_85 : decode cX12_read 85 = .ok (.aload_n 0, 1) := by decide +kernel
theorem dX12_read_86 : decode cX12_read 86 = .ok (.iload 4, 2) := by decide +kernel
theorem dX12_read_88 : decode cX12_read 88 = .ok (.iload 5, 2) := by decide +kernel
theorem dX12_read_90 : decode cX12_read 90 = .ok (.invokevirtual 138, 3) := by decide +kernel
theorem dX12_read_93 : decode cX12_read 93 = .ok (.ifCond .eq 81, 3) := by decide +kernel
theorem dX12_read_96 : decode cX12_read 96 = .ok (.aload_n 0, 1) := by decide +kernel
theorem dX12_read_97 : decode cX12_read 97 = .ok (.invokevirtual 116, 3) := by decide +kernel
theorem dX12_read_100 : decode cX12_read 100 = .ok (.bipush 58, 2) := by decide +kernel
theorem dX12_read_102 : decode cX12_read 102 = .ok (.if_icmp .ne 72, 3) := by decide +kernel
theorem dX12_read_105 : decode cX12_read 105 = .ok (.aload_n 0, 1) := by decide +kernel
theorem dX12_read_106 : decode cX12_read 106 = .ok (.iload 4, 2) := by decide +kernel
theorem dX12_read_108 : decode cX12_read 108 = .ok (.putfield 294, 3) := by decide +kernel
theorem dX12_read_111 : decode cX12_read 111 = .ok (.aload_n 0, 1) := by decide +kernel
theorem dX12_read_112 : decode cX12_read 112 = .ok (.iload 5, 2) := by decide +kernel
theorem dX12_read_114 : decode cX12_read 114 = .ok (.putfield 297, 3) := by decide +kernel
theorem dX12_read_117 : decode cX12_read 117 = .ok (.aload_n 0, 1) := by decide +kernel
theorem dX12_read_118 : decode cX12_read 118 = .ok (.dup, 1) := by decide +kernel
theorem dX12_read_119 : decode cX12_read 119 = .ok (.getfield 94, 3) := by decide +kernel
theorem dX12_read_122 : decode cX12_read 122 = .ok (.iconst 1, 1) := by decide +kernel
theorem dX12_read_123 : decode cX12_read 123 = .ok (.iadd, 1) := by decide +kernel
theorem dX12_read_124 : decode cX12_read 124 = .ok (.putfield 94, 3) := by decide +kernel
theorem dX12_read_127 : decode cX12_read 127 = .ok (.iload_n 3, 1) := by decide +kernel
