theorem dX12_init_0 : decode cX12_init 0 = .ok (.aload_n 0, 1) := by decide +kernel
theorem dX12_init_1 : decode cX12_init 1 = .ok (.invokespecial 1, 3) := by decide +kernel
theorem dX12_init_4 : decode cX12_init 4 = .ok (.aload_n 0, 1) := by decide +kernel
theorem dX12_init_5 : decode cX12_init 5 = .ok (.bipush 12, 2) := by decide +kernel
theorem dX12_init_7 : decode cX12_init 7 = .ok (.newarray .int, 2) := by decide +kernel
theorem dX12_init_9 : decode cX12_init 9 = .ok (.putfield 7, 3) := by decide +kernel
theorem dX12_init_12 : decode cX12_init 12 = .ok (.aload_n 0, 1) := by decide +kernel
theorem dX12_init_13 : decode cX12_init 13 = .ok (.bipush 12, 2) := by decide +kernel
theorem dX12_init_15 : decode cX12_init 15 = .ok (.newarray .int, 2) := by decide +kernel
theorem dX12_init_17 : decode cX12_init 17 = .ok (.putfield 13, 3) := by decide +kernel
theorem dX12_init_20 : decode cX12_init 20 = .ok (.aload_n 0, 1) := by decide +kernel
theorem dX12_init_21 : decode cX12_init 21 = .ok (.sipush 192, 3) := by decide +kernel
theorem dX12_init_24 : decode cX12_init 24 = .ok (.newarray .int, 2) := by decide +kernel
theorem dX12_init_26 : decode cX12_init 26 = .ok (.putfield 16, 3) := by decide +kernel
theorem dX12_init_29 : decode cX12_init 29 = .ok (.aload_n 0, 1) := by decide +kernel
theorem dX12_init_30 : decode cX12_init 30 = .ok (.bipush 32, 2) := by decide +kernel
theorem dX12_init_32 : decode cX12_init 32 = .ok (.newarray .int, 2) := by decide +kernel
theorem dX12_init_34 : decode cX12_init 34 = .ok (.putfield 19, 3) := by decide +kernel
theorem dX12_init_37 : decode cX12_init 37 = .ok (.aload_n 0, 1) := by decide +kernel
theorem dX12_init_38 : decode cX12_init 38 = .ok (.bipush 25, 2) := by decide +kernel
theorem dX12_init_40 : decode cX12_init 40 = .ok (.newarray .int, 2) := by decide +kernel
theorem dX12_init_42 : decode cX12_init 42 = .ok (.putfield 22, 3) := by decide +kernel
theorem dX12_init_45 : decode cX12_init 45 = .ok (.aload_n 0, 1) := by decide +kernel
theorem dX12_init_46 : decode cX12_init 46 = .ok (.bipush 16, 2) := by decide +kernel
theorem dX12_init_48 : decode cX12_init 48 = .ok (.newarray .int, 2) := by decide +kernel
theorem dX12_init_50 : decode cX12_init 50 = .ok (.putfield 25, 3) := by decide +kernel
theorem dX12_init_53 : decode cX12_init 53 = .ok (.aload_n 0, 1) := by decide +kernel
theorem dX12_init_54 : decode cX12_init 54 = .ok (.bipush 16, 2) := by decide +kernel
theorem dX12_init_56 : decode cX12_init 56 = .ok (.newarray .int, 2) := by decide +kernel
theorem dX12_init_58 : decode cX12_init 58 = .ok (.putfield 28, 3) := by decide +kernel
theorem dX12_init_61 : decode cX12_init 61 = .ok (.aload_n 0, 1) := by decide +kernel
theorem dX12_init_62 : decode cX12_init 62 = .ok (.bipush 6, 2) := by decide +kernel
theorem dX12_init_64 : decode cX12_init 64 = .ok (.newarray .int, 2) := by decide +kernel
theorem dX12_init_66 : decode cX12_init 66 = .ok (.putfield 31, 3) := by decide +kernel
theorem dX12_init_69 : decode cX12_init 69 = .ok (.aload_n 0, 1) := by decide +kernel
theorem dX12_init_70 : decode cX12_init 70 = .ok (.bipush 6, 2) := by decide +kernel
theorem dX12_init_72 : decode cX12_init 72 = .ok (.newarray .int, 2) := by decide +kernel
theorem dX12_init_74 : decode cX12_init 74 = .ok (.putfield 34, 3) := by decide +kernel
theorem dX12_init_77 : decode cX12_init 77 = .ok (.aload_n 0, 1) := by decide +kernel
theorem dX12_init_78 : decode cX12_init 78 = .ok (.bipush 12, 2) := by decide +kernel
theorem dX12_init_80 : decode cX12_init 80 = .ok (.newarray .int, 2) := by decide +kernel
theorem dX12_init_82 : decode cX12_init 82 = .ok (.putfield 37, 3) := by decide +kernel
theorem dX12_init_85 : decode cX12_init 85 = .ok (.aload_n 0, 1) := by decide +kernel
theorem dX12_init_86 : decode cX12_init 86 = .ok (.bipush 12, 2) := by decide +kernel
theorem dX12_init_88 : decode cX12_init 88 = .ok (.newarray .int, 2) := by decide +kernel
theorem dX12_init_90 : decode cX12_init 90 = .ok (.putfield 40, 3) := by decide +kernel
theorem dX12_init_93 : decode cX12_init 93 = .ok (.aload_n 0, 1) := by decide +kernel
theorem dX12_init_94 : decode cX12_init 94 = .ok (.bipush 12, 2) := by decide +kernel
theorem dX12_init_96 : decode cX12_init 96 = .ok (.newarray .int, 2) := by decide +kernel
theorem dX12_init_98 : decode cX12_init 98 = .ok (.putfield 43, 3) := by decide +kernel
theorem dX12_init_101 : decode cX12_init 101 = .ok (.aload_n 0, 1) := by decide +kernel
theorem dX12_init_102 : decode cX12_init 102 = .ok (.bipush 12, 2) := by decide +kernel
theorem dX12_init_104 : decode cX12_init 104 = .ok (.newarray .int, 2) := by decide +kernel
theorem dX12_init_106 : decode cX12_init 106 = .ok (.putfield 46, 3) := by decide +kernel
theorem dX12_init_109 : decode cX12_init 109 = .ok (.aload_n 0, 1) := by decide +kernel
theorem dX12_init_110 : decode cX12_init 110 = .ok (.bipush 12, 2) := by decide +kernel
theorem dX12_init_112 : decode cX12_init 112 = .ok (.newarray .int, 2) := by decide +kernel
theorem dX12_init_114 : decode cX12_init 114 = .ok (.putfield 49, 3) := by decide +kernel
theorem dX12_init_117 : decode cX12_init 117 = .ok (.aload_n 0, 1) := by decide +kernel
theorem dX12_init_118 : decode cX12_init 118 = .ok (.bipush 12, 2) := by decide +kernel
theorem dX12_init_120 : decode cX12_init 120 = .ok (.newarray .int, 2) := by decide +kernel
theorem dX12_init_122 : decode cX12_init 122 = .ok (.putfield 52, 3) := by decide +kernel
theorem dX12_init_125 : decode cX12_init 125 = .ok (.aload_n 0, 1) := by decide +kernel
theorem dX12_init_126 : decode cX12_init 126 = .ok (.sipush 300, 3) := by decide +kernel
theorem dX12_init_129 : decode cX12_init 129 = .ok (.newarray .int, 2) := by decide +kernel
theorem dX12_init_131 : decode cX12_init 131 = .ok (.putfield 55, 3) := by decide +kernel
theorem dX12_init_134 : decode cX12_init 134 = .ok (.aload_n 0, 1) := by decide +kernel
theorem dX12_init_135 : decode cX12_init 135 = .ok (.bipush 9, 2) := by decide +kernel
theorem dX12_init_137 : decode cX12_init 137 = .ok (.newarray .int, 2) := by decide +kernel
theorem dX12_init_139 : decode cX12_init 139 = .ok (.putfield 58, 3) := by decide +kernel
theorem dX12_init_142 : decode cX12_init 142 = .ok (.aload_n 0, 1) := by decide +kernel
theorem dX12_init_143 : decode cX12_init 143 = .ok (.bipush 9, 2) := by decide +kernel
theorem dX12_init_145 : decode cX12_init 145 = .ok (.newarray .int, 2) := by decide +kernel
theorem dX12_init_147 : decode cX12_init 147 = .ok (.putfield 61, 3) := by decide +kernel
theorem dX12_init_150 : decode cX12_init 150 = .ok (.aload_n 0, 1) := by decide +kernel
theorem dX12_init_151 : decode cX12_init 151 = .ok (.bipush 9, 2) := by decide +kernel
theorem dX12_init_153 : decode cX12_init 153 = .ok (.newarray .int, 2) := by decide +kernel
theorem dX12_init_155 : decode cX12_init 155 = .ok (.putfield 64, 3) := by decide +kernel
theorem dX12_init_158 : decode cX12_init 158 = .ok (.aload_n 0, 1) := by decide +kernel
theorem dX12_init_159 : decode cX12_init 159 = .ok (.iconst 4, 1) := by decide +kernel
theorem dX12_init_160 : decode cX12_init 160 = .ok (.newarray .int, 2) := by decide +kernel
theorem dX12_init_162 : decode cX12_init 162 = .ok (.putfield 67, 3) := by decide +kernel
theorem dX12_init_165 : decode cX12_init 165 = .ok (.aload_n 0, 1) := by decide +kernel
theorem dX12_init_166 : decode cX12_init 166 = .ok (.iconst 4, 1) := by decide +kernel
theorem dX12_init_167 : decode cX12_init 167 = .ok (.newarray .int, 2) := by decide +kernel
theorem dX12_init_169 : decode cX12_init 169 = .ok (.putfield 70, 3) := by decide +kernel
theorem dX12_init_172 : decode cX12_init 172 = .ok (.aload_n 0, 1) := by decide +kernel
theorem dX12_init_173 : decode cX12_init 173 = .ok (.sipush 240, 3) := by decide +kernel
theorem dX12_init_176 : decode cX12_init 176 = .ok (.newarray .int, 2) := by decide +kernel
theorem dX12_init_178 : decode cX12_init 178 = .ok (.putfield 73, 3) := by decide +kernel
theorem dX12_init_181 : decode cX12_init 181 = .ok (.aload_n 0, 1) := by decide +kernel
theorem dX12_init_182 : decode cX12_init 182 = .ok (.bipush 60, 2) := by decide +kernel
theorem dX12_init_184 : decode cX12_init 184 = .ok (.newarray .int, 2) := by decide +kernel
theorem dX12_init_186 : decode cX12_init 186 = .ok (.putfield 76, 3) := by decide +kernel
theorem dX12_init_189 : decode cX12_init 189 = .ok (.iconst 0, 1) := by decide +kernel
theorem dX12_init_190 : decode cX12_init 190 = .ok (.istore_n 1, 1) := by decide +kernel
theorem dX12_init_191 : decode cX12_init 191 = .ok (.iload_n 1, 1) := by decide +kernel
theorem dX12_init_192 : decode cX12_init 192 = .ok (.bipush 12, 2) := by decide +kernel
theorem dX12_init_194 : decode cX12_init 194 = .ok (.if_icmp .ge 17, 3) := by decide +kernel
theorem dX12_init_197 : decode cX12_init 197 = .ok (.aload_n 0, 1) := by decide +kernel
theorem dX12_init_198 : decode cX12_init 198 = .ok (.getfield 37, 3) := by decide +kernel
theorem dX12_init_201 : decode cX12_init 201 = .ok (.iload_n 1, 1) := by decide +kernel
theorem dX12_init_202 : decode cX12_init 202 = .ok (.bipush (-9), 2) := by decide +kernel
theorem dX12_init_204 : decode cX12_init 204 = .ok (.iastore, 1) := by decide +kernel
theorem dX12_init_205 : decode cX12_init 205 = .ok (.iinc 1 1, 3) := by decide +kernel
theorem dX12_init_208 : decode cX12_init 208 = .ok (.goto (-17), 3) := by decide +kernel
theorem dX12_init_211 : decode cX12_init 211 = .ok (.iconst 0, 1) := by decide +kernel
theorem dX12_init_212 : decode cX12_init 212 = .ok (.istore_n 1, 1) := by decide +kernel
theorem dX12_init_213 : decode cX12_init 213 = .ok (.iload_n 1, 1) := by decide +kernel
theorem dX12_init_214 : decode cX12_init 214 = .ok (.iconst 4, 1) := by decide +kernel
theorem dX12_init_215 : decode cX12_init 215 = .ok (.if_icmp .ge 16, 3) := by decide +kernel
theorem dX12_init_218 : decode cX12_init 218 = .ok (.aload_n 0, 1) := by decide +kernel
theorem dX12_init_219 : decode cX12_init 219 = .ok (.getfield 67, 3) := by decide +kernel
theorem dX12_init_222 : decode cX12_init 222 = .ok (.iload_n 1, 1) := by decide +kernel
theorem dX12_init_223 : decode cX12_init 223 = .ok (.iconst (-1), 1) := by decide +kernel
theorem dX12_init_224 : decode cX12_init 224 = .ok (.iastore, 1) := by decide +kernel
theorem dX12_init_225 : decode cX12_init 225 = .ok (.iinc 1 1, 3) := by decide +kernel
theorem dX12_init_228 : decode cX12_init 228 = .ok (.goto (-15), 3) := by decide +kernel
theorem dX12_init_231 : decode cX12_init 231 = .ok (.return_, 1) := by decide +kernel
theorem dX12_in_0 : decode cX12_in 0 = .ok (.lload_n 0, 1) := by decide +kernel
theorem dX12_in_1 : decode cX12_in 1 = .ok (.lload_n 2, 1) := by decide +kernel
theorem dX12_in_2 : decode cX12_in 2 = .ok (.lcmp, 1) := by decide +kernel
theorem dX12_in_3 : decode cX12_in 3 = .ok (.ifCond .lt 14, 3) := by decide +kernel
theorem dX12_in_6 : decode cX12_in 6 = .ok (.lload_n 0, 1) := by decide +kernel
theorem dX12_in_7 : decode cX12_in 7 = .ok (.lload 4, 2) := by decide +kernel
theorem dX12_in_9 : decode cX12_in 9 = .ok (.lcmp, 1) := by decide +kernel
theorem dX12_in_10 : decode cX12_in 10 = .ok (.ifCond .gt 7, 3) := by decide +kernel
theorem dX12_in_13 : decode cX12_in 13 = .ok (.iconst 1, 1) := by decide +kernel
theorem dX12_in_14 : decode cX12_in 14 = .ok (.goto 4, 3) := by decide +kernel
theorem dX12_in_17 : decode cX12_in 17 = .ok (.iconst 0, 1) := by decide +kernel
theorem dX12_in_18 : decode cX12_in 18 = .ok (.ireturn, 1) := by decide +kernel
theorem dX12_lost_0 : decode cX12_lost 0 = .ok (.ldc2_w 79, 3) := by decide +kernel
theorem dX12_lost_3 : decode cX12_lost 3 = .ok (.lreturn, 1) := by decide +kernel
theorem dX12_hasBit_0 : decode cX12_hasBit 0 = .ok (.iload_n 0, 1) := by decide +kernel
theorem dX12_hasBit_1 : decode cX12_hasBit 1 = .ok (.iload_n 1, 1) := by decide +kernel
theorem dX12_hasBit_2 : decode cX12_hasBit 2 = .ok (.ishr, 1) := by decide +kernel
theorem dX12_hasBit_3 : decode cX12_hasBit 3 = .ok (.iconst 1, 1) := by decide +kernel
theorem dX12_hasBit_4 : decode cX12_hasBit 4 = .ok (.iand, 1) := by decide +kernel
theorem dX12_hasBit_5 : decode cX12_hasBit 5 = .ok (.iconst 1, 1) := by decide +kernel
theorem dX12_hasBit_6 : decode cX12_hasBit 6 = .ok (.if_icmp .ne 7, 3) := by decide +kernel
theorem dX12_hasBit_9 : decode cX12_hasBit 9 = .ok (.iconst 1, 1) := by decide +kernel
theorem dX12_hasBit_10 : decode cX12_hasBit 10 = .ok (.goto 4, 3) := by decide +kernel
theorem dX12_hasBit_13 : decode cX12_hasBit 13 = .ok (.iconst 0, 1) := by decide +kernel
theorem dX12_hasBit_14 : decode cX12_hasBit 14 = .ok (.ireturn, 1) := by decide +kernel
theorem dX12_sizeOf_0 : decode cX12_sizeOf 0 = .ok (.iload_n 0, 1) := by decide +kernel
theorem dX12_sizeOf_1 : decode cX12_sizeOf 1 = .ok (.ifCond .ge 8, 3) := by decide +kernel
theorem dX12_sizeOf_4 : decode cX12_sizeOf 4 = .ok (.iload_n 0, 1) := by decide +kernel
theorem dX12_sizeOf_5 : decode cX12_sizeOf 5 = .ok (.ineg, 1) := by decide +kernel
theorem dX12_sizeOf_6 : decode cX12_sizeOf 6 = .ok (.goto 4, 3) := by decide +kernel
theorem dX12_sizeOf_9 : decode cX12_sizeOf 9 = .ok (.iload_n 0, 1) := by decide +kernel
theorem dX12_sizeOf_10 : decode cX12_sizeOf 10 = .ok (.ireturn, 1) := by decide +kernel
theorem dX12_lesser_0 : decode cX12_lesser 0 = .ok (.iload_n 0, 1) := by decide +kernel
theorem dX12_lesser_1 : decode cX12_lesser 1 = .ok (.iload_n 1, 1) := by decide +kernel
theorem dX12_lesser_2 : decode cX12_lesser 2 = .ok (.if_icmp .ge 7, 3) := by decide +kernel
theorem dX12_lesser_5 : decode cX12_lesser 5 = .ok (.iload_n 0, 1) := by decide +kernel
theorem dX12_lesser_6 : decode cX12_lesser 6 = .ok (.goto 4, 3) := by decide +kernel
theorem dX12_lesser_9 : decode cX12_lesser 9 = .ok (.iload_n 1, 1) := by decide +kernel
theorem dX12_lesser_10 : decode cX12_lesser 10 = .ok (.ireturn, 1) := by decide +kernel
theorem dX12_greater_0 : decode cX12_greater 0 = .ok (.iload_n 0, 1) := by decide +kernel
theorem dX12_greater_1 : decode cX12_greater 1 = .ok (.iload_n 1, 1) := by decide +kernel
theorem dX12_greater_2 : decode cX12_greater 2 = .ok (.if_icmp .le 7, 3) := by decide +kernel
theorem dX12_greater_5 : decode cX12_greater 5 = .ok (.iload_n 0, 1) := by decide +kernel
theorem dX12_greater_6 : decode cX12_greater 6 = .ok (.goto 4, 3) := by decide +kernel
theorem dX12_greater_9 : decode cX12_greater 9 = .ok (.iload_n 1, 1) := by decide +kernel
theorem dX12_greater_10 : decode cX12_greater 10 = .ok (.ireturn, 1) := by decide +kernel
theorem dX12_share_0 : decode cX12_share 0 = .ok (.lload_n 0, 1) := by decide +kernel
theorem dX12_share_1 : decode cX12_share 1 = .ok (.lstore 5, 2) := by decide +kernel
theorem dX12_share_3 : decode cX12_share 3 = .ok (.lload_n 2, 1) := by decide +kernel
theorem dX12_share_4 : decode cX12_share 4 = .ok (.lstore 7, 2) := by decide +kernel
theorem dX12_share_6 : decode cX12_share 6 = .ok (.lload 7, 2) := by decide +kernel
theorem dX12_share_8 : decode cX12_share 8 = .ok (.lconst 0, 1) := by decide +kernel
theorem dX12_share_9 : decode cX12_share 9 = .ok (.lcmp, 1) := by decide +kernel
theorem dX12_share_10 : decode cX12_share 10 = .ok (.ifCond .eq 21, 3) := by decide +kernel
theorem dX12_share_13 : decode cX12_share 13 = .ok (.lload 5, 2) := by decide +kernel
theorem dX12_share_15 : decode cX12_share 15 = .ok (.lload 7, 2) := by decide +kernel
theorem dX12_share_17 : decode cX12_share 17 = .ok (.lrem, 1) := by decide +kernel
theorem dX12_share_18 : decode cX12_share 18 = .ok (.lstore 9, 2) := by decide +kernel
theorem dX12_share_20 : decode cX12_share 20 = .ok (.lload 7, 2) := by decide +kernel
theorem dX12_share_22 : decode cX12_share 22 = .ok (.lstore 5, 2) := by decide +kernel
theorem dX12_share_24 : decode cX12_share 24 = .ok (.lload 9, 2) := by decide +kernel
theorem dX12_share_26 : decode cX12_share 26 = .ok (.lstore 7, 2) := by decide +kernel
theorem dX12_share_28 : decode cX12_share 28 = .ok (.goto (-22), 3) := by decide +kernel
theorem dX12_share_31 : decode cX12_share 31 = .ok (.iload 4, 2) := by decide +kernel
theorem dX12_share_33 : decode cX12_share 33 = .ok (.ifCond .ne 7, 3) := by decide +kernel
theorem dX12_share_36 : decode cX12_share 36 = .ok (.lload_n 0, 1) := by decide +kernel
theorem dX12_share_37 : decode cX12_share 37 = .ok (.goto 4, 3) := by decide +kernel
theorem dX12_share_40 : decode cX12_share 40 = .ok (.lload_n 2, 1) := by decide +kernel
theorem dX12_share_41 : decode cX12_share 41 = .ok (.lload 5, 2) := by decide +kernel
theorem dX12_share_43 : decode cX12_share 43 = .ok (.ldiv, 1) := by decide +kernel
theorem dX12_share_44 : decode cX12_share 44 = .ok (.lreturn, 1) := by decide +kernel
theorem dX12_refused_0 : decode cX12_refused 0 = .ok (.aload_n 0, 1) := by decide +kernel
theorem dX12_refused_1 : decode cX12_refused 1 = .ok (.iconst 0, 1) := by decide +kernel
theorem dX12_refused_2 : decode cX12_refused 2 = .ok (.putfield 81, 3) := by decide +kernel
theorem dX12_refused_5 : decode cX12_refused 5 = .ok (.iload_n 1, 1) := by decide +kernel
theorem dX12_refused_6 : decode cX12_refused 6 = .ok (.ireturn, 1) := by decide +kernel
theorem dX12_failed_0 : decode cX12_failed 0 = .ok (.aload_n 0, 1) := by decide +kernel
theorem dX12_failed_1 : decode cX12_failed 1 = .ok (.iload_n 1, 1) := by decide +kernel
theorem dX12_failed_2 : decode cX12_failed 2 = .ok (.putfield 81, 3) := by decide +kernel
theorem dX12_failed_5 : decode cX12_failed 5 = .ok (.bipush (-10), 2) := by decide +kernel
theorem dX12_failed_7 : decode cX12_failed 7 = .ok (.iload_n 1, 1) := by decide +kernel
theorem dX12_failed_8 : decode cX12_failed 8 = .ok (.isub, 1) := by decide +kernel
theorem dX12_failed_9 : decode cX12_failed 9 = .ok (.ireturn, 1) := by decide +kernel
theorem dX12_failedLong_0 : decode cX12_failedLong 0 = .ok (.aload_n 0, 1) := by decide +kernel
theorem dX12_failedLong_1 : decode cX12_failedLong 1 = .ok (.iload_n 1, 1) := by decide +kernel
theorem dX12_failedLong_2 : decode cX12_failedLong 2 = .ok (.putfield 81, 3) := by decide +kernel
theorem dX12_failedLong_5 : decode cX12_failedLong 5 = .ok (.invokestatic 85, 3) := by decide +kernel
theorem dX12_failedLong_8 : decode cX12_failedLong 8 = .ok (.lreturn, 1) := by decide +kernel
theorem dX12_barred_0 : decode cX12_barred 0 = .ok (.aload_n 0, 1) := by decide +kernel
theorem dX12_barred_1 : decode cX12_barred 1 = .ok (.getfield 67, 3) := by decide +kernel
theorem dX12_barred_4 : decode cX12_barred 4 = .ok (.iload_n 1, 1) := by decide +kernel
theorem dX12_barred_5 : decode cX12_barred 5 = .ok (.iaload, 1) := by decide +kernel
theorem dX12_barred_6 : decode cX12_barred 6 = .ok (.ifCond .lt 19, 3) := by decide +kernel
theorem dX12_barred_9 : decode cX12_barred 9 = .ok (.aload_n 0, 1) := by decide +kernel
theorem dX12_barred_10 : decode cX12_barred 10 = .ok (.getfield 70, 3) := by decide +kernel
theorem dX12_barred_13 : decode cX12_barred 13 = .ok (.iload_n 1, 1) := by decide +kernel
theorem dX12_barred_14 : decode cX12_barred 14 = .ok (.iaload, 1) := by decide +kernel
theorem dX12_barred_15 : decode cX12_barred 15 = .ok (.iload_n 2, 1) := by decide +kernel
theorem dX12_barred_16 : decode cX12_barred 16 = .ok (.if_icmp .eq 9, 3) := by decide +kernel
theorem dX12_barred_19 : decode cX12_barred 19 = .ok (.aload_n 0, 1) := by decide +kernel
theorem dX12_barred_20 : decode cX12_barred 20 = .ok (.iconst 2, 1) := by decide +kernel
theorem dX12_barred_21 : decode cX12_barred 21 = .ok (.invokevirtual 89, 3) := by decide +kernel
theorem dX12_barred_24 : decode cX12_barred 24 = .ok (.ireturn, 1) := by decide +kernel
theorem dX12_barred_25 : decode cX12_barred 25 = .ok (.aload_n 0, 1) := by decide +kernel
theorem dX12_barred_26 : decode cX12_barred 26 = .ok (.getfield 67, 3) := by decide +kernel
theorem dX12_barred_29 : decode cX12_barred 29 = .ok (.iload_n 1, 1) := by decide +kernel
theorem dX12_barred_30 : decode cX12_barred 30 = .ok (.iaload, 1) := by decide +kernel
theorem dX12_barred_31 : decode cX12_barred 31 = .ok (.ifCond .ge 9, 3) := by decide +kernel
theorem dX12_barred_34 : decode cX12_barred 34 = .ok (.aload_n 0, 1) := by decide +kernel
theorem dX12_barred_35 : decode cX12_barred 35 = .ok (.iconst 1, 1) := by decide +kernel
theorem dX12_barred_36 : decode cX12_barred 36 = .ok (.invokevirtual 89, 3) := by decide +kernel
theorem dX12_barred_39 : decode cX12_barred 39 = .ok (.ireturn, 1) := by decide +kernel
theorem dX12_barred_40 : decode cX12_barred 40 = .ok (.lload 4, 2) := by decide +kernel
theorem dX12_barred_42 : decode cX12_barred 42 = .ok (.lconst 0, 1) := by decide +kernel
theorem dX12_barred_43 : decode cX12_barred 43 = .ok (.lcmp, 1) := by decide +kernel
theorem dX12_barred_44 : decode cX12_barred 44 = .ok (.ifCond .ge 9, 3) := by decide +kernel
theorem dX12_barred_47 : decode cX12_barred 47 = .ok (.aload_n 0, 1) := by decide +kernel
theorem dX12_barred_48 : decode cX12_barred 48 = .ok (.iconst 4, 1) := by decide +kernel
theorem dX12_barred_49 : decode cX12_barred 49 = .ok (.invokevirtual 89, 3) := by decide +kernel
theorem dX12_barred_52 : decode cX12_barred 52 = .ok (.ireturn, 1) := by decide +kernel
theorem dX12_barred_53 : decode cX12_barred 53 = .ok (.iload_n 3, 1) := by decide +kernel
theorem dX12_barred_54 : decode cX12_barred 54 = .ok (.lload 4, 2) := by decide +kernel
theorem dX12_barred_56 : decode cX12_barred 56 = .ok (.aload_n 0, 1) := by decide +kernel
theorem dX12_barred_57 : decode cX12_barred 57 = .ok (.getfield 67, 3) := by decide +kernel
theorem dX12_barred_60 : decode cX12_barred 60 = .ok (.iload_n 1, 1) := by decide +kernel
theorem dX12_barred_61 : decode cX12_barred 61 = .ok (.iaload, 1) := by decide +kernel
theorem dX12_barred_62 : decode cX12_barred 62 = .ok (.invokestatic 93, 3) := by decide +kernel
theorem dX12_barred_65 : decode cX12_barred 65 = .ok (.ifCond .eq 11, 3) := by decide +kernel
theorem dX12_barred_68 : decode cX12_barred 68 = .ok (.aload_n 0, 1) := by decide +kernel
theorem dX12_barred_69 : decode cX12_barred 69 = .ok (.iconst 3, 1) := by decide +kernel
theorem dX12_barred_70 : decode cX12_barred 70 = .ok (.invokevirtual 89, 3) := by decide +kernel
theorem dX12_barred_73 : decode cX12_barred 73 = .ok (.goto 4, 3) := by decide +kernel
theorem dX12_barred_76 : decode cX12_barred 76 = .ok (.iconst 0, 1) := by decide +kernel
theorem dX12_barred_77 : decode cX12_barred 77 = .ok (.ireturn, 1) := by decide +kernel
theorem dX12_isLane_0 : decode cX12_isLane 0 = .ok (.iload_n 0, 1) := by decide +kernel
theorem dX12_isLane_1 : decode cX12_isLane 1 = .ok (.i2l, 1) := by decide +kernel
theorem dX12_isLane_2 : decode cX12_isLane 2 = .ok (.lconst 0, 1) := by decide +kernel
theorem dX12_isLane_3 : decode cX12_isLane 3 = .ok (.ldc2_w 97, 3) := by decide +kernel
theorem dX12_isLane_6 : decode cX12_isLane 6 = .ok (.invokestatic 99, 3) := by decide +kernel
theorem dX12_isLane_9 : decode cX12_isLane 9 = .ok (.ireturn, 1) := by decide +kernel
theorem dX12_isHour_0 : decode cX12_isHour 0 = .ok (.iload_n 0, 1) := by decide +kernel
theorem dX12_isHour_1 : decode cX12_isHour 1 = .ok (.i2l, 1) := by decide +kernel
theorem dX12_isHour_2 : decode cX12_isHour 2 = .ok (.lconst 0, 1) := by decide +kernel
theorem dX12_isHour_3 : decode cX12_isHour 3 = .ok (.ldc2_w 103, 3) := by decide +kernel
theorem dX12_isHour_6 : decode cX12_isHour 6 = .ok (.invokestatic 99, 3) := by decide +kernel
theorem dX12_isHour_9 : decode cX12_isHour 9 = .ok (.ireturn, 1) := by decide +kernel
theorem dX12_noPicture_0 : decode cX12_noPicture 0 = .ok (.iload_n 1, 1) := by decide +kernel
theorem dX12_noPicture_1 : decode cX12_noPicture 1 = .ok (.i2l, 1) := by decide +kernel
theorem dX12_noPicture_2 : decode cX12_noPicture 2 = .ok (.lconst 0, 1) := by decide +kernel
theorem dX12_noPicture_3 : decode cX12_noPicture 3 = .ok (.aload_n 0, 1) := by decide +kernel
theorem dX12_noPicture_4 : decode cX12_noPicture 4 = .ok (.getfield 105, 3) := by decide +kernel
theorem dX12_noPicture_7 : decode cX12_noPicture 7 = .ok (.i2l, 1) := by decide +kernel
theorem dX12_noPicture_8 : decode cX12_noPicture 8 = .ok (.lconst 1, 1) := by decide +kernel
theorem dX12_noPicture_9 : decode cX12_noPicture 9 = .ok (.lsub, 1) := by decide +kernel
theorem dX12_noPicture_10 : decode cX12_noPicture 10 = .ok (.invokestatic 99, 3) := by decide +kernel
theorem dX12_noPicture_13 : decode cX12_noPicture 13 = .ok (.ifCond .ne 7, 3) := by decide +kernel
theorem dX12_noPicture_16 : decode cX12_noPicture 16 = .ok (.iconst 1, 1) := by decide +kernel
theorem dX12_noPicture_17 : decode cX12_noPicture 17 = .ok (.goto 4, 3) := by decide +kernel
theorem dX12_noPicture_20 : decode cX12_noPicture 20 = .ok (.iconst 0, 1) := by decide +kernel
theorem dX12_noPicture_21 : decode cX12_noPicture 21 = .ok (.ireturn, 1) := by decide +kernel
theorem dX12_isThere_0 : decode cX12_isThere 0 = .ok (.iload_n 2, 1) := by decide +kernel
theorem dX12_isThere_1 : decode cX12_isThere 1 = .ok (.i2l, 1) := by decide +kernel
theorem dX12_isThere_2 : decode cX12_isThere 2 = .ok (.lconst 0, 1) := by decide +kernel
theorem dX12_isThere_3 : decode cX12_isThere 3 = .ok (.ldc2_w 108, 3) := by decide +kernel
theorem dX12_isThere_6 : decode cX12_isThere 6 = .ok (.invokestatic 99, 3) := by decide +kernel
theorem dX12_isThere_9 : decode cX12_isThere 9 = .ok (.ifCond .eq 31, 3) := by decide +kernel
theorem dX12_isThere_12 : decode cX12_isThere 12 = .ok (.iload_n 2, 1) := by decide +kernel
theorem dX12_isThere_13 : decode cX12_isThere 13 = .ok (.iconst 4, 1) := by decide +kernel
theorem dX12_isThere_14 : decode cX12_isThere 14 = .ok (.irem, 1) := by decide +kernel
theorem dX12_isThere_15 : decode cX12_isThere 15 = .ok (.aload_n 0, 1) := by decide +kernel
theorem dX12_isThere_16 : decode cX12_isThere 16 = .ok (.getfield 7, 3) := by decide +kernel
theorem dX12_isThere_19 : decode cX12_isThere 19 = .ok (.iload_n 1, 1) := by decide +kernel
theorem dX12_isThere_20 : decode cX12_isThere 20 = .ok (.iaload, 1) := by decide +kernel
theorem dX12_isThere_21 : decode cX12_isThere 21 = .ok (.if_icmp .ge 19, 3) := by decide +kernel
theorem dX12_isThere_24 : decode cX12_isThere 24 = .ok (.iload_n 2, 1) := by decide +kernel
theorem dX12_isThere_25 : decode cX12_isThere 25 = .ok (.iconst 4, 1) := by decide +kernel
theorem dX12_isThere_26 : decode cX12_isThere 26 = .ok (.idiv, 1) := by decide +kernel
theorem dX12_isThere_27 : decode cX12_isThere 27 = .ok (.aload_n 0, 1) := by decide +kernel
theorem dX12_isThere_28 : decode cX12_isThere 28 = .ok (.getfield 13, 3) := by decide +kernel
theorem dX12_isThere_31 : decode cX12_isThere 31 = .ok (.iload_n 1, 1) := by decide +kernel
theorem dX12_isThere_32 : decode cX12_isThere 32 = .ok (.iaload, 1) := by decide +kernel
theorem dX12_isThere_33 : decode cX12_isThere 33 = .ok (.if_icmp .ge 7, 3) := by decide +kernel
theorem dX12_isThere_36 : decode cX12_isThere 36 = .ok (.iconst 1, 1) := by decide +kernel
theorem dX12_isThere_37 : decode cX12_isThere 37 = .ok (.goto 4, 3) := by decide +kernel
theorem dX12_isThere_40 : decode cX12_isThere 40 = .ok (.iconst 0, 1) := by decide +kernel
theorem dX12_isThere_41 : decode cX12_isThere 41 = .ok (.ireturn, 1) := by decide +kernel
theorem dX12_picture_0 : decode cX12_picture 0 = .ok (.iload_n 3, 1) := by decide +kernel
theorem dX12_picture_1 : decode cX12_picture 1 = .ok (.invokestatic 110, 3) := by decide +kernel
theorem dX12_picture_4 : decode cX12_picture 4 = .ok (.ifCond .eq 9, 3) := by decide +kernel
theorem dX12_picture_7 : decode cX12_picture 7 = .ok (.aload_n 0, 1) := by decide +kernel
theorem dX12_picture_8 : decode cX12_picture 8 = .ok (.iconst (-1), 1) := by decide +kernel
theorem dX12_picture_9 : decode cX12_picture 9 = .ok (.invokevirtual 114, 3) := by decide +kernel
theorem dX12_picture_12 : decode cX12_picture 12 = .ok (.ireturn, 1) := by decide +kernel
theorem dX12_picture_13 : decode cX12_picture 13 = .ok (.iload_n 1, 1) := by decide +kernel
theorem dX12_picture_14 : decode cX12_picture 14 = .ok (.i2l, 1) := by decide +kernel
theorem dX12_picture_15 : decode cX12_picture 15 = .ok (.lconst 1, 1) := by decide +kernel
theorem dX12_picture_16 : decode cX12_picture 16 = .ok (.ldc2_w 117, 3) := by decide +kernel
theorem dX12_picture_19 : decode cX12_picture 19 = .ok (.invokestatic 99, 3) := by decide +kernel
theorem dX12_picture_22 : decode cX12_picture 22 = .ok (.ifCond .eq 23, 3) := by decide +kernel
theorem dX12_picture_25 : decode cX12_picture 25 = .ok (.iload_n 2, 1) := by decide +kernel
theorem dX12_picture_26 : decode cX12_picture 26 = .ok (.i2l, 1) := by decide +kernel
theorem dX12_picture_27 : decode cX12_picture 27 = .ok (.lconst 1, 1) := by decide +kernel
theorem dX12_picture_28 : decode cX12_picture 28 = .ok (.ldc2_w 117, 3) := by decide +kernel
theorem dX12_picture_31 : decode cX12_picture 31 = .ok (.invokestatic 99, 3) := by decide +kernel
theorem dX12_picture_34 : decode cX12_picture 34 = .ok (.ifCond .eq 11, 3) := by decide +kernel
theorem dX12_picture_37 : decode cX12_picture 37 = .ok (.iload 4, 2) := by decide +kernel
theorem dX12_picture_39 : decode cX12_picture 39 = .ok (.invokestatic 119, 3) := by decide +kernel
theorem dX12_picture_42 : decode cX12_picture 42 = .ok (.ifCond .ne 10, 3) := by decide +kernel
theorem dX12_picture_45 : decode cX12_picture 45 = .ok (.aload_n 0, 1) := by decide +kernel
theorem dX12_picture_46 : decode cX12_picture 46 = .ok (.bipush (-2), 2) := by decide +kernel
theorem dX12_picture_48 : decode cX12_picture 48 = .ok (.invokevirtual 114, 3) := by decide +kernel
theorem dX12_picture_51 : decode cX12_picture 51 = .ok (.ireturn, 1) := by decide +kernel
theorem dX12_picture_52 : decode cX12_picture 52 = .ok (.aload_n 0, 1) := by decide +kernel
theorem dX12_picture_53 : decode cX12_picture 53 = .ok (.iload_n 3, 1) := by decide +kernel
theorem dX12_picture_54 : decode cX12_picture 54 = .ok (.iload 4, 2) := by decide +kernel
theorem dX12_picture_56 : decode cX12_picture 56 = .ok (.iload 5, 2) := by decide +kernel
theorem dX12_picture_58 : decode cX12_picture 58 = .ok (.iload_n 1, 1) := by decide +kernel
theorem dX12_picture_59 : decode cX12_picture 59 = .ok (.iload_n 2, 1) := by decide +kernel
theorem dX12_picture_60 : decode cX12_picture 60 = .ok (.imul, 1) := by decide +kernel
theorem dX12_picture_61 : decode cX12_picture 61 = .ok (.i2l, 1) := by decide +kernel
theorem dX12_picture_62 : decode cX12_picture 62 = .ok (.invokevirtual 122, 3) := by decide +kernel
theorem dX12_picture_65 : decode cX12_picture 65 = .ok (.istore 6, 2) := by decide +kernel
theorem dX12_picture_67 : decode cX12_picture 67 = .ok (.iload 6, 2) := by decide +kernel
theorem dX12_picture_69 : decode cX12_picture 69 = .ok (.ifCond .ge 6, 3) := by decide +kernel
theorem dX12_picture_72 : decode cX12_picture 72 = .ok (.iload 6, 2) := by decide +kernel
theorem dX12_picture_74 : decode cX12_picture 74 = .ok (.ireturn, 1) := by decide +kernel
theorem dX12_picture_75 : decode cX12_picture 75 = .ok (.bipush 60, 2) := by decide +kernel
theorem dX12_picture_77 : decode cX12_picture 77 = .ok (.iload_n 3, 1) := by decide +kernel
theorem dX12_picture_78 : decode cX12_picture 78 = .ok (.imul, 1) := by decide +kernel
theorem dX12_picture_79 : decode cX12_picture 79 = .ok (.iload 5, 2) := by decide +kernel
theorem dX12_picture_81 : decode cX12_picture 81 = .ok (.iadd, 1) := by decide +kernel
theorem dX12_picture_82 : decode cX12_picture 82 = .ok (.istore 7, 2) := by decide +kernel
theorem dX12_picture_84 : decode cX12_picture 84 = .ok (.iconst 0, 1) := by decide +kernel
theorem dX12_picture_85 : decode cX12_picture 85 = .ok (.istore 8, 2) := by decide +kernel
theorem dX12_picture_87 : decode cX12_picture 87 = .ok (.iload 8, 2) := by decide +kernel
theorem dX12_picture_89 : decode cX12_picture 89 = .ok (.iload_n 1, 1) := by decide +kernel
theorem dX12_picture_90 : decode cX12_picture 90 = .ok (.iload_n 2, 1) := by decide +kernel
theorem dX12_picture_91 : decode cX12_picture 91 = .ok (.imul, 1) := by decide +kernel
theorem dX12_picture_92 : decode cX12_picture 92 = .ok (.if_icmp .ge 37, 3) := by decide +kernel
theorem dX12_picture_95 : decode cX12_picture 95 = .ok (.aload_n 0, 1) := by decide +kernel
theorem dX12_picture_96 : decode cX12_picture 96 = .ok (.getfield 73, 3) := by decide +kernel
theorem dX12_picture_99 : decode cX12_picture 99 = .ok (.iload 7, 2) := by decide +kernel
theorem dX12_picture_101 : decode cX12_picture 101 = .ok (.iload 8, 2) := by decide +kernel
theorem dX12_picture_103 : decode cX12_picture 103 = .ok (.iadd, 1) := by decide +kernel
theorem dX12_picture_104 : decode cX12_picture 104 = .ok (.iaload, 1) := by decide +kernel
theorem dX12_picture_105 : decode cX12_picture 105 = .ok (.i2l, 1) := by decide +kernel
theorem dX12_picture_106 : decode cX12_picture 106 = .ok (.lconst 0, 1) := by decide +kernel
theorem dX12_picture_107 : decode cX12_picture 107 = .ok (.ldc2_w 126, 3) := by decide +kernel
theorem dX12_picture_110 : decode cX12_picture 110 = .ok (.invokestatic 99, 3) := by decide +kernel
theorem dX12_picture_113 : decode cX12_picture 113 = .ok (.ifCond .ne 10, 3) := by decide +kernel
theorem dX12_picture_116 : decode cX12_picture 116 = .ok (.aload_n 0, 1) := by decide +kernel
theorem dX12_picture_117 : decode cX12_picture 117 = .ok (.bipush (-2), 2) := by decide +kernel
theorem dX12_picture_119 : decode cX12_picture 119 = .ok (.invokevirtual 114, 3) := by decide +kernel
theorem dX12_picture_122 : decode cX12_picture 122 = .ok (.ireturn, 1) := by decide +kernel
theorem dX12_picture_123 : decode cX12_picture 123 = .ok (.iinc 8 1, 3) := by decide +kernel
theorem dX12_picture_126 : decode cX12_picture 126 = .ok (.goto (-39), 3) := by decide +kernel
theorem dX12_picture_129 : decode cX12_picture 129 = .ok (.aload_n 0, 1) := by decide +kernel
theorem dX12_picture_130 : decode cX12_picture 130 = .ok (.getfield 105, 3) := by decide +kernel
theorem dX12_picture_133 : decode cX12_picture 133 = .ok (.bipush 12, 2) := by decide +kernel
theorem dX12_picture_135 : decode cX12_picture 135 = .ok (.if_icmp .ne 10, 3) := by decide +kernel
theorem dX12_picture_138 : decode cX12_picture 138 = .ok (.aload_n 0, 1) := by decide +kernel
theorem dX12_picture_139 : decode cX12_picture 139 = .ok (.bipush (-4), 2) := by decide +kernel
theorem dX12_picture_141 : decode cX12_picture 141 = .ok (.invokevirtual 114, 3) := by decide +kernel
theorem dX12_picture_144 : decode cX12_picture 144 = .ok (.ireturn, 1) := by decide +kernel
theorem dX12_picture_145 : decode cX12_picture 145 = .ok (.aload_n 0, 1) := by decide +kernel
theorem dX12_picture_146 : decode cX12_picture 146 = .ok (.getfield 7, 3) := by decide +kernel
theorem dX12_picture_149 : decode cX12_picture 149 = .ok (.aload_n 0, 1) := by decide +kernel
theorem dX12_picture_150 : decode cX12_picture 150 = .ok (.getfield 105, 3) := by decide +kernel
theorem dX12_picture_153 : decode cX12_picture 153 = .ok (.iload_n 1, 1) := by decide +kernel
theorem dX12_picture_154 : decode cX12_picture 154 = .ok (.iastore, 1) := by decide +kernel
theorem dX12_picture_155 : decode cX12_picture 155 = .ok (.aload_n 0, 1) := by decide +kernel
theorem dX12_picture_156 : decode cX12_picture 156 = .ok (.getfield 13, 3) := by decide +kernel
theorem dX12_picture_159 : decode cX12_picture 159 = .ok (.aload_n 0, 1) := by decide +kernel
theorem dX12_picture_160 : decode cX12_picture 160 = .ok (.getfield 105, 3) := by decide +kernel
theorem dX12_picture_163 : decode cX12_picture 163 = .ok (.iload_n 2, 1) := by decide +kernel
theorem dX12_picture_164 : decode cX12_picture 164 = .ok (.iastore, 1) := by decide +kernel
theorem dX12_picture_165 : decode cX12_picture 165 = .ok (.iconst 0, 1) := by decide +kernel
theorem dX12_picture_166 : decode cX12_picture 166 = .ok (.istore 8, 2) := by decide +kernel
theorem dX12_picture_168 : decode cX12_picture 168 = .ok (.iload 8, 2) := by decide +kernel
theorem dX12_picture_170 : decode cX12_picture 170 = .ok (.iload_n 1, 1) := by decide +kernel
theorem dX12_picture_171 : decode cX12_picture 171 = .ok (.iload_n 2, 1) := by decide +kernel
theorem dX12_picture_172 : decode cX12_picture 172 = .ok (.imul, 1) := by decide +kernel
theorem dX12_picture_173 : decode cX12_picture 173 = .ok (.if_icmp .ge 43, 3) := by decide +kernel
theorem dX12_picture_176 : decode cX12_picture 176 = .ok (.aload_n 0, 1) := by decide +kernel
theorem dX12_picture_177 : decode cX12_picture 177 = .ok (.getfield 16, 3) := by decide +kernel
theorem dX12_picture_180 : decode cX12_picture 180 = .ok (.bipush 16, 2) := by decide +kernel
theorem dX12_picture_182 : decode cX12_picture 182 = .ok (.aload_n 0, 1) := by decide +kernel
theorem dX12_picture_183 : decode cX12_picture 183 = .ok (.getfield 105, 3) := by decide +kernel
theorem dX12_picture_186 : decode cX12_picture 186 = .ok (.imul, 1) := by decide +kernel
theorem dX12_picture_187 : decode cX12_picture 187 = .ok (.iload 8, 2) := by decide +kernel
theorem dX12_picture_189 : decode cX12_picture 189 = .ok (.iload_n 1, 1) := by decide +kernel
theorem dX12_picture_190 : decode cX12_picture 190 = .ok (.irem, 1) := by decide +kernel
theorem dX12_picture_191 : decode cX12_picture 191 = .ok (.iadd, 1) := by decide +kernel
theorem dX12_picture_192 : decode cX12_picture 192 = .ok (.iconst 4, 1) := by decide +kernel
theorem dX12_picture_193 : decode cX12_picture 193 = .ok (.iload 8, 2) := by decide +kernel
theorem dX12_picture_195 : decode cX12_picture 195 = .ok (.iload_n 1, 1) := by decide +kernel
theorem dX12_picture_196 : decode cX12_picture 196 = .ok (.idiv, 1) := by decide +kernel
theorem dX12_picture_197 : decode cX12_picture 197 = .ok (.imul, 1) := by decide +kernel
theorem dX12_picture_198 : decode cX12_picture 198 = .ok (.iadd, 1) := by decide +kernel
theorem dX12_picture_199 : decode cX12_picture 199 = .ok (.aload_n 0, 1) := by decide +kernel
theorem dX12_picture_200 : decode cX12_picture 200 = .ok (.getfield 73, 3) := by decide +kernel
theorem dX12_picture_203 : decode cX12_picture 203 = .ok (.iload 7, 2) := by decide +kernel
theorem dX12_picture_205 : decode cX12_picture 205 = .ok (.iload 8, 2) := by decide +kernel
theorem dX12_picture_207 : decode cX12_picture 207 = .ok (.iadd, 1) := by decide +kernel
theorem dX12_picture_208 : decode cX12_picture 208 = .ok (.iaload, 1) := by decide +kernel
theorem dX12_picture_209 : decode cX12_picture 209 = .ok (.iastore, 1) := by decide +kernel
theorem dX12_picture_210 : decode cX12_picture 210 = .ok (.iinc 8 1, 3) := by decide +kernel
theorem dX12_picture_213 : decode cX12_picture 213 = .ok (.goto (-45), 3) := by decide +kernel
theorem dX12_picture_216 : decode cX12_picture 216 = .ok (.aload_n 0, 1) := by decide +kernel
theorem dX12_picture_217 : decode cX12_picture 217 = .ok (.dup, 1) := by decide +kernel
theorem dX12_picture_218 : decode cX12_picture 218 = .ok (.getfield 105, 3) := by decide +kernel
theorem dX12_picture_221 : decode cX12_picture 221 = .ok (.iconst 1, 1) := by decide +kernel
theorem dX12_picture_222 : decode cX12_picture 222 = .ok (.iadd, 1) := by decide +kernel
theorem dX12_picture_223 : decode cX12_picture 223 = .ok (.putfield 105, 3) := by decide +kernel
theorem dX12_picture_226 : decode cX12_picture 226 = .ok (.aload_n 0, 1) := by decide +kernel
theorem dX12_picture_227 : decode cX12_picture 227 = .ok (.aload_n 0, 1) := by decide +kernel
theorem dX12_picture_228 : decode cX12_picture 228 = .ok (.getfield 105, 3) := by decide +kernel
theorem dX12_picture_231 : decode cX12_picture 231 = .ok (.iconst 1, 1) := by decide +kernel
theorem dX12_picture_232 : decode cX12_picture 232 = .ok (.isub, 1) := by decide +kernel
theorem dX12_picture_233 : decode cX12_picture 233 = .ok (.invokevirtual 114, 3) := by decide +kernel
theorem dX12_picture_236 : decode cX12_picture 236 = .ok (.ireturn, 1) := by decide +kernel
theorem dX12_manySquares_0 : decode cX12_manySquares 0 = .ok (.aload_n 0, 1) := by decide +kernel
theorem dX12_manySquares_1 : decode cX12_manySquares 1 = .ok (.getfield 7, 3) := by decide +kernel
theorem dX12_manySquares_4 : decode cX12_manySquares 4 = .ok (.iload_n 1, 1) := by decide +kernel
theorem dX12_manySquares_5 : decode cX12_manySquares 5 = .ok (.iaload, 1) := by decide +kernel
theorem dX12_manySquares_6 : decode cX12_manySquares 6 = .ok (.aload_n 0, 1) := by decide +kernel
theorem dX12_manySquares_7 : decode cX12_manySquares 7 = .ok (.getfield 13, 3) := by decide +kernel
theorem dX12_manySquares_10 : decode cX12_manySquares 10 = .ok (.iload_n 1, 1) := by decide +kernel
theorem dX12_manySquares_11 : decode cX12_manySquares 11 = .ok (.iaload, 1) := by decide +kernel
theorem dX12_manySquares_12 : decode cX12_manySquares 12 = .ok (.imul, 1) := by decide +kernel
theorem dX12_manySquares_13 : decode cX12_manySquares 13 = .ok (.ireturn, 1) := by decide +kernel
theorem dX12_placeOf_0 : decode cX12_placeOf 0 = .ok (.iload_n 2, 1) := by decide +kernel
theorem dX12_placeOf_1 : decode cX12_placeOf 1 = .ok (.aload_n 0, 1) := by decide +kernel
theorem dX12_placeOf_2 : decode cX12_placeOf 2 = .ok (.getfield 7, 3) := by decide +kernel
theorem dX12_placeOf_5 : decode cX12_placeOf 5 = .ok (.iload_n 1, 1) := by decide +kernel
theorem dX12_placeOf_6 : decode cX12_placeOf 6 = .ok (.iaload, 1) := by decide +kernel
theorem dX12_placeOf_7 : decode cX12_placeOf 7 = .ok (.irem, 1) := by decide +kernel
theorem dX12_placeOf_8 : decode cX12_placeOf 8 = .ok (.iconst 4, 1) := by decide +kernel
theorem dX12_placeOf_9 : decode cX12_placeOf 9 = .ok (.iload_n 2, 1) := by decide +kernel
theorem dX12_placeOf_10 : decode cX12_placeOf 10 = .ok (.aload_n 0, 1) := by decide +kernel
theorem dX12_placeOf_11 : decode cX12_placeOf 11 = .ok (.getfield 7, 3) := by decide +kernel
theorem dX12_placeOf_14 : decode cX12_placeOf 14 = .ok (.iload_n 1, 1) := by decide +kernel
theorem dX12_placeOf_15 : decode cX12_placeOf 15 = .ok (.iaload, 1) := by decide +kernel
theorem dX12_placeOf_16 : decode cX12_placeOf 16 = .ok (.idiv, 1) := by decide +kernel
theorem dX12_placeOf_17 : decode cX12_placeOf 17 = .ok (.imul, 1) := by decide +kernel
theorem dX12_placeOf_18 : decode cX12_placeOf 18 = .ok (.iadd, 1) := by decide +kernel
theorem dX12_placeOf_19 : decode cX12_placeOf 19 = .ok (.ireturn, 1) := by decide +kernel
theorem dX12_sumOf_0 : decode cX12_sumOf 0 = .ok (.iconst 0, 1) := by decide +kernel
theorem dX12_sumOf_1 : decode cX12_sumOf 1 = .ok (.istore_n 2, 1) := by decide +kernel
theorem dX12_sumOf_2 : decode cX12_sumOf 2 = .ok (.iconst 0, 1) := by decide +kernel
theorem dX12_sumOf_3 : decode cX12_sumOf 3 = .ok (.istore_n 3, 1) := by decide +kernel
theorem dX12_sumOf_4 : decode cX12_sumOf 4 = .ok (.iload_n 3, 1) := by decide +kernel
theorem dX12_sumOf_5 : decode cX12_sumOf 5 = .ok (.aload_n 0, 1) := by decide +kernel
theorem dX12_sumOf_6 : decode cX12_sumOf 6 = .ok (.iload_n 1, 1) := by decide +kernel
theorem dX12_sumOf_7 : decode cX12_sumOf 7 = .ok (.invokevirtual 128, 3) := by decide +kernel
theorem dX12_sumOf_10 : decode cX12_sumOf 10 = .ok (.if_icmp .ge 28, 3) := by decide +kernel
theorem dX12_sumOf_13 : decode cX12_sumOf 13 = .ok (.iload_n 2, 1) := by decide +kernel
theorem dX12_sumOf_14 : decode cX12_sumOf 14 = .ok (.aload_n 0, 1) := by decide +kernel
theorem dX12_sumOf_15 : decode cX12_sumOf 15 = .ok (.getfield 16, 3) := by decide +kernel
theorem dX12_sumOf_18 : decode cX12_sumOf 18 = .ok (.bipush 16, 2) := by decide +kernel
theorem dX12_sumOf_20 : decode cX12_sumOf 20 = .ok (.iload_n 1, 1) := by decide +kernel
theorem dX12_sumOf_21 : decode cX12_sumOf 21 = .ok (.imul, 1) := by decide +kernel
theorem dX12_sumOf_22 : decode cX12_sumOf 22 = .ok (.aload_n 0, 1) := by decide +kernel
theorem dX12_sumOf_23 : decode cX12_sumOf 23 = .ok (.iload_n 1, 1) := by decide +kernel
theorem dX12_sumOf_24 : decode cX12_sumOf 24 = .ok (.iload_n 3, 1) := by decide +kernel
theorem dX12_sumOf_25 : decode cX12_sumOf 25 = .ok (.invokevirtual 131, 3) := by decide +kernel
theorem dX12_sumOf_28 : decode cX12_sumOf 28 = .ok (.iadd, 1) := by decide +kernel
theorem dX12_sumOf_29 : decode cX12_sumOf 29 = .ok (.iaload, 1) := by decide +kernel
theorem dX12_sumOf_30 : decode cX12_sumOf 30 = .ok (.iadd, 1) := by decide +kernel
theorem dX12_sumOf_31 : decode cX12_sumOf 31 = .ok (.istore_n 2, 1) := by decide +kernel
theorem dX12_sumOf_32 : decode cX12_sumOf 32 = .ok (.iinc 3 1, 3) := by decide +kernel
theorem dX12_sumOf_35 : decode cX12_sumOf 35 = .ok (.goto (-31), 3) := by decide +kernel
theorem dX12_sumOf_38 : decode cX12_sumOf 38 = .ok (.iload_n 2, 1) := by decide +kernel
theorem dX12_sumOf_39 : decode cX12_sumOf 39 = .ok (.ireturn, 1) := by decide +kernel
theorem dX12_layTree_0 : decode cX12_layTree 0 = .ok (.iconst 0, 1) := by decide +kernel
theorem dX12_layTree_1 : decode cX12_layTree 1 = .ok (.istore_n 2, 1) := by decide +kernel
theorem dX12_layTree_2 : decode cX12_layTree 2 = .ok (.iload_n 2, 1) := by decide +kernel
theorem dX12_layTree_3 : decode cX12_layTree 3 = .ok (.bipush 16, 2) := by decide +kernel
theorem dX12_layTree_5 : decode cX12_layTree 5 = .ok (.if_icmp .ge 44, 3) := by decide +kernel
theorem dX12_layTree_8 : decode cX12_layTree 8 = .ok (.aload_n 0, 1) := by decide +kernel
theorem dX12_layTree_9 : decode cX12_layTree 9 = .ok (.getfield 19, 3) := by decide +kernel
theorem dX12_layTree_12 : decode cX12_layTree 12 = .ok (.bipush 16, 2) := by decide +kernel
theorem dX12_layTree_14 : decode cX12_layTree 14 = .ok (.iload_n 2, 1) := by decide +kernel
theorem dX12_layTree_15 : decode cX12_layTree 15 = .ok (.iadd, 1) := by decide +kernel
theorem dX12_layTree_16 : decode cX12_layTree 16 = .ok (.aload_n 0, 1) := by decide +kernel
theorem dX12_layTree_17 : decode cX12_layTree 17 = .ok (.iload_n 1, 1) := by decide +kernel
theorem dX12_layTree_18 : decode cX12_layTree 18 = .ok (.iload_n 2, 1) := by decide +kernel
theorem dX12_layTree_19 : decode cX12_layTree 19 = .ok (.invokevirtual 135, 3) := by decide +kernel
theorem dX12_layTree_22 : decode cX12_layTree 22 = .ok (.ifCond .eq 19, 3) := by decide +kernel
theorem dX12_layTree_25 : decode cX12_layTree 25 = .ok (.aload_n 0, 1) := by decide +kernel
theorem dX12_layTree_26 : decode cX12_layTree 26 = .ok (.getfield 16, 3) := by decide +kernel
theorem dX12_layTree_29 : decode cX12_layTree 29 = .ok (.bipush 16, 2) := by decide +kernel
theorem dX12_layTree_31 : decode cX12_layTree 31 = .ok (.iload_n 1, 1) := by decide +kernel
theorem dX12_layTree_32 : decode cX12_layTree 32 = .ok (.imul, 1) := by decide +kernel
theorem dX12_layTree_33 : decode cX12_layTree 33 = .ok (.iload_n 2, 1) := by decide +kernel
theorem dX12_layTree_34 : decode cX12_layTree 34 = .ok (.iadd, 1) := by decide +kernel
theorem dX12_layTree_35 : decode cX12_layTree 35 = .ok (.iaload, 1) := by decide +kernel
theorem dX12_layTree_36 : decode cX12_layTree 36 = .ok (.iconst 1, 1) := by decide +kernel
theorem dX12_layTree_37 : decode cX12_layTree 37 = .ok (.iadd, 1) := by decide +kernel
theorem dX12_layTree_38 : decode cX12_layTree 38 = .ok (.goto 4, 3) := by decide +kernel
theorem dX12_layTree_41 : decode cX12_layTree 41 = .ok (.iconst 0, 1) := by decide +kernel
theorem dX12_layTree_42 : decode cX12_layTree 42 = .ok (.iastore, 1) := by decide +kernel
theorem dX12_layTree_43 : decode cX12_layTree 43 = .ok (.iinc 2 1, 3) := by decide +kernel
theorem dX12_layTree_46 : decode cX12_layTree 46 = .ok (.goto (-44), 3) := by decide +kernel
theorem dX12_layTree_49 : decode cX12_layTree 49 = .ok (.bipush 15, 2) := by decide +kernel
theorem dX12_layTree_51 : decode cX12_layTree 51 = .ok (.istore_n 2, 1) := by decide +kernel
theorem dX12_layTree_52 : decode cX12_layTree 52 = .ok (.iload_n 2, 1) := by decide +kernel
theorem dX12_layTree_53 : decode cX12_layTree 53 = .ok (.ifCond .le 36, 3) := by decide +kernel
theorem dX12_layTree_56 : decode cX12_layTree 56 = .ok (.aload_n 0, 1) := by decide +kernel
theorem dX12_layTree_57 : decode cX12_layTree 57 = .ok (.getfield 19, 3) := by decide +kernel
theorem dX12_layTree_60 : decode cX12_layTree 60 = .ok (.iload_n 2, 1) := by decide +kernel
theorem dX12_layTree_61 : decode cX12_layTree 61 = .ok (.aload_n 0, 1) := by decide +kernel
theorem dX12_layTree_62 : decode cX12_layTree 62 = .ok (.getfield 19, 3) := by decide +kernel
theorem dX12_layTree_65 : decode cX12_layTree 65 = .ok (.iconst 2, 1) := by decide +kernel
theorem dX12_layTree_66 : decode cX12_layTree 66 = .ok (.iload_n 2, 1) := by decide +kernel
theorem dX12_layTree_67 : decode cX12_layTree 67 = .ok (.imul, 1) := by decide +kernel
theorem dX12_layTree_68 : decode cX12_layTree 68 = .ok (.iaload, 1) := by decide +kernel
theorem dX12_layTree_69 : decode cX12_layTree 69 = .ok (.aload_n 0, 1) := by decide +kernel
theorem dX12_layTree_70 : decode cX12_layTree 70 = .ok (.getfield 19, 3) := by decide +kernel
theorem dX12_layTree_73 : decode cX12_layTree 73 = .ok (.iconst 2, 1) := by decide +kernel
theorem dX12_layTree_74 : decode cX12_layTree 74 = .ok (.iload_n 2, 1) := by decide +kernel
theorem dX12_layTree_75 : decode cX12_layTree 75 = .ok (.imul, 1) := by decide +kernel
theorem dX12_layTree_76 : decode cX12_layTree 76 = .ok (.iconst 1, 1) := by decide +kernel
theorem dX12_layTree_77 : decode cX12_layTree 77 = .ok (.iadd, 1) := by decide +kernel
theorem dX12_layTree_78 : decode cX12_layTree 78 = .ok (.iaload, 1) := by decide +kernel
theorem dX12_layTree_79 : decode cX12_layTree 79 = .ok (.invokestatic 139, 3) := by decide +kernel
theorem dX12_layTree_82 : decode cX12_layTree 82 = .ok (.iastore, 1) := by decide +kernel
theorem dX12_layTree_83 : decode cX12_layTree 83 = .ok (.iinc 2 (-1), 3) := by decide +kernel
theorem dX12_layTree_86 : decode cX12_layTree 86 = .ok (.goto (-34), 3) := by decide +kernel
theorem dX12_layTree_89 : decode cX12_layTree 89 = .ok (.return_, 1) := by decide +kernel
theorem dX12_above_0 : decode cX12_above 0 = .ok (.bipush 31, 2) := by decide +kernel
theorem dX12_above_2 : decode cX12_above 2 = .ok (.iload_n 0, 1) := by decide +kernel
theorem dX12_above_3 : decode cX12_above 3 = .ok (.imul, 1) := by decide +kernel
theorem dX12_above_4 : decode cX12_above 4 = .ok (.bipush 17, 2) := by decide +kernel
theorem dX12_above_6 : decode cX12_above 6 = .ok (.iload_n 1, 1) := by decide +kernel
theorem dX12_above_7 : decode cX12_above 7 = .ok (.imul, 1) := by decide +kernel
theorem dX12_above_8 : decode cX12_above 8 = .ok (.iadd, 1) := by decide +kernel
theorem dX12_above_9 : decode cX12_above 9 = .ok (.iconst 5, 1) := by decide +kernel
theorem dX12_above_10 : decode cX12_above 10 = .ok (.iadd, 1) := by decide +kernel
theorem dX12_above_11 : decode cX12_above 11 = .ok (.sipush 9973, 3) := by decide +kernel
theorem dX12_above_14 : decode cX12_above 14 = .ok (.irem, 1) := by decide +kernel
theorem dX12_above_15 : decode cX12_above 15 = .ok (.ireturn, 1) := by decide +kernel
theorem dX12_rootOf_0 : decode cX12_rootOf 0 = .ok (.aload_n 0, 1) := by decide +kernel
theorem dX12_rootOf_1 : decode cX12_rootOf 1 = .ok (.iload_n 1, 1) := by decide +kernel
theorem dX12_rootOf_2 : decode cX12_rootOf 2 = .ok (.invokevirtual 142, 3) := by decide +kernel
theorem dX12_rootOf_5 : decode cX12_rootOf 5 = .ok (.aload_n 0, 1) := by decide +kernel
theorem dX12_rootOf_6 : decode cX12_rootOf 6 = .ok (.getfield 19, 3) := by decide +kernel
theorem dX12_rootOf_9 : decode cX12_rootOf 9 = .ok (.iconst 1, 1) := by decide +kernel
theorem dX12_rootOf_10 : decode cX12_rootOf 10 = .ok (.iaload, 1) := by decide +kernel
theorem dX12_rootOf_11 : decode cX12_rootOf 11 = .ok (.ireturn, 1) := by decide +kernel
theorem dX12_ofPicture_0 : decode cX12_ofPicture 0 = .ok (.aload_n 0, 1) := by decide +kernel
theorem dX12_ofPicture_1 : decode cX12_ofPicture 1 = .ok (.iload_n 1, 1) := by decide +kernel
theorem dX12_ofPicture_2 : decode cX12_ofPicture 2 = .ok (.invokevirtual 146, 3) := by decide +kernel
theorem dX12_ofPicture_5 : decode cX12_ofPicture 5 = .ok (.ifCond .eq 5, 3) := by decide +kernel
theorem dX12_ofPicture_8 : decode cX12_ofPicture 8 = .ok (.iconst (-1), 1) := by decide +kernel
theorem dX12_ofPicture_9 : decode cX12_ofPicture 9 = .ok (.ireturn, 1) := by decide +kernel
theorem dX12_ofPicture_10 : decode cX12_ofPicture 10 = .ok (.iload_n 2, 1) := by decide +kernel
theorem dX12_ofPicture_11 : decode cX12_ofPicture 11 = .ok (.tableswitch 55 0 3 #[29, 36, 43, 49], 29) := by decide +kernel
theorem dX12_ofPicture_40 : decode cX12_ofPicture 40 = .ok (.aload_n 0, 1) := by decide +kernel
theorem dX12_ofPicture_41 : decode cX12_ofPicture 41 = .ok (.getfield 7, 3) := by decide +kernel
theorem dX12_ofPicture_44 : decode cX12_ofPicture 44 = .ok (.iload_n 1, 1) := by decide +kernel
theorem dX12_ofPicture_45 : decode cX12_ofPicture 45 = .ok (.iaload, 1) := by decide +kernel
theorem dX12_ofPicture_46 : decode cX12_ofPicture 46 = .ok (.ireturn, 1) := by decide +kernel
theorem dX12_ofPicture_47 : decode cX12_ofPicture 47 = .ok (.aload_n 0, 1) := by decide +kernel
theorem dX12_ofPicture_48 : decode cX12_ofPicture 48 = .ok (.getfield 13, 3) := by decide +kernel
theorem dX12_ofPicture_51 : decode cX12_ofPicture 51 = .ok (.iload_n 1, 1) := by decide +kernel
theorem dX12_ofPicture_52 : decode cX12_ofPicture 52 = .ok (.iaload, 1) := by decide +kernel
theorem dX12_ofPicture_53 : decode cX12_ofPicture 53 = .ok (.ireturn, 1) := by decide +kernel
theorem dX12_ofPicture_54 : decode cX12_ofPicture 54 = .ok (.aload_n 0, 1) := by decide +kernel
theorem dX12_ofPicture_55 : decode cX12_ofPicture 55 = .ok (.iload_n 1, 1) := by decide +kernel
theorem dX12_ofPicture_56 : decode cX12_ofPicture 56 = .ok (.invokevirtual 149, 3) := by decide +kernel
theorem dX12_ofPicture_59 : decode cX12_ofPicture 59 = .ok (.ireturn, 1) := by decide +kernel
theorem dX12_ofPicture_60 : decode cX12_ofPicture 60 = .ok (.aload_n 0, 1) := by decide +kernel
theorem dX12_ofPicture_61 : decode cX12_ofPicture 61 = .ok (.iload_n 1, 1) := by decide +kernel
theorem dX12_ofPicture_62 : decode cX12_ofPicture 62 = .ok (.invokevirtual 152, 3) := by decide +kernel
theorem dX12_ofPicture_65 : decode cX12_ofPicture 65 = .ok (.ireturn, 1) := by decide +kernel
theorem dX12_ofPicture_66 : decode cX12_ofPicture 66 = .ok (.iload_n 2, 1) := by decide +kernel
theorem dX12_ofPicture_67 : decode cX12_ofPicture 67 = .ok (.i2l, 1) := by decide +kernel
theorem dX12_ofPicture_68 : decode cX12_ofPicture 68 = .ok (.ldc2_w 155, 3) := by decide +kernel
theorem dX12_ofPicture_71 : decode cX12_ofPicture 71 = .ok (.ldc2_w 157, 3) := by decide +kernel
theorem dX12_ofPicture_74 : decode cX12_ofPicture 74 = .ok (.invokestatic 99, 3) := by decide +kernel
theorem dX12_ofPicture_77 : decode cX12_ofPicture 77 = .ok (.ifCond .eq 32, 3) := by decide +kernel
theorem dX12_ofPicture_80 : decode cX12_ofPicture 80 = .ok (.aload_n 0, 1) := by decide +kernel
theorem dX12_ofPicture_81 : decode cX12_ofPicture 81 = .ok (.iload_n 1, 1) := by decide +kernel
theorem dX12_ofPicture_82 : decode cX12_ofPicture 82 = .ok (.iload_n 2, 1) := by decide +kernel
theorem dX12_ofPicture_83 : decode cX12_ofPicture 83 = .ok (.bipush 10, 2) := by decide +kernel
theorem dX12_ofPicture_85 : decode cX12_ofPicture 85 = .ok (.isub, 1) := by decide +kernel
theorem dX12_ofPicture_86 : decode cX12_ofPicture 86 = .ok (.invokevirtual 135, 3) := by decide +kernel
theorem dX12_ofPicture_89 : decode cX12_ofPicture 89 = .ok (.ifCond .eq 20, 3) := by decide +kernel
theorem dX12_ofPicture_92 : decode cX12_ofPicture 92 = .ok (.aload_n 0, 1) := by decide +kernel
theorem dX12_ofPicture_93 : decode cX12_ofPicture 93 = .ok (.getfield 16, 3) := by decide +kernel
theorem dX12_ofPicture_96 : decode cX12_ofPicture 96 = .ok (.bipush 16, 2) := by decide +kernel
theorem dX12_ofPicture_98 : decode cX12_ofPicture 98 = .ok (.iload_n 1, 1) := by decide +kernel
theorem dX12_ofPicture_99 : decode cX12_ofPicture 99 = .ok (.imul, 1) := by decide +kernel
theorem dX12_ofPicture_100 : decode cX12_ofPicture 100 = .ok (.iload_n 2, 1) := by decide +kernel
theorem dX12_ofPicture_101 : decode cX12_ofPicture 101 = .ok (.iadd, 1) := by decide +kernel
theorem dX12_ofPicture_102 : decode cX12_ofPicture 102 = .ok (.bipush 10, 2) := by decide +kernel
theorem dX12_ofPicture_104 : decode cX12_ofPicture 104 = .ok (.isub, 1) := by decide +kernel
theorem dX12_ofPicture_105 : decode cX12_ofPicture 105 = .ok (.iaload, 1) := by decide +kernel
theorem dX12_ofPicture_106 : decode cX12_ofPicture 106 = .ok (.goto 5, 3) := by decide +kernel
theorem dX12_ofPicture_109 : decode cX12_ofPicture 109 = .ok (.bipush (-2), 2) := by decide +kernel
theorem dX12_ofPicture_111 : decode cX12_ofPicture 111 = .ok (.ireturn, 1) := by decide +kernel
theorem dX12_alter_0 : decode cX12_alter 0 = .ok (.aload_n 0, 1) := by decide +kernel
theorem dX12_alter_1 : decode cX12_alter 1 = .ok (.iload_n 1, 1) := by decide +kernel
theorem dX12_alter_2 : decode cX12_alter 2 = .ok (.invokevirtual 146, 3) := by decide +kernel
theorem dX12_alter_5 : decode cX12_alter 5 = .ok (.ifCond .ne 12, 3) := by decide +kernel
theorem dX12_alter_8 : decode cX12_alter 8 = .ok (.aload_n 0, 1) := by decide +kernel
theorem dX12_alter_9 : decode cX12_alter 9 = .ok (.iload_n 1, 1) := by decide +kernel
theorem dX12_alter_10 : decode cX12_alter 10 = .ok (.iload_n 2, 1) := by decide +kernel
theorem dX12_alter_11 : decode cX12_alter 11 = .ok (.invokevirtual 135, 3) := by decide +kernel
theorem dX12_alter_14 : decode cX12_alter 14 = .ok (.ifCond .ne 5, 3) := by decide +kernel
theorem dX12_alter_17 : decode cX12_alter 17 = .ok (.iconst (-1), 1) := by decide +kernel
theorem dX12_alter_18 : decode cX12_alter 18 = .ok (.ireturn, 1) := by decide +kernel
theorem dX12_alter_19 : decode cX12_alter 19 = .ok (.iload_n 3, 1) := by decide +kernel
theorem dX12_alter_20 : decode cX12_alter 20 = .ok (.i2l, 1) := by decide +kernel
theorem dX12_alter_21 : decode cX12_alter 21 = .ok (.lconst 0, 1) := by decide +kernel
theorem dX12_alter_22 : decode cX12_alter 22 = .ok (.ldc2_w 126, 3) := by decide +kernel
theorem dX12_alter_25 : decode cX12_alter 25 = .ok (.invokestatic 99, 3) := by decide +kernel
theorem dX12_alter_28 : decode cX12_alter 28 = .ok (.ifCond .ne 6, 3) := by decide +kernel
theorem dX12_alter_31 : decode cX12_alter 31 = .ok (.bipush (-2), 2) := by decide +kernel
theorem dX12_alter_33 : decode cX12_alter 33 = .ok (.ireturn, 1) := by decide +kernel
theorem dX12_alter_34 : decode cX12_alter 34 = .ok (.aload_n 0, 1) := by decide +kernel
theorem dX12_alter_35 : decode cX12_alter 35 = .ok (.getfield 16, 3) := by decide +kernel
theorem dX12_alter_38 : decode cX12_alter 38 = .ok (.bipush 16, 2) := by decide +kernel
theorem dX12_alter_40 : decode cX12_alter 40 = .ok (.iload_n 1, 1) := by decide +kernel
theorem dX12_alter_41 : decode cX12_alter 41 = .ok (.imul, 1) := by decide +kernel
theorem dX12_alter_42 : decode cX12_alter 42 = .ok (.iload_n 2, 1) := by decide +kernel
theorem dX12_alter_43 : decode cX12_alter 43 = .ok (.iadd, 1) := by decide +kernel
theorem dX12_alter_44 : decode cX12_alter 44 = .ok (.iaload, 1) := by decide +kernel
theorem dX12_alter_45 : decode cX12_alter 45 = .ok (.istore 4, 2) := by decide +kernel
theorem dX12_alter_47 : decode cX12_alter 47 = .ok (.aload_n 0, 1) := by decide +kernel
theorem dX12_alter_48 : decode cX12_alter 48 = .ok (.getfield 16, 3) := by decide +kernel
theorem dX12_alter_51 : decode cX12_alter 51 = .ok (.bipush 16, 2) := by decide +kernel
theorem dX12_alter_53 : decode cX12_alter 53 = .ok (.iload_n 1, 1) := by decide +kernel
theorem dX12_alter_54 : decode cX12_alter 54 = .ok (.imul, 1) := by decide +kernel
theorem dX12_alter_55 : decode cX12_alter 55 = .ok (.iload_n 2, 1) := by decide +kernel
theorem dX12_alter_56 : decode cX12_alter 56 = .ok (.iadd, 1) := by decide +kernel
theorem dX12_alter_57 : decode cX12_alter 57 = .ok (.iload_n 3, 1) := by decide +kernel
theorem dX12_alter_58 : decode cX12_alter 58 = .ok (.iastore, 1) := by decide +kernel
theorem dX12_alter_59 : decode cX12_alter 59 = .ok (.iload 4, 2) := by decide +kernel
theorem dX12_alter_61 : decode cX12_alter 61 = .ok (.ireturn, 1) := by decide +kernel
theorem dX12_isDigit_0 : decode cX12_isDigit 0 = .ok (.aload_n 0, 1) := by decide +kernel
theorem dX12_isDigit_1 : decode cX12_isDigit 1 = .ok (.getfield 159, 3) := by decide +kernel
theorem dX12_isDigit_4 : decode cX12_isDigit 4 = .ok (.iload_n 2, 1) := by decide +kernel
theorem dX12_isDigit_5 : decode cX12_isDigit 5 = .ok (.if_icmp .ge 31, 3) := by decide +kernel
theorem dX12_isDigit_8 : decode cX12_isDigit 8 = .ok (.aload_n 0, 1) := by decide +kernel
theorem dX12_isDigit_9 : decode cX12_isDigit 9 = .ok (.getfield 73, 3) := by decide +kernel
theorem dX12_isDigit_12 : decode cX12_isDigit 12 = .ok (.iload_n 1, 1) := by decide +kernel
theorem dX12_isDigit_13 : decode cX12_isDigit 13 = .ok (.aload_n 0, 1) := by decide +kernel
theorem dX12_isDigit_14 : decode cX12_isDigit 14 = .ok (.getfield 159, 3) := by decide +kernel
theorem dX12_isDigit_17 : decode cX12_isDigit 17 = .ok (.iadd, 1) := by decide +kernel
theorem dX12_isDigit_18 : decode cX12_isDigit 18 = .ok (.iaload, 1) := by decide +kernel
theorem dX12_isDigit_19 : decode cX12_isDigit 19 = .ok (.i2l, 1) := by decide +kernel
theorem dX12_isDigit_20 : decode cX12_isDigit 20 = .ok (.ldc2_w 162, 3) := by decide +kernel
theorem dX12_isDigit_23 : decode cX12_isDigit 23 = .ok (.ldc2_w 164, 3) := by decide +kernel
theorem dX12_isDigit_26 : decode cX12_isDigit 26 = .ok (.invokestatic 99, 3) := by decide +kernel
theorem dX12_isDigit_29 : decode cX12_isDigit 29 = .ok (.ifCond .eq 7, 3) := by decide +kernel
theorem dX12_isDigit_32 : decode cX12_isDigit 32 = .ok (.iconst 1, 1) := by decide +kernel
theorem dX12_isDigit_33 : decode cX12_isDigit 33 = .ok (.goto 4, 3) := by decide +kernel
theorem dX12_isDigit_36 : decode cX12_isDigit 36 = .ok (.iconst 0, 1) := by decide +kernel
theorem dX12_isDigit_37 : decode cX12_isDigit 37 = .ok (.ireturn, 1) := by decide +kernel
theorem dX12_readsNumbers_0 : decode cX12_readsNumbers 0 = .ok (.iconst 5, 1) := by decide +kernel
theorem dX12_readsNumbers_1 : decode cX12_readsNumbers 1 = .ok (.aload_n 0, 1) := by decide +kernel
theorem dX12_readsNumbers_2 : decode cX12_readsNumbers 2 = .ok (.getfield 166, 3) := by decide +kernel
theorem dX12_readsNumbers_5 : decode cX12_readsNumbers 5 = .ok (.imul, 1) := by decide +kernel
theorem dX12_readsNumbers_6 : decode cX12_readsNumbers 6 = .ok (.iconst 1, 1) := by decide +kernel
theorem dX12_readsNumbers_7 : decode cX12_readsNumbers 7 = .ok (.iadd, 1) := by decide +kernel
theorem dX12_readsNumbers_8 : decode cX12_readsNumbers 8 = .ok (.istore 4, 2) := by decide +kernel
theorem dX12_readsNumbers_10 : decode cX12_readsNumbers 10 = .ok (.iload_n 1, 1) := by decide +kernel
theorem dX12_readsNumbers_11 : decode cX12_readsNumbers 11 = .ok (.bipush 99, 2) := by decide +kernel
theorem dX12_readsNumbers_13 : decode cX12_readsNumbers 13 = .ok (.if_icmp .eq 9, 3) := by decide +kernel
theorem dX12_readsNumbers_16 : decode cX12_readsNumbers 16 = .ok (.iload_n 1, 1) := by decide +kernel
theorem dX12_readsNumbers_17 : decode cX12_readsNumbers 17 = .ok (.bipush 98, 2) := by decide +kernel
theorem dX12_readsNumbers_19 : decode cX12_readsNumbers 19 = .ok (.if_icmp .ne 65, 3) := by decide +kernel
theorem dX12_readsNumbers_22 : decode cX12_readsNumbers 22 = .ok (.iconst 0, 1) := by decide +kernel
theorem dX12_readsNumbers_23 : decode cX12_readsNumbers 23 = .ok (.istore 5, 2) := by decide +kernel
theorem dX12_readsNumbers_25 : decode cX12_readsNumbers 25 = .ok (.iload 5, 2) := by decide +kernel
theorem dX12_readsNumbers_27 : decode cX12_readsNumbers 27 = .ok (.iconst 4, 1) := by decide +kernel
theorem dX12_readsNumbers_28 : decode cX12_readsNumbers 28 = .ok (.if_icmp .ge 54, 3) := by decide +kernel
theorem dX12_readsNumbers_31 : decode cX12_readsNumbers 31 = .ok (.aload_n 0, 1) := by decide +kernel
theorem dX12_readsNumbers_32 : decode cX12_readsNumbers 32 = .ok (.iload_n 2, 1) := by decide +kernel
theorem dX12_readsNumbers_33 : decode cX12_readsNumbers 33 = .ok (.iload_n 3, 1) := by decide +kernel
theorem dX12_readsNumbers_34 : decode cX12_readsNumbers 34 = .ok (.invokevirtual 169, 3) := by decide +kernel
theorem dX12_readsNumbers_37 : decode cX12_readsNumbers 37 = .ok (.ifCond .ne 5, 3) := by decide +kernel
theorem dX12_readsNumbers_40 : decode cX12_readsNumbers 40 = .ok (.iconst 0, 1) := by decide +kernel
theorem dX12_readsNumbers_41 : decode cX12_readsNumbers 41 = .ok (.ireturn, 1) := by decide +kernel
theorem dX12_readsNumbers_42 : decode cX12_readsNumbers 42 = .ok (.aload_n 0, 1) := by decide +kernel
theorem dX12_readsNumbers_43 : decode cX12_readsNumbers 43 = .ok (.getfield 22, 3) := by decide +kernel
theorem dX12_readsNumbers_46 : decode cX12_readsNumbers 46 = .ok (.iload 4, 2) := by decide +kernel
theorem dX12_readsNumbers_48 : decode cX12_readsNumbers 48 = .ok (.iload 5, 2) := by decide +kernel
theorem dX12_readsNumbers_50 : decode cX12_readsNumbers 50 = .ok (.iadd, 1) := by decide +kernel
theorem dX12_readsNumbers_51 : decode cX12_readsNumbers 51 = .ok (.aload_n 0, 1) := by decide +kernel
theorem dX12_readsNumbers_52 : decode cX12_readsNumbers 52 = .ok (.getfield 73, 3) := by decide +kernel
theorem dX12_readsNumbers_55 : decode cX12_readsNumbers 55 = .ok (.iload_n 2, 1) := by decide +kernel
theorem dX12_readsNumbers_56 : decode cX12_readsNumbers 56 = .ok (.aload_n 0, 1) := by decide +kernel
theorem dX12_readsNumbers_57 : decode cX12_readsNumbers 57 = .ok (.getfield 159, 3) := by decide +kernel
theorem dX12_readsNumbers_60 : decode cX12_readsNumbers 60 = .ok (.iadd, 1) := by decide +kernel
theorem dX12_readsNumbers_61 : decode cX12_readsNumbers 61 = .ok (.iaload, 1) := by decide +kernel
theorem dX12_readsNumbers_62 : decode cX12_readsNumbers 62 = .ok (.bipush 48, 2) := by decide +kernel
theorem dX12_readsNumbers_64 : decode cX12_readsNumbers 64 = .ok (.isub, 1) := by decide +kernel
theorem dX12_readsNumbers_65 : decode cX12_readsNumbers 65 = .ok (.iastore, 1) := by decide +kernel
theorem dX12_readsNumbers_66 : decode cX12_readsNumbers 66 = .ok (.aload_n 0, 1) := by decide +kernel
theorem dX12_readsNumbers_67 : decode cX12_readsNumbers 67 = .ok (.dup, 1) := by decide +kernel
theorem dX12_readsNumbers_68 : decode cX12_readsNumbers 68 = .ok (.getfield 159, 3) := by decide +kernel
theorem dX12_readsNumbers_71 : decode cX12_readsNumbers 71 = .ok (.iconst 1, 1) := by decide +kernel
theorem dX12_readsNumbers_72 : decode cX12_readsNumbers 72 = .ok (.iadd, 1) := by decide +kernel
theorem dX12_readsNumbers_73 : decode cX12_readsNumbers 73 = .ok (.putfield 159, 3) := by decide +kernel
theorem dX12_readsNumbers_76 : decode cX12_readsNumbers 76 = .ok (.iinc 5 1, 3) := by decide +kernel
theorem dX12_readsNumbers_79 : decode cX12_readsNumbers 79 = .ok (.goto (-54), 3) := by decide +kernel
theorem dX12_readsNumbers_82 : decode cX12_readsNumbers 82 = .ok (.iconst 1, 1) := by decide +kernel
theorem dX12_readsNumbers_83 : decode cX12_readsNumbers 83 = .ok (.ireturn, 1) := by decide +kernel
theorem dX12_readsNumbers_84 : decode cX12_readsNumbers 84 = .ok (.aload_n 0, 1) := by decide +kernel
theorem dX12_readsNumbers_85 : decode cX12_readsNumbers 85 = .ok (.getfield 159, 3) := by decide +kernel
theorem dX12_readsNumbers_88 : decode cX12_readsNumbers 88 = .ok (.istore 5, 2) := by decide +kernel
theorem dX12_readsNumbers_90 : decode cX12_readsNumbers 90 = .ok (.iconst 0, 1) := by decide +kernel
theorem dX12_readsNumbers_91 : decode cX12_readsNumbers 91 = .ok (.istore 6, 2) := by decide +kernel
theorem dX12_readsNumbers_93 : decode cX12_readsNumbers 93 = .ok (.iload_n 1, 1) := by decide +kernel
theorem dX12_readsNumbers_94 : decode cX12_readsNumbers 94 = .ok (.bipush 116, 2) := by decide +kernel
theorem dX12_readsNumbers_96 : decode cX12_readsNumbers 96 = .ok (.if_icmp .eq 68, 3) := by decide +kernel
theorem dX12_readsNumbers_99 : decode cX12_readsNumbers 99 = .ok (.aload_n 0, 1) := by decide +kernel
theorem dX12_readsNumbers_100 : decode cX12_readsNumbers 100 = .ok (.getfield 159, 3) := by decide +kernel
theorem dX12_readsNumbers_103 : decode cX12_readsNumbers 103 = .ok (.iload 5, 2) := by decide +kernel
theorem dX12_readsNumbers_105 : decode cX12_readsNumbers 105 = .ok (.iload_n 1, 1) := by decide +kernel
theorem dX12_readsNumbers_106 : decode cX12_readsNumbers 106 = .ok (.bipush 113, 2) := by decide +kernel
theorem dX12_readsNumbers_108 : decode cX12_readsNumbers 108 = .ok (.if_icmp .ne 7, 3) := by decide +kernel
theorem dX12_readsNumbers_111 : decode cX12_readsNumbers 111 = .ok (.iconst 1, 1) := by decide +kernel
theorem dX12_readsNumbers_112 : decode cX12_readsNumbers 112 = .ok (.goto 4, 3) := by decide +kernel
theorem dX12_readsNumbers_115 : decode cX12_readsNumbers 115 = .ok (.iconst 2, 1) := by decide +kernel
theorem dX12_readsNumbers_116 : decode cX12_readsNumbers 116 = .ok (.iadd, 1) := by decide +kernel
theorem dX12_readsNumbers_117 : decode cX12_readsNumbers 117 = .ok (.if_icmp .ge 47, 3) := by decide +kernel
theorem dX12_readsNumbers_120 : decode cX12_readsNumbers 120 = .ok (.aload_n 0, 1) := by decide +kernel
theorem dX12_readsNumbers_121 : decode cX12_readsNumbers 121 = .ok (.iload_n 2, 1) := by decide +kernel
theorem dX12_readsNumbers_122 : decode cX12_readsNumbers 122 = .ok (.iload_n 3, 1) := by decide +kernel
theorem dX12_readsNumbers_123 : decode cX12_readsNumbers 123 = .ok (.invokevirtual 169, 3) := by decide +kernel
theorem dX12_readsNumbers_126 : decode cX12_readsNumbers 126 = .ok (.ifCond .eq 38, 3) := by decide +kernel
theorem dX12_readsNumbers_129 : decode cX12_readsNumbers 129 = .ok (.bipush 10, 2) := by decide +kernel
theorem dX12_readsNumbers_131 : decode cX12_readsNumbers 131 = .ok (.iload 6, 2) := by decide +kernel
theorem dX12_readsNumbers_133 : decode cX12_readsNumbers 133 = .ok (.imul, 1) := by decide +kernel
theorem dX12_readsNumbers_134 : decode cX12_readsNumbers 134 = .ok (.aload_n 0, 1) := by decide +kernel
theorem dX12_readsNumbers_135 : decode cX12_readsNumbers 135 = .ok (.getfield 73, 3) := by decide +kernel
theorem dX12_readsNumbers_138 : decode cX12_readsNumbers 138 = .ok (.iload_n 2, 1) := by decide +kernel
theorem dX12_readsNumbers_139 : decode cX12_readsNumbers 139 = .ok (.aload_n 0, 1) := by decide +kernel
theorem dX12_readsNumbers_140 : decode cX12_readsNumbers 140 = .ok (.getfield 159, 3) := by decide +kernel
theorem dX12_readsNumbers_143 : decode cX12_readsNumbers 143 = .ok (.iadd, 1) := by decide +kernel
theorem dX12_readsNumbers_144 : decode cX12_readsNumbers 144 = .ok (.iaload, 1) := by decide +kernel
theorem dX12_readsNumbers_145 : decode cX12_readsNumbers 145 = .ok (.iadd, 1) := by decide +kernel
theorem dX12_readsNumbers_146 : decode cX12_readsNumbers 146 = .ok (.bipush 48, 2) := by decide +kernel
theorem dX12_readsNumbers_148 : decode cX12_readsNumbers 148 = .ok (.isub, 1) := by decide +kernel
theorem dX12_readsNumbers_149 : decode cX12_readsNumbers 149 = .ok (.istore 6, 2) := by decide +kernel
theorem dX12_readsNumbers_151 : decode cX12_readsNumbers 151 = .ok (.aload_n 0, 1) := by decide +kernel
theorem dX12_readsNumbers_152 : decode cX12_readsNumbers 152 = .ok (.dup, 1) := by decide +kernel
theorem dX12_readsNumbers_153 : decode cX12_readsNumbers 153 = .ok (.getfield 159, 3) := by decide +kernel
theorem dX12_readsNumbers_156 : decode cX12_readsNumbers 156 = .ok (.iconst 1, 1) := by decide +kernel
theorem dX12_readsNumbers_157 : decode cX12_readsNumbers 157 = .ok (.iadd, 1) := by decide +kernel
theorem dX12_readsNumbers_158 : decode cX12_readsNumbers 158 = .ok (.putfield 159, 3) := by decide +kernel
theorem dX12_readsNumbers_161 : decode cX12_readsNumbers 161 = .ok (.goto (-68), 3) := by decide +kernel
theorem dX12_readsNumbers_164 : decode cX12_readsNumbers 164 = .ok (.aload_n 0, 1) := by decide +kernel
theorem dX12_readsNumbers_165 : decode cX12_readsNumbers 165 = .ok (.getfield 22, 3) := by decide +kernel
theorem dX12_readsNumbers_168 : decode cX12_readsNumbers 168 = .ok (.iload 4, 2) := by decide +kernel
theorem dX12_readsNumbers_170 : decode cX12_readsNumbers 170 = .ok (.iload 6, 2) := by decide +kernel
theorem dX12_readsNumbers_172 : decode cX12_readsNumbers 172 = .ok (.iastore, 1) := by decide +kernel
theorem dX12_readsNumbers_173 : decode cX12_readsNumbers 173 = .ok (.iload_n 1, 1) := by decide +kernel
theorem dX12_readsNumbers_174 : decode cX12_readsNumbers 174 = .ok (.bipush 116, 2) := by decide +kernel
theorem dX12_readsNumbers_176 : decode cX12_readsNumbers 176 = .ok (.if_icmp .eq 40, 3) := by decide +kernel
theorem dX12_readsNumbers_179 : decode cX12_readsNumbers 179 = .ok (.iload 6, 2) := by decide +kernel
theorem dX12_readsNumbers_181 : decode cX12_readsNumbers 181 = .ok (.i2l, 1) := by decide +kernel
theorem dX12_readsNumbers_182 : decode cX12_readsNumbers 182 = .ok (.iload_n 1, 1) := by decide +kernel
theorem dX12_readsNumbers_183 : decode cX12_readsNumbers 183 = .ok (.bipush 113, 2) := by decide +kernel
theorem dX12_readsNumbers_185 : decode cX12_readsNumbers 185 = .ok (.if_icmp .ne 9, 3) := by decide +kernel
theorem dX12_readsNumbers_188 : decode cX12_readsNumbers 188 = .ok (.ldc2_w 97, 3) := by decide +kernel
theorem dX12_readsNumbers_191 : decode cX12_readsNumbers 191 = .ok (.goto 4, 3) := by decide +kernel
theorem dX12_readsNumbers_194 : decode cX12_readsNumbers 194 = .ok (.lconst 1, 1) := by decide +kernel
theorem dX12_readsNumbers_195 : decode cX12_readsNumbers 195 = .ok (.iload_n 1, 1) := by decide +kernel
theorem dX12_readsNumbers_196 : decode cX12_readsNumbers 196 = .ok (.bipush 113, 2) := by decide +kernel
theorem dX12_readsNumbers_198 : decode cX12_readsNumbers 198 = .ok (.if_icmp .ne 9, 3) := by decide +kernel
theorem dX12_readsNumbers_201 : decode cX12_readsNumbers 201 = .ok (.ldc2_w 172, 3) := by decide +kernel
theorem dX12_readsNumbers_204 : decode cX12_readsNumbers 204 = .ok (.goto 6, 3) := by decide +kernel
theorem dX12_readsNumbers_207 : decode cX12_readsNumbers 207 = .ok (.ldc2_w 126, 3) := by decide +kernel
theorem dX12_readsNumbers_210 : decode cX12_readsNumbers 210 = .ok (.invokestatic 99, 3) := by decide +kernel
theorem dX12_readsNumbers_213 : decode cX12_readsNumbers 213 = .ok (.ifCond .eq 7, 3) := by decide +kernel
theorem dX12_readsNumbers_216 : decode cX12_readsNumbers 216 = .ok (.iconst 1, 1) := by decide +kernel
theorem dX12_readsNumbers_217 : decode cX12_readsNumbers 217 = .ok (.goto 4, 3) := by decide +kernel
theorem dX12_readsNumbers_220 : decode cX12_readsNumbers 220 = .ok (.iconst 0, 1) := by decide +kernel
theorem dX12_readsNumbers_221 : decode cX12_readsNumbers 221 = .ok (.istore 7, 2) := by decide +kernel
theorem dX12_readsNumbers_223 : decode cX12_readsNumbers 223 = .ok (.aload_n 0, 1) := by decide +kernel
theorem dX12_readsNumbers_224 : decode cX12_readsNumbers 224 = .ok (.iload 7, 2) := by decide +kernel
theorem dX12_readsNumbers_226 : decode cX12_readsNumbers 226 = .ok (.ifCond .eq 10, 3) := by decide +kernel
theorem dX12_readsNumbers_229 : decode cX12_readsNumbers 229 = .ok (.aload_n 0, 1) := by decide +kernel
theorem dX12_readsNumbers_230 : decode cX12_readsNumbers 230 = .ok (.getfield 159, 3) := by decide +kernel
theorem dX12_readsNumbers_233 : decode cX12_readsNumbers 233 = .ok (.goto 5, 3) := by decide +kernel
theorem dX12_readsNumbers_236 : decode cX12_readsNumbers 236 = .ok (.iload 5, 2) := by decide +kernel
theorem dX12_readsNumbers_238 : decode cX12_readsNumbers 238 = .ok (.putfield 159, 3) := by decide +kernel
theorem dX12_readsNumbers_241 : decode cX12_readsNumbers 241 = .ok (.iload 7, 2) := by decide +kernel
theorem dX12_readsNumbers_243 : decode cX12_readsNumbers 243 = .ok (.ireturn, 1) := by decide +kernel
theorem dX12_readActs_0 : decode cX12_readActs 0 = .ok (.aload_n 0, 1) := by decide +kernel
theorem dX12_readActs_1 : decode cX12_readActs 1 = .ok (.iconst 0, 1) := by decide +kernel
theorem dX12_readActs_2 : decode cX12_readActs 2 = .ok (.putfield 166, 3) := by decide +kernel
theorem dX12_readActs_5 : decode cX12_readActs 5 = .ok (.aload_n 0, 1) := by decide +kernel
theorem dX12_readActs_6 : decode cX12_readActs 6 = .ok (.iconst 0, 1) := by decide +kernel
theorem dX12_readActs_7 : decode cX12_readActs 7 = .ok (.putfield 159, 3) := by decide +kernel
theorem dX12_readActs_10 : decode cX12_readActs 10 = .ok (.iconst 1, 1) := by decide +kernel
theorem dX12_readActs_11 : decode cX12_readActs 11 = .ok (.istore_n 3, 1) := by decide +kernel
theorem dX12_readActs_12 : decode cX12_readActs 12 = .ok (.iload_n 3, 1) := by decide +kernel
theorem dX12_readActs_13 : decode cX12_readActs 13 = .ok (.ifCond .eq 204, 3) := by decide +kernel
theorem dX12_readActs_16 : decode cX12_readActs 16 = .ok (.aload_n 0, 1) := by decide +kernel
theorem dX12_readActs_17 : decode cX12_readActs 17 = .ok (.getfield 159, 3) := by decide +kernel
theorem dX12_readActs_20 : decode cX12_readActs 20 = .ok (.iload_n 2, 1) := by decide +kernel
theorem dX12_readActs_21 : decode cX12_readActs 21 = .ok (.if_icmp .ge 17, 3) := by decide +kernel
theorem dX12_readActs_24 : decode cX12_readActs 24 = .ok (.aload_n 0, 1) := by decide +kernel
theorem dX12_readActs_25 : decode cX12_readActs 25 = .ok (.getfield 73, 3) := by decide +kernel
theorem dX12_readActs_28 : decode cX12_readActs 28 = .ok (.iload_n 1, 1) := by decide +kernel
theorem dX12_readActs_29 : decode cX12_readActs 29 = .ok (.aload_n 0, 1) := by decide +kernel
theorem dX12_readActs_30 : decode cX12_readActs 30 = .ok (.getfield 159, 3) := by decide +kernel
theorem dX12_readActs_33 : decode cX12_readActs 33 = .ok (.iadd, 1) := by decide +kernel
theorem dX12_readActs_34 : decode cX12_readActs 34 = .ok (.iaload, 1) := by decide +kernel
theorem dX12_readActs_35 : decode cX12_readActs 35 = .ok (.goto 4, 3) := by decide +kernel
theorem dX12_readActs_38 : decode cX12_readActs 38 = .ok (.iconst 0, 1) := by decide +kernel
theorem dX12_readActs_39 : decode cX12_readActs 39 = .ok (.istore 4, 2) := by decide +kernel
theorem dX12_readActs_41 : decode cX12_readActs 41 = .ok (.iload 4, 2) := by decide +kernel
theorem dX12_readActs_43 : decode cX12_readActs 43 = .ok (.bipush 99, 2) := by decide +kernel
theorem dX12_readActs_45 : decode cX12_readActs 45 = .ok (.if_icmp .eq 38, 3) := by decide +kernel
theorem dX12_readActs_48 : decode cX12_readActs 48 = .ok (.iload 4, 2) := by decide +kernel
theorem dX12_readActs_50 : decode cX12_readActs 50 = .ok (.bipush 98, 2) := by decide +kernel
theorem dX12_readActs_52 : decode cX12_readActs 52 = .ok (.if_icmp .eq 31, 3) := by decide +kernel
theorem dX12_readActs_55 : decode cX12_readActs 55 = .ok (.iload 4, 2) := by decide +kernel
theorem dX12_readActs_57 : decode cX12_readActs 57 = .ok (.bipush 116, 2) := by decide +kernel
theorem dX12_readActs_59 : decode cX12_readActs 59 = .ok (.if_icmp .eq 24, 3) := by decide +kernel
theorem dX12_readActs_62 : decode cX12_readActs 62 = .ok (.iload 4, 2) := by decide +kernel
theorem dX12_readActs_64 : decode cX12_readActs 64 = .ok (.bipush 108, 2) := by decide +kernel
theorem dX12_readActs_66 : decode cX12_readActs 66 = .ok (.if_icmp .eq 17, 3) := by decide +kernel
theorem dX12_readActs_69 : decode cX12_readActs 69 = .ok (.iload 4, 2) := by decide +kernel
theorem dX12_readActs_71 : decode cX12_readActs 71 = .ok (.bipush 109, 2) := by decide +kernel
theorem dX12_readActs_73 : decode cX12_readActs 73 = .ok (.if_icmp .eq 10, 3) := by decide +kernel
theorem dX12_readActs_76 : decode cX12_readActs 76 = .ok (.iload 4, 2) := by decide +kernel
theorem dX12_readActs_78 : decode cX12_readActs 78 = .ok (.bipush 113, 2) := by decide +kernel
theorem dX12_readActs_80 : decode cX12_readActs 80 = .ok (.if_icmp .ne 7, 3) := by decide +kernel
theorem dX12_readActs_83 : decode cX12_readActs 83 = .ok (.iconst 1, 1) := by decide +kernel
theorem dX12_readActs_84 : decode cX12_readActs 84 = .ok (.goto 4, 3) := by decide +kernel
theorem dX12_readActs_87 : decode cX12_readActs 87 = .ok (.iconst 0, 1) := by decide +kernel
theorem dX12_readActs_88 : decode cX12_readActs 88 = .ok (.istore 5, 2) := by decide +kernel
theorem dX12_readActs_90 : decode cX12_readActs 90 = .ok (.iload 5, 2) := by decide +kernel
theorem dX12_readActs_92 : decode cX12_readActs 92 = .ok (.ifCond .ne 8, 3) := by decide +kernel
theorem dX12_readActs_95 : decode cX12_readActs 95 = .ok (.aload_n 0, 1) := by decide +kernel
theorem dX12_readActs_96 : decode cX12_readActs 96 = .ok (.getfield 159, 3) := by decide +kernel
theorem dX12_readActs_99 : decode cX12_readActs 99 = .ok (.ireturn, 1) := by decide +kernel
theorem dX12_readActs_100 : decode cX12_readActs 100 = .ok (.aload_n 0, 1) := by decide +kernel
theorem dX12_readActs_101 : decode cX12_readActs 101 = .ok (.dup, 1) := by decide +kernel
theorem dX12_readActs_102 : decode cX12_readActs 102 = .ok (.getfield 159, 3) := by decide +kernel
theorem dX12_readActs_105 : decode cX12_readActs 105 = .ok (.iconst 1, 1) := by decide +kernel
theorem dX12_readActs_106 : decode cX12_readActs 106 = .ok (.iadd, 1) := by decide +kernel
theorem dX12_readActs_107 : decode cX12_readActs 107 = .ok (.putfield 159, 3) := by decide +kernel
theorem dX12_readActs_110 : decode cX12_readActs 110 = .ok (.aload_n 0, 1) := by decide +kernel
theorem dX12_readActs_111 : decode cX12_readActs 111 = .ok (.getfield 22, 3) := by decide +kernel
theorem dX12_readActs_114 : decode cX12_readActs 114 = .ok (.iconst 5, 1) := by decide +kernel
theorem dX12_readActs_115 : decode cX12_readActs 115 = .ok (.aload_n 0, 1) := by decide +kernel
theorem dX12_readActs_116 : decode cX12_readActs 116 = .ok (.getfield 166, 3) := by decide +kernel
theorem dX12_readActs_119 : decode cX12_readActs 119 = .ok (.imul, 1) := by decide +kernel
theorem dX12_readActs_120 : decode cX12_readActs 120 = .ok (.iload 4, 2) := by decide +kernel
theorem dX12_readActs_122 : decode cX12_readActs 122 = .ok (.iastore, 1) := by decide +kernel
theorem dX12_readActs_123 : decode cX12_readActs 123 = .ok (.aload_n 0, 1) := by decide +kernel
theorem dX12_readActs_124 : decode cX12_readActs 124 = .ok (.iload 4, 2) := by decide +kernel
theorem dX12_readActs_126 : decode cX12_readActs 126 = .ok (.iload_n 1, 1) := by decide +kernel
theorem dX12_readActs_127 : decode cX12_readActs 127 = .ok (.iload_n 2, 1) := by decide +kernel
theorem dX12_readActs_128 : decode cX12_readActs 128 = .ok (.invokevirtual 174, 3) := by decide +kernel
theorem dX12_readActs_131 : decode cX12_readActs 131 = .ok (.ifCond .ne 8, 3) := by decide +kernel
theorem dX12_readActs_134 : decode cX12_readActs 134 = .ok (.aload_n 0, 1) := by decide +kernel
theorem dX12_readActs_135 : decode cX12_readActs 135 = .ok (.getfield 159, 3) := by decide +kernel
theorem dX12_readActs_138 : decode cX12_readActs 138 = .ok (.ireturn, 1) := by decide +kernel
theorem dX12_readActs_139 : decode cX12_readActs 139 = .ok (.aload_n 0, 1) := by decide +kernel
theorem dX12_readActs_140 : decode cX12_readActs 140 = .ok (.dup, 1) := by decide +kernel
theorem dX12_readActs_141 : decode cX12_readActs 141 = .ok (.getfield 166, 3) := by decide +kernel
theorem dX12_readActs_144 : decode cX12_readActs 144 = .ok (.iconst 1, 1) := by decide +kernel
theorem dX12_readActs_145 : decode cX12_readActs 145 = .ok (.iadd, 1) := by decide +kernel
theorem dX12_readActs_146 : decode cX12_readActs 146 = .ok (.putfield 166, 3) := by decide +kernel
theorem dX12_readActs_149 : decode cX12_readActs 149 = .ok (.aload_n 0, 1) := by decide +kernel
theorem dX12_readActs_150 : decode cX12_readActs 150 = .ok (.getfield 159, 3) := by decide +kernel
theorem dX12_readActs_153 : decode cX12_readActs 153 = .ok (.iload_n 2, 1) := by decide +kernel
theorem dX12_readActs_154 : decode cX12_readActs 154 = .ok (.if_icmp .ge 7, 3) := by decide +kernel
theorem dX12_readActs_157 : decode cX12_readActs 157 = .ok (.iconst 1, 1) := by decide +kernel
theorem dX12_readActs_158 : decode cX12_readActs 158 = .ok (.goto 4, 3) := by decide +kernel
theorem dX12_readActs_161 : decode cX12_readActs 161 = .ok (.iconst 0, 1) := by decide +kernel
theorem dX12_readActs_162 : decode cX12_readActs 162 = .ok (.istore_n 3, 1) := by decide +kernel
theorem dX12_readActs_163 : decode cX12_readActs 163 = .ok (.iload_n 3, 1) := by decide +kernel
theorem dX12_readActs_164 : decode cX12_readActs 164 = .ok (.ifCond .eq 32, 3) := by decide +kernel
theorem dX12_readActs_167 : decode cX12_readActs 167 = .ok (.aload_n 0, 1) := by decide +kernel
theorem dX12_readActs_168 : decode cX12_readActs 168 = .ok (.getfield 73, 3) := by decide +kernel
theorem dX12_readActs_171 : decode cX12_readActs 171 = .ok (.iload_n 1, 1) := by decide +kernel
theorem dX12_readActs_172 : decode cX12_readActs 172 = .ok (.aload_n 0, 1) := by decide +kernel
theorem dX12_readActs_173 : decode cX12_readActs 173 = .ok (.getfield 159, 3) := by decide +kernel
theorem dX12_readActs_176 : decode cX12_readActs 176 = .ok (.iadd, 1) := by decide +kernel
theorem dX12_readActs_177 : decode cX12_readActs 177 = .ok (.iaload, 1) := by decide +kernel
theorem dX12_readActs_178 : decode cX12_readActs 178 = .ok (.bipush 59, 2) := by decide +kernel
theorem dX12_readActs_180 : decode cX12_readActs 180 = .ok (.if_icmp .ne 11, 3) := by decide +kernel
theorem dX12_readActs_183 : decode cX12_readActs 183 = .ok (.aload_n 0, 1) := by decide +kernel
theorem dX12_readActs_184 : decode cX12_readActs 184 = .ok (.getfield 166, 3) := by decide +kernel
theorem dX12_readActs_187 : decode cX12_readActs 187 = .ok (.iconst 5, 1) := by decide +kernel
theorem dX12_readActs_188 : decode cX12_readActs 188 = .ok (.if_icmp .ne 8, 3) := by decide +kernel
theorem dX12_readActs_191 : decode cX12_readActs 191 = .ok (.aload_n 0, 1) := by decide +kernel
theorem dX12_readActs_192 : decode cX12_readActs 192 = .ok (.getfield 159, 3) := by decide +kernel
theorem dX12_readActs_195 : decode cX12_readActs 195 = .ok (.ireturn, 1) := by decide +kernel
theorem dX12_readActs_196 : decode cX12_readActs 196 = .ok (.aload_n 0, 1) := by decide +kernel
theorem dX12_readActs_197 : decode cX12_readActs 197 = .ok (.dup, 1) := by decide +kernel
theorem dX12_readActs_198 : decode cX12_readActs 198 = .ok (.getfield 159, 3) := by decide +kernel
theorem dX12_readActs_201 : decode cX12_readActs 201 = .ok (.iload_n 3, 1) := by decide +kernel
theorem dX12_readActs_202 : decode cX12_readActs 202 = .ok (.ifCond .eq 7, 3) := by decide +kernel
theorem dX12_readActs_205 : decode cX12_readActs 205 = .ok (.iconst 1, 1) := by decide +kernel
theorem dX12_readActs_206 : decode cX12_readActs 206 = .ok (.goto 4, 3) := by decide +kernel
theorem dX12_readActs_209 : decode cX12_readActs 209 = .ok (.iconst 0, 1) := by decide +kernel
theorem dX12_readActs_210 : decode cX12_readActs 210 = .ok (.iadd, 1) := by decide +kernel
theorem dX12_readActs_211 : decode cX12_readActs 211 = .ok (.putfield 159, 3) := by decide +kernel
theorem dX12_readActs_214 : decode cX12_readActs 214 = .ok (.goto (-202), 3) := by decide +kernel
theorem dX12_readActs_217 : decode cX12_readActs 217 = .ok (.iconst (-1), 1) := by decide +kernel
theorem dX12_readActs_218 : decode cX12_readActs 218 = .ok (.ireturn, 1) := by decide +kernel
theorem dX12_takeInHand_0 : decode cX12_takeInHand 0 = .ok (.aload_n 0, 1) := by decide +kernel
theorem dX12_takeInHand_1 : decode cX12_takeInHand 1 = .ok (.aload_n 0, 1) := by decide +kernel
theorem dX12_takeInHand_2 : decode cX12_takeInHand 2 = .ok (.getfield 7, 3) := by decide +kernel
theorem dX12_takeInHand_5 : decode cX12_takeInHand 5 = .ok (.iload_n 1, 1) := by decide +kernel
theorem dX12_takeInHand_6 : decode cX12_takeInHand 6 = .ok (.iaload, 1) := by decide +kernel
theorem dX12_takeInHand_7 : decode cX12_takeInHand 7 = .ok (.putfield 178, 3) := by decide +kernel
theorem dX12_takeInHand_10 : decode cX12_takeInHand 10 = .ok (.aload_n 0, 1) := by decide +kernel
theorem dX12_takeInHand_11 : decode cX12_takeInHand 11 = .ok (.aload_n 0, 1) := by decide +kernel
theorem dX12_takeInHand_12 : decode cX12_takeInHand 12 = .ok (.getfield 13, 3) := by decide +kernel
theorem dX12_takeInHand_15 : decode cX12_takeInHand 15 = .ok (.iload_n 1, 1) := by decide +kernel
theorem dX12_takeInHand_16 : decode cX12_takeInHand 16 = .ok (.iaload, 1) := by decide +kernel
theorem dX12_takeInHand_17 : decode cX12_takeInHand 17 = .ok (.putfield 181, 3) := by decide +kernel
theorem dX12_takeInHand_20 : decode cX12_takeInHand 20 = .ok (.iconst 0, 1) := by decide +kernel
theorem dX12_takeInHand_21 : decode cX12_takeInHand 21 = .ok (.istore_n 2, 1) := by decide +kernel
theorem dX12_takeInHand_22 : decode cX12_takeInHand 22 = .ok (.iload_n 2, 1) := by decide +kernel
theorem dX12_takeInHand_23 : decode cX12_takeInHand 23 = .ok (.bipush 16, 2) := by decide +kernel
theorem dX12_takeInHand_25 : decode cX12_takeInHand 25 = .ok (.if_icmp .ge 26, 3) := by decide +kernel
theorem dX12_takeInHand_28 : decode cX12_takeInHand 28 = .ok (.aload_n 0, 1) := by decide +kernel
theorem dX12_takeInHand_29 : decode cX12_takeInHand 29 = .ok (.getfield 25, 3) := by decide +kernel
theorem dX12_takeInHand_32 : decode cX12_takeInHand 32 = .ok (.iload_n 2, 1) := by decide +kernel
theorem dX12_takeInHand_33 : decode cX12_takeInHand 33 = .ok (.aload_n 0, 1) := by decide +kernel
theorem dX12_takeInHand_34 : decode cX12_takeInHand 34 = .ok (.getfield 16, 3) := by decide +kernel
theorem dX12_takeInHand_37 : decode cX12_takeInHand 37 = .ok (.bipush 16, 2) := by decide +kernel
theorem dX12_takeInHand_39 : decode cX12_takeInHand 39 = .ok (.iload_n 1, 1) := by decide +kernel
theorem dX12_takeInHand_40 : decode cX12_takeInHand 40 = .ok (.imul, 1) := by decide +kernel
theorem dX12_takeInHand_41 : decode cX12_takeInHand 41 = .ok (.iload_n 2, 1) := by decide +kernel
theorem dX12_takeInHand_42 : decode cX12_takeInHand 42 = .ok (.iadd, 1) := by decide +kernel
theorem dX12_takeInHand_43 : decode cX12_takeInHand 43 = .ok (.iaload, 1) := by decide +kernel
theorem dX12_takeInHand_44 : decode cX12_takeInHand 44 = .ok (.iastore, 1) := by decide +kernel
theorem dX12_takeInHand_45 : decode cX12_takeInHand 45 = .ok (.iinc 2 1, 3) := by decide +kernel
theorem dX12_takeInHand_48 : decode cX12_takeInHand 48 = .ok (.goto (-26), 3) := by decide +kernel
theorem dX12_takeInHand_51 : decode cX12_takeInHand 51 = .ok (.return_, 1) := by decide +kernel
theorem dX12_doPart_0 : decode cX12_doPart 0 = .ok (.aload_n 1, 1) := by decide +kernel
theorem dX12_doPart_1 : decode cX12_doPart 1 = .ok (.iload_n 2, 1) := by decide +kernel
theorem dX12_doPart_2 : decode cX12_doPart 2 = .ok (.iconst 1, 1) := by decide +kernel
theorem dX12_doPart_3 : decode cX12_doPart 3 = .ok (.iadd, 1) := by decide +kernel
theorem dX12_doPart_4 : decode cX12_doPart 4 = .ok (.iaload, 1) := by decide +kernel
theorem dX12_doPart_5 : decode cX12_doPart 5 = .ok (.istore_n 3, 1) := by decide +kernel
theorem dX12_doPart_6 : decode cX12_doPart 6 = .ok (.aload_n 1, 1) := by decide +kernel
theorem dX12_doPart_7 : decode cX12_doPart 7 = .ok (.iload_n 2, 1) := by decide +kernel
theorem dX12_doPart_8 : decode cX12_doPart 8 = .ok (.iconst 2, 1) := by decide +kernel
theorem dX12_doPart_9 : decode cX12_doPart 9 = .ok (.iadd, 1) := by decide +kernel
theorem dX12_doPart_10 : decode cX12_doPart 10 = .ok (.iaload, 1) := by decide +kernel
theorem dX12_doPart_11 : decode cX12_doPart 11 = .ok (.istore 4, 2) := by decide +kernel
theorem dX12_doPart_13 : decode cX12_doPart 13 = .ok (.aload_n 1, 1) := by decide +kernel
theorem dX12_doPart_14 : decode cX12_doPart 14 = .ok (.iload_n 2, 1) := by decide +kernel
theorem dX12_doPart_15 : decode cX12_doPart 15 = .ok (.iconst 3, 1) := by decide +kernel
theorem dX12_doPart_16 : decode cX12_doPart 16 = .ok (.iadd, 1) := by decide +kernel
theorem dX12_doPart_17 : decode cX12_doPart 17 = .ok (.iaload, 1) := by decide +kernel
theorem dX12_doPart_18 : decode cX12_doPart 18 = .ok (.istore 5, 2) := by decide +kernel
theorem dX12_doPart_20 : decode cX12_doPart 20 = .ok (.aload_n 1, 1) := by decide +kernel
theorem dX12_doPart_21 : decode cX12_doPart 21 = .ok (.iload_n 2, 1) := by decide +kernel
theorem dX12_doPart_22 : decode cX12_doPart 22 = .ok (.iconst 4, 1) := by decide +kernel
theorem dX12_doPart_23 : decode cX12_doPart 23 = .ok (.iadd, 1) := by decide +kernel
theorem dX12_doPart_24 : decode cX12_doPart 24 = .ok (.iaload, 1) := by decide +kernel
theorem dX12_doPart_25 : decode cX12_doPart 25 = .ok (.istore 6, 2) := by decide +kernel
theorem dX12_doPart_27 : decode cX12_doPart 27 = .ok (.iload 5, 2) := by decide +kernel
theorem dX12_doPart_29 : decode cX12_doPart 29 = .ok (.iconst 1, 1) := by decide +kernel
theorem dX12_doPart_30 : decode cX12_doPart 30 = .ok (.if_icmp .lt 32, 3) := by decide +kernel
theorem dX12_doPart_33 : decode cX12_doPart 33 = .ok (.iload 6, 2) := by decide +kernel
theorem dX12_doPart_35 : decode cX12_doPart 35 = .ok (.iconst 1, 1) := by decide +kernel
theorem dX12_doPart_36 : decode cX12_doPart 36 = .ok (.if_icmp .lt 26, 3) := by decide +kernel
theorem dX12_doPart_39 : decode cX12_doPart 39 = .ok (.iload_n 3, 1) := by decide +kernel
theorem dX12_doPart_40 : decode cX12_doPart 40 = .ok (.iload 5, 2) := by decide +kernel
theorem dX12_doPart_42 : decode cX12_doPart 42 = .ok (.iadd, 1) := by decide +kernel
theorem dX12_doPart_43 : decode cX12_doPart 43 = .ok (.aload_n 0, 1) := by decide +kernel
theorem dX12_doPart_44 : decode cX12_doPart 44 = .ok (.getfield 178, 3) := by decide +kernel
theorem dX12_doPart_47 : decode cX12_doPart 47 = .ok (.if_icmp .gt 15, 3) := by decide +kernel
theorem dX12_doPart_50 : decode cX12_doPart 50 = .ok (.iload 4, 2) := by decide +kernel
theorem dX12_doPart_52 : decode cX12_doPart 52 = .ok (.iload 6, 2) := by decide +kernel
theorem dX12_doPart_54 : decode cX12_doPart 54 = .ok (.iadd, 1) := by decide +kernel
theorem dX12_doPart_55 : decode cX12_doPart 55 = .ok (.aload_n 0, 1) := by decide +kernel
theorem dX12_doPart_56 : decode cX12_doPart 56 = .ok (.getfield 181, 3) := by decide +kernel
theorem dX12_doPart_59 : decode cX12_doPart 59 = .ok (.if_icmp .le 5, 3) := by decide +kernel
theorem dX12_doPart_62 : decode cX12_doPart 62 = .ok (.iconst 0, 1) := by decide +kernel
theorem dX12_doPart_63 : decode cX12_doPart 63 = .ok (.ireturn, 1) := by decide +kernel
theorem dX12_doPart_64 : decode cX12_doPart 64 = .ok (.iconst 0, 1) := by decide +kernel
theorem dX12_doPart_65 : decode cX12_doPart 65 = .ok (.istore 7, 2) := by decide +kernel
theorem dX12_doPart_67 : decode cX12_doPart 67 = .ok (.iconst 0, 1) := by decide +kernel
theorem dX12_doPart_68 : decode cX12_doPart 68 = .ok (.istore 8, 2) := by decide +kernel
theorem dX12_doPart_70 : decode cX12_doPart 70 = .ok (.iload 8, 2) := by decide +kernel
theorem dX12_doPart_72 : decode cX12_doPart 72 = .ok (.iload 5, 2) := by decide +kernel
theorem dX12_doPart_74 : decode cX12_doPart 74 = .ok (.iload 6, 2) := by decide +kernel
theorem dX12_doPart_76 : decode cX12_doPart 76 = .ok (.imul, 1) := by decide +kernel
theorem dX12_doPart_77 : decode cX12_doPart 77 = .ok (.if_icmp .ge 37, 3) := by decide +kernel
theorem dX12_doPart_80 : decode cX12_doPart 80 = .ok (.iload 7, 2) := by decide +kernel
theorem dX12_doPart_82 : decode cX12_doPart 82 = .ok (.aload_n 0, 1) := by decide +kernel
theorem dX12_doPart_83 : decode cX12_doPart 83 = .ok (.getfield 25, 3) := by decide +kernel
theorem dX12_doPart_86 : decode cX12_doPart 86 = .ok (.iload_n 3, 1) := by decide +kernel
theorem dX12_doPart_87 : decode cX12_doPart 87 = .ok (.iload 8, 2) := by decide +kernel
theorem dX12_doPart_89 : decode cX12_doPart 89 = .ok (.iload 5, 2) := by decide +kernel
theorem dX12_doPart_91 : decode cX12_doPart 91 = .ok (.irem, 1) := by decide +kernel
theorem dX12_doPart_92 : decode cX12_doPart 92 = .ok (.iadd, 1) := by decide +kernel
theorem dX12_doPart_93 : decode cX12_doPart 93 = .ok (.iconst 4, 1) := by decide +kernel
theorem dX12_doPart_94 : decode cX12_doPart 94 = .ok (.iload 4, 2) := by decide +kernel
theorem dX12_doPart_96 : decode cX12_doPart 96 = .ok (.iload 8, 2) := by decide +kernel
theorem dX12_doPart_98 : decode cX12_doPart 98 = .ok (.iload 5, 2) := by decide +kernel
theorem dX12_doPart_100 : decode cX12_doPart 100 = .ok (.idiv, 1) := by decide +kernel
theorem dX12_doPart_101 : decode cX12_doPart 101 = .ok (.iadd, 1) := by decide +kernel
theorem dX12_doPart_102 : decode cX12_doPart 102 = .ok (.imul, 1) := by decide +kernel
theorem dX12_doPart_103 : decode cX12_doPart 103 = .ok (.iadd, 1) := by decide +kernel
theorem dX12_doPart_104 : decode cX12_doPart 104 = .ok (.iaload, 1) := by decide +kernel
theorem dX12_doPart_105 : decode cX12_doPart 105 = .ok (.iadd, 1) := by decide +kernel
theorem dX12_doPart_106 : decode cX12_doPart 106 = .ok (.istore 7, 2) := by decide +kernel
theorem dX12_doPart_108 : decode cX12_doPart 108 = .ok (.iinc 8 1, 3) := by decide +kernel
theorem dX12_doPart_111 : decode cX12_doPart 111 = .ok (.goto (-41), 3) := by decide +kernel
theorem dX12_doPart_114 : decode cX12_doPart 114 = .ok (.iconst 0, 1) := by decide +kernel
theorem dX12_doPart_115 : decode cX12_doPart 115 = .ok (.istore 8, 2) := by decide +kernel
theorem dX12_doPart_117 : decode cX12_doPart 117 = .ok (.iload 8, 2) := by decide +kernel
theorem dX12_doPart_119 : decode cX12_doPart 119 = .ok (.iload 5, 2) := by decide +kernel
theorem dX12_doPart_121 : decode cX12_doPart 121 = .ok (.iload 6, 2) := by decide +kernel
theorem dX12_doPart_123 : decode cX12_doPart 123 = .ok (.imul, 1) := by decide +kernel
theorem dX12_doPart_124 : decode cX12_doPart 124 = .ok (.if_icmp .ge 80, 3) := by decide +kernel
theorem dX12_doPart_127 : decode cX12_doPart 127 = .ok (.iload_n 3, 1) := by decide +kernel
theorem dX12_doPart_128 : decode cX12_doPart 128 = .ok (.iload 8, 2) := by decide +kernel
theorem dX12_doPart_130 : decode cX12_doPart 130 = .ok (.iload 5, 2) := by decide +kernel
theorem dX12_doPart_132 : decode cX12_doPart 132 = .ok (.irem, 1) := by decide +kernel
theorem dX12_doPart_133 : decode cX12_doPart 133 = .ok (.iadd, 1) := by decide +kernel
theorem dX12_doPart_134 : decode cX12_doPart 134 = .ok (.iconst 4, 1) := by decide +kernel
theorem dX12_doPart_135 : decode cX12_doPart 135 = .ok (.iload 4, 2) := by decide +kernel
theorem dX12_doPart_137 : decode cX12_doPart 137 = .ok (.iload 8, 2) := by decide +kernel
theorem dX12_doPart_139 : decode cX12_doPart 139 = .ok (.iload 5, 2) := by decide +kernel
theorem dX12_doPart_141 : decode cX12_doPart 141 = .ok (.idiv, 1) := by decide +kernel
theorem dX12_doPart_142 : decode cX12_doPart 142 = .ok (.iadd, 1) := by decide +kernel
theorem dX12_doPart_143 : decode cX12_doPart 143 = .ok (.imul, 1) := by decide +kernel
theorem dX12_doPart_144 : decode cX12_doPart 144 = .ok (.iadd, 1) := by decide +kernel
theorem dX12_doPart_145 : decode cX12_doPart 145 = .ok (.istore 9, 2) := by decide +kernel
theorem dX12_doPart_147 : decode cX12_doPart 147 = .ok (.aload_n 1, 1) := by decide +kernel
theorem dX12_doPart_148 : decode cX12_doPart 148 = .ok (.iload_n 2, 1) := by decide +kernel
theorem dX12_doPart_149 : decode cX12_doPart 149 = .ok (.iaload, 1) := by decide +kernel
theorem dX12_doPart_150 : decode cX12_doPart 150 = .ok (.bipush 98, 2) := by decide +kernel
theorem dX12_doPart_152 : decode cX12_doPart 152 = .ok (.if_icmp .ne 21, 3) := by decide +kernel
theorem dX12_doPart_155 : decode cX12_doPart 155 = .ok (.aload_n 0, 1) := by decide +kernel
theorem dX12_doPart_156 : decode cX12_doPart 156 = .ok (.getfield 25, 3) := by decide +kernel
theorem dX12_doPart_159 : decode cX12_doPart 159 = .ok (.iload 9, 2) := by decide +kernel
theorem dX12_doPart_161 : decode cX12_doPart 161 = .ok (.iload 7, 2) := by decide +kernel
theorem dX12_doPart_163 : decode cX12_doPart 163 = .ok (.iload 5, 2) := by decide +kernel
theorem dX12_doPart_165 : decode cX12_doPart 165 = .ok (.iload 6, 2) := by decide +kernel
theorem dX12_doPart_167 : decode cX12_doPart 167 = .ok (.imul, 1) := by decide +kernel
theorem dX12_doPart_168 : decode cX12_doPart 168 = .ok (.idiv, 1) := by decide +kernel
theorem dX12_doPart_169 : decode cX12_doPart 169 = .ok (.iastore, 1) := by decide +kernel
theorem dX12_doPart_170 : decode cX12_doPart 170 = .ok (.goto 28, 3) := by decide +kernel
theorem dX12_doPart_173 : decode cX12_doPart 173 = .ok (.aload_n 0, 1) := by decide +kernel
theorem dX12_doPart_174 : decode cX12_doPart 174 = .ok (.getfield 25, 3) := by decide +kernel
theorem dX12_doPart_177 : decode cX12_doPart 177 = .ok (.iload 8, 2) := by decide +kernel
theorem dX12_doPart_179 : decode cX12_doPart 179 = .ok (.iload 5, 2) := by decide +kernel
theorem dX12_doPart_181 : decode cX12_doPart 181 = .ok (.irem, 1) := by decide +kernel
theorem dX12_doPart_182 : decode cX12_doPart 182 = .ok (.iconst 4, 1) := by decide +kernel
theorem dX12_doPart_183 : decode cX12_doPart 183 = .ok (.iload 8, 2) := by decide +kernel
theorem dX12_doPart_185 : decode cX12_doPart 185 = .ok (.iload 5, 2) := by decide +kernel
theorem dX12_doPart_187 : decode cX12_doPart 187 = .ok (.idiv, 1) := by decide +kernel
theorem dX12_doPart_188 : decode cX12_doPart 188 = .ok (.imul, 1) := by decide +kernel
theorem dX12_doPart_189 : decode cX12_doPart 189 = .ok (.iadd, 1) := by decide +kernel
theorem dX12_doPart_190 : decode cX12_doPart 190 = .ok (.aload_n 0, 1) := by decide +kernel
theorem dX12_doPart_191 : decode cX12_doPart 191 = .ok (.getfield 25, 3) := by decide +kernel
theorem dX12_doPart_194 : decode cX12_doPart 194 = .ok (.iload 9, 2) := by decide +kernel
theorem dX12_doPart_196 : decode cX12_doPart 196 = .ok (.iaload, 1) := by decide +kernel
theorem dX12_doPart_197 : decode cX12_doPart 197 = .ok (.iastore, 1) := by decide +kernel
theorem dX12_doPart_198 : decode cX12_doPart 198 = .ok (.iinc 8 1, 3) := by decide +kernel
theorem dX12_doPart_201 : decode cX12_doPart 201 = .ok (.goto (-84), 3) := by decide +kernel
theorem dX12_doPart_204 : decode cX12_doPart 204 = .ok (.aload_n 0, 1) := by decide +kernel
theorem dX12_doPart_205 : decode cX12_doPart 205 = .ok (.aload_n 1, 1) := by decide +kernel
theorem dX12_doPart_206 : decode cX12_doPart 206 = .ok (.iload_n 2, 1) := by decide +kernel
theorem dX12_doPart_207 : decode cX12_doPart 207 = .ok (.iaload, 1) := by decide +kernel
theorem dX12_doPart_208 : decode cX12_doPart 208 = .ok (.bipush 98, 2) := by decide +kernel
theorem dX12_doPart_210 : decode cX12_doPart 210 = .ok (.if_icmp .ne 10, 3) := by decide +kernel
theorem dX12_doPart_213 : decode cX12_doPart 213 = .ok (.aload_n 0, 1) := by decide +kernel
theorem dX12_doPart_214 : decode cX12_doPart 214 = .ok (.getfield 178, 3) := by decide +kernel
theorem dX12_doPart_217 : decode cX12_doPart 217 = .ok (.goto 5, 3) := by decide +kernel
theorem dX12_doPart_220 : decode cX12_doPart 220 = .ok (.iload 5, 2) := by decide +kernel
theorem dX12_doPart_222 : decode cX12_doPart 222 = .ok (.putfield 178, 3) := by decide +kernel
theorem dX12_doPart_225 : decode cX12_doPart 225 = .ok (.aload_n 0, 1) := by decide +kernel
theorem dX12_doPart_226 : decode cX12_doPart 226 = .ok (.aload_n 1, 1) := by decide +kernel
theorem dX12_doPart_227 : decode cX12_doPart 227 = .ok (.iload_n 2, 1) := by decide +kernel
theorem dX12_doPart_228 : decode cX12_doPart 228 = .ok (.iaload, 1) := by decide +kernel
theorem dX12_doPart_229 : decode cX12_doPart 229 = .ok (.bipush 98, 2) := by decide +kernel
theorem dX12_doPart_231 : decode cX12_doPart 231 = .ok (.if_icmp .ne 10, 3) := by decide +kernel
theorem dX12_doPart_234 : decode cX12_doPart 234 = .ok (.aload_n 0, 1) := by decide +kernel
theorem dX12_doPart_235 : decode cX12_doPart 235 = .ok (.getfield 181, 3) := by decide +kernel
theorem dX12_doPart_238 : decode cX12_doPart 238 = .ok (.goto 5, 3) := by decide +kernel
theorem dX12_doPart_241 : decode cX12_doPart 241 = .ok (.iload 6, 2) := by decide +kernel
theorem dX12_doPart_243 : decode cX12_doPart 243 = .ok (.putfield 181, 3) := by decide +kernel
theorem dX12_doPart_246 : decode cX12_doPart 246 = .ok (.iconst 1, 1) := by decide +kernel
theorem dX12_doPart_247 : decode cX12_doPart 247 = .ok (.ireturn, 1) := by decide +kernel
theorem dX12_turn_0 : decode cX12_turn 0 = .ok (.iconst 0, 1) := by decide +kernel
theorem dX12_turn_1 : decode cX12_turn 1 = .ok (.istore_n 1, 1) := by decide +kernel
theorem dX12_turn_2 : decode cX12_turn 2 = .ok (.iload_n 1, 1) := by decide +kernel
theorem dX12_turn_3 : decode cX12_turn 3 = .ok (.bipush 16, 2) := by decide +kernel
theorem dX12_turn_5 : decode cX12_turn 5 = .ok (.if_icmp .ge 21, 3) := by decide +kernel
theorem dX12_turn_8 : decode cX12_turn 8 = .ok (.aload_n 0, 1) := by decide +kernel
theorem dX12_turn_9 : decode cX12_turn 9 = .ok (.getfield 28, 3) := by decide +kernel
theorem dX12_turn_12 : decode cX12_turn 12 = .ok (.iload_n 1, 1) := by decide +kernel
theorem dX12_turn_13 : decode cX12_turn 13 = .ok (.aload_n 0, 1) := by decide +kernel
theorem dX12_turn_14 : decode cX12_turn 14 = .ok (.getfield 25, 3) := by decide +kernel
theorem dX12_turn_17 : decode cX12_turn 17 = .ok (.iload_n 1, 1) := by decide +kernel
theorem dX12_turn_18 : decode cX12_turn 18 = .ok (.iaload, 1) := by decide +kernel
theorem dX12_turn_19 : decode cX12_turn 19 = .ok (.iastore, 1) := by decide +kernel
theorem dX12_turn_20 : decode cX12_turn 20 = .ok (.iinc 1 1, 3) := by decide +kernel
theorem dX12_turn_23 : decode cX12_turn 23 = .ok (.goto (-21), 3) := by decide +kernel
theorem dX12_turn_26 : decode cX12_turn 26 = .ok (.aload_n 0, 1) := by decide +kernel
theorem dX12_turn_27 : decode cX12_turn 27 = .ok (.getfield 181, 3) := by decide +kernel
theorem dX12_turn_30 : decode cX12_turn 30 = .ok (.istore_n 1, 1) := by decide +kernel
theorem dX12_turn_31 : decode cX12_turn 31 = .ok (.aload_n 0, 1) := by decide +kernel
theorem dX12_turn_32 : decode cX12_turn 32 = .ok (.getfield 178, 3) := by decide +kernel
theorem dX12_turn_35 : decode cX12_turn 35 = .ok (.istore_n 2, 1) := by decide +kernel
theorem dX12_turn_36 : decode cX12_turn 36 = .ok (.iconst 0, 1) := by decide +kernel
theorem dX12_turn_37 : decode cX12_turn 37 = .ok (.istore_n 3, 1) := by decide +kernel
theorem dX12_turn_38 : decode cX12_turn 38 = .ok (.iload_n 3, 1) := by decide +kernel
theorem dX12_turn_39 : decode cX12_turn 39 = .ok (.iload_n 1, 1) := by decide +kernel
theorem dX12_turn_40 : decode cX12_turn 40 = .ok (.iload_n 2, 1) := by decide +kernel
theorem dX12_turn_41 : decode cX12_turn 41 = .ok (.imul, 1) := by decide +kernel
theorem dX12_turn_42 : decode cX12_turn 42 = .ok (.if_icmp .ge 50, 3) := by decide +kernel
theorem dX12_turn_45 : decode cX12_turn 45 = .ok (.iload_n 3, 1) := by decide +kernel
theorem dX12_turn_46 : decode cX12_turn 46 = .ok (.iload_n 1, 1) := by decide +kernel
theorem dX12_turn_47 : decode cX12_turn 47 = .ok (.irem, 1) := by decide +kernel
theorem dX12_turn_48 : decode cX12_turn 48 = .ok (.istore 4, 2) := by decide +kernel
theorem dX12_turn_50 : decode cX12_turn 50 = .ok (.iload_n 3, 1) := by decide +kernel
theorem dX12_turn_51 : decode cX12_turn 51 = .ok (.iload_n 1, 1) := by decide +kernel
theorem dX12_turn_52 : decode cX12_turn 52 = .ok (.idiv, 1) := by decide +kernel
theorem dX12_turn_53 : decode cX12_turn 53 = .ok (.istore 5, 2) := by decide +kernel
theorem dX12_turn_55 : decode cX12_turn 55 = .ok (.aload_n 0, 1) := by decide +kernel
theorem dX12_turn_56 : decode cX12_turn 56 = .ok (.getfield 25, 3) := by decide +kernel
theorem dX12_turn_59 : decode cX12_turn 59 = .ok (.iload 4, 2) := by decide +kernel
theorem dX12_turn_61 : decode cX12_turn 61 = .ok (.iconst 4, 1) := by decide +kernel
theorem dX12_turn_62 : decode cX12_turn 62 = .ok (.iload 5, 2) := by decide +kernel
theorem dX12_turn_64 : decode cX12_turn 64 = .ok (.imul, 1) := by decide +kernel
theorem dX12_turn_65 : decode cX12_turn 65 = .ok (.iadd, 1) := by decide +kernel
theorem dX12_turn_66 : decode cX12_turn 66 = .ok (.aload_n 0, 1) := by decide +kernel
theorem dX12_turn_67 : decode cX12_turn 67 = .ok (.getfield 28, 3) := by decide +kernel
theorem dX12_turn_70 : decode cX12_turn 70 = .ok (.iload 5, 2) := by decide +kernel
theorem dX12_turn_72 : decode cX12_turn 72 = .ok (.iconst 4, 1) := by decide +kernel
theorem dX12_turn_73 : decode cX12_turn 73 = .ok (.aload_n 0, 1) := by decide +kernel
theorem dX12_turn_74 : decode cX12_turn 74 = .ok (.getfield 181, 3) := by decide +kernel
theorem dX12_turn_77 : decode cX12_turn 77 = .ok (.iconst 1, 1) := by decide +kernel
theorem dX12_turn_78 : decode cX12_turn 78 = .ok (.isub, 1) := by decide +kernel
theorem dX12_turn_79 : decode cX12_turn 79 = .ok (.iload 4, 2) := by decide +kernel
theorem dX12_turn_81 : decode cX12_turn 81 = .ok (.isub, 1) := by decide +kernel
theorem dX12_turn_82 : decode cX12_turn 82 = .ok (.imul, 1) := by decide +kernel
theorem dX12_turn_83 : decode cX12_turn 83 = .ok (.iadd, 1) := by decide +kernel
theorem dX12_turn_84 : decode cX12_turn 84 = .ok (.iaload, 1) := by decide +kernel
theorem dX12_turn_85 : decode cX12_turn 85 = .ok (.iastore, 1) := by decide +kernel
theorem dX12_turn_86 : decode cX12_turn 86 = .ok (.iinc 3 1, 3) := by decide +kernel
theorem dX12_turn_89 : decode cX12_turn 89 = .ok (.goto (-51), 3) := by decide +kernel
theorem dX12_turn_92 : decode cX12_turn 92 = .ok (.aload_n 0, 1) := by decide +kernel
theorem dX12_turn_93 : decode cX12_turn 93 = .ok (.iload_n 1, 1) := by decide +kernel
theorem dX12_turn_94 : decode cX12_turn 94 = .ok (.putfield 178, 3) := by decide +kernel
theorem dX12_turn_97 : decode cX12_turn 97 = .ok (.aload_n 0, 1) := by decide +kernel
theorem dX12_turn_98 : decode cX12_turn 98 = .ok (.iload_n 2, 1) := by decide +kernel
theorem dX12_turn_99 : decode cX12_turn 99 = .ok (.putfield 181, 3) := by decide +kernel
theorem dX12_turn_102 : decode cX12_turn 102 = .ok (.return_, 1) := by decide +kernel
theorem dX12_tinted_0 : decode cX12_tinted 0 = .ok (.iload_n 1, 1) := by decide +kernel
theorem dX12_tinted_1 : decode cX12_tinted 1 = .ok (.bipush 108, 2) := by decide +kernel
theorem dX12_tinted_3 : decode cX12_tinted 3 = .ok (.if_icmp .ne 14, 3) := by decide +kernel
theorem dX12_tinted_6 : decode cX12_tinted 6 = .ok (.bipush 99, 2) := by decide +kernel
theorem dX12_tinted_8 : decode cX12_tinted 8 = .ok (.iload_n 0, 1) := by decide +kernel
theorem dX12_tinted_9 : decode cX12_tinted 9 = .ok (.iload_n 2, 1) := by decide +kernel
theorem dX12_tinted_10 : decode cX12_tinted 10 = .ok (.iadd, 1) := by decide +kernel
theorem dX12_tinted_11 : decode cX12_tinted 11 = .ok (.invokestatic 184, 3) := by decide +kernel
theorem dX12_tinted_14 : decode cX12_tinted 14 = .ok (.goto 24, 3) := by decide +kernel
theorem dX12_tinted_17 : decode cX12_tinted 17 = .ok (.iload_n 1, 1) := by decide +kernel
theorem dX12_tinted_18 : decode cX12_tinted 18 = .ok (.bipush 109, 2) := by decide +kernel
theorem dX12_tinted_20 : decode cX12_tinted 20 = .ok (.if_icmp .ne 13, 3) := by decide +kernel
theorem dX12_tinted_23 : decode cX12_tinted 23 = .ok (.iconst 0, 1) := by decide +kernel
theorem dX12_tinted_24 : decode cX12_tinted 24 = .ok (.iload_n 0, 1) := by decide +kernel
theorem dX12_tinted_25 : decode cX12_tinted 25 = .ok (.iload_n 2, 1) := by decide +kernel
theorem dX12_tinted_26 : decode cX12_tinted 26 = .ok (.isub, 1) := by decide +kernel
theorem dX12_tinted_27 : decode cX12_tinted 27 = .ok (.invokestatic 187, 3) := by decide +kernel
theorem dX12_tinted_30 : decode cX12_tinted 30 = .ok (.goto 8, 3) := by decide +kernel
theorem dX12_tinted_33 : decode cX12_tinted 33 = .ok (.iload_n 0, 1) := by decide +kernel
theorem dX12_tinted_34 : decode cX12_tinted 34 = .ok (.iload_n 2, 1) := by decide +kernel
theorem dX12_tinted_35 : decode cX12_tinted 35 = .ok (.idiv, 1) := by decide +kernel
theorem dX12_tinted_36 : decode cX12_tinted 36 = .ok (.iload_n 2, 1) := by decide +kernel
theorem dX12_tinted_37 : decode cX12_tinted 37 = .ok (.imul, 1) := by decide +kernel
theorem dX12_tinted_38 : decode cX12_tinted 38 = .ok (.ireturn, 1) := by decide +kernel
theorem dX12_doActs_0 : decode cX12_doActs 0 = .ok (.iconst 0, 1) := by decide +kernel
theorem dX12_doActs_1 : decode cX12_doActs 1 = .ok (.istore 4, 2) := by decide +kernel
theorem dX12_doActs_3 : decode cX12_doActs 3 = .ok (.iload 4, 2) := by decide +kernel
theorem dX12_doActs_5 : decode cX12_doActs 5 = .ok (.iload_n 3, 1) := by decide +kernel
theorem dX12_doActs_6 : decode cX12_doActs 6 = .ok (.if_icmp .ge 104, 3) := by decide +kernel
theorem dX12_doActs_9 : decode cX12_doActs 9 = .ok (.iload_n 2, 1) := by decide +kernel
theorem dX12_doActs_10 : decode cX12_doActs 10 = .ok (.iconst 5, 1) := by decide +kernel
theorem dX12_doActs_11 : decode cX12_doActs 11 = .ok (.iload 4, 2) := by decide +kernel
theorem dX12_doActs_13 : decode cX12_doActs 13 = .ok (.imul, 1) := by decide +kernel
theorem dX12_doActs_14 : decode cX12_doActs 14 = .ok (.iadd, 1) := by decide +kernel
theorem dX12_doActs_15 : decode cX12_doActs 15 = .ok (.istore 5, 2) := by decide +kernel
theorem dX12_doActs_17 : decode cX12_doActs 17 = .ok (.aload_n 1, 1) := by decide +kernel
theorem dX12_doActs_18 : decode cX12_doActs 18 = .ok (.iload 5, 2) := by decide +kernel
theorem dX12_doActs_20 : decode cX12_doActs 20 = .ok (.iaload, 1) := by decide +kernel
theorem dX12_doActs_21 : decode cX12_doActs 21 = .ok (.istore 6, 2) := by decide +kernel
theorem dX12_doActs_23 : decode cX12_doActs 23 = .ok (.iload 6, 2) := by decide +kernel
theorem dX12_doActs_25 : decode cX12_doActs 25 = .ok (.bipush 99, 2) := by decide +kernel
theorem dX12_doActs_27 : decode cX12_doActs 27 = .ok (.if_icmp .eq 10, 3) := by decide +kernel
theorem dX12_doActs_30 : decode cX12_doActs 30 = .ok (.iload 6, 2) := by decide +kernel
theorem dX12_doActs_32 : decode cX12_doActs 32 = .ok (.bipush 98, 2) := by decide +kernel
theorem dX12_doActs_34 : decode cX12_doActs 34 = .ok (.if_icmp .ne 15, 3) := by decide +kernel
theorem dX12_doActs_37 : decode cX12_doActs 37 = .ok (.aload_n 0, 1) := by decide +kernel
theorem dX12_doActs_38 : decode cX12_doActs 38 = .ok (.aload_n 1, 1) := by decide +kernel
theorem dX12_doActs_39 : decode cX12_doActs 39 = .ok (.iload 5, 2) := by decide +kernel
theorem dX12_doActs_41 : decode cX12_doActs 41 = .ok (.invokevirtual 190, 3) := by decide +kernel
theorem dX12_doActs_44 : decode cX12_doActs 44 = .ok (.ifCond .ne 60, 3) := by decide +kernel
theorem dX12_doActs_47 : decode cX12_doActs 47 = .ok (.iconst 0, 1) := by decide +kernel
theorem dX12_doActs_48 : decode cX12_doActs 48 = .ok (.ireturn, 1) := by decide +kernel
theorem dX12_doActs_49 : decode cX12_doActs 49 = .ok (.iload 6, 2) := by decide +kernel
theorem dX12_doActs_51 : decode cX12_doActs 51 = .ok (.bipush 116, 2) := by decide +kernel
theorem dX12_doActs_53 : decode cX12_doActs 53 = .ok (.if_icmp .ne 10, 3) := by decide +kernel
theorem dX12_doActs_56 : decode cX12_doActs 56 = .ok (.aload_n 0, 1) := by decide +kernel
theorem dX12_doActs_57 : decode cX12_doActs 57 = .ok (.invokevirtual 194, 3) := by decide +kernel
theorem dX12_doActs_60 : decode cX12_doActs 60 = .ok (.goto 44, 3) := by decide +kernel
theorem dX12_doActs_63 : decode cX12_doActs 63 = .ok (.iconst 0, 1) := by decide +kernel
theorem dX12_doActs_64 : decode cX12_doActs 64 = .ok (.istore 7, 2) := by decide +kernel
theorem dX12_doActs_66 : decode cX12_doActs 66 = .ok (.iload 7, 2) := by decide +kernel
theorem dX12_doActs_68 : decode cX12_doActs 68 = .ok (.bipush 16, 2) := by decide +kernel
theorem dX12_doActs_70 : decode cX12_doActs 70 = .ok (.if_icmp .ge 34, 3) := by decide +kernel
theorem dX12_doActs_73 : decode cX12_doActs 73 = .ok (.aload_n 0, 1) := by decide +kernel
theorem dX12_doActs_74 : decode cX12_doActs 74 = .ok (.getfield 25, 3) := by decide +kernel
theorem dX12_doActs_77 : decode cX12_doActs 77 = .ok (.iload 7, 2) := by decide +kernel
theorem dX12_doActs_79 : decode cX12_doActs 79 = .ok (.aload_n 0, 1) := by decide +kernel
theorem dX12_doActs_80 : decode cX12_doActs 80 = .ok (.getfield 25, 3) := by decide +kernel
theorem dX12_doActs_83 : decode cX12_doActs 83 = .ok (.iload 7, 2) := by decide +kernel
theorem dX12_doActs_85 : decode cX12_doActs 85 = .ok (.iaload, 1) := by decide +kernel
theorem dX12_doActs_86 : decode cX12_doActs 86 = .ok (.iload 6, 2) := by decide +kernel
theorem dX12_doActs_88 : decode cX12_doActs 88 = .ok (.aload_n 1, 1) := by decide +kernel
theorem dX12_doActs_89 : decode cX12_doActs 89 = .ok (.iload 5, 2) := by decide +kernel
theorem dX12_doActs_91 : decode cX12_doActs 91 = .ok (.iconst 1, 1) := by decide +kernel
theorem dX12_doActs_92 : decode cX12_doActs 92 = .ok (.iadd, 1) := by decide +kernel
theorem dX12_doActs_93 : decode cX12_doActs 93 = .ok (.iaload, 1) := by decide +kernel
theorem dX12_doActs_94 : decode cX12_doActs 94 = .ok (.invokestatic 197, 3) := by decide +kernel
theorem dX12_doActs_97 : decode cX12_doActs 97 = .ok (.iastore, 1) := by decide +kernel
theorem dX12_doActs_98 : decode cX12_doActs 98 = .ok (.iinc 7 1, 3) := by decide +kernel
theorem dX12_doActs_101 : decode cX12_doActs 101 = .ok (.goto (-35), 3) := by decide +kernel
theorem dX12_doActs_104 : decode cX12_doActs 104 = .ok (.iinc 4 1, 3) := by decide +kernel
theorem dX12_doActs_107 : decode cX12_doActs 107 = .ok (.goto (-104), 3) := by decide +kernel
theorem dX12_doActs_110 : decode cX12_doActs 110 = .ok (.iconst 1, 1) := by decide +kernel
theorem dX12_doActs_111 : decode cX12_doActs 111 = .ok (.ireturn, 1) := by decide +kernel
theorem dX12_act_0 : decode cX12_act 0 = .ok (.aload_n 0, 1) := by decide +kernel
theorem dX12_act_1 : decode cX12_act 1 = .ok (.iload_n 1, 1) := by decide +kernel
theorem dX12_act_2 : decode cX12_act 2 = .ok (.invokevirtual 146, 3) := by decide +kernel
theorem dX12_act_5 : decode cX12_act 5 = .ok (.ifCond .ne 10, 3) := by decide +kernel
theorem dX12_act_8 : decode cX12_act 8 = .ok (.iload_n 2, 1) := by decide +kernel
theorem dX12_act_9 : decode cX12_act 9 = .ok (.invokestatic 110, 3) := by decide +kernel
theorem dX12_act_12 : decode cX12_act 12 = .ok (.ifCond .eq 9, 3) := by decide +kernel
theorem dX12_act_15 : decode cX12_act 15 = .ok (.aload_n 0, 1) := by decide +kernel
theorem dX12_act_16 : decode cX12_act 16 = .ok (.iconst (-1), 1) := by decide +kernel
theorem dX12_act_17 : decode cX12_act 17 = .ok (.invokevirtual 114, 3) := by decide +kernel
theorem dX12_act_20 : decode cX12_act 20 = .ok (.ireturn, 1) := by decide +kernel
theorem dX12_act_21 : decode cX12_act 21 = .ok (.iload_n 3, 1) := by decide +kernel
theorem dX12_act_22 : decode cX12_act 22 = .ok (.invokestatic 119, 3) := by decide +kernel
theorem dX12_act_25 : decode cX12_act 25 = .ok (.ifCond .ne 10, 3) := by decide +kernel
theorem dX12_act_28 : decode cX12_act 28 = .ok (.aload_n 0, 1) := by decide +kernel
theorem dX12_act_29 : decode cX12_act 29 = .ok (.bipush (-2), 2) := by decide +kernel
theorem dX12_act_31 : decode cX12_act 31 = .ok (.invokevirtual 114, 3) := by decide +kernel
theorem dX12_act_34 : decode cX12_act 34 = .ok (.ireturn, 1) := by decide +kernel
theorem dX12_act_35 : decode cX12_act 35 = .ok (.aload_n 0, 1) := by decide +kernel
theorem dX12_act_36 : decode cX12_act 36 = .ok (.iload_n 2, 1) := by decide +kernel
theorem dX12_act_37 : decode cX12_act 37 = .ok (.iload_n 3, 1) := by decide +kernel
theorem dX12_act_38 : decode cX12_act 38 = .ok (.iload 4, 2) := by decide +kernel
theorem dX12_act_40 : decode cX12_act 40 = .ok (.iload 5, 2) := by decide +kernel
theorem dX12_act_42 : decode cX12_act 42 = .ok (.i2l, 1) := by decide +kernel
theorem dX12_act_43 : decode cX12_act 43 = .ok (.invokevirtual 122, 3) := by decide +kernel
theorem dX12_act_46 : decode cX12_act 46 = .ok (.istore 6, 2) := by decide +kernel
theorem dX12_act_48 : decode cX12_act 48 = .ok (.iload 6, 2) := by decide +kernel
theorem dX12_act_50 : decode cX12_act 50 = .ok (.ifCond .ge 6, 3) := by decide +kernel
theorem dX12_act_53 : decode cX12_act 53 = .ok (.iload 6, 2) := by decide +kernel
theorem dX12_act_55 : decode cX12_act 55 = .ok (.ireturn, 1) := by decide +kernel
theorem dX12_act_56 : decode cX12_act 56 = .ok (.aload_n 0, 1) := by decide +kernel
theorem dX12_act_57 : decode cX12_act 57 = .ok (.bipush 60, 2) := by decide +kernel
theorem dX12_act_59 : decode cX12_act 59 = .ok (.iload_n 2, 1) := by decide +kernel
theorem dX12_act_60 : decode cX12_act 60 = .ok (.imul, 1) := by decide +kernel
theorem dX12_act_61 : decode cX12_act 61 = .ok (.iload 4, 2) := by decide +kernel
theorem dX12_act_63 : decode cX12_act 63 = .ok (.iadd, 1) := by decide +kernel
theorem dX12_act_64 : decode cX12_act 64 = .ok (.iload 5, 2) := by decide +kernel
theorem dX12_act_66 : decode cX12_act 66 = .ok (.invokevirtual 201, 3) := by decide +kernel
theorem dX12_act_69 : decode cX12_act 69 = .ok (.istore 7, 2) := by decide +kernel
theorem dX12_act_71 : decode cX12_act 71 = .ok (.iload 7, 2) := by decide +kernel
theorem dX12_act_73 : decode cX12_act 73 = .ok (.ifCond .lt 13, 3) := by decide +kernel
theorem dX12_act_76 : decode cX12_act 76 = .ok (.aload_n 0, 1) := by decide +kernel
theorem dX12_act_77 : decode cX12_act 77 = .ok (.bipush (-100), 2) := by decide +kernel
theorem dX12_act_79 : decode cX12_act 79 = .ok (.iload 7, 2) := by decide +kernel
theorem dX12_act_81 : decode cX12_act 81 = .ok (.isub, 1) := by decide +kernel
theorem dX12_act_82 : decode cX12_act 82 = .ok (.invokevirtual 114, 3) := by decide +kernel
theorem dX12_act_85 : decode cX12_act 85 = .ok (.ireturn, 1) := by decide +kernel
theorem dX12_act_86 : decode cX12_act 86 = .ok (.aload_n 0, 1) := by decide +kernel
theorem dX12_act_87 : decode cX12_act 87 = .ok (.iload_n 1, 1) := by decide +kernel
theorem dX12_act_88 : decode cX12_act 88 = .ok (.invokevirtual 204, 3) := by decide +kernel
theorem dX12_act_91 : decode cX12_act 91 = .ok (.aload_n 0, 1) := by decide +kernel
theorem dX12_act_92 : decode cX12_act 92 = .ok (.aload_n 0, 1) := by decide +kernel
theorem dX12_act_93 : decode cX12_act 93 = .ok (.getfield 22, 3) := by decide +kernel
theorem dX12_act_96 : decode cX12_act 96 = .ok (.iconst 0, 1) := by decide +kernel
theorem dX12_act_97 : decode cX12_act 97 = .ok (.aload_n 0, 1) := by decide +kernel
theorem dX12_act_98 : decode cX12_act 98 = .ok (.getfield 166, 3) := by decide +kernel
theorem dX12_act_101 : decode cX12_act 101 = .ok (.invokevirtual 207, 3) := by decide +kernel
theorem dX12_act_104 : decode cX12_act 104 = .ok (.ifCond .ne 10, 3) := by decide +kernel
theorem dX12_act_107 : decode cX12_act 107 = .ok (.aload_n 0, 1) := by decide +kernel
theorem dX12_act_108 : decode cX12_act 108 = .ok (.bipush (-3), 2) := by decide +kernel
theorem dX12_act_110 : decode cX12_act 110 = .ok (.invokevirtual 114, 3) := by decide +kernel
theorem dX12_act_113 : decode cX12_act 113 = .ok (.ireturn, 1) := by decide +kernel
theorem dX12_act_114 : decode cX12_act 114 = .ok (.aload_n 0, 1) := by decide +kernel
theorem dX12_act_115 : decode cX12_act 115 = .ok (.getfield 105, 3) := by decide +kernel
theorem dX12_act_118 : decode cX12_act 118 = .ok (.bipush 12, 2) := by decide +kernel
theorem dX12_act_120 : decode cX12_act 120 = .ok (.if_icmp .ne 10, 3) := by decide +kernel
theorem dX12_act_123 : decode cX12_act 123 = .ok (.aload_n 0, 1) := by decide +kernel
theorem dX12_act_124 : decode cX12_act 124 = .ok (.bipush (-4), 2) := by decide +kernel
theorem dX12_act_126 : decode cX12_act 126 = .ok (.invokevirtual 114, 3) := by decide +kernel
theorem dX12_act_129 : decode cX12_act 129 = .ok (.ireturn, 1) := by decide +kernel
theorem dX12_act_130 : decode cX12_act 130 = .ok (.aload_n 0, 1) := by decide +kernel
theorem dX12_act_131 : decode cX12_act 131 = .ok (.getfield 7, 3) := by decide +kernel
theorem dX12_act_134 : decode cX12_act 134 = .ok (.aload_n 0, 1) := by decide +kernel
theorem dX12_act_135 : decode cX12_act 135 = .ok (.getfield 105, 3) := by decide +kernel
theorem dX12_act_138 : decode cX12_act 138 = .ok (.aload_n 0, 1) := by decide +kernel
theorem dX12_act_139 : decode cX12_act 139 = .ok (.getfield 178, 3) := by decide +kernel
theorem dX12_act_142 : decode cX12_act 142 = .ok (.iastore, 1) := by decide +kernel
theorem dX12_act_143 : decode cX12_act 143 = .ok (.aload_n 0, 1) := by decide +kernel
theorem dX12_act_144 : decode cX12_act 144 = .ok (.getfield 13, 3) := by decide +kernel
theorem dX12_act_147 : decode cX12_act 147 = .ok (.aload_n 0, 1) := by decide +kernel
theorem dX12_act_148 : decode cX12_act 148 = .ok (.getfield 105, 3) := by decide +kernel
theorem dX12_act_151 : decode cX12_act 151 = .ok (.aload_n 0, 1) := by decide +kernel
theorem dX12_act_152 : decode cX12_act 152 = .ok (.getfield 181, 3) := by decide +kernel
theorem dX12_act_155 : decode cX12_act 155 = .ok (.iastore, 1) := by decide +kernel
theorem dX12_act_156 : decode cX12_act 156 = .ok (.iconst 0, 1) := by decide +kernel
theorem dX12_act_157 : decode cX12_act 157 = .ok (.istore 8, 2) := by decide +kernel
theorem dX12_act_159 : decode cX12_act 159 = .ok (.iload 8, 2) := by decide +kernel
theorem dX12_act_161 : decode cX12_act 161 = .ok (.bipush 16, 2) := by decide +kernel
theorem dX12_act_163 : decode cX12_act 163 = .ok (.if_icmp .ge 31, 3) := by decide +kernel
theorem dX12_act_166 : decode cX12_act 166 = .ok (.aload_n 0, 1) := by decide +kernel
theorem dX12_act_167 : decode cX12_act 167 = .ok (.getfield 16, 3) := by decide +kernel
theorem dX12_act_170 : decode cX12_act 170 = .ok (.bipush 16, 2) := by decide +kernel
theorem dX12_act_172 : decode cX12_act 172 = .ok (.aload_n 0, 1) := by decide +kernel
theorem dX12_act_173 : decode cX12_act 173 = .ok (.getfield 105, 3) := by decide +kernel
theorem dX12_act_176 : decode cX12_act 176 = .ok (.imul, 1) := by decide +kernel
theorem dX12_act_177 : decode cX12_act 177 = .ok (.iload 8, 2) := by decide +kernel
theorem dX12_act_179 : decode cX12_act 179 = .ok (.iadd, 1) := by decide +kernel
theorem dX12_act_180 : decode cX12_act 180 = .ok (.aload_n 0, 1) := by decide +kernel
theorem dX12_act_181 : decode cX12_act 181 = .ok (.getfield 25, 3) := by decide +kernel
theorem dX12_act_184 : decode cX12_act 184 = .ok (.iload 8, 2) := by decide +kernel
theorem dX12_act_186 : decode cX12_act 186 = .ok (.iaload, 1) := by decide +kernel
theorem dX12_act_187 : decode cX12_act 187 = .ok (.iastore, 1) := by decide +kernel
theorem dX12_act_188 : decode cX12_act 188 = .ok (.iinc 8 1, 3) := by decide +kernel
theorem dX12_act_191 : decode cX12_act 191 = .ok (.goto (-32), 3) := by decide +kernel
theorem dX12_act_194 : decode cX12_act 194 = .ok (.aload_n 0, 1) := by decide +kernel
theorem dX12_act_195 : decode cX12_act 195 = .ok (.dup, 1) := by decide +kernel
theorem dX12_act_196 : decode cX12_act 196 = .ok (.getfield 105, 3) := by decide +kernel
theorem dX12_act_199 : decode cX12_act 199 = .ok (.iconst 1, 1) := by decide +kernel
theorem dX12_act_200 : decode cX12_act 200 = .ok (.iadd, 1) := by decide +kernel
theorem dX12_act_201 : decode cX12_act 201 = .ok (.putfield 105, 3) := by decide +kernel
theorem dX12_act_204 : decode cX12_act 204 = .ok (.aload_n 0, 1) := by decide +kernel
theorem dX12_act_205 : decode cX12_act 205 = .ok (.aload_n 0, 1) := by decide +kernel
theorem dX12_act_206 : decode cX12_act 206 = .ok (.getfield 105, 3) := by decide +kernel
theorem dX12_act_209 : decode cX12_act 209 = .ok (.iconst 1, 1) := by decide +kernel
theorem dX12_act_210 : decode cX12_act 210 = .ok (.isub, 1) := by decide +kernel
theorem dX12_act_211 : decode cX12_act 211 = .ok (.invokevirtual 114, 3) := by decide +kernel
theorem dX12_act_214 : decode cX12_act 214 = .ok (.ireturn, 1) := by decide +kernel
theorem dX12_noLens_0 : decode cX12_noLens 0 = .ok (.iload_n 1, 1) := by decide +kernel
theorem dX12_noLens_1 : decode cX12_noLens 1 = .ok (.i2l, 1) := by decide +kernel
theorem dX12_noLens_2 : decode cX12_noLens 2 = .ok (.lconst 0, 1) := by decide +kernel
theorem dX12_noLens_3 : decode cX12_noLens 3 = .ok (.aload_n 0, 1) := by decide +kernel
theorem dX12_noLens_4 : decode cX12_noLens 4 = .ok (.getfield 211, 3) := by decide +kernel
theorem dX12_noLens_7 : decode cX12_noLens 7 = .ok (.i2l, 1) := by decide +kernel
theorem dX12_noLens_8 : decode cX12_noLens 8 = .ok (.lconst 1, 1) := by decide +kernel
theorem dX12_noLens_9 : decode cX12_noLens 9 = .ok (.lsub, 1) := by decide +kernel
theorem dX12_noLens_10 : decode cX12_noLens 10 = .ok (.invokestatic 99, 3) := by decide +kernel
theorem dX12_noLens_13 : decode cX12_noLens 13 = .ok (.ifCond .ne 7, 3) := by decide +kernel
theorem dX12_noLens_16 : decode cX12_noLens 16 = .ok (.iconst 1, 1) := by decide +kernel
theorem dX12_noLens_17 : decode cX12_noLens 17 = .ok (.goto 4, 3) := by decide +kernel
theorem dX12_noLens_20 : decode cX12_noLens 20 = .ok (.iconst 0, 1) := by decide +kernel
theorem dX12_noLens_21 : decode cX12_noLens 21 = .ok (.ireturn, 1) := by decide +kernel
theorem dX12_lens_0 : decode cX12_lens 0 = .ok (.iload_n 1, 1) := by decide +kernel
theorem dX12_lens_1 : decode cX12_lens 1 = .ok (.i2l, 1) := by decide +kernel
theorem dX12_lens_2 : decode cX12_lens 2 = .ok (.lconst 1, 1) := by decide +kernel
theorem dX12_lens_3 : decode cX12_lens 3 = .ok (.ldc2_w 214, 3) := by decide +kernel
theorem dX12_lens_6 : decode cX12_lens 6 = .ok (.invokestatic 99, 3) := by decide +kernel
theorem dX12_lens_9 : decode cX12_lens 9 = .ok (.ifCond .ne 6, 3) := by decide +kernel
theorem dX12_lens_12 : decode cX12_lens 12 = .ok (.bipush (-2), 2) := by decide +kernel
theorem dX12_lens_14 : decode cX12_lens 14 = .ok (.ireturn, 1) := by decide +kernel
theorem dX12_lens_15 : decode cX12_lens 15 = .ok (.aload_n 0, 1) := by decide +kernel
theorem dX12_lens_16 : decode cX12_lens 16 = .ok (.getfield 211, 3) := by decide +kernel
theorem dX12_lens_19 : decode cX12_lens 19 = .ok (.bipush 6, 2) := by decide +kernel
theorem dX12_lens_21 : decode cX12_lens 21 = .ok (.if_icmp .ne 6, 3) := by decide +kernel
theorem dX12_lens_24 : decode cX12_lens 24 = .ok (.bipush (-4), 2) := by decide +kernel
theorem dX12_lens_26 : decode cX12_lens 26 = .ok (.ireturn, 1) := by decide +kernel
theorem dX12_lens_27 : decode cX12_lens 27 = .ok (.aload_n 0, 1) := by decide +kernel
theorem dX12_lens_28 : decode cX12_lens 28 = .ok (.getfield 31, 3) := by decide +kernel
theorem dX12_lens_31 : decode cX12_lens 31 = .ok (.aload_n 0, 1) := by decide +kernel
theorem dX12_lens_32 : decode cX12_lens 32 = .ok (.getfield 211, 3) := by decide +kernel
theorem dX12_lens_35 : decode cX12_lens 35 = .ok (.iload_n 1, 1) := by decide +kernel
theorem dX12_lens_36 : decode cX12_lens 36 = .ok (.iastore, 1) := by decide +kernel
theorem dX12_lens_37 : decode cX12_lens 37 = .ok (.aload_n 0, 1) := by decide +kernel
theorem dX12_lens_38 : decode cX12_lens 38 = .ok (.getfield 34, 3) := by decide +kernel
theorem dX12_lens_41 : decode cX12_lens 41 = .ok (.aload_n 0, 1) := by decide +kernel
theorem dX12_lens_42 : decode cX12_lens 42 = .ok (.getfield 211, 3) := by decide +kernel
theorem dX12_lens_45 : decode cX12_lens 45 = .ok (.sipush 1000, 3) := by decide +kernel
theorem dX12_lens_48 : decode cX12_lens 48 = .ok (.iastore, 1) := by decide +kernel
theorem dX12_lens_49 : decode cX12_lens 49 = .ok (.aload_n 0, 1) := by decide +kernel
theorem dX12_lens_50 : decode cX12_lens 50 = .ok (.dup, 1) := by decide +kernel
theorem dX12_lens_51 : decode cX12_lens 51 = .ok (.getfield 211, 3) := by decide +kernel
theorem dX12_lens_54 : decode cX12_lens 54 = .ok (.iconst 1, 1) := by decide +kernel
theorem dX12_lens_55 : decode cX12_lens 55 = .ok (.iadd, 1) := by decide +kernel
theorem dX12_lens_56 : decode cX12_lens 56 = .ok (.putfield 211, 3) := by decide +kernel
theorem dX12_lens_59 : decode cX12_lens 59 = .ok (.aload_n 0, 1) := by decide +kernel
theorem dX12_lens_60 : decode cX12_lens 60 = .ok (.getfield 211, 3) := by decide +kernel
theorem dX12_lens_63 : decode cX12_lens 63 = .ok (.iconst 1, 1) := by decide +kernel
theorem dX12_lens_64 : decode cX12_lens 64 = .ok (.isub, 1) := by decide +kernel
theorem dX12_lens_65 : decode cX12_lens 65 = .ok (.ireturn, 1) := by decide +kernel
theorem dX12_steal_0 : decode cX12_steal 0 = .ok (.aload_n 0, 1) := by decide +kernel
theorem dX12_steal_1 : decode cX12_steal 1 = .ok (.iload_n 1, 1) := by decide +kernel
theorem dX12_steal_2 : decode cX12_steal 2 = .ok (.invokevirtual 216, 3) := by decide +kernel
theorem dX12_steal_5 : decode cX12_steal 5 = .ok (.ifCond .eq 5, 3) := by decide +kernel
theorem dX12_steal_8 : decode cX12_steal 8 = .ok (.iconst (-1), 1) := by decide +kernel
theorem dX12_steal_9 : decode cX12_steal 9 = .ok (.ireturn, 1) := by decide +kernel
theorem dX12_steal_10 : decode cX12_steal 10 = .ok (.iload_n 2, 1) := by decide +kernel
theorem dX12_steal_11 : decode cX12_steal 11 = .ok (.i2l, 1) := by decide +kernel
theorem dX12_steal_12 : decode cX12_steal 12 = .ok (.lconst 0, 1) := by decide +kernel
theorem dX12_steal_13 : decode cX12_steal 13 = .ok (.ldc2_w 219, 3) := by decide +kernel
theorem dX12_steal_16 : decode cX12_steal 16 = .ok (.invokestatic 99, 3) := by decide +kernel
theorem dX12_steal_19 : decode cX12_steal 19 = .ok (.ifCond .ne 6, 3) := by decide +kernel
theorem dX12_steal_22 : decode cX12_steal 22 = .ok (.bipush (-2), 2) := by decide +kernel
theorem dX12_steal_24 : decode cX12_steal 24 = .ok (.ireturn, 1) := by decide +kernel
theorem dX12_steal_25 : decode cX12_steal 25 = .ok (.aload_n 0, 1) := by decide +kernel
theorem dX12_steal_26 : decode cX12_steal 26 = .ok (.getfield 34, 3) := by decide +kernel
theorem dX12_steal_29 : decode cX12_steal 29 = .ok (.iload_n 1, 1) := by decide +kernel
theorem dX12_steal_30 : decode cX12_steal 30 = .ok (.iaload, 1) := by decide +kernel
theorem dX12_steal_31 : decode cX12_steal 31 = .ok (.istore_n 3, 1) := by decide +kernel
theorem dX12_steal_32 : decode cX12_steal 32 = .ok (.aload_n 0, 1) := by decide +kernel
theorem dX12_steal_33 : decode cX12_steal 33 = .ok (.getfield 34, 3) := by decide +kernel
theorem dX12_steal_36 : decode cX12_steal 36 = .ok (.iload_n 1, 1) := by decide +kernel
theorem dX12_steal_37 : decode cX12_steal 37 = .ok (.iload_n 2, 1) := by decide +kernel
theorem dX12_steal_38 : decode cX12_steal 38 = .ok (.iastore, 1) := by decide +kernel
theorem dX12_steal_39 : decode cX12_steal 39 = .ok (.iload_n 3, 1) := by decide +kernel
theorem dX12_steal_40 : decode cX12_steal 40 = .ok (.ireturn, 1) := by decide +kernel
theorem dX12_noLine_0 : decode cX12_noLine 0 = .ok (.aload_n 0, 1) := by decide +kernel
theorem dX12_noLine_1 : decode cX12_noLine 1 = .ok (.getfield 37, 3) := by decide +kernel
theorem dX12_noLine_4 : decode cX12_noLine 4 = .ok (.iload_n 1, 1) := by decide +kernel
theorem dX12_noLine_5 : decode cX12_noLine 5 = .ok (.iaload, 1) := by decide +kernel
theorem dX12_noLine_6 : decode cX12_noLine 6 = .ok (.ifCond .ge 7, 3) := by decide +kernel
theorem dX12_noLine_9 : decode cX12_noLine 9 = .ok (.iconst 1, 1) := by decide +kernel
theorem dX12_noLine_10 : decode cX12_noLine 10 = .ok (.goto 4, 3) := by decide +kernel
theorem dX12_noLine_13 : decode cX12_noLine 13 = .ok (.iconst 0, 1) := by decide +kernel
theorem dX12_noLine_14 : decode cX12_noLine 14 = .ok (.ireturn, 1) := by decide +kernel
theorem dX12_sealOf_0 : decode cX12_sealOf 0 = .ok (.aload_n 0, 1) := by decide +kernel
theorem dX12_sealOf_1 : decode cX12_sealOf 1 = .ok (.iload_n 1, 1) := by decide +kernel
theorem dX12_sealOf_2 : decode cX12_sealOf 2 = .ok (.invokevirtual 152, 3) := by decide +kernel
theorem dX12_sealOf_5 : decode cX12_sealOf 5 = .ok (.aload_n 0, 1) := by decide +kernel
theorem dX12_sealOf_6 : decode cX12_sealOf 6 = .ok (.getfield 31, 3) := by decide +kernel
theorem dX12_sealOf_9 : decode cX12_sealOf 9 = .ok (.iload_n 2, 1) := by decide +kernel
theorem dX12_sealOf_10 : decode cX12_sealOf 10 = .ok (.iaload, 1) := by decide +kernel
theorem dX12_sealOf_11 : decode cX12_sealOf 11 = .ok (.imul, 1) := by decide +kernel
theorem dX12_sealOf_12 : decode cX12_sealOf 12 = .ok (.bipush 13, 2) := by decide +kernel
theorem dX12_sealOf_14 : decode cX12_sealOf 14 = .ok (.iload_n 3, 1) := by decide +kernel
theorem dX12_sealOf_15 : decode cX12_sealOf 15 = .ok (.imul, 1) := by decide +kernel
theorem dX12_sealOf_16 : decode cX12_sealOf 16 = .ok (.iadd, 1) := by decide +kernel
theorem dX12_sealOf_17 : decode cX12_sealOf 17 = .ok (.iconst 5, 1) := by decide +kernel
theorem dX12_sealOf_18 : decode cX12_sealOf 18 = .ok (.aload_n 0, 1) := by decide +kernel
theorem dX12_sealOf_19 : decode cX12_sealOf 19 = .ok (.getfield 7, 3) := by decide +kernel
theorem dX12_sealOf_22 : decode cX12_sealOf 22 = .ok (.iload_n 1, 1) := by decide +kernel
theorem dX12_sealOf_23 : decode cX12_sealOf 23 = .ok (.iaload, 1) := by decide +kernel
theorem dX12_sealOf_24 : decode cX12_sealOf 24 = .ok (.imul, 1) := by decide +kernel
theorem dX12_sealOf_25 : decode cX12_sealOf 25 = .ok (.iadd, 1) := by decide +kernel
theorem dX12_sealOf_26 : decode cX12_sealOf 26 = .ok (.aload_n 0, 1) := by decide +kernel
theorem dX12_sealOf_27 : decode cX12_sealOf 27 = .ok (.getfield 13, 3) := by decide +kernel
theorem dX12_sealOf_30 : decode cX12_sealOf 30 = .ok (.iload_n 1, 1) := by decide +kernel
theorem dX12_sealOf_31 : decode cX12_sealOf 31 = .ok (.iaload, 1) := by decide +kernel
theorem dX12_sealOf_32 : decode cX12_sealOf 32 = .ok (.iadd, 1) := by decide +kernel
theorem dX12_sealOf_33 : decode cX12_sealOf 33 = .ok (.sipush 9973, 3) := by decide +kernel
theorem dX12_sealOf_36 : decode cX12_sealOf 36 = .ok (.irem, 1) := by decide +kernel
theorem dX12_sealOf_37 : decode cX12_sealOf 37 = .ok (.ireturn, 1) := by decide +kernel
theorem dX12_write_0 : decode cX12_write 0 = .ok (.aload_n 0, 1) := by decide +kernel
theorem dX12_write_1 : decode cX12_write 1 = .ok (.getfield 37, 3) := by decide +kernel
theorem dX12_write_4 : decode cX12_write 4 = .ok (.iload_n 1, 1) := by decide +kernel
theorem dX12_write_5 : decode cX12_write 5 = .ok (.iload_n 2, 1) := by decide +kernel
theorem dX12_write_6 : decode cX12_write 6 = .ok (.iastore, 1) := by decide +kernel
theorem dX12_write_7 : decode cX12_write 7 = .ok (.aload_n 0, 1) := by decide +kernel
theorem dX12_write_8 : decode cX12_write 8 = .ok (.getfield 40, 3) := by decide +kernel
theorem dX12_write_11 : decode cX12_write 11 = .ok (.iload_n 1, 1) := by decide +kernel
theorem dX12_write_12 : decode cX12_write 12 = .ok (.iload 4, 2) := by decide +kernel
theorem dX12_write_14 : decode cX12_write 14 = .ok (.iastore, 1) := by decide +kernel
theorem dX12_write_15 : decode cX12_write 15 = .ok (.aload_n 0, 1) := by decide +kernel
theorem dX12_write_16 : decode cX12_write 16 = .ok (.getfield 43, 3) := by decide +kernel
theorem dX12_write_19 : decode cX12_write 19 = .ok (.iload_n 1, 1) := by decide +kernel
theorem dX12_write_20 : decode cX12_write 20 = .ok (.iload 5, 2) := by decide +kernel
theorem dX12_write_22 : decode cX12_write 22 = .ok (.iastore, 1) := by decide +kernel
theorem dX12_write_23 : decode cX12_write 23 = .ok (.aload_n 0, 1) := by decide +kernel
theorem dX12_write_24 : decode cX12_write 24 = .ok (.getfield 49, 3) := by decide +kernel
theorem dX12_write_27 : decode cX12_write 27 = .ok (.iload_n 1, 1) := by decide +kernel
theorem dX12_write_28 : decode cX12_write 28 = .ok (.iload_n 3, 1) := by decide +kernel
theorem dX12_write_29 : decode cX12_write 29 = .ok (.iastore, 1) := by decide +kernel
theorem dX12_write_30 : decode cX12_write 30 = .ok (.aload_n 0, 1) := by decide +kernel
theorem dX12_write_31 : decode cX12_write 31 = .ok (.getfield 46, 3) := by decide +kernel
theorem dX12_write_34 : decode cX12_write 34 = .ok (.iload_n 1, 1) := by decide +kernel
theorem dX12_write_35 : decode cX12_write 35 = .ok (.aload_n 0, 1) := by decide +kernel
theorem dX12_write_36 : decode cX12_write 36 = .ok (.iload_n 1, 1) := by decide +kernel
theorem dX12_write_37 : decode cX12_write 37 = .ok (.iload 4, 2) := by decide +kernel
theorem dX12_write_39 : decode cX12_write 39 = .ok (.iload 5, 2) := by decide +kernel
theorem dX12_write_41 : decode cX12_write 41 = .ok (.invokevirtual 221, 3) := by decide +kernel
theorem dX12_write_44 : decode cX12_write 44 = .ok (.iastore, 1) := by decide +kernel
theorem dX12_write_45 : decode cX12_write 45 = .ok (.aload_n 0, 1) := by decide +kernel
theorem dX12_write_46 : decode cX12_write 46 = .ok (.getfield 52, 3) := by decide +kernel
theorem dX12_write_49 : decode cX12_write 49 = .ok (.iload_n 1, 1) := by decide +kernel
theorem dX12_write_50 : decode cX12_write 50 = .ok (.iconst 0, 1) := by decide +kernel
theorem dX12_write_51 : decode cX12_write 51 = .ok (.iastore, 1) := by decide +kernel
theorem dX12_write_52 : decode cX12_write 52 = .ok (.aload_n 0, 1) := by decide +kernel
theorem dX12_write_53 : decode cX12_write 53 = .ok (.getfield 46, 3) := by decide +kernel
theorem dX12_write_56 : decode cX12_write 56 = .ok (.iload_n 1, 1) := by decide +kernel
theorem dX12_write_57 : decode cX12_write 57 = .ok (.iaload, 1) := by decide +kernel
theorem dX12_write_58 : decode cX12_write 58 = .ok (.ireturn, 1) := by decide +kernel
theorem dX12_take_0 : decode cX12_take 0 = .ok (.aload_n 0, 1) := by decide +kernel
theorem dX12_take_1 : decode cX12_take 1 = .ok (.iload_n 1, 1) := by decide +kernel
theorem dX12_take_2 : decode cX12_take 2 = .ok (.invokevirtual 146, 3) := by decide +kernel
theorem dX12_take_5 : decode cX12_take 5 = .ok (.ifCond .ne 11, 3) := by decide +kernel
theorem dX12_take_8 : decode cX12_take 8 = .ok (.aload_n 0, 1) := by decide +kernel
theorem dX12_take_9 : decode cX12_take 9 = .ok (.iload_n 2, 1) := by decide +kernel
theorem dX12_take_10 : decode cX12_take 10 = .ok (.invokevirtual 216, 3) := by decide +kernel
theorem dX12_take_13 : decode cX12_take 13 = .ok (.ifCond .eq 5, 3) := by decide +kernel
theorem dX12_take_16 : decode cX12_take 16 = .ok (.iconst (-1), 1) := by decide +kernel
theorem dX12_take_17 : decode cX12_take 17 = .ok (.ireturn, 1) := by decide +kernel
theorem dX12_take_18 : decode cX12_take 18 = .ok (.iload_n 3, 1) := by decide +kernel
theorem dX12_take_19 : decode cX12_take 19 = .ok (.invokestatic 224, 3) := by decide +kernel
theorem dX12_take_22 : decode cX12_take 22 = .ok (.ifCond .ne 6, 3) := by decide +kernel
theorem dX12_take_25 : decode cX12_take 25 = .ok (.bipush (-2), 2) := by decide +kernel
theorem dX12_take_27 : decode cX12_take 27 = .ok (.ireturn, 1) := by decide +kernel
theorem dX12_take_28 : decode cX12_take 28 = .ok (.aload_n 0, 1) := by decide +kernel
theorem dX12_take_29 : decode cX12_take 29 = .ok (.iload_n 1, 1) := by decide +kernel
theorem dX12_take_30 : decode cX12_take 30 = .ok (.invokevirtual 227, 3) := by decide +kernel
theorem dX12_take_33 : decode cX12_take 33 = .ok (.ifCond .eq 16, 3) := by decide +kernel
theorem dX12_take_36 : decode cX12_take 36 = .ok (.aload_n 0, 1) := by decide +kernel
theorem dX12_take_37 : decode cX12_take 37 = .ok (.iload_n 1, 1) := by decide +kernel
theorem dX12_take_38 : decode cX12_take 38 = .ok (.iconst 0, 1) := by decide +kernel
theorem dX12_take_39 : decode cX12_take 39 = .ok (.bipush (-9), 2) := by decide +kernel
theorem dX12_take_41 : decode cX12_take 41 = .ok (.iload_n 2, 1) := by decide +kernel
theorem dX12_take_42 : decode cX12_take 42 = .ok (.iload_n 3, 1) := by decide +kernel
theorem dX12_take_43 : decode cX12_take 43 = .ok (.invokevirtual 230, 3) := by decide +kernel
theorem dX12_take_46 : decode cX12_take 46 = .ok (.goto 5, 3) := by decide +kernel
theorem dX12_take_49 : decode cX12_take 49 = .ok (.bipush (-3), 2) := by decide +kernel
theorem dX12_take_51 : decode cX12_take 51 = .ok (.ireturn, 1) := by decide +kernel
theorem dX12_hush_0 : decode cX12_hush 0 = .ok (.aload_n 0, 1) := by decide +kernel
theorem dX12_hush_1 : decode cX12_hush 1 = .ok (.iload_n 1, 1) := by decide +kernel
theorem dX12_hush_2 : decode cX12_hush 2 = .ok (.invokevirtual 146, 3) := by decide +kernel
theorem dX12_hush_5 : decode cX12_hush 5 = .ok (.ifCond .ne 19, 3) := by decide +kernel
theorem dX12_hush_8 : decode cX12_hush 8 = .ok (.aload_n 0, 1) := by decide +kernel
theorem dX12_hush_9 : decode cX12_hush 9 = .ok (.iload_n 2, 1) := by decide +kernel
theorem dX12_hush_10 : decode cX12_hush 10 = .ok (.invokevirtual 146, 3) := by decide +kernel
theorem dX12_hush_13 : decode cX12_hush 13 = .ok (.ifCond .ne 11, 3) := by decide +kernel
theorem dX12_hush_16 : decode cX12_hush 16 = .ok (.aload_n 0, 1) := by decide +kernel
theorem dX12_hush_17 : decode cX12_hush 17 = .ok (.iload_n 3, 1) := by decide +kernel
theorem dX12_hush_18 : decode cX12_hush 18 = .ok (.invokevirtual 216, 3) := by decide +kernel
theorem dX12_hush_21 : decode cX12_hush 21 = .ok (.ifCond .eq 5, 3) := by decide +kernel
theorem dX12_hush_24 : decode cX12_hush 24 = .ok (.iconst (-1), 1) := by decide +kernel
theorem dX12_hush_25 : decode cX12_hush 25 = .ok (.ireturn, 1) := by decide +kernel
theorem dX12_hush_26 : decode cX12_hush 26 = .ok (.iload 4, 2) := by decide +kernel
theorem dX12_hush_28 : decode cX12_hush 28 = .ok (.invokestatic 224, 3) := by decide +kernel
theorem dX12_hush_31 : decode cX12_hush 31 = .ok (.ifCond .ne 6, 3) := by decide +kernel
theorem dX12_hush_34 : decode cX12_hush 34 = .ok (.bipush (-2), 2) := by decide +kernel
theorem dX12_hush_36 : decode cX12_hush 36 = .ok (.ireturn, 1) := by decide +kernel
theorem dX12_hush_37 : decode cX12_hush 37 = .ok (.aload_n 0, 1) := by decide +kernel
theorem dX12_hush_38 : decode cX12_hush 38 = .ok (.iload_n 1, 1) := by decide +kernel
theorem dX12_hush_39 : decode cX12_hush 39 = .ok (.invokevirtual 227, 3) := by decide +kernel
theorem dX12_hush_42 : decode cX12_hush 42 = .ok (.ifCond .eq 21, 3) := by decide +kernel
theorem dX12_hush_45 : decode cX12_hush 45 = .ok (.iload_n 2, 1) := by decide +kernel
theorem dX12_hush_46 : decode cX12_hush 46 = .ok (.iload_n 1, 1) := by decide +kernel
theorem dX12_hush_47 : decode cX12_hush 47 = .ok (.if_icmp .ge 16, 3) := by decide +kernel
theorem dX12_hush_50 : decode cX12_hush 50 = .ok (.aload_n 0, 1) := by decide +kernel
theorem dX12_hush_51 : decode cX12_hush 51 = .ok (.iload_n 1, 1) := by decide +kernel
theorem dX12_hush_52 : decode cX12_hush 52 = .ok (.iconst 2, 1) := by decide +kernel
theorem dX12_hush_53 : decode cX12_hush 53 = .ok (.iload_n 2, 1) := by decide +kernel
theorem dX12_hush_54 : decode cX12_hush 54 = .ok (.iload_n 3, 1) := by decide +kernel
theorem dX12_hush_55 : decode cX12_hush 55 = .ok (.iload 4, 2) := by decide +kernel
theorem dX12_hush_57 : decode cX12_hush 57 = .ok (.invokevirtual 230, 3) := by decide +kernel
theorem dX12_hush_60 : decode cX12_hush 60 = .ok (.goto 5, 3) := by decide +kernel
theorem dX12_hush_63 : decode cX12_hush 63 = .ok (.bipush (-3), 2) := by decide +kernel
theorem dX12_hush_65 : decode cX12_hush 65 = .ok (.ireturn, 1) := by decide +kernel
theorem dX12_change_0 : decode cX12_change 0 = .ok (.aload_n 0, 1) := by decide +kernel
theorem dX12_change_1 : decode cX12_change 1 = .ok (.iload_n 1, 1) := by decide +kernel
theorem dX12_change_2 : decode cX12_change 2 = .ok (.invokevirtual 146, 3) := by decide +kernel
theorem dX12_change_5 : decode cX12_change 5 = .ok (.ifCond .ne 27, 3) := by decide +kernel
theorem dX12_change_8 : decode cX12_change 8 = .ok (.aload_n 0, 1) := by decide +kernel
theorem dX12_change_9 : decode cX12_change 9 = .ok (.iload_n 2, 1) := by decide +kernel
theorem dX12_change_10 : decode cX12_change 10 = .ok (.invokevirtual 146, 3) := by decide +kernel
theorem dX12_change_13 : decode cX12_change 13 = .ok (.ifCond .ne 19, 3) := by decide +kernel
theorem dX12_change_16 : decode cX12_change 16 = .ok (.aload_n 0, 1) := by decide +kernel
theorem dX12_change_17 : decode cX12_change 17 = .ok (.iload_n 3, 1) := by decide +kernel
theorem dX12_change_18 : decode cX12_change 18 = .ok (.invokevirtual 216, 3) := by decide +kernel
theorem dX12_change_21 : decode cX12_change 21 = .ok (.ifCond .ne 11, 3) := by decide +kernel
theorem dX12_change_24 : decode cX12_change 24 = .ok (.iload 5, 2) := by decide +kernel
theorem dX12_change_26 : decode cX12_change 26 = .ok (.invokestatic 110, 3) := by decide +kernel
theorem dX12_change_29 : decode cX12_change 29 = .ok (.ifCond .eq 9, 3) := by decide +kernel
theorem dX12_change_32 : decode cX12_change 32 = .ok (.aload_n 0, 1) := by decide +kernel
theorem dX12_change_33 : decode cX12_change 33 = .ok (.iconst (-1), 1) := by decide +kernel
theorem dX12_change_34 : decode cX12_change 34 = .ok (.invokevirtual 114, 3) := by decide +kernel
theorem dX12_change_37 : decode cX12_change 37 = .ok (.ireturn, 1) := by decide +kernel
theorem dX12_change_38 : decode cX12_change 38 = .ok (.iload 4, 2) := by decide +kernel
theorem dX12_change_40 : decode cX12_change 40 = .ok (.invokestatic 224, 3) := by decide +kernel
theorem dX12_change_43 : decode cX12_change 43 = .ok (.ifCond .eq 11, 3) := by decide +kernel
theorem dX12_change_46 : decode cX12_change 46 = .ok (.iload 6, 2) := by decide +kernel
theorem dX12_change_48 : decode cX12_change 48 = .ok (.invokestatic 119, 3) := by decide +kernel
theorem dX12_change_51 : decode cX12_change 51 = .ok (.ifCond .ne 10, 3) := by decide +kernel
theorem dX12_change_54 : decode cX12_change 54 = .ok (.aload_n 0, 1) := by decide +kernel
theorem dX12_change_55 : decode cX12_change 55 = .ok (.bipush (-2), 2) := by decide +kernel
theorem dX12_change_57 : decode cX12_change 57 = .ok (.invokevirtual 114, 3) := by decide +kernel
theorem dX12_change_60 : decode cX12_change 60 = .ok (.ireturn, 1) := by decide +kernel
theorem dX12_change_61 : decode cX12_change 61 = .ok (.aload_n 0, 1) := by decide +kernel
theorem dX12_change_62 : decode cX12_change 62 = .ok (.iload 5, 2) := by decide +kernel
theorem dX12_change_64 : decode cX12_change 64 = .ok (.iload 6, 2) := by decide +kernel
theorem dX12_change_66 : decode cX12_change 66 = .ok (.iload 7, 2) := by decide +kernel
theorem dX12_change_68 : decode cX12_change 68 = .ok (.iload 8, 2) := by decide +kernel
theorem dX12_change_70 : decode cX12_change 70 = .ok (.i2l, 1) := by decide +kernel
theorem dX12_change_71 : decode cX12_change 71 = .ok (.invokevirtual 122, 3) := by decide +kernel
theorem dX12_change_74 : decode cX12_change 74 = .ok (.istore 9, 2) := by decide +kernel
theorem dX12_change_76 : decode cX12_change 76 = .ok (.iload 9, 2) := by decide +kernel
theorem dX12_change_78 : decode cX12_change 78 = .ok (.ifCond .ge 6, 3) := by decide +kernel
theorem dX12_change_81 : decode cX12_change 81 = .ok (.iload 9, 2) := by decide +kernel
theorem dX12_change_83 : decode cX12_change 83 = .ok (.ireturn, 1) := by decide +kernel
theorem dX12_change_84 : decode cX12_change 84 = .ok (.aload_n 0, 1) := by decide +kernel
theorem dX12_change_85 : decode cX12_change 85 = .ok (.bipush 60, 2) := by decide +kernel
theorem dX12_change_87 : decode cX12_change 87 = .ok (.iload 5, 2) := by decide +kernel
theorem dX12_change_89 : decode cX12_change 89 = .ok (.imul, 1) := by decide +kernel
theorem dX12_change_90 : decode cX12_change 90 = .ok (.iload 7, 2) := by decide +kernel
theorem dX12_change_92 : decode cX12_change 92 = .ok (.iadd, 1) := by decide +kernel
theorem dX12_change_93 : decode cX12_change 93 = .ok (.iload 8, 2) := by decide +kernel
theorem dX12_change_95 : decode cX12_change 95 = .ok (.invokevirtual 201, 3) := by decide +kernel
theorem dX12_change_98 : decode cX12_change 98 = .ok (.istore 10, 2) := by decide +kernel
theorem dX12_change_100 : decode cX12_change 100 = .ok (.iload 10, 2) := by decide +kernel
theorem dX12_change_102 : decode cX12_change 102 = .ok (.ifCond .lt 13, 3) := by decide +kernel
theorem dX12_change_105 : decode cX12_change 105 = .ok (.aload_n 0, 1) := by decide +kernel
theorem dX12_change_106 : decode cX12_change 106 = .ok (.bipush (-100), 2) := by decide +kernel
theorem dX12_change_108 : decode cX12_change 108 = .ok (.iload 10, 2) := by decide +kernel
theorem dX12_change_110 : decode cX12_change 110 = .ok (.isub, 1) := by decide +kernel
theorem dX12_change_111 : decode cX12_change 111 = .ok (.invokevirtual 114, 3) := by decide +kernel
theorem dX12_change_114 : decode cX12_change 114 = .ok (.ireturn, 1) := by decide +kernel
theorem dX12_change_115 : decode cX12_change 115 = .ok (.aload_n 0, 1) := by decide +kernel
theorem dX12_change_116 : decode cX12_change 116 = .ok (.iload_n 1, 1) := by decide +kernel
theorem dX12_change_117 : decode cX12_change 117 = .ok (.invokevirtual 227, 3) := by decide +kernel
theorem dX12_change_120 : decode cX12_change 120 = .ok (.ifCond .eq 8, 3) := by decide +kernel
theorem dX12_change_123 : decode cX12_change 123 = .ok (.iload_n 2, 1) := by decide +kernel
theorem dX12_change_124 : decode cX12_change 124 = .ok (.iload_n 1, 1) := by decide +kernel
theorem dX12_change_125 : decode cX12_change 125 = .ok (.if_icmp .lt 10, 3) := by decide +kernel
theorem dX12_change_128 : decode cX12_change 128 = .ok (.aload_n 0, 1) := by decide +kernel
theorem dX12_change_129 : decode cX12_change 129 = .ok (.bipush (-3), 2) := by decide +kernel
theorem dX12_change_131 : decode cX12_change 131 = .ok (.invokevirtual 114, 3) := by decide +kernel
theorem dX12_change_134 : decode cX12_change 134 = .ok (.ireturn, 1) := by decide +kernel
theorem dX12_change_135 : decode cX12_change 135 = .ok (.aload_n 0, 1) := by decide +kernel
theorem dX12_change_136 : decode cX12_change 136 = .ok (.iload_n 1, 1) := by decide +kernel
theorem dX12_change_137 : decode cX12_change 137 = .ok (.iconst 1, 1) := by decide +kernel
theorem dX12_change_138 : decode cX12_change 138 = .ok (.iload_n 2, 1) := by decide +kernel
theorem dX12_change_139 : decode cX12_change 139 = .ok (.iload_n 3, 1) := by decide +kernel
theorem dX12_change_140 : decode cX12_change 140 = .ok (.iload 4, 2) := by decide +kernel
theorem dX12_change_142 : decode cX12_change 142 = .ok (.invokevirtual 230, 3) := by decide +kernel
theorem dX12_change_145 : decode cX12_change 145 = .ok (.istore 11, 2) := by decide +kernel
theorem dX12_change_147 : decode cX12_change 147 = .ok (.aload_n 0, 1) := by decide +kernel
theorem dX12_change_148 : decode cX12_change 148 = .ok (.getfield 52, 3) := by decide +kernel
theorem dX12_change_151 : decode cX12_change 151 = .ok (.iload_n 1, 1) := by decide +kernel
theorem dX12_change_152 : decode cX12_change 152 = .ok (.aload_n 0, 1) := by decide +kernel
theorem dX12_change_153 : decode cX12_change 153 = .ok (.getfield 166, 3) := by decide +kernel
theorem dX12_change_156 : decode cX12_change 156 = .ok (.iastore, 1) := by decide +kernel
theorem dX12_change_157 : decode cX12_change 157 = .ok (.iconst 0, 1) := by decide +kernel
theorem dX12_change_158 : decode cX12_change 158 = .ok (.istore 12, 2) := by decide +kernel
theorem dX12_change_160 : decode cX12_change 160 = .ok (.iload 12, 2) := by decide +kernel
theorem dX12_change_162 : decode cX12_change 162 = .ok (.iconst 5, 1) := by decide +kernel
theorem dX12_change_163 : decode cX12_change 163 = .ok (.aload_n 0, 1) := by decide +kernel
theorem dX12_change_164 : decode cX12_change 164 = .ok (.getfield 166, 3) := by decide +kernel
theorem dX12_change_167 : decode cX12_change 167 = .ok (.imul, 1) := by decide +kernel
theorem dX12_change_168 : decode cX12_change 168 = .ok (.if_icmp .ge 28, 3) := by decide +kernel
theorem dX12_change_171 : decode cX12_change 171 = .ok (.aload_n 0, 1) := by decide +kernel
theorem dX12_change_172 : decode cX12_change 172 = .ok (.getfield 55, 3) := by decide +kernel
theorem dX12_change_175 : decode cX12_change 175 = .ok (.bipush 25, 2) := by decide +kernel
theorem dX12_change_177 : decode cX12_change 177 = .ok (.iload_n 1, 1) := by decide +kernel
theorem dX12_change_178 : decode cX12_change 178 = .ok (.imul, 1) := by decide +kernel
theorem dX12_change_179 : decode cX12_change 179 = .ok (.iload 12, 2) := by decide +kernel
theorem dX12_change_181 : decode cX12_change 181 = .ok (.iadd, 1) := by decide +kernel
theorem dX12_change_182 : decode cX12_change 182 = .ok (.aload_n 0, 1) := by decide +kernel
theorem dX12_change_183 : decode cX12_change 183 = .ok (.getfield 22, 3) := by decide +kernel
theorem dX12_change_186 : decode cX12_change 186 = .ok (.iload 12, 2) := by decide +kernel
theorem dX12_change_188 : decode cX12_change 188 = .ok (.iaload, 1) := by decide +kernel
theorem dX12_change_189 : decode cX12_change 189 = .ok (.iastore, 1) := by decide +kernel
theorem dX12_change_190 : decode cX12_change 190 = .ok (.iinc 12 1, 3) := by decide +kernel
theorem dX12_change_193 : decode cX12_change 193 = .ok (.goto (-33), 3) := by decide +kernel
theorem dX12_change_196 : decode cX12_change 196 = .ok (.aload_n 0, 1) := by decide +kernel
theorem dX12_change_197 : decode cX12_change 197 = .ok (.iload 11, 2) := by decide +kernel
theorem dX12_change_199 : decode cX12_change 199 = .ok (.invokevirtual 114, 3) := by decide +kernel
theorem dX12_change_202 : decode cX12_change 202 = .ok (.ireturn, 1) := by decide +kernel
theorem dX12_tear_0 : decode cX12_tear 0 = .ok (.aload_n 0, 1) := by decide +kernel
theorem dX12_tear_1 : decode cX12_tear 1 = .ok (.iload_n 1, 1) := by decide +kernel
theorem dX12_tear_2 : decode cX12_tear 2 = .ok (.invokevirtual 146, 3) := by decide +kernel
theorem dX12_tear_5 : decode cX12_tear 5 = .ok (.ifCond .eq 5, 3) := by decide +kernel
theorem dX12_tear_8 : decode cX12_tear 8 = .ok (.iconst (-1), 1) := by decide +kernel
theorem dX12_tear_9 : decode cX12_tear 9 = .ok (.ireturn, 1) := by decide +kernel
theorem dX12_tear_10 : decode cX12_tear 10 = .ok (.aload_n 0, 1) := by decide +kernel
theorem dX12_tear_11 : decode cX12_tear 11 = .ok (.iload_n 1, 1) := by decide +kernel
theorem dX12_tear_12 : decode cX12_tear 12 = .ok (.invokevirtual 227, 3) := by decide +kernel
theorem dX12_tear_15 : decode cX12_tear 15 = .ok (.ifCond .eq 7, 3) := by decide +kernel
theorem dX12_tear_18 : decode cX12_tear 18 = .ok (.iconst 0, 1) := by decide +kernel
theorem dX12_tear_19 : decode cX12_tear 19 = .ok (.goto 4, 3) := by decide +kernel
theorem dX12_tear_22 : decode cX12_tear 22 = .ok (.iconst 1, 1) := by decide +kernel
theorem dX12_tear_23 : decode cX12_tear 23 = .ok (.istore_n 2, 1) := by decide +kernel
theorem dX12_tear_24 : decode cX12_tear 24 = .ok (.aload_n 0, 1) := by decide +kernel
theorem dX12_tear_25 : decode cX12_tear 25 = .ok (.getfield 37, 3) := by decide +kernel
theorem dX12_tear_28 : decode cX12_tear 28 = .ok (.iload_n 1, 1) := by decide +kernel
theorem dX12_tear_29 : decode cX12_tear 29 = .ok (.bipush (-9), 2) := by decide +kernel
theorem dX12_tear_31 : decode cX12_tear 31 = .ok (.iastore, 1) := by decide +kernel
theorem dX12_tear_32 : decode cX12_tear 32 = .ok (.iload_n 2, 1) := by decide +kernel
theorem dX12_tear_33 : decode cX12_tear 33 = .ok (.ireturn, 1) := by decide +kernel
theorem dX12_line_0 : decode cX12_line 0 = .ok (.aload_n 0, 1) := by decide +kernel
theorem dX12_line_1 : decode cX12_line 1 = .ok (.iload_n 1, 1) := by decide +kernel
theorem dX12_line_2 : decode cX12_line 2 = .ok (.invokevirtual 146, 3) := by decide +kernel
theorem dX12_line_5 : decode cX12_line 5 = .ok (.ifCond .eq 5, 3) := by decide +kernel
theorem dX12_line_8 : decode cX12_line 8 = .ok (.iconst (-1), 1) := by decide +kernel
theorem dX12_line_9 : decode cX12_line 9 = .ok (.ireturn, 1) := by decide +kernel
theorem dX12_line_10 : decode cX12_line 10 = .ok (.iload_n 2, 1) := by decide +kernel
theorem dX12_line_11 : decode cX12_line 11 = .ok (.i2l, 1) := by decide +kernel
theorem dX12_line_12 : decode cX12_line 12 = .ok (.lconst 0, 1) := by decide +kernel
theorem dX12_line_13 : decode cX12_line 13 = .ok (.ldc2_w 234, 3) := by decide +kernel
theorem dX12_line_16 : decode cX12_line 16 = .ok (.invokestatic 99, 3) := by decide +kernel
theorem dX12_line_19 : decode cX12_line 19 = .ok (.ifCond .ne 6, 3) := by decide +kernel
theorem dX12_line_22 : decode cX12_line 22 = .ok (.bipush (-2), 2) := by decide +kernel
theorem dX12_line_24 : decode cX12_line 24 = .ok (.ireturn, 1) := by decide +kernel
theorem dX12_line_25 : decode cX12_line 25 = .ok (.aload_n 0, 1) := by decide +kernel
theorem dX12_line_26 : decode cX12_line 26 = .ok (.iload_n 1, 1) := by decide +kernel
theorem dX12_line_27 : decode cX12_line 27 = .ok (.invokevirtual 227, 3) := by decide +kernel
theorem dX12_line_30 : decode cX12_line 30 = .ok (.ifCond .eq 6, 3) := by decide +kernel
theorem dX12_line_33 : decode cX12_line 33 = .ok (.bipush (-3), 2) := by decide +kernel
theorem dX12_line_35 : decode cX12_line 35 = .ok (.ireturn, 1) := by decide +kernel
theorem dX12_line_36 : decode cX12_line 36 = .ok (.iload_n 2, 1) := by decide +kernel
theorem dX12_line_37 : decode cX12_line 37 = .ok (.tableswitch 70 0 4 #[35, 42, 49, 56, 63], 35) := by decide +kernel
theorem dX12_line_72 : decode cX12_line 72 = .ok (.aload_n 0, 1) := by decide +kernel
theorem dX12_line_73 : decode cX12_line 73 = .ok (.getfield 37, 3) := by decide +kernel
theorem dX12_line_76 : decode cX12_line 76 = .ok (.iload_n 1, 1) := by decide +kernel
theorem dX12_line_77 : decode cX12_line 77 = .ok (.iaload, 1) := by decide +kernel
theorem dX12_line_78 : decode cX12_line 78 = .ok (.ireturn, 1) := by decide +kernel
theorem dX12_line_79 : decode cX12_line 79 = .ok (.aload_n 0, 1) := by decide +kernel
theorem dX12_line_80 : decode cX12_line 80 = .ok (.getfield 40, 3) := by decide +kernel
theorem dX12_line_83 : decode cX12_line 83 = .ok (.iload_n 1, 1) := by decide +kernel
theorem dX12_line_84 : decode cX12_line 84 = .ok (.iaload, 1) := by decide +kernel
theorem dX12_line_85 : decode cX12_line 85 = .ok (.ireturn, 1) := by decide +kernel
theorem dX12_line_86 : decode cX12_line 86 = .ok (.aload_n 0, 1) := by decide +kernel
theorem dX12_line_87 : decode cX12_line 87 = .ok (.getfield 43, 3) := by decide +kernel
theorem dX12_line_90 : decode cX12_line 90 = .ok (.iload_n 1, 1) := by decide +kernel
theorem dX12_line_91 : decode cX12_line 91 = .ok (.iaload, 1) := by decide +kernel
theorem dX12_line_92 : decode cX12_line 92 = .ok (.ireturn, 1) := by decide +kernel
theorem dX12_line_93 : decode cX12_line 93 = .ok (.aload_n 0, 1) := by decide +kernel
theorem dX12_line_94 : decode cX12_line 94 = .ok (.getfield 46, 3) := by decide +kernel
theorem dX12_line_97 : decode cX12_line 97 = .ok (.iload_n 1, 1) := by decide +kernel
theorem dX12_line_98 : decode cX12_line 98 = .ok (.iaload, 1) := by decide +kernel
theorem dX12_line_99 : decode cX12_line 99 = .ok (.ireturn, 1) := by decide +kernel
theorem dX12_line_100 : decode cX12_line 100 = .ok (.aload_n 0, 1) := by decide +kernel
theorem dX12_line_101 : decode cX12_line 101 = .ok (.getfield 49, 3) := by decide +kernel
theorem dX12_line_104 : decode cX12_line 104 = .ok (.iload_n 1, 1) := by decide +kernel
theorem dX12_line_105 : decode cX12_line 105 = .ok (.iaload, 1) := by decide +kernel
theorem dX12_line_106 : decode cX12_line 106 = .ok (.ireturn, 1) := by decide +kernel
theorem dX12_line_107 : decode cX12_line 107 = .ok (.aload_n 0, 1) := by decide +kernel
theorem dX12_line_108 : decode cX12_line 108 = .ok (.getfield 52, 3) := by decide +kernel
theorem dX12_line_111 : decode cX12_line 111 = .ok (.iload_n 1, 1) := by decide +kernel
theorem dX12_line_112 : decode cX12_line 112 = .ok (.iaload, 1) := by decide +kernel
theorem dX12_line_113 : decode cX12_line 113 = .ok (.ireturn, 1) := by decide +kernel
theorem dX12_within_0 : decode cX12_within 0 = .ok (.iload_n 1, 1) := by decide +kernel
theorem dX12_within_1 : decode cX12_within 1 = .ok (.i2l, 1) := by decide +kernel
theorem dX12_within_2 : decode cX12_within 2 = .ok (.lconst 0, 1) := by decide +kernel
theorem dX12_within_3 : decode cX12_within 3 = .ok (.ldc2_w 236, 3) := by decide +kernel
theorem dX12_within_6 : decode cX12_within 6 = .ok (.invokestatic 99, 3) := by decide +kernel
theorem dX12_within_9 : decode cX12_within 9 = .ok (.ifCond .ne 6, 3) := by decide +kernel
theorem dX12_within_12 : decode cX12_within 12 = .ok (.bipush (-2), 2) := by decide +kernel
theorem dX12_within_14 : decode cX12_within 14 = .ok (.ireturn, 1) := by decide +kernel
theorem dX12_within_15 : decode cX12_within 15 = .ok (.aload_n 0, 1) := by decide +kernel
theorem dX12_within_16 : decode cX12_within 16 = .ok (.getfield 238, 3) := by decide +kernel
theorem dX12_within_19 : decode cX12_within 19 = .ok (.istore_n 2, 1) := by decide +kernel
theorem dX12_within_20 : decode cX12_within 20 = .ok (.aload_n 0, 1) := by decide +kernel
theorem dX12_within_21 : decode cX12_within 21 = .ok (.iload_n 1, 1) := by decide +kernel
theorem dX12_within_22 : decode cX12_within 22 = .ok (.putfield 238, 3) := by decide +kernel
theorem dX12_within_25 : decode cX12_within 25 = .ok (.iload_n 2, 1) := by decide +kernel
theorem dX12_within_26 : decode cX12_within 26 = .ok (.ireturn, 1) := by decide +kernel
theorem dX12_played_0 : decode cX12_played 0 = .ok (.aload_n 0, 1) := by decide +kernel
theorem dX12_played_1 : decode cX12_played 1 = .ok (.aload_n 0, 1) := by decide +kernel
theorem dX12_played_2 : decode cX12_played 2 = .ok (.getfield 49, 3) := by decide +kernel
theorem dX12_played_5 : decode cX12_played 5 = .ok (.iload_n 1, 1) := by decide +kernel
theorem dX12_played_6 : decode cX12_played 6 = .ok (.iaload, 1) := by decide +kernel
theorem dX12_played_7 : decode cX12_played 7 = .ok (.invokevirtual 204, 3) := by decide +kernel
theorem dX12_played_10 : decode cX12_played 10 = .ok (.aload_n 0, 1) := by decide +kernel
theorem dX12_played_11 : decode cX12_played 11 = .ok (.aload_n 0, 1) := by decide +kernel
theorem dX12_played_12 : decode cX12_played 12 = .ok (.getfield 55, 3) := by decide +kernel
theorem dX12_played_15 : decode cX12_played 15 = .ok (.bipush 25, 2) := by decide +kernel
theorem dX12_played_17 : decode cX12_played 17 = .ok (.iload_n 1, 1) := by decide +kernel
theorem dX12_played_18 : decode cX12_played 18 = .ok (.imul, 1) := by decide +kernel
theorem dX12_played_19 : decode cX12_played 19 = .ok (.aload_n 0, 1) := by decide +kernel
theorem dX12_played_20 : decode cX12_played 20 = .ok (.getfield 52, 3) := by decide +kernel
theorem dX12_played_23 : decode cX12_played 23 = .ok (.iload_n 1, 1) := by decide +kernel
theorem dX12_played_24 : decode cX12_played 24 = .ok (.iaload, 1) := by decide +kernel
theorem dX12_played_25 : decode cX12_played 25 = .ok (.invokevirtual 207, 3) := by decide +kernel
theorem dX12_played_28 : decode cX12_played 28 = .ok (.ifCond .ne 6, 3) := by decide +kernel
theorem dX12_played_31 : decode cX12_played 31 = .ok (.bipush (-20), 2) := by decide +kernel
theorem dX12_played_33 : decode cX12_played 33 = .ok (.ireturn, 1) := by decide +kernel
theorem dX12_played_34 : decode cX12_played 34 = .ok (.aload_n 0, 1) := by decide +kernel
theorem dX12_played_35 : decode cX12_played 35 = .ok (.getfield 178, 3) := by decide +kernel
theorem dX12_played_38 : decode cX12_played 38 = .ok (.aload_n 0, 1) := by decide +kernel
theorem dX12_played_39 : decode cX12_played 39 = .ok (.getfield 7, 3) := by decide +kernel
theorem dX12_played_42 : decode cX12_played 42 = .ok (.iload_n 1, 1) := by decide +kernel
theorem dX12_played_43 : decode cX12_played 43 = .ok (.iaload, 1) := by decide +kernel
theorem dX12_played_44 : decode cX12_played 44 = .ok (.if_icmp .ne 16, 3) := by decide +kernel
theorem dX12_played_47 : decode cX12_played 47 = .ok (.aload_n 0, 1) := by decide +kernel
theorem dX12_played_48 : decode cX12_played 48 = .ok (.getfield 181, 3) := by decide +kernel
theorem dX12_played_51 : decode cX12_played 51 = .ok (.aload_n 0, 1) := by decide +kernel
theorem dX12_played_52 : decode cX12_played 52 = .ok (.getfield 13, 3) := by decide +kernel
theorem dX12_played_55 : decode cX12_played 55 = .ok (.iload_n 1, 1) := by decide +kernel
theorem dX12_played_56 : decode cX12_played 56 = .ok (.iaload, 1) := by decide +kernel
theorem dX12_played_57 : decode cX12_played 57 = .ok (.if_icmp .eq 6, 3) := by decide +kernel
theorem dX12_played_60 : decode cX12_played 60 = .ok (.bipush (-21), 2) := by decide +kernel
theorem dX12_played_62 : decode cX12_played 62 = .ok (.ireturn, 1) := by decide +kernel
theorem dX12_played_63 : decode cX12_played 63 = .ok (.iconst 0, 1) := by decide +kernel
theorem dX12_played_64 : decode cX12_played 64 = .ok (.istore_n 2, 1) := by decide +kernel
theorem dX12_played_65 : decode cX12_played 65 = .ok (.iload_n 2, 1) := by decide +kernel
theorem dX12_played_66 : decode cX12_played 66 = .ok (.bipush 16, 2) := by decide +kernel
theorem dX12_played_68 : decode cX12_played 68 = .ok (.if_icmp .ge 48, 3) := by decide +kernel
theorem dX12_played_71 : decode cX12_played 71 = .ok (.aload_n 0, 1) := by decide +kernel
theorem dX12_played_72 : decode cX12_played 72 = .ok (.iload_n 1, 1) := by decide +kernel
theorem dX12_played_73 : decode cX12_played 73 = .ok (.iload_n 2, 1) := by decide +kernel
theorem dX12_played_74 : decode cX12_played 74 = .ok (.invokevirtual 135, 3) := by decide +kernel
theorem dX12_played_77 : decode cX12_played 77 = .ok (.ifCond .eq 33, 3) := by decide +kernel
theorem dX12_played_80 : decode cX12_played 80 = .ok (.aload_n 0, 1) := by decide +kernel
theorem dX12_played_81 : decode cX12_played 81 = .ok (.getfield 25, 3) := by decide +kernel
theorem dX12_played_84 : decode cX12_played 84 = .ok (.iload_n 2, 1) := by decide +kernel
theorem dX12_played_85 : decode cX12_played 85 = .ok (.iaload, 1) := by decide +kernel
theorem dX12_played_86 : decode cX12_played 86 = .ok (.aload_n 0, 1) := by decide +kernel
theorem dX12_played_87 : decode cX12_played 87 = .ok (.getfield 16, 3) := by decide +kernel
theorem dX12_played_90 : decode cX12_played 90 = .ok (.bipush 16, 2) := by decide +kernel
theorem dX12_played_92 : decode cX12_played 92 = .ok (.iload_n 1, 1) := by decide +kernel
theorem dX12_played_93 : decode cX12_played 93 = .ok (.imul, 1) := by decide +kernel
theorem dX12_played_94 : decode cX12_played 94 = .ok (.iload_n 2, 1) := by decide +kernel
theorem dX12_played_95 : decode cX12_played 95 = .ok (.iadd, 1) := by decide +kernel
theorem dX12_played_96 : decode cX12_played 96 = .ok (.iaload, 1) := by decide +kernel
theorem dX12_played_97 : decode cX12_played 97 = .ok (.isub, 1) := by decide +kernel
theorem dX12_played_98 : decode cX12_played 98 = .ok (.invokestatic 241, 3) := by decide +kernel
theorem dX12_played_101 : decode cX12_played 101 = .ok (.aload_n 0, 1) := by decide +kernel
theorem dX12_played_102 : decode cX12_played 102 = .ok (.getfield 238, 3) := by decide +kernel
theorem dX12_played_105 : decode cX12_played 105 = .ok (.if_icmp .le 5, 3) := by decide +kernel
theorem dX12_played_108 : decode cX12_played 108 = .ok (.iload_n 2, 1) := by decide +kernel
theorem dX12_played_109 : decode cX12_played 109 = .ok (.ireturn, 1) := by decide +kernel
theorem dX12_played_110 : decode cX12_played 110 = .ok (.iinc 2 1, 3) := by decide +kernel
theorem dX12_played_113 : decode cX12_played 113 = .ok (.goto (-48), 3) := by decide +kernel
theorem dX12_played_116 : decode cX12_played 116 = .ok (.bipush (-9), 2) := by decide +kernel
theorem dX12_played_118 : decode cX12_played 118 = .ok (.ireturn, 1) := by decide +kernel
theorem dX12_play_0 : decode cX12_play 0 = .ok (.aload_n 0, 1) := by decide +kernel
theorem dX12_play_1 : decode cX12_play 1 = .ok (.iload_n 1, 1) := by decide +kernel
theorem dX12_play_2 : decode cX12_play 2 = .ok (.invokevirtual 146, 3) := by decide +kernel
theorem dX12_play_5 : decode cX12_play 5 = .ok (.ifCond .eq 5, 3) := by decide +kernel
theorem dX12_play_8 : decode cX12_play 8 = .ok (.iconst (-1), 1) := by decide +kernel
theorem dX12_play_9 : decode cX12_play 9 = .ok (.ireturn, 1) := by decide +kernel
theorem dX12_play_10 : decode cX12_play 10 = .ok (.aload_n 0, 1) := by decide +kernel
theorem dX12_play_11 : decode cX12_play 11 = .ok (.getfield 37, 3) := by decide +kernel
theorem dX12_play_14 : decode cX12_play 14 = .ok (.iload_n 1, 1) := by decide +kernel
theorem dX12_play_15 : decode cX12_play 15 = .ok (.iaload, 1) := by decide +kernel
theorem dX12_play_16 : decode cX12_play 16 = .ok (.iconst 1, 1) := by decide +kernel
theorem dX12_play_17 : decode cX12_play 17 = .ok (.if_icmp .ne 11, 3) := by decide +kernel
theorem dX12_play_20 : decode cX12_play 20 = .ok (.aload_n 0, 1) := by decide +kernel
theorem dX12_play_21 : decode cX12_play 21 = .ok (.iload_n 1, 1) := by decide +kernel
theorem dX12_play_22 : decode cX12_play 22 = .ok (.invokevirtual 244, 3) := by decide +kernel
theorem dX12_play_25 : decode cX12_play 25 = .ok (.goto 5, 3) := by decide +kernel
theorem dX12_play_28 : decode cX12_play 28 = .ok (.bipush (-3), 2) := by decide +kernel
theorem dX12_play_30 : decode cX12_play 30 = .ok (.ireturn, 1) := by decide +kernel
theorem dX12_speaking_0 : decode cX12_speaking 0 = .ok (.aload_n 0, 1) := by decide +kernel
theorem dX12_speaking_1 : decode cX12_speaking 1 = .ok (.getfield 43, 3) := by decide +kernel
theorem dX12_speaking_4 : decode cX12_speaking 4 = .ok (.iload_n 1, 1) := by decide +kernel
theorem dX12_speaking_5 : decode cX12_speaking 5 = .ok (.iaload, 1) := by decide +kernel
theorem dX12_speaking_6 : decode cX12_speaking 6 = .ok (.aload_n 0, 1) := by decide +kernel
theorem dX12_speaking_7 : decode cX12_speaking 7 = .ok (.getfield 34, 3) := by decide +kernel
theorem dX12_speaking_10 : decode cX12_speaking 10 = .ok (.aload_n 0, 1) := by decide +kernel
theorem dX12_speaking_11 : decode cX12_speaking 11 = .ok (.getfield 40, 3) := by decide +kernel
theorem dX12_speaking_14 : decode cX12_speaking 14 = .ok (.iload_n 1, 1) := by decide +kernel
theorem dX12_speaking_15 : decode cX12_speaking 15 = .ok (.iaload, 1) := by decide +kernel
theorem dX12_speaking_16 : decode cX12_speaking 16 = .ok (.iaload, 1) := by decide +kernel
theorem dX12_speaking_17 : decode cX12_speaking 17 = .ok (.if_icmp .lt 5, 3) := by decide +kernel
theorem dX12_speaking_20 : decode cX12_speaking 20 = .ok (.iconst 3, 1) := by decide +kernel
theorem dX12_speaking_21 : decode cX12_speaking 21 = .ok (.ireturn, 1) := by decide +kernel
theorem dX12_speaking_22 : decode cX12_speaking 22 = .ok (.aload_n 0, 1) := by decide +kernel
theorem dX12_speaking_23 : decode cX12_speaking 23 = .ok (.iload_n 1, 1) := by decide +kernel
theorem dX12_speaking_24 : decode cX12_speaking 24 = .ok (.aload_n 0, 1) := by decide +kernel
theorem dX12_speaking_25 : decode cX12_speaking 25 = .ok (.getfield 40, 3) := by decide +kernel
theorem dX12_speaking_28 : decode cX12_speaking 28 = .ok (.iload_n 1, 1) := by decide +kernel
theorem dX12_speaking_29 : decode cX12_speaking 29 = .ok (.iaload, 1) := by decide +kernel
theorem dX12_speaking_30 : decode cX12_speaking 30 = .ok (.aload_n 0, 1) := by decide +kernel
theorem dX12_speaking_31 : decode cX12_speaking 31 = .ok (.getfield 43, 3) := by decide +kernel
theorem dX12_speaking_34 : decode cX12_speaking 34 = .ok (.iload_n 1, 1) := by decide +kernel
theorem dX12_speaking_35 : decode cX12_speaking 35 = .ok (.iaload, 1) := by decide +kernel
theorem dX12_speaking_36 : decode cX12_speaking 36 = .ok (.invokevirtual 221, 3) := by decide +kernel
theorem dX12_speaking_39 : decode cX12_speaking 39 = .ok (.aload_n 0, 1) := by decide +kernel
theorem dX12_speaking_40 : decode cX12_speaking 40 = .ok (.getfield 46, 3) := by decide +kernel
theorem dX12_speaking_43 : decode cX12_speaking 43 = .ok (.iload_n 1, 1) := by decide +kernel
theorem dX12_speaking_44 : decode cX12_speaking 44 = .ok (.iaload, 1) := by decide +kernel
theorem dX12_speaking_45 : decode cX12_speaking 45 = .ok (.if_icmp .eq 5, 3) := by decide +kernel
theorem dX12_speaking_48 : decode cX12_speaking 48 = .ok (.iconst 2, 1) := by decide +kernel
theorem dX12_speaking_49 : decode cX12_speaking 49 = .ok (.ireturn, 1) := by decide +kernel
theorem dX12_speaking_50 : decode cX12_speaking 50 = .ok (.aload_n 0, 1) := by decide +kernel
theorem dX12_speaking_51 : decode cX12_speaking 51 = .ok (.getfield 37, 3) := by decide +kernel
theorem dX12_speaking_54 : decode cX12_speaking 54 = .ok (.iload_n 1, 1) := by decide +kernel
theorem dX12_speaking_55 : decode cX12_speaking 55 = .ok (.iaload, 1) := by decide +kernel
theorem dX12_speaking_56 : decode cX12_speaking 56 = .ok (.iconst 1, 1) := by decide +kernel
theorem dX12_speaking_57 : decode cX12_speaking 57 = .ok (.if_icmp .ne 15, 3) := by decide +kernel
theorem dX12_speaking_60 : decode cX12_speaking 60 = .ok (.aload_n 0, 1) := by decide +kernel
theorem dX12_speaking_61 : decode cX12_speaking 61 = .ok (.iload_n 1, 1) := by decide +kernel
theorem dX12_speaking_62 : decode cX12_speaking 62 = .ok (.invokevirtual 244, 3) := by decide +kernel
theorem dX12_speaking_65 : decode cX12_speaking 65 = .ok (.bipush (-9), 2) := by decide +kernel
theorem dX12_speaking_67 : decode cX12_speaking 67 = .ok (.if_icmp .eq 5, 3) := by decide +kernel
theorem dX12_speaking_70 : decode cX12_speaking 70 = .ok (.iconst 4, 1) := by decide +kernel
theorem dX12_speaking_71 : decode cX12_speaking 71 = .ok (.ireturn, 1) := by decide +kernel
theorem dX12_speaking_72 : decode cX12_speaking 72 = .ok (.aload_n 0, 1) := by decide +kernel
theorem dX12_speaking_73 : decode cX12_speaking 73 = .ok (.getfield 37, 3) := by decide +kernel
theorem dX12_speaking_76 : decode cX12_speaking 76 = .ok (.iload_n 1, 1) := by decide +kernel
theorem dX12_speaking_77 : decode cX12_speaking 77 = .ok (.iaload, 1) := by decide +kernel
theorem dX12_speaking_78 : decode cX12_speaking 78 = .ok (.iconst 2, 1) := by decide +kernel
theorem dX12_speaking_79 : decode cX12_speaking 79 = .ok (.if_icmp .ne 7, 3) := by decide +kernel
theorem dX12_speaking_82 : decode cX12_speaking 82 = .ok (.iconst 1, 1) := by decide +kernel
theorem dX12_speaking_83 : decode cX12_speaking 83 = .ok (.goto 4, 3) := by decide +kernel
theorem dX12_speaking_86 : decode cX12_speaking 86 = .ok (.iconst 0, 1) := by decide +kernel
theorem dX12_speaking_87 : decode cX12_speaking 87 = .ok (.ireturn, 1) := by decide +kernel
theorem dX12_speaks_0 : decode cX12_speaks 0 = .ok (.aload_n 0, 1) := by decide +kernel
theorem dX12_speaks_1 : decode cX12_speaks 1 = .ok (.iload_n 1, 1) := by decide +kernel
theorem dX12_speaks_2 : decode cX12_speaks 2 = .ok (.invokevirtual 146, 3) := by decide +kernel
theorem dX12_speaks_5 : decode cX12_speaks 5 = .ok (.ifCond .eq 5, 3) := by decide +kernel
theorem dX12_speaks_8 : decode cX12_speaks 8 = .ok (.iconst (-1), 1) := by decide +kernel
theorem dX12_speaks_9 : decode cX12_speaks 9 = .ok (.ireturn, 1) := by decide +kernel
theorem dX12_speaks_10 : decode cX12_speaks 10 = .ok (.aload_n 0, 1) := by decide +kernel
theorem dX12_speaks_11 : decode cX12_speaks 11 = .ok (.iload_n 1, 1) := by decide +kernel
theorem dX12_speaks_12 : decode cX12_speaks 12 = .ok (.invokevirtual 227, 3) := by decide +kernel
theorem dX12_speaks_15 : decode cX12_speaks 15 = .ok (.ifCond .eq 8, 3) := by decide +kernel
theorem dX12_speaks_18 : decode cX12_speaks 18 = .ok (.bipush (-3), 2) := by decide +kernel
theorem dX12_speaks_20 : decode cX12_speaks 20 = .ok (.goto 8, 3) := by decide +kernel
theorem dX12_speaks_23 : decode cX12_speaks 23 = .ok (.aload_n 0, 1) := by decide +kernel
theorem dX12_speaks_24 : decode cX12_speaks 24 = .ok (.iload_n 1, 1) := by decide +kernel
theorem dX12_speaks_25 : decode cX12_speaks 25 = .ok (.invokevirtual 247, 3) := by decide +kernel
theorem dX12_speaks_28 : decode cX12_speaks 28 = .ok (.ireturn, 1) := by decide +kernel
theorem dX12_nextOn_0 : decode cX12_nextOn 0 = .ok (.aload_n 0, 1) := by decide +kernel
theorem dX12_nextOn_1 : decode cX12_nextOn 1 = .ok (.iload_n 1, 1) := by decide +kernel
theorem dX12_nextOn_2 : decode cX12_nextOn 2 = .ok (.invokevirtual 227, 3) := by decide +kernel
theorem dX12_nextOn_5 : decode cX12_nextOn 5 = .ok (.ifCond .ne 12, 3) := by decide +kernel
theorem dX12_nextOn_8 : decode cX12_nextOn 8 = .ok (.aload_n 0, 1) := by decide +kernel
theorem dX12_nextOn_9 : decode cX12_nextOn 9 = .ok (.getfield 37, 3) := by decide +kernel
theorem dX12_nextOn_12 : decode cX12_nextOn 12 = .ok (.iload_n 1, 1) := by decide +kernel
theorem dX12_nextOn_13 : decode cX12_nextOn 13 = .ok (.iaload, 1) := by decide +kernel
theorem dX12_nextOn_14 : decode cX12_nextOn 14 = .ok (.ifCond .ne 8, 3) := by decide +kernel
theorem dX12_nextOn_17 : decode cX12_nextOn 17 = .ok (.bipush (-9), 2) := by decide +kernel
theorem dX12_nextOn_19 : decode cX12_nextOn 19 = .ok (.goto 9, 3) := by decide +kernel
theorem dX12_nextOn_22 : decode cX12_nextOn 22 = .ok (.aload_n 0, 1) := by decide +kernel
theorem dX12_nextOn_23 : decode cX12_nextOn 23 = .ok (.getfield 49, 3) := by decide +kernel
theorem dX12_nextOn_26 : decode cX12_nextOn 26 = .ok (.iload_n 1, 1) := by decide +kernel
theorem dX12_nextOn_27 : decode cX12_nextOn 27 = .ok (.iaload, 1) := by decide +kernel
theorem dX12_nextOn_28 : decode cX12_nextOn 28 = .ok (.ireturn, 1) := by decide +kernel
theorem dX12_way_0 : decode cX12_way 0 = .ok (.aload_n 0, 1) := by decide +kernel
theorem dX12_way_1 : decode cX12_way 1 = .ok (.iload_n 1, 1) := by decide +kernel
theorem dX12_way_2 : decode cX12_way 2 = .ok (.invokevirtual 146, 3) := by decide +kernel
theorem dX12_way_5 : decode cX12_way 5 = .ok (.ifCond .ne 17, 3) := by decide +kernel
theorem dX12_way_8 : decode cX12_way 8 = .ok (.iload_n 2, 1) := by decide +kernel
theorem dX12_way_9 : decode cX12_way 9 = .ok (.i2l, 1) := by decide +kernel
theorem dX12_way_10 : decode cX12_way 10 = .ok (.ldc2_w 250, 3) := by decide +kernel
theorem dX12_way_13 : decode cX12_way 13 = .ok (.ldc2_w 252, 3) := by decide +kernel
theorem dX12_way_16 : decode cX12_way 16 = .ok (.invokestatic 99, 3) := by decide +kernel
theorem dX12_way_19 : decode cX12_way 19 = .ok (.ifCond .ne 5, 3) := by decide +kernel
theorem dX12_way_22 : decode cX12_way 22 = .ok (.iconst (-1), 1) := by decide +kernel
theorem dX12_way_23 : decode cX12_way 23 = .ok (.ireturn, 1) := by decide +kernel
theorem dX12_way_24 : decode cX12_way 24 = .ok (.iconst 0, 1) := by decide +kernel
theorem dX12_way_25 : decode cX12_way 25 = .ok (.istore_n 3, 1) := by decide +kernel
theorem dX12_way_26 : decode cX12_way 26 = .ok (.bipush (-9), 2) := by decide +kernel
theorem dX12_way_28 : decode cX12_way 28 = .ok (.istore 4, 2) := by decide +kernel
theorem dX12_way_30 : decode cX12_way 30 = .ok (.iload_n 1, 1) := by decide +kernel
theorem dX12_way_31 : decode cX12_way 31 = .ok (.istore 5, 2) := by decide +kernel
theorem dX12_way_33 : decode cX12_way 33 = .ok (.iload 5, 2) := by decide +kernel
theorem dX12_way_35 : decode cX12_way 35 = .ok (.ifCond .lt 31, 3) := by decide +kernel
theorem dX12_way_38 : decode cX12_way 38 = .ok (.iload_n 3, 1) := by decide +kernel
theorem dX12_way_39 : decode cX12_way 39 = .ok (.iload_n 2, 1) := by decide +kernel
theorem dX12_way_40 : decode cX12_way 40 = .ok (.if_icmp .ne 8, 3) := by decide +kernel
theorem dX12_way_43 : decode cX12_way 43 = .ok (.iload 5, 2) := by decide +kernel
theorem dX12_way_45 : decode cX12_way 45 = .ok (.goto 5, 3) := by decide +kernel
theorem dX12_way_48 : decode cX12_way 48 = .ok (.iload 4, 2) := by decide +kernel
theorem dX12_way_50 : decode cX12_way 50 = .ok (.istore 4, 2) := by decide +kernel
theorem dX12_way_52 : decode cX12_way 52 = .ok (.iinc 3 1, 3) := by decide +kernel
theorem dX12_way_55 : decode cX12_way 55 = .ok (.aload_n 0, 1) := by decide +kernel
theorem dX12_way_56 : decode cX12_way 56 = .ok (.iload 5, 2) := by decide +kernel
theorem dX12_way_58 : decode cX12_way 58 = .ok (.invokevirtual 254, 3) := by decide +kernel
theorem dX12_way_61 : decode cX12_way 61 = .ok (.istore 5, 2) := by decide +kernel
theorem dX12_way_63 : decode cX12_way 63 = .ok (.goto (-30), 3) := by decide +kernel
theorem dX12_way_66 : decode cX12_way 66 = .ok (.iload_n 2, 1) := by decide +kernel
theorem dX12_way_67 : decode cX12_way 67 = .ok (.ifCond .ge 7, 3) := by decide +kernel
theorem dX12_way_70 : decode cX12_way 70 = .ok (.iload_n 3, 1) := by decide +kernel
theorem dX12_way_71 : decode cX12_way 71 = .ok (.goto 5, 3) := by decide +kernel
theorem dX12_way_74 : decode cX12_way 74 = .ok (.iload 4, 2) := by decide +kernel
theorem dX12_way_76 : decode cX12_way 76 = .ok (.ireturn, 1) := by decide +kernel
theorem dX12_doubtOn_0 : decode cX12_doubtOn 0 = .ok (.iload_n 1, 1) := by decide +kernel
theorem dX12_doubtOn_1 : decode cX12_doubtOn 1 = .ok (.istore_n 2, 1) := by decide +kernel
theorem dX12_doubtOn_2 : decode cX12_doubtOn 2 = .ok (.iload_n 2, 1) := by decide +kernel
theorem dX12_doubtOn_3 : decode cX12_doubtOn 3 = .ok (.ifCond .lt 31, 3) := by decide +kernel
theorem dX12_doubtOn_6 : decode cX12_doubtOn 6 = .ok (.aload_n 0, 1) := by decide +kernel
theorem dX12_doubtOn_7 : decode cX12_doubtOn 7 = .ok (.iload_n 2, 1) := by decide +kernel
theorem dX12_doubtOn_8 : decode cX12_doubtOn 8 = .ok (.invokevirtual 227, 3) := by decide +kernel
theorem dX12_doubtOn_11 : decode cX12_doubtOn 11 = .ok (.ifCond .ne 12, 3) := by decide +kernel
theorem dX12_doubtOn_14 : decode cX12_doubtOn 14 = .ok (.aload_n 0, 1) := by decide +kernel
theorem dX12_doubtOn_15 : decode cX12_doubtOn 15 = .ok (.iload_n 2, 1) := by decide +kernel
theorem dX12_doubtOn_16 : decode cX12_doubtOn 16 = .ok (.invokevirtual 247, 3) := by decide +kernel
theorem dX12_doubtOn_19 : decode cX12_doubtOn 19 = .ok (.iconst 1, 1) := by decide +kernel
theorem dX12_doubtOn_20 : decode cX12_doubtOn 20 = .ok (.if_icmp .le 5, 3) := by decide +kernel
theorem dX12_doubtOn_23 : decode cX12_doubtOn 23 = .ok (.iload_n 2, 1) := by decide +kernel
theorem dX12_doubtOn_24 : decode cX12_doubtOn 24 = .ok (.ireturn, 1) := by decide +kernel
theorem dX12_doubtOn_25 : decode cX12_doubtOn 25 = .ok (.aload_n 0, 1) := by decide +kernel
theorem dX12_doubtOn_26 : decode cX12_doubtOn 26 = .ok (.iload_n 2, 1) := by decide +kernel
theorem dX12_doubtOn_27 : decode cX12_doubtOn 27 = .ok (.invokevirtual 254, 3) := by decide +kernel
theorem dX12_doubtOn_30 : decode cX12_doubtOn 30 = .ok (.istore_n 2, 1) := by decide +kernel
theorem dX12_doubtOn_31 : decode cX12_doubtOn 31 = .ok (.goto (-29), 3) := by decide +kernel
theorem dX12_doubtOn_34 : decode cX12_doubtOn 34 = .ok (.bipush (-9), 2) := by decide +kernel
theorem dX12_doubtOn_36 : decode cX12_doubtOn 36 = .ok (.ireturn, 1) := by decide +kernel
theorem dX12_doubt_0 : decode cX12_doubt 0 = .ok (.aload_n 0, 1) := by decide +kernel
theorem dX12_doubt_1 : decode cX12_doubt 1 = .ok (.iload_n 1, 1) := by decide +kernel
theorem dX12_doubt_2 : decode cX12_doubt 2 = .ok (.invokevirtual 146, 3) := by decide +kernel
theorem dX12_doubt_5 : decode cX12_doubt 5 = .ok (.ifCond .eq 7, 3) := by decide +kernel
theorem dX12_doubt_8 : decode cX12_doubt 8 = .ok (.iconst (-1), 1) := by decide +kernel
theorem dX12_doubt_9 : decode cX12_doubt 9 = .ok (.goto 8, 3) := by decide +kernel
theorem dX12_doubt_12 : decode cX12_doubt 12 = .ok (.aload_n 0, 1) := by decide +kernel
theorem dX12_doubt_13 : decode cX12_doubt 13 = .ok (.iload_n 1, 1) := by decide +kernel
theorem dX12_doubt_14 : decode cX12_doubt 14 = .ok (.invokevirtual 257, 3) := by decide +kernel
theorem dX12_doubt_17 : decode cX12_doubt 17 = .ok (.ireturn, 1) := by decide +kernel
theorem dX12_whole_0 : decode cX12_whole 0 = .ok (.aload_n 0, 1) := by decide +kernel
theorem dX12_whole_1 : decode cX12_whole 1 = .ok (.iload_n 1, 1) := by decide +kernel
theorem dX12_whole_2 : decode cX12_whole 2 = .ok (.invokevirtual 146, 3) := by decide +kernel
theorem dX12_whole_5 : decode cX12_whole 5 = .ok (.ifCond .eq 5, 3) := by decide +kernel
theorem dX12_whole_8 : decode cX12_whole 8 = .ok (.iconst (-1), 1) := by decide +kernel
theorem dX12_whole_9 : decode cX12_whole 9 = .ok (.ireturn, 1) := by decide +kernel
theorem dX12_whole_10 : decode cX12_whole 10 = .ok (.aload_n 0, 1) := by decide +kernel
theorem dX12_whole_11 : decode cX12_whole 11 = .ok (.iload_n 1, 1) := by decide +kernel
theorem dX12_whole_12 : decode cX12_whole 12 = .ok (.invokevirtual 257, 3) := by decide +kernel
theorem dX12_whole_15 : decode cX12_whole 15 = .ok (.ifCond .ge 7, 3) := by decide +kernel
theorem dX12_whole_18 : decode cX12_whole 18 = .ok (.iconst 1, 1) := by decide +kernel
theorem dX12_whole_19 : decode cX12_whole 19 = .ok (.goto 4, 3) := by decide +kernel
theorem dX12_whole_22 : decode cX12_whole 22 = .ok (.iconst 0, 1) := by decide +kernel
theorem dX12_whole_23 : decode cX12_whole 23 = .ok (.istore_n 2, 1) := by decide +kernel
theorem dX12_whole_24 : decode cX12_whole 24 = .ok (.iload_n 1, 1) := by decide +kernel
theorem dX12_whole_25 : decode cX12_whole 25 = .ok (.istore_n 3, 1) := by decide +kernel
theorem dX12_whole_26 : decode cX12_whole 26 = .ok (.iload_n 3, 1) := by decide +kernel
theorem dX12_whole_27 : decode cX12_whole 27 = .ok (.ifCond .lt 32, 3) := by decide +kernel
theorem dX12_whole_30 : decode cX12_whole 30 = .ok (.iload_n 2, 1) := by decide +kernel
theorem dX12_whole_31 : decode cX12_whole 31 = .ok (.ifCond .eq 17, 3) := by decide +kernel
theorem dX12_whole_34 : decode cX12_whole 34 = .ok (.aload_n 0, 1) := by decide +kernel
theorem dX12_whole_35 : decode cX12_whole 35 = .ok (.getfield 37, 3) := by decide +kernel
theorem dX12_whole_38 : decode cX12_whole 38 = .ok (.iload_n 3, 1) := by decide +kernel
theorem dX12_whole_39 : decode cX12_whole 39 = .ok (.iaload, 1) := by decide +kernel
theorem dX12_whole_40 : decode cX12_whole 40 = .ok (.iconst 2, 1) := by decide +kernel
theorem dX12_whole_41 : decode cX12_whole 41 = .ok (.if_icmp .eq 7, 3) := by decide +kernel
theorem dX12_whole_44 : decode cX12_whole 44 = .ok (.iconst 1, 1) := by decide +kernel
theorem dX12_whole_45 : decode cX12_whole 45 = .ok (.goto 4, 3) := by decide +kernel
theorem dX12_whole_48 : decode cX12_whole 48 = .ok (.iconst 0, 1) := by decide +kernel
theorem dX12_whole_49 : decode cX12_whole 49 = .ok (.istore_n 2, 1) := by decide +kernel
theorem dX12_whole_50 : decode cX12_whole 50 = .ok (.aload_n 0, 1) := by decide +kernel
theorem dX12_whole_51 : decode cX12_whole 51 = .ok (.iload_n 3, 1) := by decide +kernel
theorem dX12_whole_52 : decode cX12_whole 52 = .ok (.invokevirtual 254, 3) := by decide +kernel
theorem dX12_whole_55 : decode cX12_whole 55 = .ok (.istore_n 3, 1) := by decide +kernel
theorem dX12_whole_56 : decode cX12_whole 56 = .ok (.goto (-30), 3) := by decide +kernel
theorem dX12_whole_59 : decode cX12_whole 59 = .ok (.iload_n 2, 1) := by decide +kernel
theorem dX12_whole_60 : decode cX12_whole 60 = .ok (.ifCond .eq 7, 3) := by decide +kernel
theorem dX12_whole_63 : decode cX12_whole 63 = .ok (.iconst 1, 1) := by decide +kernel
theorem dX12_whole_64 : decode cX12_whole 64 = .ok (.goto 4, 3) := by decide +kernel
theorem dX12_whole_67 : decode cX12_whole 67 = .ok (.iconst 0, 1) := by decide +kernel
theorem dX12_whole_68 : decode cX12_whole 68 = .ok (.ireturn, 1) := by decide +kernel
theorem dX12_proof_0 : decode cX12_proof 0 = .ok (.aload_n 0, 1) := by decide +kernel
theorem dX12_proof_1 : decode cX12_proof 1 = .ok (.iload_n 1, 1) := by decide +kernel
theorem dX12_proof_2 : decode cX12_proof 2 = .ok (.invokevirtual 146, 3) := by decide +kernel
theorem dX12_proof_5 : decode cX12_proof 5 = .ok (.ifCond .ne 27, 3) := by decide +kernel
theorem dX12_proof_8 : decode cX12_proof 8 = .ok (.iload_n 2, 1) := by decide +kernel
theorem dX12_proof_9 : decode cX12_proof 9 = .ok (.i2l, 1) := by decide +kernel
theorem dX12_proof_10 : decode cX12_proof 10 = .ok (.lconst 0, 1) := by decide +kernel
theorem dX12_proof_11 : decode cX12_proof 11 = .ok (.ldc2_w 108, 3) := by decide +kernel
theorem dX12_proof_14 : decode cX12_proof 14 = .ok (.invokestatic 99, 3) := by decide +kernel
theorem dX12_proof_17 : decode cX12_proof 17 = .ok (.ifCond .eq 15, 3) := by decide +kernel
theorem dX12_proof_20 : decode cX12_proof 20 = .ok (.iload_n 3, 1) := by decide +kernel
theorem dX12_proof_21 : decode cX12_proof 21 = .ok (.i2l, 1) := by decide +kernel
theorem dX12_proof_22 : decode cX12_proof 22 = .ok (.lconst 0, 1) := by decide +kernel
theorem dX12_proof_23 : decode cX12_proof 23 = .ok (.ldc2_w 260, 3) := by decide +kernel
theorem dX12_proof_26 : decode cX12_proof 26 = .ok (.invokestatic 99, 3) := by decide +kernel
theorem dX12_proof_29 : decode cX12_proof 29 = .ok (.ifCond .ne 5, 3) := by decide +kernel
theorem dX12_proof_32 : decode cX12_proof 32 = .ok (.iconst (-1), 1) := by decide +kernel
theorem dX12_proof_33 : decode cX12_proof 33 = .ok (.ireturn, 1) := by decide +kernel
theorem dX12_proof_34 : decode cX12_proof 34 = .ok (.aload_n 0, 1) := by decide +kernel
theorem dX12_proof_35 : decode cX12_proof 35 = .ok (.iload_n 1, 1) := by decide +kernel
theorem dX12_proof_36 : decode cX12_proof 36 = .ok (.invokevirtual 142, 3) := by decide +kernel
theorem dX12_proof_39 : decode cX12_proof 39 = .ok (.aload_n 0, 1) := by decide +kernel
theorem dX12_proof_40 : decode cX12_proof 40 = .ok (.getfield 19, 3) := by decide +kernel
theorem dX12_proof_43 : decode cX12_proof 43 = .ok (.bipush 16, 2) := by decide +kernel
theorem dX12_proof_45 : decode cX12_proof 45 = .ok (.iload_n 2, 1) := by decide +kernel
theorem dX12_proof_46 : decode cX12_proof 46 = .ok (.iadd, 1) := by decide +kernel
theorem dX12_proof_47 : decode cX12_proof 47 = .ok (.iload_n 3, 1) := by decide +kernel
theorem dX12_proof_48 : decode cX12_proof 48 = .ok (.ishr, 1) := by decide +kernel
theorem dX12_proof_49 : decode cX12_proof 49 = .ok (.iconst 1, 1) := by decide +kernel
theorem dX12_proof_50 : decode cX12_proof 50 = .ok (.ixor, 1) := by decide +kernel
theorem dX12_proof_51 : decode cX12_proof 51 = .ok (.iaload, 1) := by decide +kernel
theorem dX12_proof_52 : decode cX12_proof 52 = .ok (.ireturn, 1) := by decide +kernel
theorem dX12_proves_0 : decode cX12_proves 0 = .ok (.iload 4, 2) := by decide +kernel
theorem dX12_proves_2 : decode cX12_proves 2 = .ok (.invokestatic 110, 3) := by decide +kernel
theorem dX12_proves_5 : decode cX12_proves 5 = .ok (.ifCond .ne 15, 3) := by decide +kernel
theorem dX12_proves_8 : decode cX12_proves 8 = .ok (.iload_n 1, 1) := by decide +kernel
theorem dX12_proves_9 : decode cX12_proves 9 = .ok (.i2l, 1) := by decide +kernel
theorem dX12_proves_10 : decode cX12_proves 10 = .ok (.lconst 0, 1) := by decide +kernel
theorem dX12_proves_11 : decode cX12_proves 11 = .ok (.ldc2_w 108, 3) := by decide +kernel
theorem dX12_proves_14 : decode cX12_proves 14 = .ok (.invokestatic 99, 3) := by decide +kernel
theorem dX12_proves_17 : decode cX12_proves 17 = .ok (.ifCond .ne 9, 3) := by decide +kernel
theorem dX12_proves_20 : decode cX12_proves 20 = .ok (.aload_n 0, 1) := by decide +kernel
theorem dX12_proves_21 : decode cX12_proves 21 = .ok (.iconst (-1), 1) := by decide +kernel
theorem dX12_proves_22 : decode cX12_proves 22 = .ok (.invokevirtual 114, 3) := by decide +kernel
theorem dX12_proves_25 : decode cX12_proves 25 = .ok (.ireturn, 1) := by decide +kernel
theorem dX12_proves_26 : decode cX12_proves 26 = .ok (.iload_n 2, 1) := by decide +kernel
theorem dX12_proves_27 : decode cX12_proves 27 = .ok (.i2l, 1) := by decide +kernel
theorem dX12_proves_28 : decode cX12_proves 28 = .ok (.ldc2_w 250, 3) := by decide +kernel
theorem dX12_proves_31 : decode cX12_proves 31 = .ok (.ldc2_w 126, 3) := by decide +kernel
theorem dX12_proves_34 : decode cX12_proves 34 = .ok (.invokestatic 99, 3) := by decide +kernel
theorem dX12_proves_37 : decode cX12_proves 37 = .ok (.ifCond .eq 11, 3) := by decide +kernel
theorem dX12_proves_40 : decode cX12_proves 40 = .ok (.iload 5, 2) := by decide +kernel
theorem dX12_proves_42 : decode cX12_proves 42 = .ok (.invokestatic 119, 3) := by decide +kernel
theorem dX12_proves_45 : decode cX12_proves 45 = .ok (.ifCond .ne 10, 3) := by decide +kernel
theorem dX12_proves_48 : decode cX12_proves 48 = .ok (.aload_n 0, 1) := by decide +kernel
theorem dX12_proves_49 : decode cX12_proves 49 = .ok (.bipush (-2), 2) := by decide +kernel
theorem dX12_proves_51 : decode cX12_proves 51 = .ok (.invokevirtual 114, 3) := by decide +kernel
theorem dX12_proves_54 : decode cX12_proves 54 = .ok (.ireturn, 1) := by decide +kernel
theorem dX12_proves_55 : decode cX12_proves 55 = .ok (.aload_n 0, 1) := by decide +kernel
theorem dX12_proves_56 : decode cX12_proves 56 = .ok (.iload 4, 2) := by decide +kernel
theorem dX12_proves_58 : decode cX12_proves 58 = .ok (.iload 5, 2) := by decide +kernel
theorem dX12_proves_60 : decode cX12_proves 60 = .ok (.iload 6, 2) := by decide +kernel
theorem dX12_proves_62 : decode cX12_proves 62 = .ok (.ldc2_w 117, 3) := by decide +kernel
theorem dX12_proves_65 : decode cX12_proves 65 = .ok (.invokevirtual 122, 3) := by decide +kernel
theorem dX12_proves_68 : decode cX12_proves 68 = .ok (.istore 7, 2) := by decide +kernel
theorem dX12_proves_70 : decode cX12_proves 70 = .ok (.iload 7, 2) := by decide +kernel
theorem dX12_proves_72 : decode cX12_proves 72 = .ok (.ifCond .ge 6, 3) := by decide +kernel
theorem dX12_proves_75 : decode cX12_proves 75 = .ok (.iload 7, 2) := by decide +kernel
theorem dX12_proves_77 : decode cX12_proves 77 = .ok (.ireturn, 1) := by decide +kernel
theorem dX12_proves_78 : decode cX12_proves 78 = .ok (.iload_n 2, 1) := by decide +kernel
theorem dX12_proves_79 : decode cX12_proves 79 = .ok (.iconst 1, 1) := by decide +kernel
theorem dX12_proves_80 : decode cX12_proves 80 = .ok (.iadd, 1) := by decide +kernel
theorem dX12_proves_81 : decode cX12_proves 81 = .ok (.istore 8, 2) := by decide +kernel
theorem dX12_proves_83 : decode cX12_proves 83 = .ok (.iconst 1, 1) := by decide +kernel
theorem dX12_proves_84 : decode cX12_proves 84 = .ok (.istore 9, 2) := by decide +kernel
theorem dX12_proves_86 : decode cX12_proves 86 = .ok (.iconst 0, 1) := by decide +kernel
theorem dX12_proves_87 : decode cX12_proves 87 = .ok (.istore 10, 2) := by decide +kernel
theorem dX12_proves_89 : decode cX12_proves 89 = .ok (.iload 10, 2) := by decide +kernel
theorem dX12_proves_91 : decode cX12_proves 91 = .ok (.iconst 4, 1) := by decide +kernel
theorem dX12_proves_92 : decode cX12_proves 92 = .ok (.if_icmp .ge 89, 3) := by decide +kernel
theorem dX12_proves_95 : decode cX12_proves 95 = .ok (.aload_n 0, 1) := by decide +kernel
theorem dX12_proves_96 : decode cX12_proves 96 = .ok (.getfield 73, 3) := by decide +kernel
theorem dX12_proves_99 : decode cX12_proves 99 = .ok (.bipush 60, 2) := by decide +kernel
theorem dX12_proves_101 : decode cX12_proves 101 = .ok (.iload 4, 2) := by decide +kernel
theorem dX12_proves_103 : decode cX12_proves 103 = .ok (.imul, 1) := by decide +kernel
theorem dX12_proves_104 : decode cX12_proves 104 = .ok (.iload 6, 2) := by decide +kernel
theorem dX12_proves_106 : decode cX12_proves 106 = .ok (.iadd, 1) := by decide +kernel
theorem dX12_proves_107 : decode cX12_proves 107 = .ok (.iload 10, 2) := by decide +kernel
theorem dX12_proves_109 : decode cX12_proves 109 = .ok (.iadd, 1) := by decide +kernel
theorem dX12_proves_110 : decode cX12_proves 110 = .ok (.iaload, 1) := by decide +kernel
theorem dX12_proves_111 : decode cX12_proves 111 = .ok (.istore 11, 2) := by decide +kernel
theorem dX12_proves_113 : decode cX12_proves 113 = .ok (.iload 9, 2) := by decide +kernel
theorem dX12_proves_115 : decode cX12_proves 115 = .ok (.ifCond .eq 20, 3) := by decide +kernel
theorem dX12_proves_118 : decode cX12_proves 118 = .ok (.iload 11, 2) := by decide +kernel
theorem dX12_proves_120 : decode cX12_proves 120 = .ok (.i2l, 1) := by decide +kernel
theorem dX12_proves_121 : decode cX12_proves 121 = .ok (.lconst 0, 1) := by decide +kernel
theorem dX12_proves_122 : decode cX12_proves 122 = .ok (.ldc2_w 214, 3) := by decide +kernel
theorem dX12_proves_125 : decode cX12_proves 125 = .ok (.invokestatic 99, 3) := by decide +kernel
theorem dX12_proves_128 : decode cX12_proves 128 = .ok (.ifCond .eq 7, 3) := by decide +kernel
theorem dX12_proves_131 : decode cX12_proves 131 = .ok (.iconst 1, 1) := by decide +kernel
theorem dX12_proves_132 : decode cX12_proves 132 = .ok (.goto 4, 3) := by decide +kernel
theorem dX12_proves_135 : decode cX12_proves 135 = .ok (.iconst 0, 1) := by decide +kernel
theorem dX12_proves_136 : decode cX12_proves 136 = .ok (.istore 9, 2) := by decide +kernel
theorem dX12_proves_138 : decode cX12_proves 138 = .ok (.iload 9, 2) := by decide +kernel
theorem dX12_proves_140 : decode cX12_proves 140 = .ok (.ifCond .ne 7, 3) := by decide +kernel
theorem dX12_proves_143 : decode cX12_proves 143 = .ok (.iconst 0, 1) := by decide +kernel
theorem dX12_proves_144 : decode cX12_proves 144 = .ok (.goto 29, 3) := by decide +kernel
theorem dX12_proves_147 : decode cX12_proves 147 = .ok (.iload_n 1, 1) := by decide +kernel
theorem dX12_proves_148 : decode cX12_proves 148 = .ok (.iload 10, 2) := by decide +kernel
theorem dX12_proves_150 : decode cX12_proves 150 = .ok (.invokestatic 262, 3) := by decide +kernel
theorem dX12_proves_153 : decode cX12_proves 153 = .ok (.ifCond .eq 13, 3) := by decide +kernel
theorem dX12_proves_156 : decode cX12_proves 156 = .ok (.iload 11, 2) := by decide +kernel
theorem dX12_proves_158 : decode cX12_proves 158 = .ok (.iload 8, 2) := by decide +kernel
theorem dX12_proves_160 : decode cX12_proves 160 = .ok (.invokestatic 139, 3) := by decide +kernel
theorem dX12_proves_163 : decode cX12_proves 163 = .ok (.goto 10, 3) := by decide +kernel
theorem dX12_proves_166 : decode cX12_proves 166 = .ok (.iload 8, 2) := by decide +kernel
theorem dX12_proves_168 : decode cX12_proves 168 = .ok (.iload 11, 2) := by decide +kernel
theorem dX12_proves_170 : decode cX12_proves 170 = .ok (.invokestatic 139, 3) := by decide +kernel
theorem dX12_proves_173 : decode cX12_proves 173 = .ok (.istore 8, 2) := by decide +kernel
theorem dX12_proves_175 : decode cX12_proves 175 = .ok (.iinc 10 1, 3) := by decide +kernel
theorem dX12_proves_178 : decode cX12_proves 178 = .ok (.goto (-89), 3) := by decide +kernel
theorem dX12_proves_181 : decode cX12_proves 181 = .ok (.aload_n 0, 1) := by decide +kernel
theorem dX12_proves_182 : decode cX12_proves 182 = .ok (.iload 9, 2) := by decide +kernel
theorem dX12_proves_184 : decode cX12_proves 184 = .ok (.ifCond .eq 13, 3) := by decide +kernel
theorem dX12_proves_187 : decode cX12_proves 187 = .ok (.iload 8, 2) := by decide +kernel
theorem dX12_proves_189 : decode cX12_proves 189 = .ok (.iload_n 3, 1) := by decide +kernel
theorem dX12_proves_190 : decode cX12_proves 190 = .ok (.if_icmp .ne 7, 3) := by decide +kernel
theorem dX12_proves_193 : decode cX12_proves 193 = .ok (.iconst 1, 1) := by decide +kernel
theorem dX12_proves_194 : decode cX12_proves 194 = .ok (.goto 4, 3) := by decide +kernel
theorem dX12_proves_197 : decode cX12_proves 197 = .ok (.iconst 0, 1) := by decide +kernel
theorem dX12_proves_198 : decode cX12_proves 198 = .ok (.invokevirtual 114, 3) := by decide +kernel
theorem dX12_proves_201 : decode cX12_proves 201 = .ok (.ireturn, 1) := by decide +kernel
theorem dX12_looked_0 : decode cX12_looked 0 = .ok (.bipush 8, 2) := by decide +kernel
theorem dX12_looked_2 : decode cX12_looked 2 = .ok (.aload_n 0, 1) := by decide +kernel
theorem dX12_looked_3 : decode cX12_looked 3 = .ok (.iload_n 1, 1) := by decide +kernel
theorem dX12_looked_4 : decode cX12_looked 4 = .ok (.invokevirtual 128, 3) := by decide +kernel
theorem dX12_looked_7 : decode cX12_looked 7 = .ok (.invokestatic 184, 3) := by decide +kernel
theorem dX12_looked_10 : decode cX12_looked 10 = .ok (.ireturn, 1) := by decide +kernel
theorem dX12_isMark_0 : decode cX12_isMark 0 = .ok (.iload_n 0, 1) := by decide +kernel
theorem dX12_isMark_1 : decode cX12_isMark 1 = .ok (.i2l, 1) := by decide +kernel
theorem dX12_isMark_2 : decode cX12_isMark 2 = .ok (.lconst 0, 1) := by decide +kernel
theorem dX12_isMark_3 : decode cX12_isMark 3 = .ok (.ldc2_w 265, 3) := by decide +kernel
theorem dX12_isMark_6 : decode cX12_isMark 6 = .ok (.invokestatic 99, 3) := by decide +kernel
theorem dX12_isMark_9 : decode cX12_isMark 9 = .ok (.ireturn, 1) := by decide +kernel
theorem dX12_isSo_0 : decode cX12_isSo 0 = .ok (.aload_n 0, 1) := by decide +kernel
theorem dX12_isSo_1 : decode cX12_isSo 1 = .ok (.getfield 16, 3) := by decide +kernel
theorem dX12_isSo_4 : decode cX12_isSo 4 = .ok (.bipush 16, 2) := by decide +kernel
theorem dX12_isSo_6 : decode cX12_isSo 6 = .ok (.iload_n 1, 1) := by decide +kernel
theorem dX12_isSo_7 : decode cX12_isSo 7 = .ok (.imul, 1) := by decide +kernel
theorem dX12_isSo_8 : decode cX12_isSo 8 = .ok (.aload_n 0, 1) := by decide +kernel
theorem dX12_isSo_9 : decode cX12_isSo 9 = .ok (.iload_n 1, 1) := by decide +kernel
theorem dX12_isSo_10 : decode cX12_isSo 10 = .ok (.iload_n 2, 1) := by decide +kernel
theorem dX12_isSo_11 : decode cX12_isSo 11 = .ok (.invokevirtual 131, 3) := by decide +kernel
theorem dX12_isSo_14 : decode cX12_isSo 14 = .ok (.iadd, 1) := by decide +kernel
theorem dX12_isSo_15 : decode cX12_isSo 15 = .ok (.iaload, 1) := by decide +kernel
theorem dX12_isSo_16 : decode cX12_isSo 16 = .ok (.iconst 2, 1) := by decide +kernel
theorem dX12_isSo_17 : decode cX12_isSo 17 = .ok (.irem, 1) := by decide +kernel
theorem dX12_isSo_18 : decode cX12_isSo 18 = .ok (.iload_n 3, 1) := by decide +kernel
theorem dX12_isSo_19 : decode cX12_isSo 19 = .ok (.iload_n 2, 1) := by decide +kernel
theorem dX12_isSo_20 : decode cX12_isSo 20 = .ok (.ishr, 1) := by decide +kernel
theorem dX12_isSo_21 : decode cX12_isSo 21 = .ok (.iconst 1, 1) := by decide +kernel
theorem dX12_isSo_22 : decode cX12_isSo 22 = .ok (.iand, 1) := by decide +kernel
theorem dX12_isSo_23 : decode cX12_isSo 23 = .ok (.if_icmp .ne 7, 3) := by decide +kernel
theorem dX12_isSo_26 : decode cX12_isSo 26 = .ok (.iconst 1, 1) := by decide +kernel
theorem dX12_isSo_27 : decode cX12_isSo 27 = .ok (.goto 4, 3) := by decide +kernel
theorem dX12_isSo_30 : decode cX12_isSo 30 = .ok (.iconst 0, 1) := by decide +kernel
theorem dX12_isSo_31 : decode cX12_isSo 31 = .ok (.ireturn, 1) := by decide +kernel
theorem dX12_hide_0 : decode cX12_hide 0 = .ok (.aload_n 0, 1) := by decide +kernel
theorem dX12_hide_1 : decode cX12_hide 1 = .ok (.iload_n 1, 1) := by decide +kernel
theorem dX12_hide_2 : decode cX12_hide 2 = .ok (.invokevirtual 146, 3) := by decide +kernel
theorem dX12_hide_5 : decode cX12_hide 5 = .ok (.ifCond .eq 5, 3) := by decide +kernel
theorem dX12_hide_8 : decode cX12_hide 8 = .ok (.iconst (-1), 1) := by decide +kernel
theorem dX12_hide_9 : decode cX12_hide 9 = .ok (.ireturn, 1) := by decide +kernel
theorem dX12_hide_10 : decode cX12_hide 10 = .ok (.iload_n 2, 1) := by decide +kernel
theorem dX12_hide_11 : decode cX12_hide 11 = .ok (.invokestatic 267, 3) := by decide +kernel
theorem dX12_hide_14 : decode cX12_hide 14 = .ok (.ifCond .ne 6, 3) := by decide +kernel
theorem dX12_hide_17 : decode cX12_hide 17 = .ok (.bipush (-2), 2) := by decide +kernel
theorem dX12_hide_19 : decode cX12_hide 19 = .ok (.ireturn, 1) := by decide +kernel
theorem dX12_hide_20 : decode cX12_hide 20 = .ok (.iconst 0, 1) := by decide +kernel
theorem dX12_hide_21 : decode cX12_hide 21 = .ok (.istore_n 3, 1) := by decide +kernel
theorem dX12_hide_22 : decode cX12_hide 22 = .ok (.iconst 0, 1) := by decide +kernel
theorem dX12_hide_23 : decode cX12_hide 23 = .ok (.istore 4, 2) := by decide +kernel
theorem dX12_hide_25 : decode cX12_hide 25 = .ok (.iload 4, 2) := by decide +kernel
theorem dX12_hide_27 : decode cX12_hide 27 = .ok (.aload_n 0, 1) := by decide +kernel
theorem dX12_hide_28 : decode cX12_hide 28 = .ok (.iload_n 1, 1) := by decide +kernel
theorem dX12_hide_29 : decode cX12_hide 29 = .ok (.invokevirtual 270, 3) := by decide +kernel
theorem dX12_hide_32 : decode cX12_hide 32 = .ok (.if_icmp .ge 67, 3) := by decide +kernel
theorem dX12_hide_35 : decode cX12_hide 35 = .ok (.aload_n 0, 1) := by decide +kernel
theorem dX12_hide_36 : decode cX12_hide 36 = .ok (.iload_n 1, 1) := by decide +kernel
theorem dX12_hide_37 : decode cX12_hide 37 = .ok (.iload 4, 2) := by decide +kernel
theorem dX12_hide_39 : decode cX12_hide 39 = .ok (.iload_n 2, 1) := by decide +kernel
theorem dX12_hide_40 : decode cX12_hide 40 = .ok (.invokevirtual 273, 3) := by decide +kernel
theorem dX12_hide_43 : decode cX12_hide 43 = .ok (.ifCond .ne 50, 3) := by decide +kernel
theorem dX12_hide_46 : decode cX12_hide 46 = .ok (.bipush 16, 2) := by decide +kernel
theorem dX12_hide_48 : decode cX12_hide 48 = .ok (.iload_n 1, 1) := by decide +kernel
theorem dX12_hide_49 : decode cX12_hide 49 = .ok (.imul, 1) := by decide +kernel
theorem dX12_hide_50 : decode cX12_hide 50 = .ok (.aload_n 0, 1) := by decide +kernel
theorem dX12_hide_51 : decode cX12_hide 51 = .ok (.iload_n 1, 1) := by decide +kernel
theorem dX12_hide_52 : decode cX12_hide 52 = .ok (.iload 4, 2) := by decide +kernel
theorem dX12_hide_54 : decode cX12_hide 54 = .ok (.invokevirtual 131, 3) := by decide +kernel
theorem dX12_hide_57 : decode cX12_hide 57 = .ok (.iadd, 1) := by decide +kernel
theorem dX12_hide_58 : decode cX12_hide 58 = .ok (.istore 5, 2) := by decide +kernel
theorem dX12_hide_60 : decode cX12_hide 60 = .ok (.aload_n 0, 1) := by decide +kernel
theorem dX12_hide_61 : decode cX12_hide 61 = .ok (.getfield 16, 3) := by decide +kernel
theorem dX12_hide_64 : decode cX12_hide 64 = .ok (.iload 5, 2) := by decide +kernel
theorem dX12_hide_66 : decode cX12_hide 66 = .ok (.aload_n 0, 1) := by decide +kernel
theorem dX12_hide_67 : decode cX12_hide 67 = .ok (.getfield 16, 3) := by decide +kernel
theorem dX12_hide_70 : decode cX12_hide 70 = .ok (.iload 5, 2) := by decide +kernel
theorem dX12_hide_72 : decode cX12_hide 72 = .ok (.iaload, 1) := by decide +kernel
theorem dX12_hide_73 : decode cX12_hide 73 = .ok (.ifCond .ne 7, 3) := by decide +kernel
theorem dX12_hide_76 : decode cX12_hide 76 = .ok (.iconst 1, 1) := by decide +kernel
theorem dX12_hide_77 : decode cX12_hide 77 = .ok (.goto 12, 3) := by decide +kernel
theorem dX12_hide_80 : decode cX12_hide 80 = .ok (.aload_n 0, 1) := by decide +kernel
theorem dX12_hide_81 : decode cX12_hide 81 = .ok (.getfield 16, 3) := by decide +kernel
theorem dX12_hide_84 : decode cX12_hide 84 = .ok (.iload 5, 2) := by decide +kernel
theorem dX12_hide_86 : decode cX12_hide 86 = .ok (.iaload, 1) := by decide +kernel
theorem dX12_hide_87 : decode cX12_hide 87 = .ok (.iconst 1, 1) := by decide +kernel
theorem dX12_hide_88 : decode cX12_hide 88 = .ok (.isub, 1) := by decide +kernel
theorem dX12_hide_89 : decode cX12_hide 89 = .ok (.iastore, 1) := by decide +kernel
theorem dX12_hide_90 : decode cX12_hide 90 = .ok (.iinc 3 1, 3) := by decide +kernel
theorem dX12_hide_93 : decode cX12_hide 93 = .ok (.iinc 4 1, 3) := by decide +kernel
theorem dX12_hide_96 : decode cX12_hide 96 = .ok (.goto (-71), 3) := by decide +kernel
theorem dX12_hide_99 : decode cX12_hide 99 = .ok (.iload_n 3, 1) := by decide +kernel
theorem dX12_hide_100 : decode cX12_hide 100 = .ok (.ireturn, 1) := by decide +kernel
theorem dX12_foundIn_0 : decode cX12_foundIn 0 = .ok (.iconst 0, 1) := by decide +kernel
theorem dX12_foundIn_1 : decode cX12_foundIn 1 = .ok (.istore_n 3, 1) := by decide +kernel
theorem dX12_foundIn_2 : decode cX12_foundIn 2 = .ok (.iconst 0, 1) := by decide +kernel
theorem dX12_foundIn_3 : decode cX12_foundIn 3 = .ok (.istore 4, 2) := by decide +kernel
theorem dX12_foundIn_5 : decode cX12_foundIn 5 = .ok (.iload 4, 2) := by decide +kernel
theorem dX12_foundIn_7 : decode cX12_foundIn 7 = .ok (.aload_n 0, 1) := by decide +kernel
theorem dX12_foundIn_8 : decode cX12_foundIn 8 = .ok (.iload_n 1, 1) := by decide +kernel
theorem dX12_foundIn_9 : decode cX12_foundIn 9 = .ok (.invokevirtual 270, 3) := by decide +kernel
theorem dX12_foundIn_12 : decode cX12_foundIn 12 = .ok (.if_icmp .ge 28, 3) := by decide +kernel
theorem dX12_foundIn_15 : decode cX12_foundIn 15 = .ok (.iload_n 3, 1) := by decide +kernel
theorem dX12_foundIn_16 : decode cX12_foundIn 16 = .ok (.aload_n 0, 1) := by decide +kernel
theorem dX12_foundIn_17 : decode cX12_foundIn 17 = .ok (.iload_n 1, 1) := by decide +kernel
theorem dX12_foundIn_18 : decode cX12_foundIn 18 = .ok (.iload 4, 2) := by decide +kernel
theorem dX12_foundIn_20 : decode cX12_foundIn 20 = .ok (.iload_n 2, 1) := by decide +kernel
theorem dX12_foundIn_21 : decode cX12_foundIn 21 = .ok (.invokevirtual 273, 3) := by decide +kernel
theorem dX12_foundIn_24 : decode cX12_foundIn 24 = .ok (.ifCond .eq 7, 3) := by decide +kernel
theorem dX12_foundIn_27 : decode cX12_foundIn 27 = .ok (.iconst 1, 1) := by decide +kernel
theorem dX12_foundIn_28 : decode cX12_foundIn 28 = .ok (.goto 4, 3) := by decide +kernel
theorem dX12_foundIn_31 : decode cX12_foundIn 31 = .ok (.iconst 0, 1) := by decide +kernel
theorem dX12_foundIn_32 : decode cX12_foundIn 32 = .ok (.iadd, 1) := by decide +kernel
theorem dX12_foundIn_33 : decode cX12_foundIn 33 = .ok (.istore_n 3, 1) := by decide +kernel
theorem dX12_foundIn_34 : decode cX12_foundIn 34 = .ok (.iinc 4 1, 3) := by decide +kernel
theorem dX12_foundIn_37 : decode cX12_foundIn 37 = .ok (.goto (-32), 3) := by decide +kernel
theorem dX12_foundIn_40 : decode cX12_foundIn 40 = .ok (.iload_n 3, 1) := by decide +kernel
theorem dX12_foundIn_41 : decode cX12_foundIn 41 = .ok (.ireturn, 1) := by decide +kernel
theorem dX12_found_0 : decode cX12_found 0 = .ok (.aload_n 0, 1) := by decide +kernel
theorem dX12_found_1 : decode cX12_found 1 = .ok (.iload_n 1, 1) := by decide +kernel
theorem dX12_found_2 : decode cX12_found 2 = .ok (.invokevirtual 146, 3) := by decide +kernel
theorem dX12_found_5 : decode cX12_found 5 = .ok (.ifCond .eq 5, 3) := by decide +kernel
theorem dX12_found_8 : decode cX12_found 8 = .ok (.iconst (-1), 1) := by decide +kernel
theorem dX12_found_9 : decode cX12_found 9 = .ok (.ireturn, 1) := by decide +kernel
theorem dX12_found_10 : decode cX12_found 10 = .ok (.iload_n 2, 1) := by decide +kernel
theorem dX12_found_11 : decode cX12_found 11 = .ok (.invokestatic 267, 3) := by decide +kernel
theorem dX12_found_14 : decode cX12_found 14 = .ok (.ifCond .eq 12, 3) := by decide +kernel
theorem dX12_found_17 : decode cX12_found 17 = .ok (.aload_n 0, 1) := by decide +kernel
theorem dX12_found_18 : decode cX12_found 18 = .ok (.iload_n 1, 1) := by decide +kernel
theorem dX12_found_19 : decode cX12_found 19 = .ok (.iload_n 2, 1) := by decide +kernel
theorem dX12_found_20 : decode cX12_found 20 = .ok (.invokevirtual 276, 3) := by decide +kernel
theorem dX12_found_23 : decode cX12_found 23 = .ok (.goto 5, 3) := by decide +kernel
theorem dX12_found_26 : decode cX12_found 26 = .ok (.bipush (-2), 2) := by decide +kernel
theorem dX12_found_28 : decode cX12_found 28 = .ok (.ireturn, 1) := by decide +kernel
theorem dX12_falsely_0 : decode cX12_falsely 0 = .ok (.aload_n 0, 1) := by decide +kernel
theorem dX12_falsely_1 : decode cX12_falsely 1 = .ok (.iload_n 1, 1) := by decide +kernel
theorem dX12_falsely_2 : decode cX12_falsely 2 = .ok (.invokevirtual 146, 3) := by decide +kernel
theorem dX12_falsely_5 : decode cX12_falsely 5 = .ok (.ifCond .ne 20, 3) := by decide +kernel
theorem dX12_falsely_8 : decode cX12_falsely 8 = .ok (.iload_n 2, 1) := by decide +kernel
theorem dX12_falsely_9 : decode cX12_falsely 9 = .ok (.invokestatic 267, 3) := by decide +kernel
theorem dX12_falsely_12 : decode cX12_falsely 12 = .ok (.ifCond .eq 13, 3) := by decide +kernel
theorem dX12_falsely_15 : decode cX12_falsely 15 = .ok (.iload_n 3, 1) := by decide +kernel
theorem dX12_falsely_16 : decode cX12_falsely 16 = .ok (.i2l, 1) := by decide +kernel
theorem dX12_falsely_17 : decode cX12_falsely 17 = .ok (.lconst 0, 1) := by decide +kernel
theorem dX12_falsely_18 : decode cX12_falsely 18 = .ok (.lconst 1, 1) := by decide +kernel
theorem dX12_falsely_19 : decode cX12_falsely 19 = .ok (.invokestatic 99, 3) := by decide +kernel
theorem dX12_falsely_22 : decode cX12_falsely 22 = .ok (.ifCond .ne 7, 3) := by decide +kernel
theorem dX12_falsely_25 : decode cX12_falsely 25 = .ok (.invokestatic 85, 3) := by decide +kernel
theorem dX12_falsely_28 : decode cX12_falsely 28 = .ok (.lreturn, 1) := by decide +kernel
theorem dX12_falsely_29 : decode cX12_falsely 29 = .ok (.aload_n 0, 1) := by decide +kernel
theorem dX12_falsely_30 : decode cX12_falsely 30 = .ok (.iload_n 1, 1) := by decide +kernel
theorem dX12_falsely_31 : decode cX12_falsely 31 = .ok (.invokevirtual 270, 3) := by decide +kernel
theorem dX12_falsely_34 : decode cX12_falsely 34 = .ok (.istore 4, 2) := by decide +kernel
theorem dX12_falsely_36 : decode cX12_falsely 36 = .ok (.lconst 0, 1) := by decide +kernel
theorem dX12_falsely_37 : decode cX12_falsely 37 = .ok (.lstore 5, 2) := by decide +kernel
theorem dX12_falsely_39 : decode cX12_falsely 39 = .ok (.lconst 1, 1) := by decide +kernel
theorem dX12_falsely_40 : decode cX12_falsely 40 = .ok (.lstore 7, 2) := by decide +kernel
theorem dX12_falsely_42 : decode cX12_falsely 42 = .ok (.iconst 0, 1) := by decide +kernel
theorem dX12_falsely_43 : decode cX12_falsely 43 = .ok (.istore 9, 2) := by decide +kernel
theorem dX12_falsely_45 : decode cX12_falsely 45 = .ok (.iload 9, 2) := by decide +kernel
theorem dX12_falsely_47 : decode cX12_falsely 47 = .ok (.iload 4, 2) := by decide +kernel
theorem dX12_falsely_49 : decode cX12_falsely 49 = .ok (.if_icmp .gt 48, 3) := by decide +kernel
theorem dX12_falsely_52 : decode cX12_falsely 52 = .ok (.lload 5, 2) := by decide +kernel
theorem dX12_falsely_54 : decode cX12_falsely 54 = .ok (.iload 9, 2) := by decide +kernel
theorem dX12_falsely_56 : decode cX12_falsely 56 = .ok (.aload_n 0, 1) := by decide +kernel
theorem dX12_falsely_57 : decode cX12_falsely 57 = .ok (.iload_n 1, 1) := by decide +kernel
theorem dX12_falsely_58 : decode cX12_falsely 58 = .ok (.iload_n 2, 1) := by decide +kernel
theorem dX12_falsely_59 : decode cX12_falsely 59 = .ok (.invokevirtual 276, 3) := by decide +kernel
theorem dX12_falsely_62 : decode cX12_falsely 62 = .ok (.if_icmp .lt 8, 3) := by decide +kernel
theorem dX12_falsely_65 : decode cX12_falsely 65 = .ok (.lload 7, 2) := by decide +kernel
theorem dX12_falsely_67 : decode cX12_falsely 67 = .ok (.goto 4, 3) := by decide +kernel
theorem dX12_falsely_70 : decode cX12_falsely 70 = .ok (.lconst 0, 1) := by decide +kernel
theorem dX12_falsely_71 : decode cX12_falsely 71 = .ok (.ladd, 1) := by decide +kernel
theorem dX12_falsely_72 : decode cX12_falsely 72 = .ok (.lstore 5, 2) := by decide +kernel
theorem dX12_falsely_74 : decode cX12_falsely 74 = .ok (.lload 7, 2) := by decide +kernel
theorem dX12_falsely_76 : decode cX12_falsely 76 = .ok (.iload 4, 2) := by decide +kernel
theorem dX12_falsely_78 : decode cX12_falsely 78 = .ok (.iload 9, 2) := by decide +kernel
theorem dX12_falsely_80 : decode cX12_falsely 80 = .ok (.isub, 1) := by decide +kernel
theorem dX12_falsely_81 : decode cX12_falsely 81 = .ok (.i2l, 1) := by decide +kernel
theorem dX12_falsely_82 : decode cX12_falsely 82 = .ok (.lmul, 1) := by decide +kernel
theorem dX12_falsely_83 : decode cX12_falsely 83 = .ok (.iload 9, 2) := by decide +kernel
theorem dX12_falsely_85 : decode cX12_falsely 85 = .ok (.iconst 1, 1) := by decide +kernel
theorem dX12_falsely_86 : decode cX12_falsely 86 = .ok (.iadd, 1) := by decide +kernel
theorem dX12_falsely_87 : decode cX12_falsely 87 = .ok (.i2l, 1) := by decide +kernel
theorem dX12_falsely_88 : decode cX12_falsely 88 = .ok (.ldiv, 1) := by decide +kernel
theorem dX12_falsely_89 : decode cX12_falsely 89 = .ok (.lstore 7, 2) := by decide +kernel
theorem dX12_falsely_91 : decode cX12_falsely 91 = .ok (.iinc 9 1, 3) := by decide +kernel
theorem dX12_falsely_94 : decode cX12_falsely 94 = .ok (.goto (-49), 3) := by decide +kernel
theorem dX12_falsely_97 : decode cX12_falsely 97 = .ok (.lload 5, 2) := by decide +kernel
theorem dX12_falsely_99 : decode cX12_falsely 99 = .ok (.iconst 1, 1) := by decide +kernel
theorem dX12_falsely_100 : decode cX12_falsely 100 = .ok (.iload 4, 2) := by decide +kernel
theorem dX12_falsely_102 : decode cX12_falsely 102 = .ok (.ishl, 1) := by decide +kernel
theorem dX12_falsely_103 : decode cX12_falsely 103 = .ok (.i2l, 1) := by decide +kernel
theorem dX12_falsely_104 : decode cX12_falsely 104 = .ok (.iload_n 3, 1) := by decide +kernel
theorem dX12_falsely_105 : decode cX12_falsely 105 = .ok (.invokestatic 279, 3) := by decide +kernel
theorem dX12_falsely_108 : decode cX12_falsely 108 = .ok (.lreturn, 1) := by decide +kernel
theorem dX12_extreme_0 : decode cX12_extreme 0 = .ok (.aload_n 0, 1) := by decide +kernel
theorem dX12_extreme_1 : decode cX12_extreme 1 = .ok (.getfield 16, 3) := by decide +kernel
theorem dX12_extreme_4 : decode cX12_extreme 4 = .ok (.bipush 16, 2) := by decide +kernel
theorem dX12_extreme_6 : decode cX12_extreme 6 = .ok (.iload_n 1, 1) := by decide +kernel
theorem dX12_extreme_7 : decode cX12_extreme 7 = .ok (.imul, 1) := by decide +kernel
theorem dX12_extreme_8 : decode cX12_extreme 8 = .ok (.iaload, 1) := by decide +kernel
theorem dX12_extreme_9 : decode cX12_extreme 9 = .ok (.istore_n 3, 1) := by decide +kernel
theorem dX12_extreme_10 : decode cX12_extreme 10 = .ok (.iconst 0, 1) := by decide +kernel
theorem dX12_extreme_11 : decode cX12_extreme 11 = .ok (.istore 4, 2) := by decide +kernel
theorem dX12_extreme_13 : decode cX12_extreme 13 = .ok (.iload 4, 2) := by decide +kernel
theorem dX12_extreme_15 : decode cX12_extreme 15 = .ok (.aload_n 0, 1) := by decide +kernel
theorem dX12_extreme_16 : decode cX12_extreme 16 = .ok (.iload_n 1, 1) := by decide +kernel
theorem dX12_extreme_17 : decode cX12_extreme 17 = .ok (.invokevirtual 128, 3) := by decide +kernel
theorem dX12_extreme_20 : decode cX12_extreme 20 = .ok (.if_icmp .ge 48, 3) := by decide +kernel
theorem dX12_extreme_23 : decode cX12_extreme 23 = .ok (.aload_n 0, 1) := by decide +kernel
theorem dX12_extreme_24 : decode cX12_extreme 24 = .ok (.getfield 16, 3) := by decide +kernel
theorem dX12_extreme_27 : decode cX12_extreme 27 = .ok (.bipush 16, 2) := by decide +kernel
theorem dX12_extreme_29 : decode cX12_extreme 29 = .ok (.iload_n 1, 1) := by decide +kernel
theorem dX12_extreme_30 : decode cX12_extreme 30 = .ok (.imul, 1) := by decide +kernel
theorem dX12_extreme_31 : decode cX12_extreme 31 = .ok (.aload_n 0, 1) := by decide +kernel
theorem dX12_extreme_32 : decode cX12_extreme 32 = .ok (.iload_n 1, 1) := by decide +kernel
theorem dX12_extreme_33 : decode cX12_extreme 33 = .ok (.iload 4, 2) := by decide +kernel
theorem dX12_extreme_35 : decode cX12_extreme 35 = .ok (.invokevirtual 131, 3) := by decide +kernel
theorem dX12_extreme_38 : decode cX12_extreme 38 = .ok (.iadd, 1) := by decide +kernel
theorem dX12_extreme_39 : decode cX12_extreme 39 = .ok (.iaload, 1) := by decide +kernel
theorem dX12_extreme_40 : decode cX12_extreme 40 = .ok (.istore 5, 2) := by decide +kernel
theorem dX12_extreme_42 : decode cX12_extreme 42 = .ok (.iload_n 2, 1) := by decide +kernel
theorem dX12_extreme_43 : decode cX12_extreme 43 = .ok (.ifCond .ne 12, 3) := by decide +kernel
theorem dX12_extreme_46 : decode cX12_extreme 46 = .ok (.iload_n 3, 1) := by decide +kernel
theorem dX12_extreme_47 : decode cX12_extreme 47 = .ok (.iload 5, 2) := by decide +kernel
theorem dX12_extreme_49 : decode cX12_extreme 49 = .ok (.invokestatic 184, 3) := by decide +kernel
theorem dX12_extreme_52 : decode cX12_extreme 52 = .ok (.goto 9, 3) := by decide +kernel
theorem dX12_extreme_55 : decode cX12_extreme 55 = .ok (.iload_n 3, 1) := by decide +kernel
theorem dX12_extreme_56 : decode cX12_extreme 56 = .ok (.iload 5, 2) := by decide +kernel
theorem dX12_extreme_58 : decode cX12_extreme 58 = .ok (.invokestatic 187, 3) := by decide +kernel
theorem dX12_extreme_61 : decode cX12_extreme 61 = .ok (.istore_n 3, 1) := by decide +kernel
theorem dX12_extreme_62 : decode cX12_extreme 62 = .ok (.iinc 4 1, 3) := by decide +kernel
theorem dX12_extreme_65 : decode cX12_extreme 65 = .ok (.goto (-52), 3) := by decide +kernel
theorem dX12_extreme_68 : decode cX12_extreme 68 = .ok (.iload_n 3, 1) := by decide +kernel
theorem dX12_extreme_69 : decode cX12_extreme 69 = .ok (.ireturn, 1) := by decide +kernel
theorem dX12_likeness_0 : decode cX12_likeness 0 = .ok (.aload_n 0, 1) := by decide +kernel
theorem dX12_likeness_1 : decode cX12_likeness 1 = .ok (.iload_n 1, 1) := by decide +kernel
theorem dX12_likeness_2 : decode cX12_likeness 2 = .ok (.invokevirtual 149, 3) := by decide +kernel
theorem dX12_likeness_5 : decode cX12_likeness 5 = .ok (.aload_n 0, 1) := by decide +kernel
theorem dX12_likeness_6 : decode cX12_likeness 6 = .ok (.iload_n 1, 1) := by decide +kernel
theorem dX12_likeness_7 : decode cX12_likeness 7 = .ok (.invokevirtual 128, 3) := by decide +kernel
theorem dX12_likeness_10 : decode cX12_likeness 10 = .ok (.idiv, 1) := by decide +kernel
theorem dX12_likeness_11 : decode cX12_likeness 11 = .ok (.aload_n 0, 1) := by decide +kernel
theorem dX12_likeness_12 : decode cX12_likeness 12 = .ok (.iload_n 2, 1) := by decide +kernel
theorem dX12_likeness_13 : decode cX12_likeness 13 = .ok (.invokevirtual 149, 3) := by decide +kernel
theorem dX12_likeness_16 : decode cX12_likeness 16 = .ok (.aload_n 0, 1) := by decide +kernel
theorem dX12_likeness_17 : decode cX12_likeness 17 = .ok (.iload_n 2, 1) := by decide +kernel
theorem dX12_likeness_18 : decode cX12_likeness 18 = .ok (.invokevirtual 128, 3) := by decide +kernel
theorem dX12_likeness_21 : decode cX12_likeness 21 = .ok (.idiv, 1) := by decide +kernel
theorem dX12_likeness_22 : decode cX12_likeness 22 = .ok (.isub, 1) := by decide +kernel
theorem dX12_likeness_23 : decode cX12_likeness 23 = .ok (.invokestatic 241, 3) := by decide +kernel
theorem dX12_likeness_26 : decode cX12_likeness 26 = .ok (.istore_n 3, 1) := by decide +kernel
theorem dX12_likeness_27 : decode cX12_likeness 27 = .ok (.iload_n 3, 1) := by decide +kernel
theorem dX12_likeness_28 : decode cX12_likeness 28 = .ok (.aload_n 0, 1) := by decide +kernel
theorem dX12_likeness_29 : decode cX12_likeness 29 = .ok (.iload_n 1, 1) := by decide +kernel
theorem dX12_likeness_30 : decode cX12_likeness 30 = .ok (.iconst 0, 1) := by decide +kernel
theorem dX12_likeness_31 : decode cX12_likeness 31 = .ok (.invokevirtual 283, 3) := by decide +kernel
theorem dX12_likeness_34 : decode cX12_likeness 34 = .ok (.aload_n 0, 1) := by decide +kernel
theorem dX12_likeness_35 : decode cX12_likeness 35 = .ok (.iload_n 2, 1) := by decide +kernel
theorem dX12_likeness_36 : decode cX12_likeness 36 = .ok (.iconst 0, 1) := by decide +kernel
theorem dX12_likeness_37 : decode cX12_likeness 37 = .ok (.invokevirtual 283, 3) := by decide +kernel
theorem dX12_likeness_40 : decode cX12_likeness 40 = .ok (.isub, 1) := by decide +kernel
theorem dX12_likeness_41 : decode cX12_likeness 41 = .ok (.invokestatic 241, 3) := by decide +kernel
theorem dX12_likeness_44 : decode cX12_likeness 44 = .ok (.iadd, 1) := by decide +kernel
theorem dX12_likeness_45 : decode cX12_likeness 45 = .ok (.aload_n 0, 1) := by decide +kernel
theorem dX12_likeness_46 : decode cX12_likeness 46 = .ok (.iload_n 1, 1) := by decide +kernel
theorem dX12_likeness_47 : decode cX12_likeness 47 = .ok (.iconst 1, 1) := by decide +kernel
theorem dX12_likeness_48 : decode cX12_likeness 48 = .ok (.invokevirtual 283, 3) := by decide +kernel
theorem dX12_likeness_51 : decode cX12_likeness 51 = .ok (.aload_n 0, 1) := by decide +kernel
theorem dX12_likeness_52 : decode cX12_likeness 52 = .ok (.iload_n 2, 1) := by decide +kernel
theorem dX12_likeness_53 : decode cX12_likeness 53 = .ok (.iconst 1, 1) := by decide +kernel
theorem dX12_likeness_54 : decode cX12_likeness 54 = .ok (.invokevirtual 283, 3) := by decide +kernel
theorem dX12_likeness_57 : decode cX12_likeness 57 = .ok (.isub, 1) := by decide +kernel
theorem dX12_likeness_58 : decode cX12_likeness 58 = .ok (.invokestatic 241, 3) := by decide +kernel
theorem dX12_likeness_61 : decode cX12_likeness 61 = .ok (.iadd, 1) := by decide +kernel
theorem dX12_likeness_62 : decode cX12_likeness 62 = .ok (.ireturn, 1) := by decide +kernel
theorem dX12_like_0 : decode cX12_like 0 = .ok (.aload_n 0, 1) := by decide +kernel
theorem dX12_like_1 : decode cX12_like 1 = .ok (.iload_n 1, 1) := by decide +kernel
theorem dX12_like_2 : decode cX12_like 2 = .ok (.invokevirtual 146, 3) := by decide +kernel
theorem dX12_like_5 : decode cX12_like 5 = .ok (.ifCond .ne 11, 3) := by decide +kernel
theorem dX12_like_8 : decode cX12_like 8 = .ok (.aload_n 0, 1) := by decide +kernel
theorem dX12_like_9 : decode cX12_like 9 = .ok (.iload_n 2, 1) := by decide +kernel
theorem dX12_like_10 : decode cX12_like 10 = .ok (.invokevirtual 146, 3) := by decide +kernel
theorem dX12_like_13 : decode cX12_like 13 = .ok (.ifCond .eq 7, 3) := by decide +kernel
theorem dX12_like_16 : decode cX12_like 16 = .ok (.iconst (-1), 1) := by decide +kernel
theorem dX12_like_17 : decode cX12_like 17 = .ok (.goto 9, 3) := by decide +kernel
theorem dX12_like_20 : decode cX12_like 20 = .ok (.aload_n 0, 1) := by decide +kernel
theorem dX12_like_21 : decode cX12_like 21 = .ok (.iload_n 1, 1) := by decide +kernel
theorem dX12_like_22 : decode cX12_like 22 = .ok (.iload_n 2, 1) := by decide +kernel
theorem dX12_like_23 : decode cX12_like 23 = .ok (.invokevirtual 286, 3) := by decide +kernel
theorem dX12_like_26 : decode cX12_like 26 = .ok (.ireturn, 1) := by decide +kernel
theorem dX12_nearest_0 : decode cX12_nearest 0 = .ok (.aload_n 0, 1) := by decide +kernel
theorem dX12_nearest_1 : decode cX12_nearest 1 = .ok (.iload_n 1, 1) := by decide +kernel
theorem dX12_nearest_2 : decode cX12_nearest 2 = .ok (.invokevirtual 146, 3) := by decide +kernel
theorem dX12_nearest_5 : decode cX12_nearest 5 = .ok (.ifCond .ne 15, 3) := by decide +kernel
theorem dX12_nearest_8 : decode cX12_nearest 8 = .ok (.iload_n 2, 1) := by decide +kernel
theorem dX12_nearest_9 : decode cX12_nearest 9 = .ok (.i2l, 1) := by decide +kernel
theorem dX12_nearest_10 : decode cX12_nearest 10 = .ok (.lconst 0, 1) := by decide +kernel
theorem dX12_nearest_11 : decode cX12_nearest 11 = .ok (.ldc2_w 155, 3) := by decide +kernel
theorem dX12_nearest_14 : decode cX12_nearest 14 = .ok (.invokestatic 99, 3) := by decide +kernel
theorem dX12_nearest_17 : decode cX12_nearest 17 = .ok (.ifCond .ne 5, 3) := by decide +kernel
theorem dX12_nearest_20 : decode cX12_nearest 20 = .ok (.iconst (-1), 1) := by decide +kernel
theorem dX12_nearest_21 : decode cX12_nearest 21 = .ok (.ireturn, 1) := by decide +kernel
theorem dX12_nearest_22 : decode cX12_nearest 22 = .ok (.iconst 1, 1) := by decide +kernel
theorem dX12_nearest_23 : decode cX12_nearest 23 = .ok (.iload_n 1, 1) := by decide +kernel
theorem dX12_nearest_24 : decode cX12_nearest 24 = .ok (.ishl, 1) := by decide +kernel
theorem dX12_nearest_25 : decode cX12_nearest 25 = .ok (.istore_n 3, 1) := by decide +kernel
theorem dX12_nearest_26 : decode cX12_nearest 26 = .ok (.bipush (-9), 2) := by decide +kernel
theorem dX12_nearest_28 : decode cX12_nearest 28 = .ok (.istore 4, 2) := by decide +kernel
theorem dX12_nearest_30 : decode cX12_nearest 30 = .ok (.iconst 0, 1) := by decide +kernel
theorem dX12_nearest_31 : decode cX12_nearest 31 = .ok (.istore 5, 2) := by decide +kernel
theorem dX12_nearest_33 : decode cX12_nearest 33 = .ok (.iload 5, 2) := by decide +kernel
theorem dX12_nearest_35 : decode cX12_nearest 35 = .ok (.iload_n 2, 1) := by decide +kernel
theorem dX12_nearest_36 : decode cX12_nearest 36 = .ok (.if_icmp .gt 86, 3) := by decide +kernel
theorem dX12_nearest_39 : decode cX12_nearest 39 = .ok (.bipush (-9), 2) := by decide +kernel
theorem dX12_nearest_41 : decode cX12_nearest 41 = .ok (.istore 4, 2) := by decide +kernel
theorem dX12_nearest_43 : decode cX12_nearest 43 = .ok (.iconst 0, 1) := by decide +kernel
theorem dX12_nearest_44 : decode cX12_nearest 44 = .ok (.istore 6, 2) := by decide +kernel
theorem dX12_nearest_46 : decode cX12_nearest 46 = .ok (.iload 6, 2) := by decide +kernel
theorem dX12_nearest_48 : decode cX12_nearest 48 = .ok (.aload_n 0, 1) := by decide +kernel
theorem dX12_nearest_49 : decode cX12_nearest 49 = .ok (.getfield 105, 3) := by decide +kernel
theorem dX12_nearest_52 : decode cX12_nearest 52 = .ok (.if_icmp .ge 49, 3) := by decide +kernel
theorem dX12_nearest_55 : decode cX12_nearest 55 = .ok (.iload_n 3, 1) := by decide +kernel
theorem dX12_nearest_56 : decode cX12_nearest 56 = .ok (.iload 6, 2) := by decide +kernel
theorem dX12_nearest_58 : decode cX12_nearest 58 = .ok (.invokestatic 262, 3) := by decide +kernel
theorem dX12_nearest_61 : decode cX12_nearest 61 = .ok (.ifCond .ne 30, 3) := by decide +kernel
theorem dX12_nearest_64 : decode cX12_nearest 64 = .ok (.iload 4, 2) := by decide +kernel
theorem dX12_nearest_66 : decode cX12_nearest 66 = .ok (.ifCond .lt 20, 3) := by decide +kernel
theorem dX12_nearest_69 : decode cX12_nearest 69 = .ok (.aload_n 0, 1) := by decide +kernel
theorem dX12_nearest_70 : decode cX12_nearest 70 = .ok (.iload_n 1, 1) := by decide +kernel
theorem dX12_nearest_71 : decode cX12_nearest 71 = .ok (.iload 6, 2) := by decide +kernel
theorem dX12_nearest_73 : decode cX12_nearest 73 = .ok (.invokevirtual 286, 3) := by decide +kernel
theorem dX12_nearest_76 : decode cX12_nearest 76 = .ok (.aload_n 0, 1) := by decide +kernel
theorem dX12_nearest_77 : decode cX12_nearest 77 = .ok (.iload_n 1, 1) := by decide +kernel
theorem dX12_nearest_78 : decode cX12_nearest 78 = .ok (.iload 4, 2) := by decide +kernel
theorem dX12_nearest_80 : decode cX12_nearest 80 = .ok (.invokevirtual 286, 3) := by decide +kernel
theorem dX12_nearest_83 : decode cX12_nearest 83 = .ok (.if_icmp .ge 8, 3) := by decide +kernel
theorem dX12_nearest_86 : decode cX12_nearest 86 = .ok (.iload 6, 2) := by decide +kernel
theorem dX12_nearest_88 : decode cX12_nearest 88 = .ok (.goto 5, 3) := by decide +kernel
theorem dX12_nearest_91 : decode cX12_nearest 91 = .ok (.iload 4, 2) := by decide +kernel
theorem dX12_nearest_93 : decode cX12_nearest 93 = .ok (.istore 4, 2) := by decide +kernel
theorem dX12_nearest_95 : decode cX12_nearest 95 = .ok (.iinc 6 1, 3) := by decide +kernel
theorem dX12_nearest_98 : decode cX12_nearest 98 = .ok (.goto (-52), 3) := by decide +kernel
theorem dX12_nearest_101 : decode cX12_nearest 101 = .ok (.iload 4, 2) := by decide +kernel
theorem dX12_nearest_103 : decode cX12_nearest 103 = .ok (.ifCond .ge 6, 3) := by decide +kernel
theorem dX12_nearest_106 : decode cX12_nearest 106 = .ok (.bipush (-9), 2) := by decide +kernel
theorem dX12_nearest_108 : decode cX12_nearest 108 = .ok (.ireturn, 1) := by decide +kernel
theorem dX12_nearest_109 : decode cX12_nearest 109 = .ok (.iload_n 3, 1) := by decide +kernel
theorem dX12_nearest_110 : decode cX12_nearest 110 = .ok (.iconst 1, 1) := by decide +kernel
theorem dX12_nearest_111 : decode cX12_nearest 111 = .ok (.iload 4, 2) := by decide +kernel
theorem dX12_nearest_113 : decode cX12_nearest 113 = .ok (.ishl, 1) := by decide +kernel
theorem dX12_nearest_114 : decode cX12_nearest 114 = .ok (.ior, 1) := by decide +kernel
theorem dX12_nearest_115 : decode cX12_nearest 115 = .ok (.istore_n 3, 1) := by decide +kernel
theorem dX12_nearest_116 : decode cX12_nearest 116 = .ok (.iinc 5 1, 3) := by decide +kernel
theorem dX12_nearest_119 : decode cX12_nearest 119 = .ok (.goto (-86), 3) := by decide +kernel
theorem dX12_nearest_122 : decode cX12_nearest 122 = .ok (.iload 4, 2) := by decide +kernel
theorem dX12_nearest_124 : decode cX12_nearest 124 = .ok (.ireturn, 1) := by decide +kernel
theorem dX12_coarse_0 : decode cX12_coarse 0 = .ok (.aload_n 0, 1) := by decide +kernel
theorem dX12_coarse_1 : decode cX12_coarse 1 = .ok (.iload_n 1, 1) := by decide +kernel
theorem dX12_coarse_2 : decode cX12_coarse 2 = .ok (.invokevirtual 146, 3) := by decide +kernel
theorem dX12_coarse_5 : decode cX12_coarse 5 = .ok (.ifCond .eq 5, 3) := by decide +kernel
theorem dX12_coarse_8 : decode cX12_coarse 8 = .ok (.iconst (-1), 1) := by decide +kernel
theorem dX12_coarse_9 : decode cX12_coarse 9 = .ok (.ireturn, 1) := by decide +kernel
theorem dX12_coarse_10 : decode cX12_coarse 10 = .ok (.iload_n 2, 1) := by decide +kernel
theorem dX12_coarse_11 : decode cX12_coarse 11 = .ok (.i2l, 1) := by decide +kernel
theorem dX12_coarse_12 : decode cX12_coarse 12 = .ok (.lconst 1, 1) := by decide +kernel
theorem dX12_coarse_13 : decode cX12_coarse 13 = .ok (.ldc2_w 289, 3) := by decide +kernel
theorem dX12_coarse_16 : decode cX12_coarse 16 = .ok (.invokestatic 99, 3) := by decide +kernel
theorem dX12_coarse_19 : decode cX12_coarse 19 = .ok (.ifCond .ne 6, 3) := by decide +kernel
theorem dX12_coarse_22 : decode cX12_coarse 22 = .ok (.bipush (-2), 2) := by decide +kernel
theorem dX12_coarse_24 : decode cX12_coarse 24 = .ok (.ireturn, 1) := by decide +kernel
theorem dX12_coarse_25 : decode cX12_coarse 25 = .ok (.aload_n 0, 1) := by decide +kernel
theorem dX12_coarse_26 : decode cX12_coarse 26 = .ok (.iload_n 1, 1) := by decide +kernel
theorem dX12_coarse_27 : decode cX12_coarse 27 = .ok (.invokevirtual 227, 3) := by decide +kernel
theorem dX12_coarse_30 : decode cX12_coarse 30 = .ok (.ifCond .eq 8, 3) := by decide +kernel
theorem dX12_coarse_33 : decode cX12_coarse 33 = .ok (.bipush (-3), 2) := by decide +kernel
theorem dX12_coarse_35 : decode cX12_coarse 35 = .ok (.goto 13, 3) := by decide +kernel
theorem dX12_coarse_38 : decode cX12_coarse 38 = .ok (.aload_n 0, 1) := by decide +kernel
theorem dX12_coarse_39 : decode cX12_coarse 39 = .ok (.getfield 43, 3) := by decide +kernel
theorem dX12_coarse_42 : decode cX12_coarse 42 = .ok (.iload_n 1, 1) := by decide +kernel
theorem dX12_coarse_43 : decode cX12_coarse 43 = .ok (.iaload, 1) := by decide +kernel
theorem dX12_coarse_44 : decode cX12_coarse 44 = .ok (.iload_n 2, 1) := by decide +kernel
theorem dX12_coarse_45 : decode cX12_coarse 45 = .ok (.idiv, 1) := by decide +kernel
theorem dX12_coarse_46 : decode cX12_coarse 46 = .ok (.iload_n 2, 1) := by decide +kernel
theorem dX12_coarse_47 : decode cX12_coarse 47 = .ok (.imul, 1) := by decide +kernel
theorem dX12_coarse_48 : decode cX12_coarse 48 = .ok (.ireturn, 1) := by decide +kernel
theorem dX12_look_0 : decode cX12_look 0 = .ok (.aload_n 0, 1) := by decide +kernel
theorem dX12_look_1 : decode cX12_look 1 = .ok (.iload_n 1, 1) := by decide +kernel
theorem dX12_look_2 : decode cX12_look 2 = .ok (.invokevirtual 146, 3) := by decide +kernel
theorem dX12_look_5 : decode cX12_look 5 = .ok (.ifCond .eq 5, 3) := by decide +kernel
theorem dX12_look_8 : decode cX12_look 8 = .ok (.iconst (-1), 1) := by decide +kernel
theorem dX12_look_9 : decode cX12_look 9 = .ok (.ireturn, 1) := by decide +kernel
theorem dX12_look_10 : decode cX12_look 10 = .ok (.iload_n 2, 1) := by decide +kernel
theorem dX12_look_11 : decode cX12_look 11 = .ok (.i2l, 1) := by decide +kernel
theorem dX12_look_12 : decode cX12_look 12 = .ok (.lconst 1, 1) := by decide +kernel
theorem dX12_look_13 : decode cX12_look 13 = .ok (.ldc2_w 172, 3) := by decide +kernel
theorem dX12_look_16 : decode cX12_look 16 = .ok (.invokestatic 99, 3) := by decide +kernel
theorem dX12_look_19 : decode cX12_look 19 = .ok (.ifCond .eq 15, 3) := by decide +kernel
theorem dX12_look_22 : decode cX12_look 22 = .ok (.iload_n 3, 1) := by decide +kernel
theorem dX12_look_23 : decode cX12_look 23 = .ok (.i2l, 1) := by decide +kernel
theorem dX12_look_24 : decode cX12_look 24 = .ok (.lconst 0, 1) := by decide +kernel
theorem dX12_look_25 : decode cX12_look 25 = .ok (.ldc2_w 126, 3) := by decide +kernel
theorem dX12_look_28 : decode cX12_look 28 = .ok (.invokestatic 99, 3) := by decide +kernel
theorem dX12_look_31 : decode cX12_look 31 = .ok (.ifCond .ne 6, 3) := by decide +kernel
theorem dX12_look_34 : decode cX12_look 34 = .ok (.bipush (-2), 2) := by decide +kernel
theorem dX12_look_36 : decode cX12_look 36 = .ok (.ireturn, 1) := by decide +kernel
theorem dX12_look_37 : decode cX12_look 37 = .ok (.aload_n 0, 1) := by decide +kernel
theorem dX12_look_38 : decode cX12_look 38 = .ok (.getfield 291, 3) := by decide +kernel
theorem dX12_look_41 : decode cX12_look 41 = .ok (.bipush 9, 2) := by decide +kernel
theorem dX12_look_43 : decode cX12_look 43 = .ok (.if_icmp .ne 6, 3) := by decide +kernel
theorem dX12_look_46 : decode cX12_look 46 = .ok (.bipush (-4), 2) := by decide +kernel
theorem dX12_look_48 : decode cX12_look 48 = .ok (.ireturn, 1) := by decide +kernel
theorem dX12_look_49 : decode cX12_look 49 = .ok (.aload_n 0, 1) := by decide +kernel
theorem dX12_look_50 : decode cX12_look 50 = .ok (.getfield 58, 3) := by decide +kernel
theorem dX12_look_53 : decode cX12_look 53 = .ok (.aload_n 0, 1) := by decide +kernel
theorem dX12_look_54 : decode cX12_look 54 = .ok (.getfield 291, 3) := by decide +kernel
theorem dX12_look_57 : decode cX12_look 57 = .ok (.iload_n 1, 1) := by decide +kernel
theorem dX12_look_58 : decode cX12_look 58 = .ok (.iastore, 1) := by decide +kernel
theorem dX12_look_59 : decode cX12_look 59 = .ok (.aload_n 0, 1) := by decide +kernel
theorem dX12_look_60 : decode cX12_look 60 = .ok (.getfield 61, 3) := by decide +kernel
theorem dX12_look_63 : decode cX12_look 63 = .ok (.aload_n 0, 1) := by decide +kernel
theorem dX12_look_64 : decode cX12_look 64 = .ok (.getfield 291, 3) := by decide +kernel
theorem dX12_look_67 : decode cX12_look 67 = .ok (.iload_n 2, 1) := by decide +kernel
theorem dX12_look_68 : decode cX12_look 68 = .ok (.iastore, 1) := by decide +kernel
theorem dX12_look_69 : decode cX12_look 69 = .ok (.aload_n 0, 1) := by decide +kernel
theorem dX12_look_70 : decode cX12_look 70 = .ok (.getfield 64, 3) := by decide +kernel
theorem dX12_look_73 : decode cX12_look 73 = .ok (.aload_n 0, 1) := by decide +kernel
theorem dX12_look_74 : decode cX12_look 74 = .ok (.getfield 291, 3) := by decide +kernel
theorem dX12_look_77 : decode cX12_look 77 = .ok (.iload_n 3, 1) := by decide +kernel
theorem dX12_look_78 : decode cX12_look 78 = .ok (.iastore, 1) := by decide +kernel
theorem dX12_look_79 : decode cX12_look 79 = .ok (.aload_n 0, 1) := by decide +kernel
theorem dX12_look_80 : decode cX12_look 80 = .ok (.dup, 1) := by decide +kernel
theorem dX12_look_81 : decode cX12_look 81 = .ok (.getfield 291, 3) := by decide +kernel
theorem dX12_look_84 : decode cX12_look 84 = .ok (.iconst 1, 1) := by decide +kernel
theorem dX12_look_85 : decode cX12_look 85 = .ok (.iadd, 1) := by decide +kernel
theorem dX12_look_86 : decode cX12_look 86 = .ok (.putfield 291, 3) := by decide +kernel
theorem dX12_look_89 : decode cX12_look 89 = .ok (.aload_n 0, 1) := by decide +kernel
theorem dX12_look_90 : decode cX12_look 90 = .ok (.getfield 291, 3) := by decide +kernel
theorem dX12_look_93 : decode cX12_look 93 = .ok (.iconst 1, 1) := by decide +kernel
theorem dX12_look_94 : decode cX12_look 94 = .ok (.isub, 1) := by decide +kernel
theorem dX12_look_95 : decode cX12_look 95 = .ok (.ireturn, 1) := by decide +kernel
theorem dX12_ofLooks_0 : decode cX12_ofLooks 0 = .ok (.iconst 0, 1) := by decide +kernel
theorem dX12_ofLooks_1 : decode cX12_ofLooks 1 = .ok (.istore_n 3, 1) := by decide +kernel
theorem dX12_ofLooks_2 : decode cX12_ofLooks 2 = .ok (.iconst 0, 1) := by decide +kernel
theorem dX12_ofLooks_3 : decode cX12_ofLooks 3 = .ok (.istore 4, 2) := by decide +kernel
theorem dX12_ofLooks_5 : decode cX12_ofLooks 5 = .ok (.iload 4, 2) := by decide +kernel
theorem dX12_ofLooks_7 : decode cX12_ofLooks 7 = .ok (.aload_n 0, 1) := by decide +kernel
theorem dX12_ofLooks_8 : decode cX12_ofLooks 8 = .ok (.getfield 291, 3) := by decide +kernel
theorem dX12_ofLooks_11 : decode cX12_ofLooks 11 = .ok (.if_icmp .ge 47, 3) := by decide +kernel
theorem dX12_ofLooks_14 : decode cX12_ofLooks 14 = .ok (.iload_n 3, 1) := by decide +kernel
theorem dX12_ofLooks_15 : decode cX12_ofLooks 15 = .ok (.iload_n 1, 1) := by decide +kernel
theorem dX12_ofLooks_16 : decode cX12_ofLooks 16 = .ok (.iload 4, 2) := by decide +kernel
theorem dX12_ofLooks_18 : decode cX12_ofLooks 18 = .ok (.invokestatic 262, 3) := by decide +kernel
theorem dX12_ofLooks_21 : decode cX12_ofLooks 21 = .ok (.ifCond .ne 7, 3) := by decide +kernel
theorem dX12_ofLooks_24 : decode cX12_ofLooks 24 = .ok (.iconst 0, 1) := by decide +kernel
theorem dX12_ofLooks_25 : decode cX12_ofLooks 25 = .ok (.goto 25, 3) := by decide +kernel
theorem dX12_ofLooks_28 : decode cX12_ofLooks 28 = .ok (.iload_n 2, 1) := by decide +kernel
theorem dX12_ofLooks_29 : decode cX12_ofLooks 29 = .ok (.iconst 1, 1) := by decide +kernel
theorem dX12_ofLooks_30 : decode cX12_ofLooks 30 = .ok (.if_icmp .ne 13, 3) := by decide +kernel
theorem dX12_ofLooks_33 : decode cX12_ofLooks 33 = .ok (.aload_n 0, 1) := by decide +kernel
theorem dX12_ofLooks_34 : decode cX12_ofLooks 34 = .ok (.getfield 64, 3) := by decide +kernel
theorem dX12_ofLooks_37 : decode cX12_ofLooks 37 = .ok (.iload 4, 2) := by decide +kernel
theorem dX12_ofLooks_39 : decode cX12_ofLooks 39 = .ok (.iaload, 1) := by decide +kernel
theorem dX12_ofLooks_40 : decode cX12_ofLooks 40 = .ok (.goto 10, 3) := by decide +kernel
theorem dX12_ofLooks_43 : decode cX12_ofLooks 43 = .ok (.aload_n 0, 1) := by decide +kernel
theorem dX12_ofLooks_44 : decode cX12_ofLooks 44 = .ok (.getfield 61, 3) := by decide +kernel
theorem dX12_ofLooks_47 : decode cX12_ofLooks 47 = .ok (.iload 4, 2) := by decide +kernel
theorem dX12_ofLooks_49 : decode cX12_ofLooks 49 = .ok (.iaload, 1) := by decide +kernel
theorem dX12_ofLooks_50 : decode cX12_ofLooks 50 = .ok (.iadd, 1) := by decide +kernel
theorem dX12_ofLooks_51 : decode cX12_ofLooks 51 = .ok (.istore_n 3, 1) := by decide +kernel
theorem dX12_ofLooks_52 : decode cX12_ofLooks 52 = .ok (.iinc 4 1, 3) := by decide +kernel
theorem dX12_ofLooks_55 : decode cX12_ofLooks 55 = .ok (.goto (-50), 3) := by decide +kernel
theorem dX12_ofLooks_58 : decode cX12_ofLooks 58 = .ok (.iload_n 3, 1) := by decide +kernel
theorem dX12_ofLooks_59 : decode cX12_ofLooks 59 = .ok (.ireturn, 1) := by decide +kernel
theorem dX12_best_0 : decode cX12_best 0 = .ok (.iload_n 1, 1) := by decide +kernel
theorem dX12_best_1 : decode cX12_best 1 = .ok (.i2l, 1) := by decide +kernel
theorem dX12_best_2 : decode cX12_best 2 = .ok (.lconst 0, 1) := by decide +kernel
theorem dX12_best_3 : decode cX12_best 3 = .ok (.ldc2_w 126, 3) := by decide +kernel
theorem dX12_best_6 : decode cX12_best 6 = .ok (.invokestatic 99, 3) := by decide +kernel
theorem dX12_best_9 : decode cX12_best 9 = .ok (.ifCond .eq 15, 3) := by decide +kernel
theorem dX12_best_12 : decode cX12_best 12 = .ok (.iload_n 2, 1) := by decide +kernel
theorem dX12_best_13 : decode cX12_best 13 = .ok (.i2l, 1) := by decide +kernel
theorem dX12_best_14 : decode cX12_best 14 = .ok (.lconst 0, 1) := by decide +kernel
theorem dX12_best_15 : decode cX12_best 15 = .ok (.ldc2_w 97, 3) := by decide +kernel
theorem dX12_best_18 : decode cX12_best 18 = .ok (.invokestatic 99, 3) := by decide +kernel
theorem dX12_best_21 : decode cX12_best 21 = .ok (.ifCond .ne 6, 3) := by decide +kernel
theorem dX12_best_24 : decode cX12_best 24 = .ok (.bipush (-2), 2) := by decide +kernel
theorem dX12_best_26 : decode cX12_best 26 = .ok (.ireturn, 1) := by decide +kernel
theorem dX12_best_27 : decode cX12_best 27 = .ok (.iconst 0, 1) := by decide +kernel
theorem dX12_best_28 : decode cX12_best 28 = .ok (.istore_n 3, 1) := by decide +kernel
theorem dX12_best_29 : decode cX12_best 29 = .ok (.iconst 1, 1) := by decide +kernel
theorem dX12_best_30 : decode cX12_best 30 = .ok (.istore 4, 2) := by decide +kernel
theorem dX12_best_32 : decode cX12_best 32 = .ok (.iload 4, 2) := by decide +kernel
theorem dX12_best_34 : decode cX12_best 34 = .ok (.iconst 1, 1) := by decide +kernel
theorem dX12_best_35 : decode cX12_best 35 = .ok (.aload_n 0, 1) := by decide +kernel
theorem dX12_best_36 : decode cX12_best 36 = .ok (.getfield 291, 3) := by decide +kernel
theorem dX12_best_39 : decode cX12_best 39 = .ok (.ishl, 1) := by decide +kernel
theorem dX12_best_40 : decode cX12_best 40 = .ok (.if_icmp .ge 81, 3) := by decide +kernel
theorem dX12_best_43 : decode cX12_best 43 = .ok (.aload_n 0, 1) := by decide +kernel
theorem dX12_best_44 : decode cX12_best 44 = .ok (.iload 4, 2) := by decide +kernel
theorem dX12_best_46 : decode cX12_best 46 = .ok (.iconst 1, 1) := by decide +kernel
theorem dX12_best_47 : decode cX12_best 47 = .ok (.invokevirtual 294, 3) := by decide +kernel
theorem dX12_best_50 : decode cX12_best 50 = .ok (.aload_n 0, 1) := by decide +kernel
theorem dX12_best_51 : decode cX12_best 51 = .ok (.iload_n 3, 1) := by decide +kernel
theorem dX12_best_52 : decode cX12_best 52 = .ok (.iconst 1, 1) := by decide +kernel
theorem dX12_best_53 : decode cX12_best 53 = .ok (.invokevirtual 294, 3) := by decide +kernel
theorem dX12_best_56 : decode cX12_best 56 = .ok (.isub, 1) := by decide +kernel
theorem dX12_best_57 : decode cX12_best 57 = .ok (.istore 5, 2) := by decide +kernel
theorem dX12_best_59 : decode cX12_best 59 = .ok (.iload 5, 2) := by decide +kernel
theorem dX12_best_61 : decode cX12_best 61 = .ok (.ifCond .gt 24, 3) := by decide +kernel
theorem dX12_best_64 : decode cX12_best 64 = .ok (.iload 5, 2) := by decide +kernel
theorem dX12_best_66 : decode cX12_best 66 = .ok (.ifCond .ne 23, 3) := by decide +kernel
theorem dX12_best_69 : decode cX12_best 69 = .ok (.aload_n 0, 1) := by decide +kernel
theorem dX12_best_70 : decode cX12_best 70 = .ok (.iload 4, 2) := by decide +kernel
theorem dX12_best_72 : decode cX12_best 72 = .ok (.iconst 2, 1) := by decide +kernel
theorem dX12_best_73 : decode cX12_best 73 = .ok (.invokevirtual 294, 3) := by decide +kernel
theorem dX12_best_76 : decode cX12_best 76 = .ok (.aload_n 0, 1) := by decide +kernel
theorem dX12_best_77 : decode cX12_best 77 = .ok (.iload_n 3, 1) := by decide +kernel
theorem dX12_best_78 : decode cX12_best 78 = .ok (.iconst 2, 1) := by decide +kernel
theorem dX12_best_79 : decode cX12_best 79 = .ok (.invokevirtual 294, 3) := by decide +kernel
theorem dX12_best_82 : decode cX12_best 82 = .ok (.if_icmp .ge 7, 3) := by decide +kernel
theorem dX12_best_85 : decode cX12_best 85 = .ok (.iconst 1, 1) := by decide +kernel
theorem dX12_best_86 : decode cX12_best 86 = .ok (.goto 4, 3) := by decide +kernel
theorem dX12_best_89 : decode cX12_best 89 = .ok (.iconst 0, 1) := by decide +kernel
theorem dX12_best_90 : decode cX12_best 90 = .ok (.istore 6, 2) := by decide +kernel
theorem dX12_best_92 : decode cX12_best 92 = .ok (.aload_n 0, 1) := by decide +kernel
theorem dX12_best_93 : decode cX12_best 93 = .ok (.iload 4, 2) := by decide +kernel
theorem dX12_best_95 : decode cX12_best 95 = .ok (.iconst 2, 1) := by decide +kernel
theorem dX12_best_96 : decode cX12_best 96 = .ok (.invokevirtual 294, 3) := by decide +kernel
theorem dX12_best_99 : decode cX12_best 99 = .ok (.iload_n 1, 1) := by decide +kernel
theorem dX12_best_100 : decode cX12_best 100 = .ok (.if_icmp .gt 13, 3) := by decide +kernel
theorem dX12_best_103 : decode cX12_best 103 = .ok (.iload 6, 2) := by decide +kernel
theorem dX12_best_105 : decode cX12_best 105 = .ok (.ifCond .eq 8, 3) := by decide +kernel
theorem dX12_best_108 : decode cX12_best 108 = .ok (.iload 4, 2) := by decide +kernel
theorem dX12_best_110 : decode cX12_best 110 = .ok (.goto 4, 3) := by decide +kernel
theorem dX12_best_113 : decode cX12_best 113 = .ok (.iload_n 3, 1) := by decide +kernel
theorem dX12_best_114 : decode cX12_best 114 = .ok (.istore_n 3, 1) := by decide +kernel
theorem dX12_best_115 : decode cX12_best 115 = .ok (.iinc 4 1, 3) := by decide +kernel
theorem dX12_best_118 : decode cX12_best 118 = .ok (.goto (-86), 3) := by decide +kernel
theorem dX12_best_121 : decode cX12_best 121 = .ok (.iload_n 2, 1) := by decide +kernel
theorem dX12_best_122 : decode cX12_best 122 = .ok (.ifCond .ne 7, 3) := by decide +kernel
theorem dX12_best_125 : decode cX12_best 125 = .ok (.iload_n 3, 1) := by decide +kernel
theorem dX12_best_126 : decode cX12_best 126 = .ok (.goto 9, 3) := by decide +kernel
theorem dX12_best_129 : decode cX12_best 129 = .ok (.aload_n 0, 1) := by decide +kernel
theorem dX12_best_130 : decode cX12_best 130 = .ok (.iload_n 3, 1) := by decide +kernel
theorem dX12_best_131 : decode cX12_best 131 = .ok (.iload_n 2, 1) := by decide +kernel
theorem dX12_best_132 : decode cX12_best 132 = .ok (.invokevirtual 294, 3) := by decide +kernel
theorem dX12_best_135 : decode cX12_best 135 = .ok (.ireturn, 1) := by decide +kernel
theorem dX12_doubtful_0 : decode cX12_doubtful 0 = .ok (.iconst 0, 1) := by decide +kernel
theorem dX12_doubtful_1 : decode cX12_doubtful 1 = .ok (.istore_n 1, 1) := by decide +kernel
theorem dX12_doubtful_2 : decode cX12_doubtful 2 = .ok (.iconst 0, 1) := by decide +kernel
theorem dX12_doubtful_3 : decode cX12_doubtful 3 = .ok (.istore_n 2, 1) := by decide +kernel
theorem dX12_doubtful_4 : decode cX12_doubtful 4 = .ok (.iload_n 2, 1) := by decide +kernel
theorem dX12_doubtful_5 : decode cX12_doubtful 5 = .ok (.aload_n 0, 1) := by decide +kernel
theorem dX12_doubtful_6 : decode cX12_doubtful 6 = .ok (.getfield 291, 3) := by decide +kernel
theorem dX12_doubtful_9 : decode cX12_doubtful 9 = .ok (.if_icmp .ge 32, 3) := by decide +kernel
theorem dX12_doubtful_12 : decode cX12_doubtful 12 = .ok (.iload_n 1, 1) := by decide +kernel
theorem dX12_doubtful_13 : decode cX12_doubtful 13 = .ok (.aload_n 0, 1) := by decide +kernel
theorem dX12_doubtful_14 : decode cX12_doubtful 14 = .ok (.aload_n 0, 1) := by decide +kernel
theorem dX12_doubtful_15 : decode cX12_doubtful 15 = .ok (.getfield 58, 3) := by decide +kernel
theorem dX12_doubtful_18 : decode cX12_doubtful 18 = .ok (.iload_n 2, 1) := by decide +kernel
theorem dX12_doubtful_19 : decode cX12_doubtful 19 = .ok (.iaload, 1) := by decide +kernel
theorem dX12_doubtful_20 : decode cX12_doubtful 20 = .ok (.invokevirtual 257, 3) := by decide +kernel
theorem dX12_doubtful_23 : decode cX12_doubtful 23 = .ok (.ifCond .ge 7, 3) := by decide +kernel
theorem dX12_doubtful_26 : decode cX12_doubtful 26 = .ok (.iconst 0, 1) := by decide +kernel
theorem dX12_doubtful_27 : decode cX12_doubtful 27 = .ok (.goto 6, 3) := by decide +kernel
theorem dX12_doubtful_30 : decode cX12_doubtful 30 = .ok (.iconst 1, 1) := by decide +kernel
theorem dX12_doubtful_31 : decode cX12_doubtful 31 = .ok (.iload_n 2, 1) := by decide +kernel
theorem dX12_doubtful_32 : decode cX12_doubtful 32 = .ok (.ishl, 1) := by decide +kernel
theorem dX12_doubtful_33 : decode cX12_doubtful 33 = .ok (.ior, 1) := by decide +kernel
theorem dX12_doubtful_34 : decode cX12_doubtful 34 = .ok (.istore_n 1, 1) := by decide +kernel
theorem dX12_doubtful_35 : decode cX12_doubtful 35 = .ok (.iinc 2 1, 3) := by decide +kernel
theorem dX12_doubtful_38 : decode cX12_doubtful 38 = .ok (.goto (-34), 3) := by decide +kernel
theorem dX12_doubtful_41 : decode cX12_doubtful 41 = .ok (.iload_n 1, 1) := by decide +kernel
theorem dX12_doubtful_42 : decode cX12_doubtful 42 = .ok (.ireturn, 1) := by decide +kernel
theorem dX12_noSheet_0 : decode cX12_noSheet 0 = .ok (.iload_n 0, 1) := by decide +kernel
theorem dX12_noSheet_1 : decode cX12_noSheet 1 = .ok (.i2l, 1) := by decide +kernel
theorem dX12_noSheet_2 : decode cX12_noSheet 2 = .ok (.lconst 0, 1) := by decide +kernel
theorem dX12_noSheet_3 : decode cX12_noSheet 3 = .ok (.ldc2_w 260, 3) := by decide +kernel
theorem dX12_noSheet_6 : decode cX12_noSheet 6 = .ok (.invokestatic 99, 3) := by decide +kernel
theorem dX12_noSheet_9 : decode cX12_noSheet 9 = .ok (.ifCond .ne 7, 3) := by decide +kernel
theorem dX12_noSheet_12 : decode cX12_noSheet 12 = .ok (.iconst 1, 1) := by decide +kernel
theorem dX12_noSheet_13 : decode cX12_noSheet 13 = .ok (.goto 4, 3) := by decide +kernel
theorem dX12_noSheet_16 : decode cX12_noSheet 16 = .ok (.iconst 0, 1) := by decide +kernel
theorem dX12_noSheet_17 : decode cX12_noSheet 17 = .ok (.ireturn, 1) := by decide +kernel
theorem dX12_sheet_0 : decode cX12_sheet 0 = .ok (.iload_n 1, 1) := by decide +kernel
theorem dX12_sheet_1 : decode cX12_sheet 1 = .ok (.invokestatic 110, 3) := by decide +kernel
theorem dX12_sheet_4 : decode cX12_sheet 4 = .ok (.ifCond .eq 9, 3) := by decide +kernel
theorem dX12_sheet_7 : decode cX12_sheet 7 = .ok (.aload_n 0, 1) := by decide +kernel
theorem dX12_sheet_8 : decode cX12_sheet 8 = .ok (.iconst (-1), 1) := by decide +kernel
theorem dX12_sheet_9 : decode cX12_sheet 9 = .ok (.invokevirtual 114, 3) := by decide +kernel
theorem dX12_sheet_12 : decode cX12_sheet 12 = .ok (.ireturn, 1) := by decide +kernel
theorem dX12_sheet_13 : decode cX12_sheet 13 = .ok (.iload_n 2, 1) := by decide +kernel
theorem dX12_sheet_14 : decode cX12_sheet 14 = .ok (.invokestatic 119, 3) := by decide +kernel
theorem dX12_sheet_17 : decode cX12_sheet 17 = .ok (.ifCond .eq 9, 3) := by decide +kernel
theorem dX12_sheet_20 : decode cX12_sheet 20 = .ok (.iload_n 3, 1) := by decide +kernel
theorem dX12_sheet_21 : decode cX12_sheet 21 = .ok (.bipush 60, 2) := by decide +kernel
theorem dX12_sheet_23 : decode cX12_sheet 23 = .ok (.if_icmp .le 10, 3) := by decide +kernel
theorem dX12_sheet_26 : decode cX12_sheet 26 = .ok (.aload_n 0, 1) := by decide +kernel
theorem dX12_sheet_27 : decode cX12_sheet 27 = .ok (.bipush (-2), 2) := by decide +kernel
theorem dX12_sheet_29 : decode cX12_sheet 29 = .ok (.invokevirtual 114, 3) := by decide +kernel
theorem dX12_sheet_32 : decode cX12_sheet 32 = .ok (.ireturn, 1) := by decide +kernel
theorem dX12_sheet_33 : decode cX12_sheet 33 = .ok (.iload_n 3, 1) := by decide +kernel
theorem dX12_sheet_34 : decode cX12_sheet 34 = .ok (.ifCond .ge 9, 3) := by decide +kernel
theorem dX12_sheet_37 : decode cX12_sheet 37 = .ok (.aload_n 0, 1) := by decide +kernel
theorem dX12_sheet_38 : decode cX12_sheet 38 = .ok (.iconst 4, 1) := by decide +kernel
theorem dX12_sheet_39 : decode cX12_sheet 39 = .ok (.invokevirtual 89, 3) := by decide +kernel
theorem dX12_sheet_42 : decode cX12_sheet 42 = .ok (.ireturn, 1) := by decide +kernel
theorem dX12_sheet_43 : decode cX12_sheet 43 = .ok (.aload_n 0, 1) := by decide +kernel
theorem dX12_sheet_44 : decode cX12_sheet 44 = .ok (.getfield 67, 3) := by decide +kernel
theorem dX12_sheet_47 : decode cX12_sheet 47 = .ok (.iload_n 1, 1) := by decide +kernel
theorem dX12_sheet_48 : decode cX12_sheet 48 = .ok (.iload_n 3, 1) := by decide +kernel
theorem dX12_sheet_49 : decode cX12_sheet 49 = .ok (.iastore, 1) := by decide +kernel
theorem dX12_sheet_50 : decode cX12_sheet 50 = .ok (.aload_n 0, 1) := by decide +kernel
theorem dX12_sheet_51 : decode cX12_sheet 51 = .ok (.getfield 70, 3) := by decide +kernel
theorem dX12_sheet_54 : decode cX12_sheet 54 = .ok (.iload_n 1, 1) := by decide +kernel
theorem dX12_sheet_55 : decode cX12_sheet 55 = .ok (.iload_n 2, 1) := by decide +kernel
theorem dX12_sheet_56 : decode cX12_sheet 56 = .ok (.iastore, 1) := by decide +kernel
theorem dX12_sheet_57 : decode cX12_sheet 57 = .ok (.iconst 0, 1) := by decide +kernel
theorem dX12_sheet_58 : decode cX12_sheet 58 = .ok (.istore 4, 2) := by decide +kernel
theorem dX12_sheet_60 : decode cX12_sheet 60 = .ok (.iload 4, 2) := by decide +kernel
theorem dX12_sheet_62 : decode cX12_sheet 62 = .ok (.iload_n 3, 1) := by decide +kernel
theorem dX12_sheet_63 : decode cX12_sheet 63 = .ok (.if_icmp .ge 22, 3) := by decide +kernel
theorem dX12_sheet_66 : decode cX12_sheet 66 = .ok (.aload_n 0, 1) := by decide +kernel
theorem dX12_sheet_67 : decode cX12_sheet 67 = .ok (.getfield 73, 3) := by decide +kernel
theorem dX12_sheet_70 : decode cX12_sheet 70 = .ok (.bipush 60, 2) := by decide +kernel
theorem dX12_sheet_72 : decode cX12_sheet 72 = .ok (.iload_n 1, 1) := by decide +kernel
theorem dX12_sheet_73 : decode cX12_sheet 73 = .ok (.imul, 1) := by decide +kernel
theorem dX12_sheet_74 : decode cX12_sheet 74 = .ok (.iload 4, 2) := by decide +kernel
theorem dX12_sheet_76 : decode cX12_sheet 76 = .ok (.iadd, 1) := by decide +kernel
theorem dX12_sheet_77 : decode cX12_sheet 77 = .ok (.iconst 0, 1) := by decide +kernel
theorem dX12_sheet_78 : decode cX12_sheet 78 = .ok (.iastore, 1) := by decide +kernel
theorem dX12_sheet_79 : decode cX12_sheet 79 = .ok (.iinc 4 1, 3) := by decide +kernel
theorem dX12_sheet_82 : decode cX12_sheet 82 = .ok (.goto (-22), 3) := by decide +kernel
theorem dX12_sheet_85 : decode cX12_sheet 85 = .ok (.aload_n 0, 1) := by decide +kernel
theorem dX12_sheet_86 : decode cX12_sheet 86 = .ok (.iconst 1, 1) := by decide +kernel
theorem dX12_sheet_87 : decode cX12_sheet 87 = .ok (.invokevirtual 114, 3) := by decide +kernel
theorem dX12_sheet_90 : decode cX12_sheet 90 = .ok (.ireturn, 1) := by decide +kernel
theorem dX12_lose_0 : decode cX12_lose 0 = .ok (.iload_n 1, 1) := by decide +kernel
theorem dX12_lose_1 : decode cX12_lose 1 = .ok (.invokestatic 110, 3) := by decide +kernel
theorem dX12_lose_4 : decode cX12_lose 4 = .ok (.ifCond .eq 5, 3) := by decide +kernel
theorem dX12_lose_7 : decode cX12_lose 7 = .ok (.iconst (-1), 1) := by decide +kernel
theorem dX12_lose_8 : decode cX12_lose 8 = .ok (.ireturn, 1) := by decide +kernel
theorem dX12_lose_9 : decode cX12_lose 9 = .ok (.aload_n 0, 1) := by decide +kernel
theorem dX12_lose_10 : decode cX12_lose 10 = .ok (.getfield 67, 3) := by decide +kernel
theorem dX12_lose_13 : decode cX12_lose 13 = .ok (.iload_n 1, 1) := by decide +kernel
theorem dX12_lose_14 : decode cX12_lose 14 = .ok (.iaload, 1) := by decide +kernel
theorem dX12_lose_15 : decode cX12_lose 15 = .ok (.ifCond .ge 7, 3) := by decide +kernel
theorem dX12_lose_18 : decode cX12_lose 18 = .ok (.iconst 0, 1) := by decide +kernel
theorem dX12_lose_19 : decode cX12_lose 19 = .ok (.goto 4, 3) := by decide +kernel
theorem dX12_lose_22 : decode cX12_lose 22 = .ok (.iconst 1, 1) := by decide +kernel
theorem dX12_lose_23 : decode cX12_lose 23 = .ok (.istore_n 2, 1) := by decide +kernel
theorem dX12_lose_24 : decode cX12_lose 24 = .ok (.aload_n 0, 1) := by decide +kernel
theorem dX12_lose_25 : decode cX12_lose 25 = .ok (.getfield 67, 3) := by decide +kernel
theorem dX12_lose_28 : decode cX12_lose 28 = .ok (.iload_n 1, 1) := by decide +kernel
theorem dX12_lose_29 : decode cX12_lose 29 = .ok (.iconst (-1), 1) := by decide +kernel
theorem dX12_lose_30 : decode cX12_lose 30 = .ok (.iastore, 1) := by decide +kernel
theorem dX12_lose_31 : decode cX12_lose 31 = .ok (.iload_n 2, 1) := by decide +kernel
theorem dX12_lose_32 : decode cX12_lose 32 = .ok (.ireturn, 1) := by decide +kernel
theorem dX12_noCell_0 : decode cX12_noCell 0 = .ok (.aload_n 0, 1) := by decide +kernel
theorem dX12_noCell_1 : decode cX12_noCell 1 = .ok (.getfield 67, 3) := by decide +kernel
theorem dX12_noCell_4 : decode cX12_noCell 4 = .ok (.iload_n 1, 1) := by decide +kernel
theorem dX12_noCell_5 : decode cX12_noCell 5 = .ok (.iaload, 1) := by decide +kernel
theorem dX12_noCell_6 : decode cX12_noCell 6 = .ok (.ifCond .ge 7, 3) := by decide +kernel
theorem dX12_noCell_9 : decode cX12_noCell 9 = .ok (.iconst 1, 1) := by decide +kernel
theorem dX12_noCell_10 : decode cX12_noCell 10 = .ok (.goto 26, 3) := by decide +kernel
theorem dX12_noCell_13 : decode cX12_noCell 13 = .ok (.iload_n 2, 1) := by decide +kernel
theorem dX12_noCell_14 : decode cX12_noCell 14 = .ok (.i2l, 1) := by decide +kernel
theorem dX12_noCell_15 : decode cX12_noCell 15 = .ok (.lconst 0, 1) := by decide +kernel
theorem dX12_noCell_16 : decode cX12_noCell 16 = .ok (.aload_n 0, 1) := by decide +kernel
theorem dX12_noCell_17 : decode cX12_noCell 17 = .ok (.getfield 67, 3) := by decide +kernel
theorem dX12_noCell_20 : decode cX12_noCell 20 = .ok (.iload_n 1, 1) := by decide +kernel
theorem dX12_noCell_21 : decode cX12_noCell 21 = .ok (.iaload, 1) := by decide +kernel
theorem dX12_noCell_22 : decode cX12_noCell 22 = .ok (.i2l, 1) := by decide +kernel
theorem dX12_noCell_23 : decode cX12_noCell 23 = .ok (.lconst 1, 1) := by decide +kernel
theorem dX12_noCell_24 : decode cX12_noCell 24 = .ok (.lsub, 1) := by decide +kernel
theorem dX12_noCell_25 : decode cX12_noCell 25 = .ok (.invokestatic 99, 3) := by decide +kernel
theorem dX12_noCell_28 : decode cX12_noCell 28 = .ok (.ifCond .eq 7, 3) := by decide +kernel
theorem dX12_noCell_31 : decode cX12_noCell 31 = .ok (.iconst 0, 1) := by decide +kernel
theorem dX12_noCell_32 : decode cX12_noCell 32 = .ok (.goto 4, 3) := by decide +kernel
theorem dX12_noCell_35 : decode cX12_noCell 35 = .ok (.iconst 3, 1) := by decide +kernel
theorem dX12_noCell_36 : decode cX12_noCell 36 = .ok (.ireturn, 1) := by decide +kernel
theorem dX12_put_0 : decode cX12_put 0 = .ok (.iload_n 1, 1) := by decide +kernel
theorem dX12_put_1 : decode cX12_put 1 = .ok (.invokestatic 110, 3) := by decide +kernel
theorem dX12_put_4 : decode cX12_put 4 = .ok (.ifCond .eq 9, 3) := by decide +kernel
theorem dX12_put_7 : decode cX12_put 7 = .ok (.aload_n 0, 1) := by decide +kernel
theorem dX12_put_8 : decode cX12_put 8 = .ok (.iconst (-1), 1) := by decide +kernel
theorem dX12_put_9 : decode cX12_put 9 = .ok (.invokevirtual 114, 3) := by decide +kernel
theorem dX12_put_12 : decode cX12_put 12 = .ok (.ireturn, 1) := by decide +kernel
theorem dX12_put_13 : decode cX12_put 13 = .ok (.aload_n 0, 1) := by decide +kernel
theorem dX12_put_14 : decode cX12_put 14 = .ok (.iload_n 1, 1) := by decide +kernel
theorem dX12_put_15 : decode cX12_put 15 = .ok (.iload_n 2, 1) := by decide +kernel
theorem dX12_put_16 : decode cX12_put 16 = .ok (.invokevirtual 297, 3) := by decide +kernel
theorem dX12_put_19 : decode cX12_put 19 = .ok (.ifCond .le 14, 3) := by decide +kernel
theorem dX12_put_22 : decode cX12_put 22 = .ok (.aload_n 0, 1) := by decide +kernel
theorem dX12_put_23 : decode cX12_put 23 = .ok (.aload_n 0, 1) := by decide +kernel
theorem dX12_put_24 : decode cX12_put 24 = .ok (.iload_n 1, 1) := by decide +kernel
theorem dX12_put_25 : decode cX12_put 25 = .ok (.iload_n 2, 1) := by decide +kernel
theorem dX12_put_26 : decode cX12_put 26 = .ok (.invokevirtual 297, 3) := by decide +kernel
theorem dX12_put_29 : decode cX12_put 29 = .ok (.invokevirtual 89, 3) := by decide +kernel
theorem dX12_put_32 : decode cX12_put 32 = .ok (.ireturn, 1) := by decide +kernel
theorem dX12_put_33 : decode cX12_put 33 = .ok (.aload_n 0, 1) := by decide +kernel
theorem dX12_put_34 : decode cX12_put 34 = .ok (.getfield 73, 3) := by decide +kernel
theorem dX12_put_37 : decode cX12_put 37 = .ok (.bipush 60, 2) := by decide +kernel
theorem dX12_put_39 : decode cX12_put 39 = .ok (.iload_n 1, 1) := by decide +kernel
theorem dX12_put_40 : decode cX12_put 40 = .ok (.imul, 1) := by decide +kernel
theorem dX12_put_41 : decode cX12_put 41 = .ok (.iload_n 2, 1) := by decide +kernel
theorem dX12_put_42 : decode cX12_put 42 = .ok (.iadd, 1) := by decide +kernel
theorem dX12_put_43 : decode cX12_put 43 = .ok (.aload_n 0, 1) := by decide +kernel
theorem dX12_put_44 : decode cX12_put 44 = .ok (.getfield 70, 3) := by decide +kernel
theorem dX12_put_47 : decode cX12_put 47 = .ok (.iload_n 1, 1) := by decide +kernel
theorem dX12_put_48 : decode cX12_put 48 = .ok (.iaload, 1) := by decide +kernel
theorem dX12_put_49 : decode cX12_put 49 = .ok (.ifCond .ne 8, 3) := by decide +kernel
theorem dX12_put_52 : decode cX12_put 52 = .ok (.iload_n 3, 1) := by decide +kernel
theorem dX12_put_53 : decode cX12_put 53 = .ok (.i2b, 1) := by decide +kernel
theorem dX12_put_54 : decode cX12_put 54 = .ok (.goto 19, 3) := by decide +kernel
theorem dX12_put_57 : decode cX12_put 57 = .ok (.aload_n 0, 1) := by decide +kernel
theorem dX12_put_58 : decode cX12_put 58 = .ok (.getfield 70, 3) := by decide +kernel
theorem dX12_put_61 : decode cX12_put 61 = .ok (.iload_n 1, 1) := by decide +kernel
theorem dX12_put_62 : decode cX12_put 62 = .ok (.iaload, 1) := by decide +kernel
theorem dX12_put_63 : decode cX12_put 63 = .ok (.iconst 1, 1) := by decide +kernel
theorem dX12_put_64 : decode cX12_put 64 = .ok (.if_icmp .ne 8, 3) := by decide +kernel
theorem dX12_put_67 : decode cX12_put 67 = .ok (.iload_n 3, 1) := by decide +kernel
theorem dX12_put_68 : decode cX12_put 68 = .ok (.i2s, 1) := by decide +kernel
theorem dX12_put_69 : decode cX12_put 69 = .ok (.goto 4, 3) := by decide +kernel
theorem dX12_put_72 : decode cX12_put 72 = .ok (.iload_n 3, 1) := by decide +kernel
theorem dX12_put_73 : decode cX12_put 73 = .ok (.iastore, 1) := by decide +kernel
theorem dX12_put_74 : decode cX12_put 74 = .ok (.aload_n 0, 1) := by decide +kernel
theorem dX12_put_75 : decode cX12_put 75 = .ok (.iconst 1, 1) := by decide +kernel
theorem dX12_put_76 : decode cX12_put 76 = .ok (.invokevirtual 114, 3) := by decide +kernel
theorem dX12_put_79 : decode cX12_put 79 = .ok (.ireturn, 1) := by decide +kernel
theorem dX12_cell_0 : decode cX12_cell 0 = .ok (.aload_n 0, 1) := by decide +kernel
theorem dX12_cell_1 : decode cX12_cell 1 = .ok (.iconst 0, 1) := by decide +kernel
theorem dX12_cell_2 : decode cX12_cell 2 = .ok (.putfield 81, 3) := by decide +kernel
theorem dX12_cell_5 : decode cX12_cell 5 = .ok (.iload_n 1, 1) := by decide +kernel
theorem dX12_cell_6 : decode cX12_cell 6 = .ok (.invokestatic 110, 3) := by decide +kernel
theorem dX12_cell_9 : decode cX12_cell 9 = .ok (.ifCond .ne 10, 3) := by decide +kernel
theorem dX12_cell_12 : decode cX12_cell 12 = .ok (.iload_n 3, 1) := by decide +kernel
theorem dX12_cell_13 : decode cX12_cell 13 = .ok (.invokestatic 119, 3) := by decide +kernel
theorem dX12_cell_16 : decode cX12_cell 16 = .ok (.ifCond .ne 7, 3) := by decide +kernel
theorem dX12_cell_19 : decode cX12_cell 19 = .ok (.invokestatic 85, 3) := by decide +kernel
theorem dX12_cell_22 : decode cX12_cell 22 = .ok (.lreturn, 1) := by decide +kernel
theorem dX12_cell_23 : decode cX12_cell 23 = .ok (.aload_n 0, 1) := by decide +kernel
theorem dX12_cell_24 : decode cX12_cell 24 = .ok (.getfield 67, 3) := by decide +kernel
theorem dX12_cell_27 : decode cX12_cell 27 = .ok (.iload_n 1, 1) := by decide +kernel
theorem dX12_cell_28 : decode cX12_cell 28 = .ok (.iaload, 1) := by decide +kernel
theorem dX12_cell_29 : decode cX12_cell 29 = .ok (.ifCond .lt 19, 3) := by decide +kernel
theorem dX12_cell_32 : decode cX12_cell 32 = .ok (.aload_n 0, 1) := by decide +kernel
theorem dX12_cell_33 : decode cX12_cell 33 = .ok (.getfield 70, 3) := by decide +kernel
theorem dX12_cell_36 : decode cX12_cell 36 = .ok (.iload_n 1, 1) := by decide +kernel
theorem dX12_cell_37 : decode cX12_cell 37 = .ok (.iaload, 1) := by decide +kernel
theorem dX12_cell_38 : decode cX12_cell 38 = .ok (.iload_n 3, 1) := by decide +kernel
theorem dX12_cell_39 : decode cX12_cell 39 = .ok (.if_icmp .eq 9, 3) := by decide +kernel
theorem dX12_cell_42 : decode cX12_cell 42 = .ok (.aload_n 0, 1) := by decide +kernel
theorem dX12_cell_43 : decode cX12_cell 43 = .ok (.iconst 2, 1) := by decide +kernel
theorem dX12_cell_44 : decode cX12_cell 44 = .ok (.invokevirtual 300, 3) := by decide +kernel
theorem dX12_cell_47 : decode cX12_cell 47 = .ok (.lreturn, 1) := by decide +kernel
theorem dX12_cell_48 : decode cX12_cell 48 = .ok (.aload_n 0, 1) := by decide +kernel
theorem dX12_cell_49 : decode cX12_cell 49 = .ok (.iload_n 1, 1) := by decide +kernel
theorem dX12_cell_50 : decode cX12_cell 50 = .ok (.iload_n 2, 1) := by decide +kernel
theorem dX12_cell_51 : decode cX12_cell 51 = .ok (.invokevirtual 297, 3) := by decide +kernel
theorem dX12_cell_54 : decode cX12_cell 54 = .ok (.ifCond .le 16, 3) := by decide +kernel
theorem dX12_cell_57 : decode cX12_cell 57 = .ok (.aload_n 0, 1) := by decide +kernel
theorem dX12_cell_58 : decode cX12_cell 58 = .ok (.aload_n 0, 1) := by decide +kernel
theorem dX12_cell_59 : decode cX12_cell 59 = .ok (.iload_n 1, 1) := by decide +kernel
theorem dX12_cell_60 : decode cX12_cell 60 = .ok (.iload_n 2, 1) := by decide +kernel
theorem dX12_cell_61 : decode cX12_cell 61 = .ok (.invokevirtual 297, 3) := by decide +kernel
theorem dX12_cell_64 : decode cX12_cell 64 = .ok (.invokevirtual 300, 3) := by decide +kernel
theorem dX12_cell_67 : decode cX12_cell 67 = .ok (.goto 15, 3) := by decide +kernel
theorem dX12_cell_70 : decode cX12_cell 70 = .ok (.aload_n 0, 1) := by decide +kernel
theorem dX12_cell_71 : decode cX12_cell 71 = .ok (.getfield 73, 3) := by decide +kernel
theorem dX12_cell_74 : decode cX12_cell 74 = .ok (.bipush 60, 2) := by decide +kernel
theorem dX12_cell_76 : decode cX12_cell 76 = .ok (.iload_n 1, 1) := by decide +kernel
theorem dX12_cell_77 : decode cX12_cell 77 = .ok (.imul, 1) := by decide +kernel
theorem dX12_cell_78 : decode cX12_cell 78 = .ok (.iload_n 2, 1) := by decide +kernel
theorem dX12_cell_79 : decode cX12_cell 79 = .ok (.iadd, 1) := by decide +kernel
theorem dX12_cell_80 : decode cX12_cell 80 = .ok (.iaload, 1) := by decide +kernel
theorem dX12_cell_81 : decode cX12_cell 81 = .ok (.i2l, 1) := by decide +kernel
theorem dX12_cell_82 : decode cX12_cell 82 = .ok (.lreturn, 1) := by decide +kernel
theorem dX12_isBeyond_0 : decode cX12_isBeyond 0 = .ok (.iload_n 0, 1) := by decide +kernel
theorem dX12_isBeyond_1 : decode cX12_isBeyond 1 = .ok (.ifCond .lt 19, 3) := by decide +kernel
theorem dX12_isBeyond_4 : decode cX12_isBeyond 4 = .ok (.lload_n 1, 1) := by decide +kernel
theorem dX12_isBeyond_5 : decode cX12_isBeyond 5 = .ok (.lconst 0, 1) := by decide +kernel
theorem dX12_isBeyond_6 : decode cX12_isBeyond 6 = .ok (.lcmp, 1) := by decide +kernel
theorem dX12_isBeyond_7 : decode cX12_isBeyond 7 = .ok (.ifCond .lt 13, 3) := by decide +kernel
theorem dX12_isBeyond_10 : decode cX12_isBeyond 10 = .ok (.iload_n 0, 1) := by decide +kernel
theorem dX12_isBeyond_11 : decode cX12_isBeyond 11 = .ok (.i2l, 1) := by decide +kernel
theorem dX12_isBeyond_12 : decode cX12_isBeyond 12 = .ok (.lload_n 1, 1) := by decide +kernel
theorem dX12_isBeyond_13 : decode cX12_isBeyond 13 = .ok (.ladd, 1) := by decide +kernel
theorem dX12_isBeyond_14 : decode cX12_isBeyond 14 = .ok (.iload_n 3, 1) := by decide +kernel
theorem dX12_isBeyond_15 : decode cX12_isBeyond 15 = .ok (.i2l, 1) := by decide +kernel
theorem dX12_isBeyond_16 : decode cX12_isBeyond 16 = .ok (.lcmp, 1) := by decide +kernel
theorem dX12_isBeyond_17 : decode cX12_isBeyond 17 = .ok (.ifCond .le 7, 3) := by decide +kernel
theorem dX12_isBeyond_20 : decode cX12_isBeyond 20 = .ok (.iconst 1, 1) := by decide +kernel
theorem dX12_isBeyond_21 : decode cX12_isBeyond 21 = .ok (.goto 4, 3) := by decide +kernel
theorem dX12_isBeyond_24 : decode cX12_isBeyond 24 = .ok (.iconst 0, 1) := by decide +kernel
theorem dX12_isBeyond_25 : decode cX12_isBeyond 25 = .ok (.ireturn, 1) := by decide +kernel
theorem dX12_copy_0 : decode cX12_copy 0 = .ok (.iload_n 1, 1) := by decide +kernel
theorem dX12_copy_1 : decode cX12_copy 1 = .ok (.invokestatic 110, 3) := by decide +kernel
theorem dX12_copy_4 : decode cX12_copy 4 = .ok (.ifCond .ne 10, 3) := by decide +kernel
theorem dX12_copy_7 : decode cX12_copy 7 = .ok (.iload_n 3, 1) := by decide +kernel
theorem dX12_copy_8 : decode cX12_copy 8 = .ok (.invokestatic 110, 3) := by decide +kernel
theorem dX12_copy_11 : decode cX12_copy 11 = .ok (.ifCond .eq 9, 3) := by decide +kernel
theorem dX12_copy_14 : decode cX12_copy 14 = .ok (.aload_n 0, 1) := by decide +kernel
theorem dX12_copy_15 : decode cX12_copy 15 = .ok (.iconst (-1), 1) := by decide +kernel
theorem dX12_copy_16 : decode cX12_copy 16 = .ok (.invokevirtual 114, 3) := by decide +kernel
theorem dX12_copy_19 : decode cX12_copy 19 = .ok (.ireturn, 1) := by decide +kernel
theorem dX12_copy_20 : decode cX12_copy 20 = .ok (.aload_n 0, 1) := by decide +kernel
theorem dX12_copy_21 : decode cX12_copy 21 = .ok (.getfield 67, 3) := by decide +kernel
theorem dX12_copy_24 : decode cX12_copy 24 = .ok (.iload_n 1, 1) := by decide +kernel
theorem dX12_copy_25 : decode cX12_copy 25 = .ok (.iaload, 1) := by decide +kernel
theorem dX12_copy_26 : decode cX12_copy 26 = .ok (.ifCond .lt 12, 3) := by decide +kernel
theorem dX12_copy_29 : decode cX12_copy 29 = .ok (.aload_n 0, 1) := by decide +kernel
theorem dX12_copy_30 : decode cX12_copy 30 = .ok (.getfield 67, 3) := by decide +kernel
theorem dX12_copy_33 : decode cX12_copy 33 = .ok (.iload_n 3, 1) := by decide +kernel
theorem dX12_copy_34 : decode cX12_copy 34 = .ok (.iaload, 1) := by decide +kernel
theorem dX12_copy_35 : decode cX12_copy 35 = .ok (.ifCond .ge 9, 3) := by decide +kernel
theorem dX12_copy_38 : decode cX12_copy 38 = .ok (.aload_n 0, 1) := by decide +kernel
theorem dX12_copy_39 : decode cX12_copy 39 = .ok (.iconst 1, 1) := by decide +kernel
theorem dX12_copy_40 : decode cX12_copy 40 = .ok (.invokevirtual 89, 3) := by decide +kernel
theorem dX12_copy_43 : decode cX12_copy 43 = .ok (.ireturn, 1) := by decide +kernel
theorem dX12_copy_44 : decode cX12_copy 44 = .ok (.aload_n 0, 1) := by decide +kernel
theorem dX12_copy_45 : decode cX12_copy 45 = .ok (.getfield 70, 3) := by decide +kernel
theorem dX12_copy_48 : decode cX12_copy 48 = .ok (.iload_n 1, 1) := by decide +kernel
theorem dX12_copy_49 : decode cX12_copy 49 = .ok (.iaload, 1) := by decide +kernel
theorem dX12_copy_50 : decode cX12_copy 50 = .ok (.aload_n 0, 1) := by decide +kernel
theorem dX12_copy_51 : decode cX12_copy 51 = .ok (.getfield 70, 3) := by decide +kernel
theorem dX12_copy_54 : decode cX12_copy 54 = .ok (.iload_n 3, 1) := by decide +kernel
theorem dX12_copy_55 : decode cX12_copy 55 = .ok (.iaload, 1) := by decide +kernel
theorem dX12_copy_56 : decode cX12_copy 56 = .ok (.if_icmp .eq 9, 3) := by decide +kernel
theorem dX12_copy_59 : decode cX12_copy 59 = .ok (.aload_n 0, 1) := by decide +kernel
theorem dX12_copy_60 : decode cX12_copy 60 = .ok (.iconst 2, 1) := by decide +kernel
theorem dX12_copy_61 : decode cX12_copy 61 = .ok (.invokevirtual 89, 3) := by decide +kernel
theorem dX12_copy_64 : decode cX12_copy 64 = .ok (.ireturn, 1) := by decide +kernel
theorem dX12_copy_65 : decode cX12_copy 65 = .ok (.iload_n 2, 1) := by decide +kernel
theorem dX12_copy_66 : decode cX12_copy 66 = .ok (.iload 5, 2) := by decide +kernel
theorem dX12_copy_68 : decode cX12_copy 68 = .ok (.i2l, 1) := by decide +kernel
theorem dX12_copy_69 : decode cX12_copy 69 = .ok (.aload_n 0, 1) := by decide +kernel
theorem dX12_copy_70 : decode cX12_copy 70 = .ok (.getfield 67, 3) := by decide +kernel
theorem dX12_copy_73 : decode cX12_copy 73 = .ok (.iload_n 1, 1) := by decide +kernel
theorem dX12_copy_74 : decode cX12_copy 74 = .ok (.iaload, 1) := by decide +kernel
theorem dX12_copy_75 : decode cX12_copy 75 = .ok (.invokestatic 93, 3) := by decide +kernel
theorem dX12_copy_78 : decode cX12_copy 78 = .ok (.ifCond .ne 20, 3) := by decide +kernel
theorem dX12_copy_81 : decode cX12_copy 81 = .ok (.iload 4, 2) := by decide +kernel
theorem dX12_copy_83 : decode cX12_copy 83 = .ok (.iload 5, 2) := by decide +kernel
theorem dX12_copy_85 : decode cX12_copy 85 = .ok (.i2l, 1) := by decide +kernel
theorem dX12_copy_86 : decode cX12_copy 86 = .ok (.aload_n 0, 1) := by decide +kernel
theorem dX12_copy_87 : decode cX12_copy 87 = .ok (.getfield 67, 3) := by decide +kernel
theorem dX12_copy_90 : decode cX12_copy 90 = .ok (.iload_n 3, 1) := by decide +kernel
theorem dX12_copy_91 : decode cX12_copy 91 = .ok (.iaload, 1) := by decide +kernel
theorem dX12_copy_92 : decode cX12_copy 92 = .ok (.invokestatic 93, 3) := by decide +kernel
theorem dX12_copy_95 : decode cX12_copy 95 = .ok (.ifCond .eq 9, 3) := by decide +kernel
theorem dX12_copy_98 : decode cX12_copy 98 = .ok (.aload_n 0, 1) := by decide +kernel
theorem dX12_copy_99 : decode cX12_copy 99 = .ok (.iconst 3, 1) := by decide +kernel
theorem dX12_copy_100 : decode cX12_copy 100 = .ok (.invokevirtual 89, 3) := by decide +kernel
theorem dX12_copy_103 : decode cX12_copy 103 = .ok (.ireturn, 1) := by decide +kernel
theorem dX12_copy_104 : decode cX12_copy 104 = .ok (.iconst 0, 1) := by decide +kernel
theorem dX12_copy_105 : decode cX12_copy 105 = .ok (.istore 6, 2) := by decide +kernel
theorem dX12_copy_107 : decode cX12_copy 107 = .ok (.iload 6, 2) := by decide +kernel
theorem dX12_copy_109 : decode cX12_copy 109 = .ok (.iload 5, 2) := by decide +kernel
theorem dX12_copy_111 : decode cX12_copy 111 = .ok (.if_icmp .ge 30, 3) := by decide +kernel
theorem dX12_copy_114 : decode cX12_copy 114 = .ok (.aload_n 0, 1) := by decide +kernel
theorem dX12_copy_115 : decode cX12_copy 115 = .ok (.getfield 76, 3) := by decide +kernel
theorem dX12_copy_118 : decode cX12_copy 118 = .ok (.iload 6, 2) := by decide +kernel
theorem dX12_copy_120 : decode cX12_copy 120 = .ok (.aload_n 0, 1) := by decide +kernel
theorem dX12_copy_121 : decode cX12_copy 121 = .ok (.getfield 73, 3) := by decide +kernel
theorem dX12_copy_124 : decode cX12_copy 124 = .ok (.bipush 60, 2) := by decide +kernel
theorem dX12_copy_126 : decode cX12_copy 126 = .ok (.iload_n 1, 1) := by decide +kernel
theorem dX12_copy_127 : decode cX12_copy 127 = .ok (.imul, 1) := by decide +kernel
theorem dX12_copy_128 : decode cX12_copy 128 = .ok (.iload_n 2, 1) := by decide +kernel
theorem dX12_copy_129 : decode cX12_copy 129 = .ok (.iadd, 1) := by decide +kernel
theorem dX12_copy_130 : decode cX12_copy 130 = .ok (.iload 6, 2) := by decide +kernel
theorem dX12_copy_132 : decode cX12_copy 132 = .ok (.iadd, 1) := by decide +kernel
theorem dX12_copy_133 : decode cX12_copy 133 = .ok (.iaload, 1) := by decide +kernel
theorem dX12_copy_134 : decode cX12_copy 134 = .ok (.iastore, 1) := by decide +kernel
theorem dX12_copy_135 : decode cX12_copy 135 = .ok (.iinc 6 1, 3) := by decide +kernel
theorem dX12_copy_138 : decode cX12_copy 138 = .ok (.goto (-31), 3) := by decide +kernel
theorem dX12_copy_141 : decode cX12_copy 141 = .ok (.iconst 0, 1) := by decide +kernel
theorem dX12_copy_142 : decode cX12_copy 142 = .ok (.istore 6, 2) := by decide +kernel
theorem dX12_copy_144 : decode cX12_copy 144 = .ok (.iload 6, 2) := by decide +kernel
theorem dX12_copy_146 : decode cX12_copy 146 = .ok (.iload 5, 2) := by decide +kernel
theorem dX12_copy_148 : decode cX12_copy 148 = .ok (.if_icmp .ge 31, 3) := by decide +kernel
theorem dX12_copy_151 : decode cX12_copy 151 = .ok (.aload_n 0, 1) := by decide +kernel
theorem dX12_copy_152 : decode cX12_copy 152 = .ok (.getfield 73, 3) := by decide +kernel
theorem dX12_copy_155 : decode cX12_copy 155 = .ok (.bipush 60, 2) := by decide +kernel
theorem dX12_copy_157 : decode cX12_copy 157 = .ok (.iload_n 3, 1) := by decide +kernel
theorem dX12_copy_158 : decode cX12_copy 158 = .ok (.imul, 1) := by decide +kernel
theorem dX12_copy_159 : decode cX12_copy 159 = .ok (.iload 4, 2) := by decide +kernel
theorem dX12_copy_161 : decode cX12_copy 161 = .ok (.iadd, 1) := by decide +kernel
theorem dX12_copy_162 : decode cX12_copy 162 = .ok (.iload 6, 2) := by decide +kernel
theorem dX12_copy_164 : decode cX12_copy 164 = .ok (.iadd, 1) := by decide +kernel
theorem dX12_copy_165 : decode cX12_copy 165 = .ok (.aload_n 0, 1) := by decide +kernel
theorem dX12_copy_166 : decode cX12_copy 166 = .ok (.getfield 76, 3) := by decide +kernel
theorem dX12_copy_169 : decode cX12_copy 169 = .ok (.iload 6, 2) := by decide +kernel
theorem dX12_copy_171 : decode cX12_copy 171 = .ok (.iaload, 1) := by decide +kernel
theorem dX12_copy_172 : decode cX12_copy 172 = .ok (.iastore, 1) := by decide +kernel
theorem dX12_copy_173 : decode cX12_copy 173 = .ok (.iinc 6 1, 3) := by decide +kernel
theorem dX12_copy_176 : decode cX12_copy 176 = .ok (.goto (-32), 3) := by decide +kernel
theorem dX12_copy_179 : decode cX12_copy 179 = .ok (.aload_n 0, 1) := by decide +kernel
theorem dX12_copy_180 : decode cX12_copy 180 = .ok (.iload 5, 2) := by decide +kernel
theorem dX12_copy_182 : decode cX12_copy 182 = .ok (.invokevirtual 114, 3) := by decide +kernel
theorem dX12_copy_185 : decode cX12_copy 185 = .ok (.ireturn, 1) := by decide +kernel
theorem dX12_traced_0 : decode cX12_traced 0 = .ok (.aload_n 0, 1) := by decide +kernel
theorem dX12_traced_1 : decode cX12_traced 1 = .ok (.bipush 31, 2) := by decide +kernel
theorem dX12_traced_3 : decode cX12_traced 3 = .ok (.aload_n 0, 1) := by decide +kernel
theorem dX12_traced_4 : decode cX12_traced 4 = .ok (.getfield 304, 3) := by decide +kernel
theorem dX12_traced_7 : decode cX12_traced 7 = .ok (.imul, 1) := by decide +kernel
theorem dX12_traced_8 : decode cX12_traced 8 = .ok (.iload_n 1, 1) := by decide +kernel
theorem dX12_traced_9 : decode cX12_traced 9 = .ok (.iadd, 1) := by decide +kernel
theorem dX12_traced_10 : decode cX12_traced 10 = .ok (.putfield 304, 3) := by decide +kernel
theorem dX12_traced_13 : decode cX12_traced 13 = .ok (.return_, 1) := by decide +kernel
theorem dX12_tell_0 : decode cX12_tell 0 = .ok (.aload_n 0, 1) := by decide +kernel
theorem dX12_tell_1 : decode cX12_tell 1 = .ok (.iload_n 1, 1) := by decide +kernel
theorem dX12_tell_2 : decode cX12_tell 2 = .ok (.invokevirtual 146, 3) := by decide +kernel
theorem dX12_tell_5 : decode cX12_tell 5 = .ok (.ifCond .eq 5, 3) := by decide +kernel
theorem dX12_tell_8 : decode cX12_tell 8 = .ok (.iconst (-1), 1) := by decide +kernel
theorem dX12_tell_9 : decode cX12_tell 9 = .ok (.ireturn, 1) := by decide +kernel
theorem dX12_tell_10 : decode cX12_tell 10 = .ok (.aload_n 0, 1) := by decide +kernel
theorem dX12_tell_11 : decode cX12_tell 11 = .ok (.iload_n 1, 1) := by decide +kernel
theorem dX12_tell_12 : decode cX12_tell 12 = .ok (.invokevirtual 227, 3) := by decide +kernel
theorem dX12_tell_15 : decode cX12_tell 15 = .ok (.ifCond .eq 6, 3) := by decide +kernel
theorem dX12_tell_18 : decode cX12_tell 18 = .ok (.bipush (-3), 2) := by decide +kernel
theorem dX12_tell_20 : decode cX12_tell 20 = .ok (.ireturn, 1) := by decide +kernel
theorem dX12_tell_21 : decode cX12_tell 21 = .ok (.aload_n 0, 1) := by decide +kernel
theorem dX12_tell_22 : decode cX12_tell 22 = .ok (.getfield 37, 3) := by decide +kernel
theorem dX12_tell_25 : decode cX12_tell 25 = .ok (.iload_n 1, 1) := by decide +kernel
theorem dX12_tell_26 : decode cX12_tell 26 = .ok (.iaload, 1) := by decide +kernel
theorem dX12_tell_27 : decode cX12_tell 27 = .ok (.istore_n 2, 1) := by decide +kernel
theorem dX12_tell_28 : decode cX12_tell 28 = .ok (.iload_n 2, 1) := by decide +kernel
theorem dX12_tell_29 : decode cX12_tell 29 = .ok (.iconst 2, 1) := by decide +kernel
theorem dX12_tell_30 : decode cX12_tell 30 = .ok (.if_icmp .ne 8, 3) := by decide +kernel
theorem dX12_tell_33 : decode cX12_tell 33 = .ok (.aload_n 0, 1) := by decide +kernel
theorem dX12_tell_34 : decode cX12_tell 34 = .ok (.iconst 3, 1) := by decide +kernel
theorem dX12_tell_35 : decode cX12_tell 35 = .ok (.invokevirtual 307, 3) := by decide +kernel
theorem dX12_tell_38 : decode cX12_tell 38 = .ok (.iload_n 2, 1) := by decide +kernel
theorem dX12_tell_39 : decode cX12_tell 39 = .ok (.ifCond .le 8, 3) := by decide +kernel
theorem dX12_tell_42 : decode cX12_tell 42 = .ok (.aload_n 0, 1) := by decide +kernel
theorem dX12_tell_43 : decode cX12_tell 43 = .ok (.iconst 2, 1) := by decide +kernel
theorem dX12_tell_44 : decode cX12_tell 44 = .ok (.invokevirtual 307, 3) := by decide +kernel
theorem dX12_tell_47 : decode cX12_tell 47 = .ok (.aload_n 0, 1) := by decide +kernel
theorem dX12_tell_48 : decode cX12_tell 48 = .ok (.iconst 1, 1) := by decide +kernel
theorem dX12_tell_49 : decode cX12_tell 49 = .ok (.invokevirtual 307, 3) := by decide +kernel
theorem dX12_tell_52 : decode cX12_tell 52 = .ok (.iload_n 2, 1) := by decide +kernel
theorem dX12_tell_53 : decode cX12_tell 53 = .ok (.iconst 2, 1) := by decide +kernel
theorem dX12_tell_54 : decode cX12_tell 54 = .ok (.if_icmp .ne 8, 3) := by decide +kernel
theorem dX12_tell_57 : decode cX12_tell 57 = .ok (.aload_n 0, 1) := by decide +kernel
theorem dX12_tell_58 : decode cX12_tell 58 = .ok (.iconst 1, 1) := by decide +kernel
theorem dX12_tell_59 : decode cX12_tell 59 = .ok (.invokevirtual 307, 3) := by decide +kernel
theorem dX12_tell_62 : decode cX12_tell 62 = .ok (.iload_n 2, 1) := by decide +kernel
theorem dX12_tell_63 : decode cX12_tell 63 = .ok (.ifCond .ne 12, 3) := by decide +kernel
theorem dX12_tell_66 : decode cX12_tell 66 = .ok (.aload_n 0, 1) := by decide +kernel
theorem dX12_tell_67 : decode cX12_tell 67 = .ok (.getfield 43, 3) := by decide +kernel
theorem dX12_tell_70 : decode cX12_tell 70 = .ok (.iload_n 1, 1) := by decide +kernel
theorem dX12_tell_71 : decode cX12_tell 71 = .ok (.iaload, 1) := by decide +kernel
theorem dX12_tell_72 : decode cX12_tell 72 = .ok (.goto 33, 3) := by decide +kernel
theorem dX12_tell_75 : decode cX12_tell 75 = .ok (.iload_n 2, 1) := by decide +kernel
theorem dX12_tell_76 : decode cX12_tell 76 = .ok (.iconst 1, 1) := by decide +kernel
theorem dX12_tell_77 : decode cX12_tell 77 = .ok (.if_icmp .ne 16, 3) := by decide +kernel
theorem dX12_tell_80 : decode cX12_tell 80 = .ok (.aload_n 0, 1) := by decide +kernel
theorem dX12_tell_81 : decode cX12_tell 81 = .ok (.getfield 43, 3) := by decide +kernel
theorem dX12_tell_84 : decode cX12_tell 84 = .ok (.iload_n 1, 1) := by decide +kernel
theorem dX12_tell_85 : decode cX12_tell 85 = .ok (.iaload, 1) := by decide +kernel
theorem dX12_tell_86 : decode cX12_tell 86 = .ok (.sipush 1000, 3) := by decide +kernel
theorem dX12_tell_89 : decode cX12_tell 89 = .ok (.iadd, 1) := by decide +kernel
theorem dX12_tell_90 : decode cX12_tell 90 = .ok (.goto 15, 3) := by decide +kernel
theorem dX12_tell_93 : decode cX12_tell 93 = .ok (.iconst 2, 1) := by decide +kernel
theorem dX12_tell_94 : decode cX12_tell 94 = .ok (.aload_n 0, 1) := by decide +kernel
theorem dX12_tell_95 : decode cX12_tell 95 = .ok (.getfield 43, 3) := by decide +kernel
theorem dX12_tell_98 : decode cX12_tell 98 = .ok (.iload_n 1, 1) := by decide +kernel
theorem dX12_tell_99 : decode cX12_tell 99 = .ok (.iaload, 1) := by decide +kernel
theorem dX12_tell_100 : decode cX12_tell 100 = .ok (.imul, 1) := by decide +kernel
theorem dX12_tell_101 : decode cX12_tell 101 = .ok (.sipush 1000, 3) := by decide +kernel
theorem dX12_tell_104 : decode cX12_tell 104 = .ok (.iadd, 1) := by decide +kernel
theorem dX12_tell_105 : decode cX12_tell 105 = .ok (.ireturn, 1) := by decide +kernel
theorem dX12_show_0 : decode cX12_show 0 = .ok (.aload_n 0, 1) := by decide +kernel
theorem dX12_show_1 : decode cX12_show 1 = .ok (.iload_n 1, 1) := by decide +kernel
theorem dX12_show_2 : decode cX12_show 2 = .ok (.invokevirtual 146, 3) := by decide +kernel
theorem dX12_show_5 : decode cX12_show 5 = .ok (.ifCond .eq 5, 3) := by decide +kernel
theorem dX12_show_8 : decode cX12_show 8 = .ok (.iconst (-1), 1) := by decide +kernel
theorem dX12_show_9 : decode cX12_show 9 = .ok (.ireturn, 1) := by decide +kernel
theorem dX12_show_10 : decode cX12_show 10 = .ok (.aload_n 0, 1) := by decide +kernel
theorem dX12_show_11 : decode cX12_show 11 = .ok (.iload_n 1, 1) := by decide +kernel
theorem dX12_show_12 : decode cX12_show 12 = .ok (.invokevirtual 227, 3) := by decide +kernel
theorem dX12_show_15 : decode cX12_show 15 = .ok (.ifCond .eq 6, 3) := by decide +kernel
theorem dX12_show_18 : decode cX12_show 18 = .ok (.bipush (-3), 2) := by decide +kernel
theorem dX12_show_20 : decode cX12_show 20 = .ok (.ireturn, 1) := by decide +kernel
theorem dX12_show_21 : decode cX12_show 21 = .ok (.aload_n 0, 1) := by decide +kernel
theorem dX12_show_22 : decode cX12_show 22 = .ok (.aload_n 0, 1) := by decide +kernel
theorem dX12_show_23 : decode cX12_show 23 = .ok (.getfield 37, 3) := by decide +kernel
theorem dX12_show_26 : decode cX12_show 26 = .ok (.iload_n 1, 1) := by decide +kernel
theorem dX12_show_27 : decode cX12_show 27 = .ok (.iaload, 1) := by decide +kernel
theorem dX12_show_28 : decode cX12_show 28 = .ok (.iconst 2, 1) := by decide +kernel
theorem dX12_show_29 : decode cX12_show 29 = .ok (.if_icmp .ne 7, 3) := by decide +kernel
theorem dX12_show_32 : decode cX12_show 32 = .ok (.iconst 5, 1) := by decide +kernel
theorem dX12_show_33 : decode cX12_show 33 = .ok (.goto 4, 3) := by decide +kernel
theorem dX12_show_36 : decode cX12_show 36 = .ok (.iconst 4, 1) := by decide +kernel
theorem dX12_show_37 : decode cX12_show 37 = .ok (.invokevirtual 307, 3) := by decide +kernel
theorem dX12_show_40 : decode cX12_show 40 = .ok (.aload_n 0, 1) := by decide +kernel
theorem dX12_show_41 : decode cX12_show 41 = .ok (.getfield 37, 3) := by decide +kernel
theorem dX12_show_44 : decode cX12_show 44 = .ok (.iload_n 1, 1) := by decide +kernel
theorem dX12_show_45 : decode cX12_show 45 = .ok (.iaload, 1) := by decide +kernel
theorem dX12_show_46 : decode cX12_show 46 = .ok (.iconst 2, 1) := by decide +kernel
theorem dX12_show_47 : decode cX12_show 47 = .ok (.if_icmp .ne 8, 3) := by decide +kernel
theorem dX12_show_50 : decode cX12_show 50 = .ok (.bipush 33, 2) := by decide +kernel
theorem dX12_show_52 : decode cX12_show 52 = .ok (.goto 9, 3) := by decide +kernel
theorem dX12_show_55 : decode cX12_show 55 = .ok (.aload_n 0, 1) := by decide +kernel
theorem dX12_show_56 : decode cX12_show 56 = .ok (.getfield 46, 3) := by decide +kernel
theorem dX12_show_59 : decode cX12_show 59 = .ok (.iload_n 1, 1) := by decide +kernel
theorem dX12_show_60 : decode cX12_show 60 = .ok (.iaload, 1) := by decide +kernel
theorem dX12_show_61 : decode cX12_show 61 = .ok (.ireturn, 1) := by decide +kernel
theorem dX12_as_0 : decode cX12_as 0 = .ok (.aload_n 0, 1) := by decide +kernel
theorem dX12_as_1 : decode cX12_as 1 = .ok (.iload_n 1, 1) := by decide +kernel
theorem dX12_as_2 : decode cX12_as 2 = .ok (.invokevirtual 146, 3) := by decide +kernel
theorem dX12_as_5 : decode cX12_as 5 = .ok (.ifCond .eq 9, 3) := by decide +kernel
theorem dX12_as_8 : decode cX12_as 8 = .ok (.aload_n 0, 1) := by decide +kernel
theorem dX12_as_9 : decode cX12_as 9 = .ok (.iconst (-1), 1) := by decide +kernel
theorem dX12_as_10 : decode cX12_as 10 = .ok (.invokevirtual 114, 3) := by decide +kernel
theorem dX12_as_13 : decode cX12_as 13 = .ok (.ireturn, 1) := by decide +kernel
theorem dX12_as_14 : decode cX12_as 14 = .ok (.iload_n 2, 1) := by decide +kernel
theorem dX12_as_15 : decode cX12_as 15 = .ok (.i2l, 1) := by decide +kernel
theorem dX12_as_16 : decode cX12_as 16 = .ok (.lconst 0, 1) := by decide +kernel
theorem dX12_as_17 : decode cX12_as 17 = .ok (.ldc2_w 97, 3) := by decide +kernel
theorem dX12_as_20 : decode cX12_as 20 = .ok (.invokestatic 99, 3) := by decide +kernel
theorem dX12_as_23 : decode cX12_as 23 = .ok (.ifCond .ne 10, 3) := by decide +kernel
theorem dX12_as_26 : decode cX12_as 26 = .ok (.aload_n 0, 1) := by decide +kernel
theorem dX12_as_27 : decode cX12_as 27 = .ok (.bipush (-2), 2) := by decide +kernel
theorem dX12_as_29 : decode cX12_as 29 = .ok (.invokevirtual 114, 3) := by decide +kernel
theorem dX12_as_32 : decode cX12_as 32 = .ok (.ireturn, 1) := by decide +kernel
theorem dX12_as_33 : decode cX12_as 33 = .ok (.aload_n 0, 1) := by decide +kernel
theorem dX12_as_34 : decode cX12_as 34 = .ok (.iload_n 1, 1) := by decide +kernel
theorem dX12_as_35 : decode cX12_as 35 = .ok (.invokevirtual 227, 3) := by decide +kernel
theorem dX12_as_38 : decode cX12_as 38 = .ok (.ifCond .eq 10, 3) := by decide +kernel
theorem dX12_as_41 : decode cX12_as 41 = .ok (.aload_n 0, 1) := by decide +kernel
theorem dX12_as_42 : decode cX12_as 42 = .ok (.bipush (-3), 2) := by decide +kernel
theorem dX12_as_44 : decode cX12_as 44 = .ok (.invokevirtual 114, 3) := by decide +kernel
theorem dX12_as_47 : decode cX12_as 47 = .ok (.ireturn, 1) := by decide +kernel
theorem dX12_as_48 : decode cX12_as 48 = .ok (.aload_n 0, 1) := by decide +kernel
theorem dX12_as_49 : decode cX12_as 49 = .ok (.getfield 37, 3) := by decide +kernel
theorem dX12_as_52 : decode cX12_as 52 = .ok (.iload_n 1, 1) := by decide +kernel
theorem dX12_as_53 : decode cX12_as 53 = .ok (.iaload, 1) := by decide +kernel
theorem dX12_as_54 : decode cX12_as 54 = .ok (.iload_n 2, 1) := by decide +kernel
theorem dX12_as_55 : decode cX12_as 55 = .ok (.if_icmp .lt 11, 3) := by decide +kernel
theorem dX12_as_58 : decode cX12_as 58 = .ok (.aload_n 0, 1) := by decide +kernel
theorem dX12_as_59 : decode cX12_as 59 = .ok (.iconst 1, 1) := by decide +kernel
theorem dX12_as_60 : decode cX12_as 60 = .ok (.invokevirtual 114, 3) := by decide +kernel
theorem dX12_as_63 : decode cX12_as 63 = .ok (.goto 8, 3) := by decide +kernel
theorem dX12_as_66 : decode cX12_as 66 = .ok (.aload_n 0, 1) := by decide +kernel
theorem dX12_as_67 : decode cX12_as 67 = .ok (.iconst 2, 1) := by decide +kernel
theorem dX12_as_68 : decode cX12_as 68 = .ok (.invokevirtual 89, 3) := by decide +kernel
theorem dX12_as_71 : decode cX12_as 71 = .ok (.ireturn, 1) := by decide +kernel
theorem dX12_trace_0 : decode cX12_trace 0 = .ok (.aload_n 0, 1) := by decide +kernel
theorem dX12_trace_1 : decode cX12_trace 1 = .ok (.getfield 304, 3) := by decide +kernel
theorem dX12_trace_4 : decode cX12_trace 4 = .ok (.ireturn, 1) := by decide +kernel
theorem dX12_fault_0 : decode cX12_fault 0 = .ok (.aload_n 0, 1) := by decide +kernel
theorem dX12_fault_1 : decode cX12_fault 1 = .ok (.getfield 81, 3) := by decide +kernel
theorem dX12_fault_4 : decode cX12_fault 4 = .ok (.ireturn, 1) := by decide +kernel
theorem dX12_many_0 : decode cX12_many 0 = .ok (.iconst 0, 1) := by decide +kernel
theorem dX12_many_1 : decode cX12_many 1 = .ok (.istore_n 2, 1) := by decide +kernel
theorem dX12_many_2 : decode cX12_many 2 = .ok (.iconst 0, 1) := by decide +kernel
theorem dX12_many_3 : decode cX12_many 3 = .ok (.istore_n 3, 1) := by decide +kernel
theorem dX12_many_4 : decode cX12_many 4 = .ok (.iload_n 3, 1) := by decide +kernel
theorem dX12_many_5 : decode cX12_many 5 = .ok (.aload_n 0, 1) := by decide +kernel
theorem dX12_many_6 : decode cX12_many 6 = .ok (.getfield 105, 3) := by decide +kernel
theorem dX12_many_9 : decode cX12_many 9 = .ok (.if_icmp .ge 25, 3) := by decide +kernel
theorem dX12_many_12 : decode cX12_many 12 = .ok (.iload_n 2, 1) := by decide +kernel
theorem dX12_many_13 : decode cX12_many 13 = .ok (.aload_n 0, 1) := by decide +kernel
theorem dX12_many_14 : decode cX12_many 14 = .ok (.iload_n 3, 1) := by decide +kernel
theorem dX12_many_15 : decode cX12_many 15 = .ok (.invokevirtual 227, 3) := by decide +kernel
theorem dX12_many_18 : decode cX12_many 18 = .ok (.ifCond .eq 7, 3) := by decide +kernel
theorem dX12_many_21 : decode cX12_many 21 = .ok (.iconst 0, 1) := by decide +kernel
theorem dX12_many_22 : decode cX12_many 22 = .ok (.goto 4, 3) := by decide +kernel
theorem dX12_many_25 : decode cX12_many 25 = .ok (.iconst 1, 1) := by decide +kernel
theorem dX12_many_26 : decode cX12_many 26 = .ok (.iadd, 1) := by decide +kernel
theorem dX12_many_27 : decode cX12_many 27 = .ok (.istore_n 2, 1) := by decide +kernel
theorem dX12_many_28 : decode cX12_many 28 = .ok (.iinc 3 1, 3) := by decide +kernel
theorem dX12_many_31 : decode cX12_many 31 = .ok (.goto (-27), 3) := by decide +kernel
theorem dX12_many_34 : decode cX12_many 34 = .ok (.iload_n 1, 1) := by decide +kernel
theorem dX12_many_35 : decode cX12_many 35 = .ok (.ifCond .ne 10, 3) := by decide +kernel
theorem dX12_many_38 : decode cX12_many 38 = .ok (.aload_n 0, 1) := by decide +kernel
theorem dX12_many_39 : decode cX12_many 39 = .ok (.getfield 105, 3) := by decide +kernel
theorem dX12_many_42 : decode cX12_many 42 = .ok (.goto 38, 3) := by decide +kernel
theorem dX12_many_45 : decode cX12_many 45 = .ok (.iload_n 1, 1) := by decide +kernel
theorem dX12_many_46 : decode cX12_many 46 = .ok (.iconst 1, 1) := by decide +kernel
theorem dX12_many_47 : decode cX12_many 47 = .ok (.if_icmp .ne 10, 3) := by decide +kernel
theorem dX12_many_50 : decode cX12_many 50 = .ok (.aload_n 0, 1) := by decide +kernel
theorem dX12_many_51 : decode cX12_many 51 = .ok (.getfield 211, 3) := by decide +kernel
theorem dX12_many_54 : decode cX12_many 54 = .ok (.goto 26, 3) := by decide +kernel
theorem dX12_many_57 : decode cX12_many 57 = .ok (.iload_n 1, 1) := by decide +kernel
theorem dX12_many_58 : decode cX12_many 58 = .ok (.iconst 2, 1) := by decide +kernel
theorem dX12_many_59 : decode cX12_many 59 = .ok (.if_icmp .ne 7, 3) := by decide +kernel
theorem dX12_many_62 : decode cX12_many 62 = .ok (.iload_n 2, 1) := by decide +kernel
theorem dX12_many_63 : decode cX12_many 63 = .ok (.goto 17, 3) := by decide +kernel
theorem dX12_many_66 : decode cX12_many 66 = .ok (.iload_n 1, 1) := by decide +kernel
theorem dX12_many_67 : decode cX12_many 67 = .ok (.iconst 3, 1) := by decide +kernel
theorem dX12_many_68 : decode cX12_many 68 = .ok (.if_icmp .ne 10, 3) := by decide +kernel
theorem dX12_many_71 : decode cX12_many 71 = .ok (.aload_n 0, 1) := by decide +kernel
theorem dX12_many_72 : decode cX12_many 72 = .ok (.getfield 291, 3) := by decide +kernel
theorem dX12_many_75 : decode cX12_many 75 = .ok (.goto 5, 3) := by decide +kernel
theorem dX12_many_78 : decode cX12_many 78 = .ok (.bipush (-2), 2) := by decide +kernel
theorem dX12_many_80 : decode cX12_many 80 = .ok (.ireturn, 1) := by decide +kernel
