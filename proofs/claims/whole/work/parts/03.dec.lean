theorem dX8_init_0 : decode cX8_init 0 = .ok (.aload_n 0, 1) := by decide +kernel
theorem dX8_init_1 : decode cX8_init 1 = .ok (.invokespecial 3, 3) := by decide +kernel
theorem dX8_init_4 : decode cX8_init 4 = .ok (.aload_n 0, 1) := by decide +kernel
theorem dX8_init_5 : decode cX8_init 5 = .ok (.bipush 20, 2) := by decide +kernel
theorem dX8_init_7 : decode cX8_init 7 = .ok (.newarray .int, 2) := by decide +kernel
theorem dX8_init_9 : decode cX8_init 9 = .ok (.putfield 9, 3) := by decide +kernel
theorem dX8_init_12 : decode cX8_init 12 = .ok (.aload_n 0, 1) := by decide +kernel
theorem dX8_init_13 : decode cX8_init 13 = .ok (.bipush 20, 2) := by decide +kernel
theorem dX8_init_15 : decode cX8_init 15 = .ok (.newarray .int, 2) := by decide +kernel
theorem dX8_init_17 : decode cX8_init 17 = .ok (.putfield 13, 3) := by decide +kernel
theorem dX8_init_20 : decode cX8_init 20 = .ok (.aload_n 0, 1) := by decide +kernel
theorem dX8_init_21 : decode cX8_init 21 = .ok (.bipush 20, 2) := by decide +kernel
theorem dX8_init_23 : decode cX8_init 23 = .ok (.newarray .int, 2) := by decide +kernel
theorem dX8_init_25 : decode cX8_init 25 = .ok (.putfield 16, 3) := by decide +kernel
theorem dX8_init_28 : decode cX8_init 28 = .ok (.aload_n 0, 1) := by decide +kernel
theorem dX8_init_29 : decode cX8_init 29 = .ok (.bipush 20, 2) := by decide +kernel
theorem dX8_init_31 : decode cX8_init 31 = .ok (.newarray .int, 2) := by decide +kernel
theorem dX8_init_33 : decode cX8_init 33 = .ok (.putfield 19, 3) := by decide +kernel
theorem dX8_init_36 : decode cX8_init 36 = .ok (.aload_n 0, 1) := by decide +kernel
theorem dX8_init_37 : decode cX8_init 37 = .ok (.bipush 20, 2) := by decide +kernel
theorem dX8_init_39 : decode cX8_init 39 = .ok (.newarray .int, 2) := by decide +kernel
theorem dX8_init_41 : decode cX8_init 41 = .ok (.putfield 22, 3) := by decide +kernel
theorem dX8_init_44 : decode cX8_init 44 = .ok (.aload_n 0, 1) := by decide +kernel
theorem dX8_init_45 : decode cX8_init 45 = .ok (.sipush 480, 3) := by decide +kernel
theorem dX8_init_48 : decode cX8_init 48 = .ok (.newarray .int, 2) := by decide +kernel
theorem dX8_init_50 : decode cX8_init 50 = .ok (.putfield 25, 3) := by decide +kernel
theorem dX8_init_53 : decode cX8_init 53 = .ok (.aload_n 0, 1) := by decide +kernel
theorem dX8_init_54 : decode cX8_init 54 = .ok (.sipush 480, 3) := by decide +kernel
theorem dX8_init_57 : decode cX8_init 57 = .ok (.newarray .int, 2) := by decide +kernel
theorem dX8_init_59 : decode cX8_init 59 = .ok (.putfield 28, 3) := by decide +kernel
theorem dX8_init_62 : decode cX8_init 62 = .ok (.aload_n 0, 1) := by decide +kernel
theorem dX8_init_63 : decode cX8_init 63 = .ok (.sipush 200, 3) := by decide +kernel
theorem dX8_init_66 : decode cX8_init 66 = .ok (.newarray .int, 2) := by decide +kernel
theorem dX8_init_68 : decode cX8_init 68 = .ok (.putfield 31, 3) := by decide +kernel
theorem dX8_init_71 : decode cX8_init 71 = .ok (.aload_n 0, 1) := by decide +kernel
theorem dX8_init_72 : decode cX8_init 72 = .ok (.sipush 200, 3) := by decide +kernel
theorem dX8_init_75 : decode cX8_init 75 = .ok (.newarray .int, 2) := by decide +kernel
theorem dX8_init_77 : decode cX8_init 77 = .ok (.putfield 34, 3) := by decide +kernel
theorem dX8_init_80 : decode cX8_init 80 = .ok (.aload_n 0, 1) := by decide +kernel
theorem dX8_init_81 : decode cX8_init 81 = .ok (.sipush 200, 3) := by decide +kernel
theorem dX8_init_84 : decode cX8_init 84 = .ok (.newarray .int, 2) := by decide +kernel
theorem dX8_init_86 : decode cX8_init 86 = .ok (.putfield 37, 3) := by decide +kernel
theorem dX8_init_89 : decode cX8_init 89 = .ok (.aload_n 0, 1) := by decide +kernel
theorem dX8_init_90 : decode cX8_init 90 = .ok (.sipush 200, 3) := by decide +kernel
theorem dX8_init_93 : decode cX8_init 93 = .ok (.newarray .int, 2) := by decide +kernel
theorem dX8_init_95 : decode cX8_init 95 = .ok (.putfield 40, 3) := by decide +kernel
theorem dX8_init_98 : decode cX8_init 98 = .ok (.aload_n 0, 1) := by decide +kernel
theorem dX8_init_99 : decode cX8_init 99 = .ok (.sipush 200, 3) := by decide +kernel
theorem dX8_init_102 : decode cX8_init 102 = .ok (.newarray .int, 2) := by decide +kernel
theorem dX8_init_104 : decode cX8_init 104 = .ok (.putfield 43, 3) := by decide +kernel
theorem dX8_init_107 : decode cX8_init 107 = .ok (.aload_n 0, 1) := by decide +kernel
theorem dX8_init_108 : decode cX8_init 108 = .ok (.bipush 60, 2) := by decide +kernel
theorem dX8_init_110 : decode cX8_init 110 = .ok (.newarray .int, 2) := by decide +kernel
theorem dX8_init_112 : decode cX8_init 112 = .ok (.putfield 46, 3) := by decide +kernel
theorem dX8_init_115 : decode cX8_init 115 = .ok (.aload_n 0, 1) := by decide +kernel
theorem dX8_init_116 : decode cX8_init 116 = .ok (.bipush 60, 2) := by decide +kernel
theorem dX8_init_118 : decode cX8_init 118 = .ok (.newarray .int, 2) := by decide +kernel
theorem dX8_init_120 : decode cX8_init 120 = .ok (.putfield 49, 3) := by decide +kernel
theorem dX8_init_123 : decode cX8_init 123 = .ok (.aload_n 0, 1) := by decide +kernel
theorem dX8_init_124 : decode cX8_init 124 = .ok (.iconst 5, 1) := by decide +kernel
theorem dX8_init_125 : decode cX8_init 125 = .ok (.newarray .int, 2) := by decide +kernel
theorem dX8_init_127 : decode cX8_init 127 = .ok (.dup, 1) := by decide +kernel
theorem dX8_init_128 : decode cX8_init 128 = .ok (.iconst 0, 1) := by decide +kernel
theorem dX8_init_129 : decode cX8_init 129 = .ok (.iconst 2, 1) := by decide +kernel
theorem dX8_init_130 : decode cX8_init 130 = .ok (.iastore, 1) := by decide +kernel
theorem dX8_init_131 : decode cX8_init 131 = .ok (.dup, 1) := by decide +kernel
theorem dX8_init_132 : decode cX8_init 132 = .ok (.iconst 1, 1) := by decide +kernel
theorem dX8_init_133 : decode cX8_init 133 = .ok (.bipush 8, 2) := by decide +kernel
theorem dX8_init_135 : decode cX8_init 135 = .ok (.iastore, 1) := by decide +kernel
theorem dX8_init_136 : decode cX8_init 136 = .ok (.dup, 1) := by decide +kernel
theorem dX8_init_137 : decode cX8_init 137 = .ok (.iconst 2, 1) := by decide +kernel
theorem dX8_init_138 : decode cX8_init 138 = .ok (.iconst 1, 1) := by decide +kernel
theorem dX8_init_139 : decode cX8_init 139 = .ok (.iastore, 1) := by decide +kernel
theorem dX8_init_140 : decode cX8_init 140 = .ok (.dup, 1) := by decide +kernel
theorem dX8_init_141 : decode cX8_init 141 = .ok (.iconst 3, 1) := by decide +kernel
theorem dX8_init_142 : decode cX8_init 142 = .ok (.iconst 5, 1) := by decide +kernel
theorem dX8_init_143 : decode cX8_init 143 = .ok (.iastore, 1) := by decide +kernel
theorem dX8_init_144 : decode cX8_init 144 = .ok (.dup, 1) := by decide +kernel
theorem dX8_init_145 : decode cX8_init 145 = .ok (.iconst 4, 1) := by decide +kernel
theorem dX8_init_146 : decode cX8_init 146 = .ok (.bipush 30, 2) := by decide +kernel
theorem dX8_init_148 : decode cX8_init 148 = .ok (.iastore, 1) := by decide +kernel
theorem dX8_init_149 : decode cX8_init 149 = .ok (.putfield 52, 3) := by decide +kernel
theorem dX8_init_152 : decode cX8_init 152 = .ok (.aload_n 0, 1) := by decide +kernel
theorem dX8_init_153 : decode cX8_init 153 = .ok (.bipush 24, 2) := by decide +kernel
theorem dX8_init_155 : decode cX8_init 155 = .ok (.newarray .int, 2) := by decide +kernel
theorem dX8_init_157 : decode cX8_init 157 = .ok (.putfield 55, 3) := by decide +kernel
theorem dX8_init_160 : decode cX8_init 160 = .ok (.aload_n 0, 1) := by decide +kernel
theorem dX8_init_161 : decode cX8_init 161 = .ok (.bipush 24, 2) := by decide +kernel
theorem dX8_init_163 : decode cX8_init 163 = .ok (.newarray .int, 2) := by decide +kernel
theorem dX8_init_165 : decode cX8_init 165 = .ok (.putfield 58, 3) := by decide +kernel
theorem dX8_init_168 : decode cX8_init 168 = .ok (.aload_n 0, 1) := by decide +kernel
theorem dX8_init_169 : decode cX8_init 169 = .ok (.bipush 24, 2) := by decide +kernel
theorem dX8_init_171 : decode cX8_init 171 = .ok (.newarray .int, 2) := by decide +kernel
theorem dX8_init_173 : decode cX8_init 173 = .ok (.putfield 61, 3) := by decide +kernel
theorem dX8_init_176 : decode cX8_init 176 = .ok (.aload_n 0, 1) := by decide +kernel
theorem dX8_init_177 : decode cX8_init 177 = .ok (.bipush 24, 2) := by decide +kernel
theorem dX8_init_179 : decode cX8_init 179 = .ok (.newarray .int, 2) := by decide +kernel
theorem dX8_init_181 : decode cX8_init 181 = .ok (.putfield 64, 3) := by decide +kernel
theorem dX8_init_184 : decode cX8_init 184 = .ok (.aload_n 0, 1) := by decide +kernel
theorem dX8_init_185 : decode cX8_init 185 = .ok (.sipush 625, 3) := by decide +kernel
theorem dX8_init_188 : decode cX8_init 188 = .ok (.newarray .int, 2) := by decide +kernel
theorem dX8_init_190 : decode cX8_init 190 = .ok (.putfield 67, 3) := by decide +kernel
theorem dX8_init_193 : decode cX8_init 193 = .ok (.aload_n 0, 1) := by decide +kernel
theorem dX8_init_194 : decode cX8_init 194 = .ok (.bipush 48, 2) := by decide +kernel
theorem dX8_init_196 : decode cX8_init 196 = .ok (.newarray .int, 2) := by decide +kernel
theorem dX8_init_198 : decode cX8_init 198 = .ok (.putfield 70, 3) := by decide +kernel
theorem dX8_init_201 : decode cX8_init 201 = .ok (.aload_n 0, 1) := by decide +kernel
theorem dX8_init_202 : decode cX8_init 202 = .ok (.bipush 48, 2) := by decide +kernel
theorem dX8_init_204 : decode cX8_init 204 = .ok (.newarray .int, 2) := by decide +kernel
theorem dX8_init_206 : decode cX8_init 206 = .ok (.putfield 73, 3) := by decide +kernel
theorem dX8_init_209 : decode cX8_init 209 = .ok (.aload_n 0, 1) := by decide +kernel
theorem dX8_init_210 : decode cX8_init 210 = .ok (.bipush 48, 2) := by decide +kernel
theorem dX8_init_212 : decode cX8_init 212 = .ok (.newarray .int, 2) := by decide +kernel
theorem dX8_init_214 : decode cX8_init 214 = .ok (.putfield 76, 3) := by decide +kernel
theorem dX8_init_217 : decode cX8_init 217 = .ok (.aload_n 0, 1) := by decide +kernel
theorem dX8_init_218 : decode cX8_init 218 = .ok (.bipush 20, 2) := by decide +kernel
theorem dX8_init_220 : decode cX8_init 220 = .ok (.newarray .int, 2) := by decide +kernel
theorem dX8_init_222 : decode cX8_init 222 = .ok (.putfield 79, 3) := by decide +kernel
theorem dX8_init_225 : decode cX8_init 225 = .ok (.return_, 1) := by decide +kernel
theorem dX8_thrown_0 : decode cX8_thrown 0 = .ok (.aload_n 0, 1) := by decide +kernel
theorem dX8_thrown_1 : decode cX8_thrown 1 = .ok (.getfield 82, 3) := by decide +kernel
theorem dX8_thrown_4 : decode cX8_thrown 4 = .ok (.ireturn, 1) := by decide +kernel
theorem dX8_isIn_0 : decode cX8_isIn 0 = .ok (.iload_n 0, 1) := by decide +kernel
theorem dX8_isIn_1 : decode cX8_isIn 1 = .ok (.iload_n 1, 1) := by decide +kernel
theorem dX8_isIn_2 : decode cX8_isIn 2 = .ok (.if_icmp .lt 12, 3) := by decide +kernel
theorem dX8_isIn_5 : decode cX8_isIn 5 = .ok (.iload_n 0, 1) := by decide +kernel
theorem dX8_isIn_6 : decode cX8_isIn 6 = .ok (.iload_n 2, 1) := by decide +kernel
theorem dX8_isIn_7 : decode cX8_isIn 7 = .ok (.if_icmp .gt 7, 3) := by decide +kernel
theorem dX8_isIn_10 : decode cX8_isIn 10 = .ok (.iconst 1, 1) := by decide +kernel
theorem dX8_isIn_11 : decode cX8_isIn 11 = .ok (.goto 4, 3) := by decide +kernel
theorem dX8_isIn_14 : decode cX8_isIn 14 = .ok (.iconst 0, 1) := by decide +kernel
theorem dX8_isIn_15 : decode cX8_isIn 15 = .ok (.ireturn, 1) := by decide +kernel
theorem dX8_isSheet_0 : decode cX8_isSheet 0 = .ok (.iload_n 1, 1) := by decide +kernel
theorem dX8_isSheet_1 : decode cX8_isSheet 1 = .ok (.ifCond .lt 15, 3) := by decide +kernel
theorem dX8_isSheet_4 : decode cX8_isSheet 4 = .ok (.iload_n 1, 1) := by decide +kernel
theorem dX8_isSheet_5 : decode cX8_isSheet 5 = .ok (.aload_n 0, 1) := by decide +kernel
theorem dX8_isSheet_6 : decode cX8_isSheet 6 = .ok (.getfield 86, 3) := by decide +kernel
theorem dX8_isSheet_9 : decode cX8_isSheet 9 = .ok (.if_icmp .ge 7, 3) := by decide +kernel
theorem dX8_isSheet_12 : decode cX8_isSheet 12 = .ok (.iconst 1, 1) := by decide +kernel
theorem dX8_isSheet_13 : decode cX8_isSheet 13 = .ok (.goto 4, 3) := by decide +kernel
theorem dX8_isSheet_16 : decode cX8_isSheet 16 = .ok (.iconst 0, 1) := by decide +kernel
theorem dX8_isSheet_17 : decode cX8_isSheet 17 = .ok (.ireturn, 1) := by decide +kernel
theorem dX8_isDay_0 : decode cX8_isDay 0 = .ok (.iload_n 1, 1) := by decide +kernel
theorem dX8_isDay_1 : decode cX8_isDay 1 = .ok (.iconst 0, 1) := by decide +kernel
theorem dX8_isDay_2 : decode cX8_isDay 2 = .ok (.aload_n 0, 1) := by decide +kernel
theorem dX8_isDay_3 : decode cX8_isDay 3 = .ok (.getfield 89, 3) := by decide +kernel
theorem dX8_isDay_6 : decode cX8_isDay 6 = .ok (.invokestatic 92, 3) := by decide +kernel
theorem dX8_isDay_9 : decode cX8_isDay 9 = .ok (.ireturn, 1) := by decide +kernel
theorem dX8_sheet_0 : decode cX8_sheet 0 = .ok (.aload_n 0, 1) := by decide +kernel
theorem dX8_sheet_1 : decode cX8_sheet 1 = .ok (.iconst 0, 1) := by decide +kernel
theorem dX8_sheet_2 : decode cX8_sheet 2 = .ok (.putfield 82, 3) := by decide +kernel
theorem dX8_sheet_5 : decode cX8_sheet 5 = .ok (.aload_n 0, 1) := by decide +kernel
theorem dX8_sheet_6 : decode cX8_sheet 6 = .ok (.getfield 86, 3) := by decide +kernel
theorem dX8_sheet_9 : decode cX8_sheet 9 = .ok (.bipush 20, 2) := by decide +kernel
theorem dX8_sheet_11 : decode cX8_sheet 11 = .ok (.if_icmp .eq 33, 3) := by decide +kernel
theorem dX8_sheet_14 : decode cX8_sheet 14 = .ok (.iload_n 1, 1) := by decide +kernel
theorem dX8_sheet_15 : decode cX8_sheet 15 = .ok (.iconst 0, 1) := by decide +kernel
theorem dX8_sheet_16 : decode cX8_sheet 16 = .ok (.iconst 5, 1) := by decide +kernel
theorem dX8_sheet_17 : decode cX8_sheet 17 = .ok (.invokestatic 92, 3) := by decide +kernel
theorem dX8_sheet_20 : decode cX8_sheet 20 = .ok (.ifCond .eq 24, 3) := by decide +kernel
theorem dX8_sheet_23 : decode cX8_sheet 23 = .ok (.iload_n 2, 1) := by decide +kernel
theorem dX8_sheet_24 : decode cX8_sheet 24 = .ok (.iconst 0, 1) := by decide +kernel
theorem dX8_sheet_25 : decode cX8_sheet 25 = .ok (.sipush 3000, 3) := by decide +kernel
theorem dX8_sheet_28 : decode cX8_sheet 28 = .ok (.invokestatic 92, 3) := by decide +kernel
theorem dX8_sheet_31 : decode cX8_sheet 31 = .ok (.ifCond .eq 13, 3) := by decide +kernel
theorem dX8_sheet_34 : decode cX8_sheet 34 = .ok (.iload_n 3, 1) := by decide +kernel
theorem dX8_sheet_35 : decode cX8_sheet 35 = .ok (.iconst 0, 1) := by decide +kernel
theorem dX8_sheet_36 : decode cX8_sheet 36 = .ok (.bipush 9, 2) := by decide +kernel
theorem dX8_sheet_38 : decode cX8_sheet 38 = .ok (.invokestatic 92, 3) := by decide +kernel
theorem dX8_sheet_41 : decode cX8_sheet 41 = .ok (.ifCond .ne 5, 3) := by decide +kernel
theorem dX8_sheet_44 : decode cX8_sheet 44 = .ok (.iconst (-1), 1) := by decide +kernel
theorem dX8_sheet_45 : decode cX8_sheet 45 = .ok (.ireturn, 1) := by decide +kernel
theorem dX8_sheet_46 : decode cX8_sheet 46 = .ok (.aload_n 0, 1) := by decide +kernel
theorem dX8_sheet_47 : decode cX8_sheet 47 = .ok (.getfield 9, 3) := by decide +kernel
theorem dX8_sheet_50 : decode cX8_sheet 50 = .ok (.aload_n 0, 1) := by decide +kernel
theorem dX8_sheet_51 : decode cX8_sheet 51 = .ok (.getfield 86, 3) := by decide +kernel
theorem dX8_sheet_54 : decode cX8_sheet 54 = .ok (.iload_n 1, 1) := by decide +kernel
theorem dX8_sheet_55 : decode cX8_sheet 55 = .ok (.iastore, 1) := by decide +kernel
theorem dX8_sheet_56 : decode cX8_sheet 56 = .ok (.aload_n 0, 1) := by decide +kernel
theorem dX8_sheet_57 : decode cX8_sheet 57 = .ok (.getfield 13, 3) := by decide +kernel
theorem dX8_sheet_60 : decode cX8_sheet 60 = .ok (.aload_n 0, 1) := by decide +kernel
theorem dX8_sheet_61 : decode cX8_sheet 61 = .ok (.getfield 86, 3) := by decide +kernel
theorem dX8_sheet_64 : decode cX8_sheet 64 = .ok (.iload_n 2, 1) := by decide +kernel
theorem dX8_sheet_65 : decode cX8_sheet 65 = .ok (.iastore, 1) := by decide +kernel
theorem dX8_sheet_66 : decode cX8_sheet 66 = .ok (.aload_n 0, 1) := by decide +kernel
theorem dX8_sheet_67 : decode cX8_sheet 67 = .ok (.getfield 16, 3) := by decide +kernel
theorem dX8_sheet_70 : decode cX8_sheet 70 = .ok (.aload_n 0, 1) := by decide +kernel
theorem dX8_sheet_71 : decode cX8_sheet 71 = .ok (.getfield 86, 3) := by decide +kernel
theorem dX8_sheet_74 : decode cX8_sheet 74 = .ok (.iload_n 3, 1) := by decide +kernel
theorem dX8_sheet_75 : decode cX8_sheet 75 = .ok (.iastore, 1) := by decide +kernel
theorem dX8_sheet_76 : decode cX8_sheet 76 = .ok (.aload_n 0, 1) := by decide +kernel
theorem dX8_sheet_77 : decode cX8_sheet 77 = .ok (.getfield 19, 3) := by decide +kernel
theorem dX8_sheet_80 : decode cX8_sheet 80 = .ok (.aload_n 0, 1) := by decide +kernel
theorem dX8_sheet_81 : decode cX8_sheet 81 = .ok (.getfield 86, 3) := by decide +kernel
theorem dX8_sheet_84 : decode cX8_sheet 84 = .ok (.iconst 0, 1) := by decide +kernel
theorem dX8_sheet_85 : decode cX8_sheet 85 = .ok (.iastore, 1) := by decide +kernel
theorem dX8_sheet_86 : decode cX8_sheet 86 = .ok (.aload_n 0, 1) := by decide +kernel
theorem dX8_sheet_87 : decode cX8_sheet 87 = .ok (.getfield 22, 3) := by decide +kernel
theorem dX8_sheet_90 : decode cX8_sheet 90 = .ok (.aload_n 0, 1) := by decide +kernel
theorem dX8_sheet_91 : decode cX8_sheet 91 = .ok (.getfield 86, 3) := by decide +kernel
theorem dX8_sheet_94 : decode cX8_sheet 94 = .ok (.iconst (-1), 1) := by decide +kernel
theorem dX8_sheet_95 : decode cX8_sheet 95 = .ok (.iastore, 1) := by decide +kernel
theorem dX8_sheet_96 : decode cX8_sheet 96 = .ok (.aload_n 0, 1) := by decide +kernel
theorem dX8_sheet_97 : decode cX8_sheet 97 = .ok (.dup, 1) := by decide +kernel
theorem dX8_sheet_98 : decode cX8_sheet 98 = .ok (.getfield 86, 3) := by decide +kernel
theorem dX8_sheet_101 : decode cX8_sheet 101 = .ok (.iconst 1, 1) := by decide +kernel
theorem dX8_sheet_102 : decode cX8_sheet 102 = .ok (.iadd, 1) := by decide +kernel
theorem dX8_sheet_103 : decode cX8_sheet 103 = .ok (.putfield 86, 3) := by decide +kernel
theorem dX8_sheet_106 : decode cX8_sheet 106 = .ok (.aload_n 0, 1) := by decide +kernel
theorem dX8_sheet_107 : decode cX8_sheet 107 = .ok (.getfield 86, 3) := by decide +kernel
theorem dX8_sheet_110 : decode cX8_sheet 110 = .ok (.iconst 1, 1) := by decide +kernel
theorem dX8_sheet_111 : decode cX8_sheet 111 = .ok (.isub, 1) := by decide +kernel
theorem dX8_sheet_112 : decode cX8_sheet 112 = .ok (.ireturn, 1) := by decide +kernel
theorem dX8_isNote_0 : decode cX8_isNote 0 = .ok (.iload_n 0, 1) := by decide +kernel
theorem dX8_isNote_1 : decode cX8_isNote 1 = .ok (.iconst (-1), 1) := by decide +kernel
theorem dX8_isNote_2 : decode cX8_isNote 2 = .ok (.if_icmp .eq 23, 3) := by decide +kernel
theorem dX8_isNote_5 : decode cX8_isNote 5 = .ok (.iload_n 0, 1) := by decide +kernel
theorem dX8_isNote_6 : decode cX8_isNote 6 = .ok (.iconst 0, 1) := by decide +kernel
theorem dX8_isNote_7 : decode cX8_isNote 7 = .ok (.bipush 60, 2) := by decide +kernel
theorem dX8_isNote_9 : decode cX8_isNote 9 = .ok (.invokestatic 92, 3) := by decide +kernel
theorem dX8_isNote_12 : decode cX8_isNote 12 = .ok (.ifCond .eq 17, 3) := by decide +kernel
theorem dX8_isNote_15 : decode cX8_isNote 15 = .ok (.iload_n 1, 1) := by decide +kernel
theorem dX8_isNote_16 : decode cX8_isNote 16 = .ok (.iconst 1, 1) := by decide +kernel
theorem dX8_isNote_17 : decode cX8_isNote 17 = .ok (.bipush 16, 2) := by decide +kernel
theorem dX8_isNote_19 : decode cX8_isNote 19 = .ok (.invokestatic 92, 3) := by decide +kernel
theorem dX8_isNote_22 : decode cX8_isNote 22 = .ok (.ifCond .eq 7, 3) := by decide +kernel
theorem dX8_isNote_25 : decode cX8_isNote 25 = .ok (.iconst 1, 1) := by decide +kernel
theorem dX8_isNote_26 : decode cX8_isNote 26 = .ok (.goto 4, 3) := by decide +kernel
theorem dX8_isNote_29 : decode cX8_isNote 29 = .ok (.iconst 0, 1) := by decide +kernel
theorem dX8_isNote_30 : decode cX8_isNote 30 = .ok (.ireturn, 1) := by decide +kernel
theorem dX8_note_0 : decode cX8_note 0 = .ok (.aload_n 0, 1) := by decide +kernel
theorem dX8_note_1 : decode cX8_note 1 = .ok (.iconst 0, 1) := by decide +kernel
theorem dX8_note_2 : decode cX8_note 2 = .ok (.putfield 82, 3) := by decide +kernel
theorem dX8_note_5 : decode cX8_note 5 = .ok (.aload_n 0, 1) := by decide +kernel
theorem dX8_note_6 : decode cX8_note 6 = .ok (.iload_n 1, 1) := by decide +kernel
theorem dX8_note_7 : decode cX8_note 7 = .ok (.invokevirtual 96, 3) := by decide +kernel
theorem dX8_note_10 : decode cX8_note 10 = .ok (.ifCond .eq 22, 3) := by decide +kernel
theorem dX8_note_13 : decode cX8_note 13 = .ok (.iload_n 2, 1) := by decide +kernel
theorem dX8_note_14 : decode cX8_note 14 = .ok (.iload_n 3, 1) := by decide +kernel
theorem dX8_note_15 : decode cX8_note 15 = .ok (.invokestatic 100, 3) := by decide +kernel
theorem dX8_note_18 : decode cX8_note 18 = .ok (.ifCond .eq 14, 3) := by decide +kernel
theorem dX8_note_21 : decode cX8_note 21 = .ok (.aload_n 0, 1) := by decide +kernel
theorem dX8_note_22 : decode cX8_note 22 = .ok (.getfield 19, 3) := by decide +kernel
theorem dX8_note_25 : decode cX8_note 25 = .ok (.iload_n 1, 1) := by decide +kernel
theorem dX8_note_26 : decode cX8_note 26 = .ok (.iaload, 1) := by decide +kernel
theorem dX8_note_27 : decode cX8_note 27 = .ok (.bipush 24, 2) := by decide +kernel
theorem dX8_note_29 : decode cX8_note 29 = .ok (.if_icmp .ne 5, 3) := by decide +kernel
theorem dX8_note_32 : decode cX8_note 32 = .ok (.iconst (-1), 1) := by decide +kernel
theorem dX8_note_33 : decode cX8_note 33 = .ok (.ireturn, 1) := by decide +kernel
theorem dX8_note_34 : decode cX8_note 34 = .ok (.aload_n 0, 1) := by decide +kernel
theorem dX8_note_35 : decode cX8_note 35 = .ok (.getfield 25, 3) := by decide +kernel
theorem dX8_note_38 : decode cX8_note 38 = .ok (.bipush 24, 2) := by decide +kernel
theorem dX8_note_40 : decode cX8_note 40 = .ok (.iload_n 1, 1) := by decide +kernel
theorem dX8_note_41 : decode cX8_note 41 = .ok (.imul, 1) := by decide +kernel
theorem dX8_note_42 : decode cX8_note 42 = .ok (.aload_n 0, 1) := by decide +kernel
theorem dX8_note_43 : decode cX8_note 43 = .ok (.getfield 19, 3) := by decide +kernel
theorem dX8_note_46 : decode cX8_note 46 = .ok (.iload_n 1, 1) := by decide +kernel
theorem dX8_note_47 : decode cX8_note 47 = .ok (.iaload, 1) := by decide +kernel
theorem dX8_note_48 : decode cX8_note 48 = .ok (.iadd, 1) := by decide +kernel
theorem dX8_note_49 : decode cX8_note 49 = .ok (.iload_n 2, 1) := by decide +kernel
theorem dX8_note_50 : decode cX8_note 50 = .ok (.iastore, 1) := by decide +kernel
theorem dX8_note_51 : decode cX8_note 51 = .ok (.aload_n 0, 1) := by decide +kernel
theorem dX8_note_52 : decode cX8_note 52 = .ok (.getfield 28, 3) := by decide +kernel
theorem dX8_note_55 : decode cX8_note 55 = .ok (.bipush 24, 2) := by decide +kernel
theorem dX8_note_57 : decode cX8_note 57 = .ok (.iload_n 1, 1) := by decide +kernel
theorem dX8_note_58 : decode cX8_note 58 = .ok (.imul, 1) := by decide +kernel
theorem dX8_note_59 : decode cX8_note 59 = .ok (.aload_n 0, 1) := by decide +kernel
theorem dX8_note_60 : decode cX8_note 60 = .ok (.getfield 19, 3) := by decide +kernel
theorem dX8_note_63 : decode cX8_note 63 = .ok (.iload_n 1, 1) := by decide +kernel
theorem dX8_note_64 : decode cX8_note 64 = .ok (.iaload, 1) := by decide +kernel
theorem dX8_note_65 : decode cX8_note 65 = .ok (.iadd, 1) := by decide +kernel
theorem dX8_note_66 : decode cX8_note 66 = .ok (.iload_n 2, 1) := by decide +kernel
theorem dX8_note_67 : decode cX8_note 67 = .ok (.iconst (-1), 1) := by decide +kernel
theorem dX8_note_68 : decode cX8_note 68 = .ok (.if_icmp .ne 7, 3) := by decide +kernel
theorem dX8_note_71 : decode cX8_note 71 = .ok (.iconst 0, 1) := by decide +kernel
theorem dX8_note_72 : decode cX8_note 72 = .ok (.goto 4, 3) := by decide +kernel
theorem dX8_note_75 : decode cX8_note 75 = .ok (.iload_n 3, 1) := by decide +kernel
theorem dX8_note_76 : decode cX8_note 76 = .ok (.iastore, 1) := by decide +kernel
theorem dX8_note_77 : decode cX8_note 77 = .ok (.aload_n 0, 1) := by decide +kernel
theorem dX8_note_78 : decode cX8_note 78 = .ok (.getfield 19, 3) := by decide +kernel
theorem dX8_note_81 : decode cX8_note 81 = .ok (.iload_n 1, 1) := by decide +kernel
theorem dX8_note_82 : decode cX8_note 82 = .ok (.dup2, 1) := by decide +kernel
theorem dX8_note_83 : decode cX8_note 83 = .ok (.iaload, 1) := by decide +kernel
theorem dX8_note_84 : decode cX8_note 84 = .ok (.iconst 1, 1) := by decide +kernel
theorem dX8_note_85 : decode cX8_note 85 = .ok (.iadd, 1) := by decide +kernel
theorem dX8_note_86 : decode cX8_note 86 = .ok (.iastore, 1) := by decide +kernel
theorem dX8_note_87 : decode cX8_note 87 = .ok (.aload_n 0, 1) := by decide +kernel
theorem dX8_note_88 : decode cX8_note 88 = .ok (.getfield 19, 3) := by decide +kernel
theorem dX8_note_91 : decode cX8_note 91 = .ok (.iload_n 1, 1) := by decide +kernel
theorem dX8_note_92 : decode cX8_note 92 = .ok (.iaload, 1) := by decide +kernel
theorem dX8_note_93 : decode cX8_note 93 = .ok (.ireturn, 1) := by decide +kernel
theorem dX8_correct_0 : decode cX8_correct 0 = .ok (.aload_n 0, 1) := by decide +kernel
theorem dX8_correct_1 : decode cX8_correct 1 = .ok (.iconst 0, 1) := by decide +kernel
theorem dX8_correct_2 : decode cX8_correct 2 = .ok (.putfield 82, 3) := by decide +kernel
theorem dX8_correct_5 : decode cX8_correct 5 = .ok (.aload_n 0, 1) := by decide +kernel
theorem dX8_correct_6 : decode cX8_correct 6 = .ok (.iload_n 1, 1) := by decide +kernel
theorem dX8_correct_7 : decode cX8_correct 7 = .ok (.invokevirtual 96, 3) := by decide +kernel
theorem dX8_correct_10 : decode cX8_correct 10 = .ok (.ifCond .eq 36, 3) := by decide +kernel
theorem dX8_correct_13 : decode cX8_correct 13 = .ok (.iload_n 2, 1) := by decide +kernel
theorem dX8_correct_14 : decode cX8_correct 14 = .ok (.ifCond .lt 32, 3) := by decide +kernel
theorem dX8_correct_17 : decode cX8_correct 17 = .ok (.iload_n 2, 1) := by decide +kernel
theorem dX8_correct_18 : decode cX8_correct 18 = .ok (.aload_n 0, 1) := by decide +kernel
theorem dX8_correct_19 : decode cX8_correct 19 = .ok (.getfield 19, 3) := by decide +kernel
theorem dX8_correct_22 : decode cX8_correct 22 = .ok (.iload_n 1, 1) := by decide +kernel
theorem dX8_correct_23 : decode cX8_correct 23 = .ok (.iaload, 1) := by decide +kernel
theorem dX8_correct_24 : decode cX8_correct 24 = .ok (.if_icmp .ge 22, 3) := by decide +kernel
theorem dX8_correct_27 : decode cX8_correct 27 = .ok (.iload_n 3, 1) := by decide +kernel
theorem dX8_correct_28 : decode cX8_correct 28 = .ok (.iload 4, 2) := by decide +kernel
theorem dX8_correct_30 : decode cX8_correct 30 = .ok (.invokestatic 100, 3) := by decide +kernel
theorem dX8_correct_33 : decode cX8_correct 33 = .ok (.ifCond .eq 13, 3) := by decide +kernel
theorem dX8_correct_36 : decode cX8_correct 36 = .ok (.aload_n 0, 1) := by decide +kernel
theorem dX8_correct_37 : decode cX8_correct 37 = .ok (.getfield 104, 3) := by decide +kernel
theorem dX8_correct_40 : decode cX8_correct 40 = .ok (.sipush 200, 3) := by decide +kernel
theorem dX8_correct_43 : decode cX8_correct 43 = .ok (.if_icmp .ne 5, 3) := by decide +kernel
theorem dX8_correct_46 : decode cX8_correct 46 = .ok (.iconst 0, 1) := by decide +kernel
theorem dX8_correct_47 : decode cX8_correct 47 = .ok (.ireturn, 1) := by decide +kernel
theorem dX8_correct_48 : decode cX8_correct 48 = .ok (.aload_n 0, 1) := by decide +kernel
theorem dX8_correct_49 : decode cX8_correct 49 = .ok (.getfield 31, 3) := by decide +kernel
theorem dX8_correct_52 : decode cX8_correct 52 = .ok (.aload_n 0, 1) := by decide +kernel
theorem dX8_correct_53 : decode cX8_correct 53 = .ok (.getfield 104, 3) := by decide +kernel
theorem dX8_correct_56 : decode cX8_correct 56 = .ok (.iload_n 1, 1) := by decide +kernel
theorem dX8_correct_57 : decode cX8_correct 57 = .ok (.iastore, 1) := by decide +kernel
theorem dX8_correct_58 : decode cX8_correct 58 = .ok (.aload_n 0, 1) := by decide +kernel
theorem dX8_correct_59 : decode cX8_correct 59 = .ok (.getfield 34, 3) := by decide +kernel
theorem dX8_correct_62 : decode cX8_correct 62 = .ok (.aload_n 0, 1) := by decide +kernel
theorem dX8_correct_63 : decode cX8_correct 63 = .ok (.getfield 104, 3) := by decide +kernel
theorem dX8_correct_66 : decode cX8_correct 66 = .ok (.iload_n 2, 1) := by decide +kernel
theorem dX8_correct_67 : decode cX8_correct 67 = .ok (.iastore, 1) := by decide +kernel
theorem dX8_correct_68 : decode cX8_correct 68 = .ok (.aload_n 0, 1) := by decide +kernel
theorem dX8_correct_69 : decode cX8_correct 69 = .ok (.getfield 37, 3) := by decide +kernel
theorem dX8_correct_72 : decode cX8_correct 72 = .ok (.aload_n 0, 1) := by decide +kernel
theorem dX8_correct_73 : decode cX8_correct 73 = .ok (.getfield 104, 3) := by decide +kernel
theorem dX8_correct_76 : decode cX8_correct 76 = .ok (.iload_n 3, 1) := by decide +kernel
theorem dX8_correct_77 : decode cX8_correct 77 = .ok (.iastore, 1) := by decide +kernel
theorem dX8_correct_78 : decode cX8_correct 78 = .ok (.aload_n 0, 1) := by decide +kernel
theorem dX8_correct_79 : decode cX8_correct 79 = .ok (.getfield 40, 3) := by decide +kernel
theorem dX8_correct_82 : decode cX8_correct 82 = .ok (.aload_n 0, 1) := by decide +kernel
theorem dX8_correct_83 : decode cX8_correct 83 = .ok (.getfield 104, 3) := by decide +kernel
theorem dX8_correct_86 : decode cX8_correct 86 = .ok (.iload_n 3, 1) := by decide +kernel
theorem dX8_correct_87 : decode cX8_correct 87 = .ok (.iconst (-1), 1) := by decide +kernel
theorem dX8_correct_88 : decode cX8_correct 88 = .ok (.if_icmp .ne 7, 3) := by decide +kernel
theorem dX8_correct_91 : decode cX8_correct 91 = .ok (.iconst 0, 1) := by decide +kernel
theorem dX8_correct_92 : decode cX8_correct 92 = .ok (.goto 5, 3) := by decide +kernel
theorem dX8_correct_95 : decode cX8_correct 95 = .ok (.iload 4, 2) := by decide +kernel
theorem dX8_correct_97 : decode cX8_correct 97 = .ok (.iastore, 1) := by decide +kernel
theorem dX8_correct_98 : decode cX8_correct 98 = .ok (.aload_n 0, 1) := by decide +kernel
theorem dX8_correct_99 : decode cX8_correct 99 = .ok (.getfield 43, 3) := by decide +kernel
theorem dX8_correct_102 : decode cX8_correct 102 = .ok (.aload_n 0, 1) := by decide +kernel
theorem dX8_correct_103 : decode cX8_correct 103 = .ok (.getfield 104, 3) := by decide +kernel
theorem dX8_correct_106 : decode cX8_correct 106 = .ok (.aload_n 0, 1) := by decide +kernel
theorem dX8_correct_107 : decode cX8_correct 107 = .ok (.getfield 89, 3) := by decide +kernel
theorem dX8_correct_110 : decode cX8_correct 110 = .ok (.iastore, 1) := by decide +kernel
theorem dX8_correct_111 : decode cX8_correct 111 = .ok (.aload_n 0, 1) := by decide +kernel
theorem dX8_correct_112 : decode cX8_correct 112 = .ok (.dup, 1) := by decide +kernel
theorem dX8_correct_113 : decode cX8_correct 113 = .ok (.getfield 104, 3) := by decide +kernel
theorem dX8_correct_116 : decode cX8_correct 116 = .ok (.iconst 1, 1) := by decide +kernel
theorem dX8_correct_117 : decode cX8_correct 117 = .ok (.iadd, 1) := by decide +kernel
theorem dX8_correct_118 : decode cX8_correct 118 = .ok (.putfield 104, 3) := by decide +kernel
theorem dX8_correct_121 : decode cX8_correct 121 = .ok (.iconst 1, 1) := by decide +kernel
theorem dX8_correct_122 : decode cX8_correct 122 = .ok (.ireturn, 1) := by decide +kernel
theorem dX8_forge_0 : decode cX8_forge 0 = .ok (.aload_n 0, 1) := by decide +kernel
theorem dX8_forge_1 : decode cX8_forge 1 = .ok (.iconst 0, 1) := by decide +kernel
theorem dX8_forge_2 : decode cX8_forge 2 = .ok (.putfield 82, 3) := by decide +kernel
theorem dX8_forge_5 : decode cX8_forge 5 = .ok (.aload_n 0, 1) := by decide +kernel
theorem dX8_forge_6 : decode cX8_forge 6 = .ok (.iload_n 1, 1) := by decide +kernel
theorem dX8_forge_7 : decode cX8_forge 7 = .ok (.invokevirtual 96, 3) := by decide +kernel
theorem dX8_forge_10 : decode cX8_forge 10 = .ok (.ifCond .eq 13, 3) := by decide +kernel
theorem dX8_forge_13 : decode cX8_forge 13 = .ok (.aload_n 0, 1) := by decide +kernel
theorem dX8_forge_14 : decode cX8_forge 14 = .ok (.getfield 22, 3) := by decide +kernel
theorem dX8_forge_17 : decode cX8_forge 17 = .ok (.iload_n 1, 1) := by decide +kernel
theorem dX8_forge_18 : decode cX8_forge 18 = .ok (.iaload, 1) := by decide +kernel
theorem dX8_forge_19 : decode cX8_forge 19 = .ok (.iconst (-1), 1) := by decide +kernel
theorem dX8_forge_20 : decode cX8_forge 20 = .ok (.if_icmp .eq 5, 3) := by decide +kernel
theorem dX8_forge_23 : decode cX8_forge 23 = .ok (.iconst 0, 1) := by decide +kernel
theorem dX8_forge_24 : decode cX8_forge 24 = .ok (.ireturn, 1) := by decide +kernel
theorem dX8_forge_25 : decode cX8_forge 25 = .ok (.aload_n 0, 1) := by decide +kernel
theorem dX8_forge_26 : decode cX8_forge 26 = .ok (.getfield 22, 3) := by decide +kernel
theorem dX8_forge_29 : decode cX8_forge 29 = .ok (.iload_n 1, 1) := by decide +kernel
theorem dX8_forge_30 : decode cX8_forge 30 = .ok (.aload_n 0, 1) := by decide +kernel
theorem dX8_forge_31 : decode cX8_forge 31 = .ok (.getfield 89, 3) := by decide +kernel
theorem dX8_forge_34 : decode cX8_forge 34 = .ok (.iastore, 1) := by decide +kernel
theorem dX8_forge_35 : decode cX8_forge 35 = .ok (.iconst 1, 1) := by decide +kernel
theorem dX8_forge_36 : decode cX8_forge 36 = .ok (.ireturn, 1) := by decide +kernel
theorem dX8_doubles_0 : decode cX8_doubles 0 = .ok (.aload_n 0, 1) := by decide +kernel
theorem dX8_doubles_1 : decode cX8_doubles 1 = .ok (.iconst 0, 1) := by decide +kernel
theorem dX8_doubles_2 : decode cX8_doubles 2 = .ok (.putfield 82, 3) := by decide +kernel
theorem dX8_doubles_5 : decode cX8_doubles 5 = .ok (.aload_n 0, 1) := by decide +kernel
theorem dX8_doubles_6 : decode cX8_doubles 6 = .ok (.iload_n 1, 1) := by decide +kernel
theorem dX8_doubles_7 : decode cX8_doubles 7 = .ok (.invokevirtual 96, 3) := by decide +kernel
theorem dX8_doubles_10 : decode cX8_doubles 10 = .ok (.ifCond .eq 35, 3) := by decide +kernel
theorem dX8_doubles_13 : decode cX8_doubles 13 = .ok (.aload_n 0, 1) := by decide +kernel
theorem dX8_doubles_14 : decode cX8_doubles 14 = .ok (.iload_n 2, 1) := by decide +kernel
theorem dX8_doubles_15 : decode cX8_doubles 15 = .ok (.invokevirtual 96, 3) := by decide +kernel
theorem dX8_doubles_18 : decode cX8_doubles 18 = .ok (.ifCond .eq 27, 3) := by decide +kernel
theorem dX8_doubles_21 : decode cX8_doubles 21 = .ok (.aload_n 0, 1) := by decide +kernel
theorem dX8_doubles_22 : decode cX8_doubles 22 = .ok (.getfield 9, 3) := by decide +kernel
theorem dX8_doubles_25 : decode cX8_doubles 25 = .ok (.iload_n 1, 1) := by decide +kernel
theorem dX8_doubles_26 : decode cX8_doubles 26 = .ok (.iaload, 1) := by decide +kernel
theorem dX8_doubles_27 : decode cX8_doubles 27 = .ok (.aload_n 0, 1) := by decide +kernel
theorem dX8_doubles_28 : decode cX8_doubles 28 = .ok (.getfield 9, 3) := by decide +kernel
theorem dX8_doubles_31 : decode cX8_doubles 31 = .ok (.iload_n 2, 1) := by decide +kernel
theorem dX8_doubles_32 : decode cX8_doubles 32 = .ok (.iaload, 1) := by decide +kernel
theorem dX8_doubles_33 : decode cX8_doubles 33 = .ok (.if_icmp .eq 12, 3) := by decide +kernel
theorem dX8_doubles_36 : decode cX8_doubles 36 = .ok (.aload_n 0, 1) := by decide +kernel
theorem dX8_doubles_37 : decode cX8_doubles 37 = .ok (.getfield 107, 3) := by decide +kernel
theorem dX8_doubles_40 : decode cX8_doubles 40 = .ok (.bipush 60, 2) := by decide +kernel
theorem dX8_doubles_42 : decode cX8_doubles 42 = .ok (.if_icmp .ne 5, 3) := by decide +kernel
theorem dX8_doubles_45 : decode cX8_doubles 45 = .ok (.iconst 0, 1) := by decide +kernel
theorem dX8_doubles_46 : decode cX8_doubles 46 = .ok (.ireturn, 1) := by decide +kernel
theorem dX8_doubles_47 : decode cX8_doubles 47 = .ok (.iconst 0, 1) := by decide +kernel
theorem dX8_doubles_48 : decode cX8_doubles 48 = .ok (.istore_n 3, 1) := by decide +kernel
theorem dX8_doubles_49 : decode cX8_doubles 49 = .ok (.iload_n 3, 1) := by decide +kernel
theorem dX8_doubles_50 : decode cX8_doubles 50 = .ok (.aload_n 0, 1) := by decide +kernel
theorem dX8_doubles_51 : decode cX8_doubles 51 = .ok (.getfield 107, 3) := by decide +kernel
theorem dX8_doubles_54 : decode cX8_doubles 54 = .ok (.if_icmp .ge 51, 3) := by decide +kernel
theorem dX8_doubles_57 : decode cX8_doubles 57 = .ok (.aload_n 0, 1) := by decide +kernel
theorem dX8_doubles_58 : decode cX8_doubles 58 = .ok (.getfield 46, 3) := by decide +kernel
theorem dX8_doubles_61 : decode cX8_doubles 61 = .ok (.iload_n 3, 1) := by decide +kernel
theorem dX8_doubles_62 : decode cX8_doubles 62 = .ok (.iaload, 1) := by decide +kernel
theorem dX8_doubles_63 : decode cX8_doubles 63 = .ok (.iload_n 1, 1) := by decide +kernel
theorem dX8_doubles_64 : decode cX8_doubles 64 = .ok (.if_icmp .ne 13, 3) := by decide +kernel
theorem dX8_doubles_67 : decode cX8_doubles 67 = .ok (.aload_n 0, 1) := by decide +kernel
theorem dX8_doubles_68 : decode cX8_doubles 68 = .ok (.getfield 49, 3) := by decide +kernel
theorem dX8_doubles_71 : decode cX8_doubles 71 = .ok (.iload_n 3, 1) := by decide +kernel
theorem dX8_doubles_72 : decode cX8_doubles 72 = .ok (.iaload, 1) := by decide +kernel
theorem dX8_doubles_73 : decode cX8_doubles 73 = .ok (.iload_n 2, 1) := by decide +kernel
theorem dX8_doubles_74 : decode cX8_doubles 74 = .ok (.if_icmp .eq 23, 3) := by decide +kernel
theorem dX8_doubles_77 : decode cX8_doubles 77 = .ok (.aload_n 0, 1) := by decide +kernel
theorem dX8_doubles_78 : decode cX8_doubles 78 = .ok (.getfield 46, 3) := by decide +kernel
theorem dX8_doubles_81 : decode cX8_doubles 81 = .ok (.iload_n 3, 1) := by decide +kernel
theorem dX8_doubles_82 : decode cX8_doubles 82 = .ok (.iaload, 1) := by decide +kernel
theorem dX8_doubles_83 : decode cX8_doubles 83 = .ok (.iload_n 2, 1) := by decide +kernel
theorem dX8_doubles_84 : decode cX8_doubles 84 = .ok (.if_icmp .ne 15, 3) := by decide +kernel
theorem dX8_doubles_87 : decode cX8_doubles 87 = .ok (.aload_n 0, 1) := by decide +kernel
theorem dX8_doubles_88 : decode cX8_doubles 88 = .ok (.getfield 49, 3) := by decide +kernel
theorem dX8_doubles_91 : decode cX8_doubles 91 = .ok (.iload_n 3, 1) := by decide +kernel
theorem dX8_doubles_92 : decode cX8_doubles 92 = .ok (.iaload, 1) := by decide +kernel
theorem dX8_doubles_93 : decode cX8_doubles 93 = .ok (.iload_n 1, 1) := by decide +kernel
theorem dX8_doubles_94 : decode cX8_doubles 94 = .ok (.if_icmp .ne 5, 3) := by decide +kernel
theorem dX8_doubles_97 : decode cX8_doubles 97 = .ok (.iconst 0, 1) := by decide +kernel
theorem dX8_doubles_98 : decode cX8_doubles 98 = .ok (.ireturn, 1) := by decide +kernel
theorem dX8_doubles_99 : decode cX8_doubles 99 = .ok (.iinc 3 1, 3) := by decide +kernel
theorem dX8_doubles_102 : decode cX8_doubles 102 = .ok (.goto (-53), 3) := by decide +kernel
theorem dX8_doubles_105 : decode cX8_doubles 105 = .ok (.aload_n 0, 1) := by decide +kernel
theorem dX8_doubles_106 : decode cX8_doubles 106 = .ok (.getfield 46, 3) := by decide +kernel
theorem dX8_doubles_109 : decode cX8_doubles 109 = .ok (.aload_n 0, 1) := by decide +kernel
theorem dX8_doubles_110 : decode cX8_doubles 110 = .ok (.getfield 107, 3) := by decide +kernel
theorem dX8_doubles_113 : decode cX8_doubles 113 = .ok (.iload_n 1, 1) := by decide +kernel
theorem dX8_doubles_114 : decode cX8_doubles 114 = .ok (.iastore, 1) := by decide +kernel
theorem dX8_doubles_115 : decode cX8_doubles 115 = .ok (.aload_n 0, 1) := by decide +kernel
theorem dX8_doubles_116 : decode cX8_doubles 116 = .ok (.getfield 49, 3) := by decide +kernel
theorem dX8_doubles_119 : decode cX8_doubles 119 = .ok (.aload_n 0, 1) := by decide +kernel
theorem dX8_doubles_120 : decode cX8_doubles 120 = .ok (.getfield 107, 3) := by decide +kernel
theorem dX8_doubles_123 : decode cX8_doubles 123 = .ok (.iload_n 2, 1) := by decide +kernel
theorem dX8_doubles_124 : decode cX8_doubles 124 = .ok (.iastore, 1) := by decide +kernel
theorem dX8_doubles_125 : decode cX8_doubles 125 = .ok (.aload_n 0, 1) := by decide +kernel
theorem dX8_doubles_126 : decode cX8_doubles 126 = .ok (.dup, 1) := by decide +kernel
theorem dX8_doubles_127 : decode cX8_doubles 127 = .ok (.getfield 107, 3) := by decide +kernel
theorem dX8_doubles_130 : decode cX8_doubles 130 = .ok (.iconst 1, 1) := by decide +kernel
theorem dX8_doubles_131 : decode cX8_doubles 131 = .ok (.iadd, 1) := by decide +kernel
theorem dX8_doubles_132 : decode cX8_doubles 132 = .ok (.putfield 107, 3) := by decide +kernel
theorem dX8_doubles_135 : decode cX8_doubles 135 = .ok (.iconst 1, 1) := by decide +kernel
theorem dX8_doubles_136 : decode cX8_doubles 136 = .ok (.ireturn, 1) := by decide +kernel
theorem dX8_days_0 : decode cX8_days 0 = .ok (.aload_n 0, 1) := by decide +kernel
theorem dX8_days_1 : decode cX8_days 1 = .ok (.iconst 0, 1) := by decide +kernel
theorem dX8_days_2 : decode cX8_days 2 = .ok (.putfield 82, 3) := by decide +kernel
theorem dX8_days_5 : decode cX8_days 5 = .ok (.iload_n 1, 1) := by decide +kernel
theorem dX8_days_6 : decode cX8_days 6 = .ok (.iconst 0, 1) := by decide +kernel
theorem dX8_days_7 : decode cX8_days 7 = .ok (.sipush 1000, 3) := by decide +kernel
theorem dX8_days_10 : decode cX8_days 10 = .ok (.invokestatic 92, 3) := by decide +kernel
theorem dX8_days_13 : decode cX8_days 13 = .ok (.ifCond .eq 15, 3) := by decide +kernel
theorem dX8_days_16 : decode cX8_days 16 = .ok (.aload_n 0, 1) := by decide +kernel
theorem dX8_days_17 : decode cX8_days 17 = .ok (.getfield 89, 3) := by decide +kernel
theorem dX8_days_20 : decode cX8_days 20 = .ok (.iload_n 1, 1) := by decide +kernel
theorem dX8_days_21 : decode cX8_days 21 = .ok (.iadd, 1) := by decide +kernel
theorem dX8_days_22 : decode cX8_days 22 = .ok (.sipush 1000, 3) := by decide +kernel
theorem dX8_days_25 : decode cX8_days 25 = .ok (.if_icmp .le 5, 3) := by decide +kernel
theorem dX8_days_28 : decode cX8_days 28 = .ok (.iconst (-1), 1) := by decide +kernel
theorem dX8_days_29 : decode cX8_days 29 = .ok (.ireturn, 1) := by decide +kernel
theorem dX8_days_30 : decode cX8_days 30 = .ok (.aload_n 0, 1) := by decide +kernel
theorem dX8_days_31 : decode cX8_days 31 = .ok (.dup, 1) := by decide +kernel
theorem dX8_days_32 : decode cX8_days 32 = .ok (.getfield 89, 3) := by decide +kernel
theorem dX8_days_35 : decode cX8_days 35 = .ok (.iload_n 1, 1) := by decide +kernel
theorem dX8_days_36 : decode cX8_days 36 = .ok (.iadd, 1) := by decide +kernel
theorem dX8_days_37 : decode cX8_days 37 = .ok (.putfield 89, 3) := by decide +kernel
theorem dX8_days_40 : decode cX8_days 40 = .ok (.aload_n 0, 1) := by decide +kernel
theorem dX8_days_41 : decode cX8_days 41 = .ok (.getfield 89, 3) := by decide +kernel
theorem dX8_days_44 : decode cX8_days 44 = .ok (.ireturn, 1) := by decide +kernel
theorem dX8_price_0 : decode cX8_price 0 = .ok (.aload_n 0, 1) := by decide +kernel
theorem dX8_price_1 : decode cX8_price 1 = .ok (.iconst 0, 1) := by decide +kernel
theorem dX8_price_2 : decode cX8_price 2 = .ok (.putfield 82, 3) := by decide +kernel
theorem dX8_price_5 : decode cX8_price 5 = .ok (.iload_n 1, 1) := by decide +kernel
theorem dX8_price_6 : decode cX8_price 6 = .ok (.iconst 0, 1) := by decide +kernel
theorem dX8_price_7 : decode cX8_price 7 = .ok (.iconst 4, 1) := by decide +kernel
theorem dX8_price_8 : decode cX8_price 8 = .ok (.invokestatic 92, 3) := by decide +kernel
theorem dX8_price_11 : decode cX8_price 11 = .ok (.ifCond .eq 39, 3) := by decide +kernel
theorem dX8_price_14 : decode cX8_price 14 = .ok (.iload_n 2, 1) := by decide +kernel
theorem dX8_price_15 : decode cX8_price 15 = .ok (.iconst 0, 1) := by decide +kernel
theorem dX8_price_16 : decode cX8_price 16 = .ok (.iload_n 1, 1) := by decide +kernel
theorem dX8_price_17 : decode cX8_price 17 = .ok (.iconst 4, 1) := by decide +kernel
theorem dX8_price_18 : decode cX8_price 18 = .ok (.if_icmp .ne 9, 3) := by decide +kernel
theorem dX8_price_21 : decode cX8_price 21 = .ok (.sipush 10000, 3) := by decide +kernel
theorem dX8_price_24 : decode cX8_price 24 = .ok (.goto 20, 3) := by decide +kernel
theorem dX8_price_27 : decode cX8_price 27 = .ok (.iload_n 1, 1) := by decide +kernel
theorem dX8_price_28 : decode cX8_price 28 = .ok (.ifCond .eq 8, 3) := by decide +kernel
theorem dX8_price_31 : decode cX8_price 31 = .ok (.iload_n 1, 1) := by decide +kernel
theorem dX8_price_32 : decode cX8_price 32 = .ok (.iconst 2, 1) := by decide +kernel
theorem dX8_price_33 : decode cX8_price 33 = .ok (.if_icmp .ne 8, 3) := by decide +kernel
theorem dX8_price_36 : decode cX8_price 36 = .ok (.bipush 20, 2) := by decide +kernel
theorem dX8_price_38 : decode cX8_price 38 = .ok (.goto 6, 3) := by decide +kernel
theorem dX8_price_41 : decode cX8_price 41 = .ok (.sipush 200, 3) := by decide +kernel
theorem dX8_price_44 : decode cX8_price 44 = .ok (.invokestatic 92, 3) := by decide +kernel
theorem dX8_price_47 : decode cX8_price 47 = .ok (.ifCond .ne 5, 3) := by decide +kernel
theorem dX8_price_50 : decode cX8_price 50 = .ok (.iconst 0, 1) := by decide +kernel
theorem dX8_price_51 : decode cX8_price 51 = .ok (.ireturn, 1) := by decide +kernel
theorem dX8_price_52 : decode cX8_price 52 = .ok (.aload_n 0, 1) := by decide +kernel
theorem dX8_price_53 : decode cX8_price 53 = .ok (.getfield 52, 3) := by decide +kernel
theorem dX8_price_56 : decode cX8_price 56 = .ok (.iload_n 1, 1) := by decide +kernel
theorem dX8_price_57 : decode cX8_price 57 = .ok (.iload_n 2, 1) := by decide +kernel
theorem dX8_price_58 : decode cX8_price 58 = .ok (.iastore, 1) := by decide +kernel
theorem dX8_price_59 : decode cX8_price 59 = .ok (.iconst 1, 1) := by decide +kernel
theorem dX8_price_60 : decode cX8_price 60 = .ok (.ireturn, 1) := by decide +kernel
theorem dX8_known_0 : decode cX8_known 0 = .ok (.iload 4, 2) := by decide +kernel
theorem dX8_known_2 : decode cX8_known 2 = .ok (.ifCond .eq 17, 3) := by decide +kernel
theorem dX8_known_5 : decode cX8_known 5 = .ok (.aload_n 0, 1) := by decide +kernel
theorem dX8_known_6 : decode cX8_known 6 = .ok (.getfield 28, 3) := by decide +kernel
theorem dX8_known_9 : decode cX8_known 9 = .ok (.bipush 24, 2) := by decide +kernel
theorem dX8_known_11 : decode cX8_known 11 = .ok (.iload_n 1, 1) := by decide +kernel
theorem dX8_known_12 : decode cX8_known 12 = .ok (.imul, 1) := by decide +kernel
theorem dX8_known_13 : decode cX8_known 13 = .ok (.iload_n 2, 1) := by decide +kernel
theorem dX8_known_14 : decode cX8_known 14 = .ok (.iadd, 1) := by decide +kernel
theorem dX8_known_15 : decode cX8_known 15 = .ok (.iaload, 1) := by decide +kernel
theorem dX8_known_16 : decode cX8_known 16 = .ok (.goto 14, 3) := by decide +kernel
theorem dX8_known_19 : decode cX8_known 19 = .ok (.aload_n 0, 1) := by decide +kernel
theorem dX8_known_20 : decode cX8_known 20 = .ok (.getfield 25, 3) := by decide +kernel
theorem dX8_known_23 : decode cX8_known 23 = .ok (.bipush 24, 2) := by decide +kernel
theorem dX8_known_25 : decode cX8_known 25 = .ok (.iload_n 1, 1) := by decide +kernel
theorem dX8_known_26 : decode cX8_known 26 = .ok (.imul, 1) := by decide +kernel
theorem dX8_known_27 : decode cX8_known 27 = .ok (.iload_n 2, 1) := by decide +kernel
theorem dX8_known_28 : decode cX8_known 28 = .ok (.iadd, 1) := by decide +kernel
theorem dX8_known_29 : decode cX8_known 29 = .ok (.iaload, 1) := by decide +kernel
theorem dX8_known_30 : decode cX8_known 30 = .ok (.istore 5, 2) := by decide +kernel
theorem dX8_known_32 : decode cX8_known 32 = .ok (.iconst 0, 1) := by decide +kernel
theorem dX8_known_33 : decode cX8_known 33 = .ok (.istore 6, 2) := by decide +kernel
theorem dX8_known_35 : decode cX8_known 35 = .ok (.iload 6, 2) := by decide +kernel
theorem dX8_known_37 : decode cX8_known 37 = .ok (.aload_n 0, 1) := by decide +kernel
theorem dX8_known_38 : decode cX8_known 38 = .ok (.getfield 104, 3) := by decide +kernel
theorem dX8_known_41 : decode cX8_known 41 = .ok (.if_icmp .ge 66, 3) := by decide +kernel
theorem dX8_known_44 : decode cX8_known 44 = .ok (.aload_n 0, 1) := by decide +kernel
theorem dX8_known_45 : decode cX8_known 45 = .ok (.getfield 31, 3) := by decide +kernel
theorem dX8_known_48 : decode cX8_known 48 = .ok (.iload 6, 2) := by decide +kernel
theorem dX8_known_50 : decode cX8_known 50 = .ok (.iaload, 1) := by decide +kernel
theorem dX8_known_51 : decode cX8_known 51 = .ok (.iload_n 1, 1) := by decide +kernel
theorem dX8_known_52 : decode cX8_known 52 = .ok (.if_icmp .ne 49, 3) := by decide +kernel
theorem dX8_known_55 : decode cX8_known 55 = .ok (.aload_n 0, 1) := by decide +kernel
theorem dX8_known_56 : decode cX8_known 56 = .ok (.getfield 34, 3) := by decide +kernel
theorem dX8_known_59 : decode cX8_known 59 = .ok (.iload 6, 2) := by decide +kernel
theorem dX8_known_61 : decode cX8_known 61 = .ok (.iaload, 1) := by decide +kernel
theorem dX8_known_62 : decode cX8_known 62 = .ok (.iload_n 2, 1) := by decide +kernel
theorem dX8_known_63 : decode cX8_known 63 = .ok (.if_icmp .ne 38, 3) := by decide +kernel
theorem dX8_known_66 : decode cX8_known 66 = .ok (.aload_n 0, 1) := by decide +kernel
theorem dX8_known_67 : decode cX8_known 67 = .ok (.getfield 43, 3) := by decide +kernel
theorem dX8_known_70 : decode cX8_known 70 = .ok (.iload 6, 2) := by decide +kernel
theorem dX8_known_72 : decode cX8_known 72 = .ok (.iaload, 1) := by decide +kernel
theorem dX8_known_73 : decode cX8_known 73 = .ok (.iload_n 3, 1) := by decide +kernel
theorem dX8_known_74 : decode cX8_known 74 = .ok (.if_icmp .gt 27, 3) := by decide +kernel
theorem dX8_known_77 : decode cX8_known 77 = .ok (.iload 4, 2) := by decide +kernel
theorem dX8_known_79 : decode cX8_known 79 = .ok (.ifCond .eq 13, 3) := by decide +kernel
theorem dX8_known_82 : decode cX8_known 82 = .ok (.aload_n 0, 1) := by decide +kernel
theorem dX8_known_83 : decode cX8_known 83 = .ok (.getfield 40, 3) := by decide +kernel
theorem dX8_known_86 : decode cX8_known 86 = .ok (.iload 6, 2) := by decide +kernel
theorem dX8_known_88 : decode cX8_known 88 = .ok (.iaload, 1) := by decide +kernel
theorem dX8_known_89 : decode cX8_known 89 = .ok (.goto 10, 3) := by decide +kernel
theorem dX8_known_92 : decode cX8_known 92 = .ok (.aload_n 0, 1) := by decide +kernel
theorem dX8_known_93 : decode cX8_known 93 = .ok (.getfield 37, 3) := by decide +kernel
theorem dX8_known_96 : decode cX8_known 96 = .ok (.iload 6, 2) := by decide +kernel
theorem dX8_known_98 : decode cX8_known 98 = .ok (.iaload, 1) := by decide +kernel
theorem dX8_known_99 : decode cX8_known 99 = .ok (.istore 5, 2) := by decide +kernel
theorem dX8_known_101 : decode cX8_known 101 = .ok (.iinc 6 1, 3) := by decide +kernel
theorem dX8_known_104 : decode cX8_known 104 = .ok (.goto (-69), 3) := by decide +kernel
theorem dX8_known_107 : decode cX8_known 107 = .ok (.iload 5, 2) := by decide +kernel
theorem dX8_known_109 : decode cX8_known 109 = .ok (.ireturn, 1) := by decide +kernel
theorem dX8_isForged_0 : decode cX8_isForged 0 = .ok (.aload_n 0, 1) := by decide +kernel
theorem dX8_isForged_1 : decode cX8_isForged 1 = .ok (.getfield 22, 3) := by decide +kernel
theorem dX8_isForged_4 : decode cX8_isForged 4 = .ok (.iload_n 1, 1) := by decide +kernel
theorem dX8_isForged_5 : decode cX8_isForged 5 = .ok (.iaload, 1) := by decide +kernel
theorem dX8_isForged_6 : decode cX8_isForged 6 = .ok (.iconst (-1), 1) := by decide +kernel
theorem dX8_isForged_7 : decode cX8_isForged 7 = .ok (.if_icmp .eq 17, 3) := by decide +kernel
theorem dX8_isForged_10 : decode cX8_isForged 10 = .ok (.aload_n 0, 1) := by decide +kernel
theorem dX8_isForged_11 : decode cX8_isForged 11 = .ok (.getfield 22, 3) := by decide +kernel
theorem dX8_isForged_14 : decode cX8_isForged 14 = .ok (.iload_n 1, 1) := by decide +kernel
theorem dX8_isForged_15 : decode cX8_isForged 15 = .ok (.iaload, 1) := by decide +kernel
theorem dX8_isForged_16 : decode cX8_isForged 16 = .ok (.iload_n 2, 1) := by decide +kernel
theorem dX8_isForged_17 : decode cX8_isForged 17 = .ok (.if_icmp .gt 7, 3) := by decide +kernel
theorem dX8_isForged_20 : decode cX8_isForged 20 = .ok (.iconst 1, 1) := by decide +kernel
theorem dX8_isForged_21 : decode cX8_isForged 21 = .ok (.goto 4, 3) := by decide +kernel
theorem dX8_isForged_24 : decode cX8_isForged 24 = .ok (.iconst 0, 1) := by decide +kernel
theorem dX8_isForged_25 : decode cX8_isForged 25 = .ok (.ireturn, 1) := by decide +kernel
theorem dX8_at_0 : decode cX8_at 0 = .ok (.aload_n 0, 1) := by decide +kernel
theorem dX8_at_1 : decode cX8_at 1 = .ok (.aload_n 0, 1) := by decide +kernel
theorem dX8_at_2 : decode cX8_at 2 = .ok (.iload_n 1, 1) := by decide +kernel
theorem dX8_at_3 : decode cX8_at 3 = .ok (.invokevirtual 96, 3) := by decide +kernel
theorem dX8_at_6 : decode cX8_at 6 = .ok (.ifCond .eq 35, 3) := by decide +kernel
theorem dX8_at_9 : decode cX8_at 9 = .ok (.iload_n 2, 1) := by decide +kernel
theorem dX8_at_10 : decode cX8_at 10 = .ok (.ifCond .lt 31, 3) := by decide +kernel
theorem dX8_at_13 : decode cX8_at 13 = .ok (.iload_n 2, 1) := by decide +kernel
theorem dX8_at_14 : decode cX8_at 14 = .ok (.aload_n 0, 1) := by decide +kernel
theorem dX8_at_15 : decode cX8_at 15 = .ok (.getfield 19, 3) := by decide +kernel
theorem dX8_at_18 : decode cX8_at 18 = .ok (.iload_n 1, 1) := by decide +kernel
theorem dX8_at_19 : decode cX8_at 19 = .ok (.iaload, 1) := by decide +kernel
theorem dX8_at_20 : decode cX8_at 20 = .ok (.if_icmp .ge 21, 3) := by decide +kernel
theorem dX8_at_23 : decode cX8_at 23 = .ok (.aload_n 0, 1) := by decide +kernel
theorem dX8_at_24 : decode cX8_at 24 = .ok (.iload_n 3, 1) := by decide +kernel
theorem dX8_at_25 : decode cX8_at 25 = .ok (.invokevirtual 110, 3) := by decide +kernel
theorem dX8_at_28 : decode cX8_at 28 = .ok (.ifCond .eq 13, 3) := by decide +kernel
theorem dX8_at_31 : decode cX8_at 31 = .ok (.iload 4, 2) := by decide +kernel
theorem dX8_at_33 : decode cX8_at 33 = .ok (.iconst 0, 1) := by decide +kernel
theorem dX8_at_34 : decode cX8_at 34 = .ok (.iconst 1, 1) := by decide +kernel
theorem dX8_at_35 : decode cX8_at 35 = .ok (.invokestatic 92, 3) := by decide +kernel
theorem dX8_at_38 : decode cX8_at 38 = .ok (.ifCond .ne 7, 3) := by decide +kernel
theorem dX8_at_41 : decode cX8_at 41 = .ok (.iconst 1, 1) := by decide +kernel
theorem dX8_at_42 : decode cX8_at 42 = .ok (.goto 4, 3) := by decide +kernel
theorem dX8_at_45 : decode cX8_at 45 = .ok (.iconst 0, 1) := by decide +kernel
theorem dX8_at_46 : decode cX8_at 46 = .ok (.putfield 82, 3) := by decide +kernel
theorem dX8_at_49 : decode cX8_at 49 = .ok (.aload_n 0, 1) := by decide +kernel
theorem dX8_at_50 : decode cX8_at 50 = .ok (.getfield 82, 3) := by decide +kernel
theorem dX8_at_53 : decode cX8_at 53 = .ok (.ifCond .le 7, 3) := by decide +kernel
theorem dX8_at_56 : decode cX8_at 56 = .ok (.iconst 0, 1) := by decide +kernel
theorem dX8_at_57 : decode cX8_at 57 = .ok (.goto 21, 3) := by decide +kernel
theorem dX8_at_60 : decode cX8_at 60 = .ok (.aload_n 0, 1) := by decide +kernel
theorem dX8_at_61 : decode cX8_at 61 = .ok (.iload_n 1, 1) := by decide +kernel
theorem dX8_at_62 : decode cX8_at 62 = .ok (.iload_n 2, 1) := by decide +kernel
theorem dX8_at_63 : decode cX8_at 63 = .ok (.iload_n 3, 1) := by decide +kernel
theorem dX8_at_64 : decode cX8_at 64 = .ok (.iload 4, 2) := by decide +kernel
theorem dX8_at_66 : decode cX8_at 66 = .ok (.iconst 1, 1) := by decide +kernel
theorem dX8_at_67 : decode cX8_at 67 = .ok (.if_icmp .ne 7, 3) := by decide +kernel
theorem dX8_at_70 : decode cX8_at 70 = .ok (.iconst 1, 1) := by decide +kernel
theorem dX8_at_71 : decode cX8_at 71 = .ok (.goto 4, 3) := by decide +kernel
theorem dX8_at_74 : decode cX8_at 74 = .ok (.iconst 0, 1) := by decide +kernel
theorem dX8_at_75 : decode cX8_at 75 = .ok (.invokevirtual 113, 3) := by decide +kernel
theorem dX8_at_78 : decode cX8_at 78 = .ok (.ireturn, 1) := by decide +kernel
theorem dX8_ready_0 : decode cX8_ready 0 = .ok (.aload_n 0, 1) := by decide +kernel
theorem dX8_ready_1 : decode cX8_ready 1 = .ok (.aload_n 0, 1) := by decide +kernel
theorem dX8_ready_2 : decode cX8_ready 2 = .ok (.getfield 19, 3) := by decide +kernel
theorem dX8_ready_5 : decode cX8_ready 5 = .ok (.iload_n 1, 1) := by decide +kernel
theorem dX8_ready_6 : decode cX8_ready 6 = .ok (.iaload, 1) := by decide +kernel
theorem dX8_ready_7 : decode cX8_ready 7 = .ok (.putfield 117, 3) := by decide +kernel
theorem dX8_ready_10 : decode cX8_ready 10 = .ok (.aload_n 0, 1) := by decide +kernel
theorem dX8_ready_11 : decode cX8_ready 11 = .ok (.aload_n 0, 1) := by decide +kernel
theorem dX8_ready_12 : decode cX8_ready 12 = .ok (.getfield 19, 3) := by decide +kernel
theorem dX8_ready_15 : decode cX8_ready 15 = .ok (.iload_n 2, 1) := by decide +kernel
theorem dX8_ready_16 : decode cX8_ready 16 = .ok (.iaload, 1) := by decide +kernel
theorem dX8_ready_17 : decode cX8_ready 17 = .ok (.putfield 120, 3) := by decide +kernel
theorem dX8_ready_20 : decode cX8_ready 20 = .ok (.iconst 0, 1) := by decide +kernel
theorem dX8_ready_21 : decode cX8_ready 21 = .ok (.istore 4, 2) := by decide +kernel
theorem dX8_ready_23 : decode cX8_ready 23 = .ok (.iload 4, 2) := by decide +kernel
theorem dX8_ready_25 : decode cX8_ready 25 = .ok (.aload_n 0, 1) := by decide +kernel
theorem dX8_ready_26 : decode cX8_ready 26 = .ok (.getfield 117, 3) := by decide +kernel
theorem dX8_ready_29 : decode cX8_ready 29 = .ok (.if_icmp .ge 41, 3) := by decide +kernel
theorem dX8_ready_32 : decode cX8_ready 32 = .ok (.aload_n 0, 1) := by decide +kernel
theorem dX8_ready_33 : decode cX8_ready 33 = .ok (.getfield 55, 3) := by decide +kernel
theorem dX8_ready_36 : decode cX8_ready 36 = .ok (.iload 4, 2) := by decide +kernel
theorem dX8_ready_38 : decode cX8_ready 38 = .ok (.aload_n 0, 1) := by decide +kernel
theorem dX8_ready_39 : decode cX8_ready 39 = .ok (.iload_n 1, 1) := by decide +kernel
theorem dX8_ready_40 : decode cX8_ready 40 = .ok (.iload 4, 2) := by decide +kernel
theorem dX8_ready_42 : decode cX8_ready 42 = .ok (.iload_n 3, 1) := by decide +kernel
theorem dX8_ready_43 : decode cX8_ready 43 = .ok (.iconst 0, 1) := by decide +kernel
theorem dX8_ready_44 : decode cX8_ready 44 = .ok (.invokevirtual 113, 3) := by decide +kernel
theorem dX8_ready_47 : decode cX8_ready 47 = .ok (.iastore, 1) := by decide +kernel
theorem dX8_ready_48 : decode cX8_ready 48 = .ok (.aload_n 0, 1) := by decide +kernel
theorem dX8_ready_49 : decode cX8_ready 49 = .ok (.getfield 58, 3) := by decide +kernel
theorem dX8_ready_52 : decode cX8_ready 52 = .ok (.iload 4, 2) := by decide +kernel
theorem dX8_ready_54 : decode cX8_ready 54 = .ok (.aload_n 0, 1) := by decide +kernel
theorem dX8_ready_55 : decode cX8_ready 55 = .ok (.iload_n 1, 1) := by decide +kernel
theorem dX8_ready_56 : decode cX8_ready 56 = .ok (.iload 4, 2) := by decide +kernel
theorem dX8_ready_58 : decode cX8_ready 58 = .ok (.iload_n 3, 1) := by decide +kernel
theorem dX8_ready_59 : decode cX8_ready 59 = .ok (.iconst 1, 1) := by decide +kernel
theorem dX8_ready_60 : decode cX8_ready 60 = .ok (.invokevirtual 113, 3) := by decide +kernel
theorem dX8_ready_63 : decode cX8_ready 63 = .ok (.iastore, 1) := by decide +kernel
theorem dX8_ready_64 : decode cX8_ready 64 = .ok (.iinc 4 1, 3) := by decide +kernel
theorem dX8_ready_67 : decode cX8_ready 67 = .ok (.goto (-44), 3) := by decide +kernel
theorem dX8_ready_70 : decode cX8_ready 70 = .ok (.iconst 0, 1) := by decide +kernel
theorem dX8_ready_71 : decode cX8_ready 71 = .ok (.istore 4, 2) := by decide +kernel
theorem dX8_ready_73 : decode cX8_ready 73 = .ok (.iload 4, 2) := by decide +kernel
theorem dX8_ready_75 : decode cX8_ready 75 = .ok (.aload_n 0, 1) := by decide +kernel
theorem dX8_ready_76 : decode cX8_ready 76 = .ok (.getfield 120, 3) := by decide +kernel
theorem dX8_ready_79 : decode cX8_ready 79 = .ok (.if_icmp .ge 41, 3) := by decide +kernel
theorem dX8_ready_82 : decode cX8_ready 82 = .ok (.aload_n 0, 1) := by decide +kernel
theorem dX8_ready_83 : decode cX8_ready 83 = .ok (.getfield 61, 3) := by decide +kernel
theorem dX8_ready_86 : decode cX8_ready 86 = .ok (.iload 4, 2) := by decide +kernel
theorem dX8_ready_88 : decode cX8_ready 88 = .ok (.aload_n 0, 1) := by decide +kernel
theorem dX8_ready_89 : decode cX8_ready 89 = .ok (.iload_n 2, 1) := by decide +kernel
theorem dX8_ready_90 : decode cX8_ready 90 = .ok (.iload 4, 2) := by decide +kernel
theorem dX8_ready_92 : decode cX8_ready 92 = .ok (.iload_n 3, 1) := by decide +kernel
theorem dX8_ready_93 : decode cX8_ready 93 = .ok (.iconst 0, 1) := by decide +kernel
theorem dX8_ready_94 : decode cX8_ready 94 = .ok (.invokevirtual 113, 3) := by decide +kernel
theorem dX8_ready_97 : decode cX8_ready 97 = .ok (.iastore, 1) := by decide +kernel
theorem dX8_ready_98 : decode cX8_ready 98 = .ok (.aload_n 0, 1) := by decide +kernel
theorem dX8_ready_99 : decode cX8_ready 99 = .ok (.getfield 64, 3) := by decide +kernel
theorem dX8_ready_102 : decode cX8_ready 102 = .ok (.iload 4, 2) := by decide +kernel
theorem dX8_ready_104 : decode cX8_ready 104 = .ok (.aload_n 0, 1) := by decide +kernel
theorem dX8_ready_105 : decode cX8_ready 105 = .ok (.iload_n 2, 1) := by decide +kernel
theorem dX8_ready_106 : decode cX8_ready 106 = .ok (.iload 4, 2) := by decide +kernel
theorem dX8_ready_108 : decode cX8_ready 108 = .ok (.iload_n 3, 1) := by decide +kernel
theorem dX8_ready_109 : decode cX8_ready 109 = .ok (.iconst 1, 1) := by decide +kernel
theorem dX8_ready_110 : decode cX8_ready 110 = .ok (.invokevirtual 113, 3) := by decide +kernel
theorem dX8_ready_113 : decode cX8_ready 113 = .ok (.iastore, 1) := by decide +kernel
theorem dX8_ready_114 : decode cX8_ready 114 = .ok (.iinc 4 1, 3) := by decide +kernel
theorem dX8_ready_117 : decode cX8_ready 117 = .ok (.goto (-44), 3) := by decide +kernel
theorem dX8_ready_120 : decode cX8_ready 120 = .ok (.return_, 1) := by decide +kernel
theorem dX8_ofTwo_0 : decode cX8_ofTwo 0 = .ok (.aload_n 0, 1) := by decide +kernel
theorem dX8_ofTwo_1 : decode cX8_ofTwo 1 = .ok (.getfield 55, 3) := by decide +kernel
theorem dX8_ofTwo_4 : decode cX8_ofTwo 4 = .ok (.iload_n 1, 1) := by decide +kernel
theorem dX8_ofTwo_5 : decode cX8_ofTwo 5 = .ok (.iaload, 1) := by decide +kernel
theorem dX8_ofTwo_6 : decode cX8_ofTwo 6 = .ok (.iconst (-1), 1) := by decide +kernel
theorem dX8_ofTwo_7 : decode cX8_ofTwo 7 = .ok (.if_icmp .eq 13, 3) := by decide +kernel
theorem dX8_ofTwo_10 : decode cX8_ofTwo 10 = .ok (.aload_n 0, 1) := by decide +kernel
theorem dX8_ofTwo_11 : decode cX8_ofTwo 11 = .ok (.getfield 61, 3) := by decide +kernel
theorem dX8_ofTwo_14 : decode cX8_ofTwo 14 = .ok (.iload_n 2, 1) := by decide +kernel
theorem dX8_ofTwo_15 : decode cX8_ofTwo 15 = .ok (.iaload, 1) := by decide +kernel
theorem dX8_ofTwo_16 : decode cX8_ofTwo 16 = .ok (.iconst (-1), 1) := by decide +kernel
theorem dX8_ofTwo_17 : decode cX8_ofTwo 17 = .ok (.if_icmp .ne 5, 3) := by decide +kernel
theorem dX8_ofTwo_20 : decode cX8_ofTwo 20 = .ok (.iconst 0, 1) := by decide +kernel
theorem dX8_ofTwo_21 : decode cX8_ofTwo 21 = .ok (.ireturn, 1) := by decide +kernel
theorem dX8_ofTwo_22 : decode cX8_ofTwo 22 = .ok (.aload_n 0, 1) := by decide +kernel
theorem dX8_ofTwo_23 : decode cX8_ofTwo 23 = .ok (.getfield 52, 3) := by decide +kernel
theorem dX8_ofTwo_26 : decode cX8_ofTwo 26 = .ok (.iconst 1, 1) := by decide +kernel
theorem dX8_ofTwo_27 : decode cX8_ofTwo 27 = .ok (.iaload, 1) := by decide +kernel
theorem dX8_ofTwo_28 : decode cX8_ofTwo 28 = .ok (.aload_n 0, 1) := by decide +kernel
theorem dX8_ofTwo_29 : decode cX8_ofTwo 29 = .ok (.getfield 52, 3) := by decide +kernel
theorem dX8_ofTwo_32 : decode cX8_ofTwo 32 = .ok (.iconst 0, 1) := by decide +kernel
theorem dX8_ofTwo_33 : decode cX8_ofTwo 33 = .ok (.iaload, 1) := by decide +kernel
theorem dX8_ofTwo_34 : decode cX8_ofTwo 34 = .ok (.aload_n 0, 1) := by decide +kernel
theorem dX8_ofTwo_35 : decode cX8_ofTwo 35 = .ok (.getfield 55, 3) := by decide +kernel
theorem dX8_ofTwo_38 : decode cX8_ofTwo 38 = .ok (.iload_n 1, 1) := by decide +kernel
theorem dX8_ofTwo_39 : decode cX8_ofTwo 39 = .ok (.iaload, 1) := by decide +kernel
theorem dX8_ofTwo_40 : decode cX8_ofTwo 40 = .ok (.iload_n 3, 1) := by decide +kernel
theorem dX8_ofTwo_41 : decode cX8_ofTwo 41 = .ok (.iadd, 1) := by decide +kernel
theorem dX8_ofTwo_42 : decode cX8_ofTwo 42 = .ok (.aload_n 0, 1) := by decide +kernel
theorem dX8_ofTwo_43 : decode cX8_ofTwo 43 = .ok (.getfield 61, 3) := by decide +kernel
theorem dX8_ofTwo_46 : decode cX8_ofTwo 46 = .ok (.iload_n 2, 1) := by decide +kernel
theorem dX8_ofTwo_47 : decode cX8_ofTwo 47 = .ok (.iaload, 1) := by decide +kernel
theorem dX8_ofTwo_48 : decode cX8_ofTwo 48 = .ok (.isub, 1) := by decide +kernel
theorem dX8_ofTwo_49 : decode cX8_ofTwo 49 = .ok (.invokestatic 123, 3) := by decide +kernel
theorem dX8_ofTwo_52 : decode cX8_ofTwo 52 = .ok (.imul, 1) := by decide +kernel
theorem dX8_ofTwo_53 : decode cX8_ofTwo 53 = .ok (.invokestatic 129, 3) := by decide +kernel
theorem dX8_ofTwo_56 : decode cX8_ofTwo 56 = .ok (.aload_n 0, 1) := by decide +kernel
theorem dX8_ofTwo_57 : decode cX8_ofTwo 57 = .ok (.getfield 52, 3) := by decide +kernel
theorem dX8_ofTwo_60 : decode cX8_ofTwo 60 = .ok (.iconst 2, 1) := by decide +kernel
theorem dX8_ofTwo_61 : decode cX8_ofTwo 61 = .ok (.iaload, 1) := by decide +kernel
theorem dX8_ofTwo_62 : decode cX8_ofTwo 62 = .ok (.aload_n 0, 1) := by decide +kernel
theorem dX8_ofTwo_63 : decode cX8_ofTwo 63 = .ok (.getfield 58, 3) := by decide +kernel
theorem dX8_ofTwo_66 : decode cX8_ofTwo 66 = .ok (.iload_n 1, 1) := by decide +kernel
theorem dX8_ofTwo_67 : decode cX8_ofTwo 67 = .ok (.iaload, 1) := by decide +kernel
theorem dX8_ofTwo_68 : decode cX8_ofTwo 68 = .ok (.aload_n 0, 1) := by decide +kernel
theorem dX8_ofTwo_69 : decode cX8_ofTwo 69 = .ok (.getfield 64, 3) := by decide +kernel
theorem dX8_ofTwo_72 : decode cX8_ofTwo 72 = .ok (.iload_n 2, 1) := by decide +kernel
theorem dX8_ofTwo_73 : decode cX8_ofTwo 73 = .ok (.iaload, 1) := by decide +kernel
theorem dX8_ofTwo_74 : decode cX8_ofTwo 74 = .ok (.isub, 1) := by decide +kernel
theorem dX8_ofTwo_75 : decode cX8_ofTwo 75 = .ok (.invokestatic 123, 3) := by decide +kernel
theorem dX8_ofTwo_78 : decode cX8_ofTwo 78 = .ok (.imul, 1) := by decide +kernel
theorem dX8_ofTwo_79 : decode cX8_ofTwo 79 = .ok (.iadd, 1) := by decide +kernel
theorem dX8_ofTwo_80 : decode cX8_ofTwo 80 = .ok (.ireturn, 1) := by decide +kernel
theorem dX8_alone_0 : decode cX8_alone 0 = .ok (.iload_n 1, 1) := by decide +kernel
theorem dX8_alone_1 : decode cX8_alone 1 = .ok (.iconst (-1), 1) := by decide +kernel
theorem dX8_alone_2 : decode cX8_alone 2 = .ok (.if_icmp .ne 7, 3) := by decide +kernel
theorem dX8_alone_5 : decode cX8_alone 5 = .ok (.iconst 0, 1) := by decide +kernel
theorem dX8_alone_6 : decode cX8_alone 6 = .ok (.goto 9, 3) := by decide +kernel
theorem dX8_alone_9 : decode cX8_alone 9 = .ok (.aload_n 0, 1) := by decide +kernel
theorem dX8_alone_10 : decode cX8_alone 10 = .ok (.getfield 52, 3) := by decide +kernel
theorem dX8_alone_13 : decode cX8_alone 13 = .ok (.iconst 3, 1) := by decide +kernel
theorem dX8_alone_14 : decode cX8_alone 14 = .ok (.iaload, 1) := by decide +kernel
theorem dX8_alone_15 : decode cX8_alone 15 = .ok (.ireturn, 1) := by decide +kernel
theorem dX8_lay_0 : decode cX8_lay 0 = .ok (.iconst 0, 1) := by decide +kernel
theorem dX8_lay_1 : decode cX8_lay 1 = .ok (.istore_n 2, 1) := by decide +kernel
theorem dX8_lay_2 : decode cX8_lay 2 = .ok (.iload_n 2, 1) := by decide +kernel
theorem dX8_lay_3 : decode cX8_lay 3 = .ok (.aload_n 0, 1) := by decide +kernel
theorem dX8_lay_4 : decode cX8_lay 4 = .ok (.getfield 117, 3) := by decide +kernel
theorem dX8_lay_7 : decode cX8_lay 7 = .ok (.if_icmp .gt 165, 3) := by decide +kernel
theorem dX8_lay_10 : decode cX8_lay 10 = .ok (.iconst 0, 1) := by decide +kernel
theorem dX8_lay_11 : decode cX8_lay 11 = .ok (.istore_n 3, 1) := by decide +kernel
theorem dX8_lay_12 : decode cX8_lay 12 = .ok (.iload_n 3, 1) := by decide +kernel
theorem dX8_lay_13 : decode cX8_lay 13 = .ok (.aload_n 0, 1) := by decide +kernel
theorem dX8_lay_14 : decode cX8_lay 14 = .ok (.getfield 120, 3) := by decide +kernel
theorem dX8_lay_17 : decode cX8_lay 17 = .ok (.if_icmp .gt 149, 3) := by decide +kernel
theorem dX8_lay_20 : decode cX8_lay 20 = .ok (.iload_n 2, 1) := by decide +kernel
theorem dX8_lay_21 : decode cX8_lay 21 = .ok (.ifCond .ne 11, 3) := by decide +kernel
theorem dX8_lay_24 : decode cX8_lay 24 = .ok (.iload_n 3, 1) := by decide +kernel
theorem dX8_lay_25 : decode cX8_lay 25 = .ok (.ifCond .ne 7, 3) := by decide +kernel
theorem dX8_lay_28 : decode cX8_lay 28 = .ok (.iconst 0, 1) := by decide +kernel
theorem dX8_lay_29 : decode cX8_lay 29 = .ok (.goto 5, 3) := by decide +kernel
theorem dX8_lay_32 : decode cX8_lay 32 = .ok (.ldc 135, 2) := by decide +kernel
theorem dX8_lay_34 : decode cX8_lay 34 = .ok (.istore 4, 2) := by decide +kernel
theorem dX8_lay_36 : decode cX8_lay 36 = .ok (.iload_n 2, 1) := by decide +kernel
theorem dX8_lay_37 : decode cX8_lay 37 = .ok (.ifCond .le 36, 3) := by decide +kernel
theorem dX8_lay_40 : decode cX8_lay 40 = .ok (.iload_n 3, 1) := by decide +kernel
theorem dX8_lay_41 : decode cX8_lay 41 = .ok (.ifCond .le 32, 3) := by decide +kernel
theorem dX8_lay_44 : decode cX8_lay 44 = .ok (.aload_n 0, 1) := by decide +kernel
theorem dX8_lay_45 : decode cX8_lay 45 = .ok (.getfield 67, 3) := by decide +kernel
theorem dX8_lay_48 : decode cX8_lay 48 = .ok (.bipush 25, 2) := by decide +kernel
theorem dX8_lay_50 : decode cX8_lay 50 = .ok (.iload_n 2, 1) := by decide +kernel
theorem dX8_lay_51 : decode cX8_lay 51 = .ok (.iconst 1, 1) := by decide +kernel
theorem dX8_lay_52 : decode cX8_lay 52 = .ok (.isub, 1) := by decide +kernel
theorem dX8_lay_53 : decode cX8_lay 53 = .ok (.imul, 1) := by decide +kernel
theorem dX8_lay_54 : decode cX8_lay 54 = .ok (.iload_n 3, 1) := by decide +kernel
theorem dX8_lay_55 : decode cX8_lay 55 = .ok (.iadd, 1) := by decide +kernel
theorem dX8_lay_56 : decode cX8_lay 56 = .ok (.iconst 1, 1) := by decide +kernel
theorem dX8_lay_57 : decode cX8_lay 57 = .ok (.isub, 1) := by decide +kernel
theorem dX8_lay_58 : decode cX8_lay 58 = .ok (.iaload, 1) := by decide +kernel
theorem dX8_lay_59 : decode cX8_lay 59 = .ok (.aload_n 0, 1) := by decide +kernel
theorem dX8_lay_60 : decode cX8_lay 60 = .ok (.iload_n 2, 1) := by decide +kernel
theorem dX8_lay_61 : decode cX8_lay 61 = .ok (.iconst 1, 1) := by decide +kernel
theorem dX8_lay_62 : decode cX8_lay 62 = .ok (.isub, 1) := by decide +kernel
theorem dX8_lay_63 : decode cX8_lay 63 = .ok (.iload_n 3, 1) := by decide +kernel
theorem dX8_lay_64 : decode cX8_lay 64 = .ok (.iconst 1, 1) := by decide +kernel
theorem dX8_lay_65 : decode cX8_lay 65 = .ok (.isub, 1) := by decide +kernel
theorem dX8_lay_66 : decode cX8_lay 66 = .ok (.iload_n 1, 1) := by decide +kernel
theorem dX8_lay_67 : decode cX8_lay 67 = .ok (.invokevirtual 136, 3) := by decide +kernel
theorem dX8_lay_70 : decode cX8_lay 70 = .ok (.iadd, 1) := by decide +kernel
theorem dX8_lay_71 : decode cX8_lay 71 = .ok (.istore 4, 2) := by decide +kernel
theorem dX8_lay_73 : decode cX8_lay 73 = .ok (.iload_n 2, 1) := by decide +kernel
theorem dX8_lay_74 : decode cX8_lay 74 = .ok (.ifCond .le 36, 3) := by decide +kernel
theorem dX8_lay_77 : decode cX8_lay 77 = .ok (.iload 4, 2) := by decide +kernel
theorem dX8_lay_79 : decode cX8_lay 79 = .ok (.aload_n 0, 1) := by decide +kernel
theorem dX8_lay_80 : decode cX8_lay 80 = .ok (.getfield 67, 3) := by decide +kernel
theorem dX8_lay_83 : decode cX8_lay 83 = .ok (.bipush 25, 2) := by decide +kernel
theorem dX8_lay_85 : decode cX8_lay 85 = .ok (.iload_n 2, 1) := by decide +kernel
theorem dX8_lay_86 : decode cX8_lay 86 = .ok (.iconst 1, 1) := by decide +kernel
theorem dX8_lay_87 : decode cX8_lay 87 = .ok (.isub, 1) := by decide +kernel
theorem dX8_lay_88 : decode cX8_lay 88 = .ok (.imul, 1) := by decide +kernel
theorem dX8_lay_89 : decode cX8_lay 89 = .ok (.iload_n 3, 1) := by decide +kernel
theorem dX8_lay_90 : decode cX8_lay 90 = .ok (.iadd, 1) := by decide +kernel
theorem dX8_lay_91 : decode cX8_lay 91 = .ok (.iaload, 1) := by decide +kernel
theorem dX8_lay_92 : decode cX8_lay 92 = .ok (.aload_n 0, 1) := by decide +kernel
theorem dX8_lay_93 : decode cX8_lay 93 = .ok (.aload_n 0, 1) := by decide +kernel
theorem dX8_lay_94 : decode cX8_lay 94 = .ok (.getfield 55, 3) := by decide +kernel
theorem dX8_lay_97 : decode cX8_lay 97 = .ok (.iload_n 2, 1) := by decide +kernel
theorem dX8_lay_98 : decode cX8_lay 98 = .ok (.iconst 1, 1) := by decide +kernel
theorem dX8_lay_99 : decode cX8_lay 99 = .ok (.isub, 1) := by decide +kernel
theorem dX8_lay_100 : decode cX8_lay 100 = .ok (.iaload, 1) := by decide +kernel
theorem dX8_lay_101 : decode cX8_lay 101 = .ok (.invokevirtual 140, 3) := by decide +kernel
theorem dX8_lay_104 : decode cX8_lay 104 = .ok (.iadd, 1) := by decide +kernel
theorem dX8_lay_105 : decode cX8_lay 105 = .ok (.invokestatic 129, 3) := by decide +kernel
theorem dX8_lay_108 : decode cX8_lay 108 = .ok (.istore 4, 2) := by decide +kernel
theorem dX8_lay_110 : decode cX8_lay 110 = .ok (.iload_n 3, 1) := by decide +kernel
theorem dX8_lay_111 : decode cX8_lay 111 = .ok (.ifCond .le 36, 3) := by decide +kernel
theorem dX8_lay_114 : decode cX8_lay 114 = .ok (.iload 4, 2) := by decide +kernel
theorem dX8_lay_116 : decode cX8_lay 116 = .ok (.aload_n 0, 1) := by decide +kernel
theorem dX8_lay_117 : decode cX8_lay 117 = .ok (.getfield 67, 3) := by decide +kernel
theorem dX8_lay_120 : decode cX8_lay 120 = .ok (.bipush 25, 2) := by decide +kernel
theorem dX8_lay_122 : decode cX8_lay 122 = .ok (.iload_n 2, 1) := by decide +kernel
theorem dX8_lay_123 : decode cX8_lay 123 = .ok (.imul, 1) := by decide +kernel
theorem dX8_lay_124 : decode cX8_lay 124 = .ok (.iload_n 3, 1) := by decide +kernel
theorem dX8_lay_125 : decode cX8_lay 125 = .ok (.iadd, 1) := by decide +kernel
theorem dX8_lay_126 : decode cX8_lay 126 = .ok (.iconst 1, 1) := by decide +kernel
theorem dX8_lay_127 : decode cX8_lay 127 = .ok (.isub, 1) := by decide +kernel
theorem dX8_lay_128 : decode cX8_lay 128 = .ok (.iaload, 1) := by decide +kernel
theorem dX8_lay_129 : decode cX8_lay 129 = .ok (.aload_n 0, 1) := by decide +kernel
theorem dX8_lay_130 : decode cX8_lay 130 = .ok (.aload_n 0, 1) := by decide +kernel
theorem dX8_lay_131 : decode cX8_lay 131 = .ok (.getfield 61, 3) := by decide +kernel
theorem dX8_lay_134 : decode cX8_lay 134 = .ok (.iload_n 3, 1) := by decide +kernel
theorem dX8_lay_135 : decode cX8_lay 135 = .ok (.iconst 1, 1) := by decide +kernel
theorem dX8_lay_136 : decode cX8_lay 136 = .ok (.isub, 1) := by decide +kernel
theorem dX8_lay_137 : decode cX8_lay 137 = .ok (.iaload, 1) := by decide +kernel
theorem dX8_lay_138 : decode cX8_lay 138 = .ok (.invokevirtual 140, 3) := by decide +kernel
theorem dX8_lay_141 : decode cX8_lay 141 = .ok (.iadd, 1) := by decide +kernel
theorem dX8_lay_142 : decode cX8_lay 142 = .ok (.invokestatic 129, 3) := by decide +kernel
theorem dX8_lay_145 : decode cX8_lay 145 = .ok (.istore 4, 2) := by decide +kernel
theorem dX8_lay_147 : decode cX8_lay 147 = .ok (.aload_n 0, 1) := by decide +kernel
theorem dX8_lay_148 : decode cX8_lay 148 = .ok (.getfield 67, 3) := by decide +kernel
theorem dX8_lay_151 : decode cX8_lay 151 = .ok (.bipush 25, 2) := by decide +kernel
theorem dX8_lay_153 : decode cX8_lay 153 = .ok (.iload_n 2, 1) := by decide +kernel
theorem dX8_lay_154 : decode cX8_lay 154 = .ok (.imul, 1) := by decide +kernel
theorem dX8_lay_155 : decode cX8_lay 155 = .ok (.iload_n 3, 1) := by decide +kernel
theorem dX8_lay_156 : decode cX8_lay 156 = .ok (.iadd, 1) := by decide +kernel
theorem dX8_lay_157 : decode cX8_lay 157 = .ok (.iload 4, 2) := by decide +kernel
theorem dX8_lay_159 : decode cX8_lay 159 = .ok (.iastore, 1) := by decide +kernel
theorem dX8_lay_160 : decode cX8_lay 160 = .ok (.iinc 3 1, 3) := by decide +kernel
theorem dX8_lay_163 : decode cX8_lay 163 = .ok (.goto (-151), 3) := by decide +kernel
theorem dX8_lay_166 : decode cX8_lay 166 = .ok (.iinc 2 1, 3) := by decide +kernel
theorem dX8_lay_169 : decode cX8_lay 169 = .ok (.goto (-167), 3) := by decide +kernel
theorem dX8_lay_172 : decode cX8_lay 172 = .ok (.aload_n 0, 1) := by decide +kernel
theorem dX8_lay_173 : decode cX8_lay 173 = .ok (.getfield 67, 3) := by decide +kernel
theorem dX8_lay_176 : decode cX8_lay 176 = .ok (.bipush 25, 2) := by decide +kernel
theorem dX8_lay_178 : decode cX8_lay 178 = .ok (.aload_n 0, 1) := by decide +kernel
theorem dX8_lay_179 : decode cX8_lay 179 = .ok (.getfield 117, 3) := by decide +kernel
theorem dX8_lay_182 : decode cX8_lay 182 = .ok (.imul, 1) := by decide +kernel
theorem dX8_lay_183 : decode cX8_lay 183 = .ok (.aload_n 0, 1) := by decide +kernel
theorem dX8_lay_184 : decode cX8_lay 184 = .ok (.getfield 120, 3) := by decide +kernel
theorem dX8_lay_187 : decode cX8_lay 187 = .ok (.iadd, 1) := by decide +kernel
theorem dX8_lay_188 : decode cX8_lay 188 = .ok (.iaload, 1) := by decide +kernel
theorem dX8_lay_189 : decode cX8_lay 189 = .ok (.ireturn, 1) := by decide +kernel
theorem dX8_far_0 : decode cX8_far 0 = .ok (.aload_n 0, 1) := by decide +kernel
theorem dX8_far_1 : decode cX8_far 1 = .ok (.iload_n 1, 1) := by decide +kernel
theorem dX8_far_2 : decode cX8_far 2 = .ok (.iload_n 2, 1) := by decide +kernel
theorem dX8_far_3 : decode cX8_far 3 = .ok (.iload_n 3, 1) := by decide +kernel
theorem dX8_far_4 : decode cX8_far 4 = .ok (.invokevirtual 143, 3) := by decide +kernel
theorem dX8_far_7 : decode cX8_far 7 = .ok (.aload_n 0, 1) := by decide +kernel
theorem dX8_far_8 : decode cX8_far 8 = .ok (.ldc 135, 2) := by decide +kernel
theorem dX8_far_10 : decode cX8_far 10 = .ok (.putfield 147, 3) := by decide +kernel
theorem dX8_far_13 : decode cX8_far 13 = .ok (.iconst 0, 1) := by decide +kernel
theorem dX8_far_14 : decode cX8_far 14 = .ok (.istore 4, 2) := by decide +kernel
theorem dX8_far_16 : decode cX8_far 16 = .ok (.iload 4, 2) := by decide +kernel
theorem dX8_far_18 : decode cX8_far 18 = .ok (.bipush 12, 2) := by decide +kernel
theorem dX8_far_20 : decode cX8_far 20 = .ok (.if_icmp .gt 75, 3) := by decide +kernel
theorem dX8_far_23 : decode cX8_far 23 = .ok (.iconst (-1), 1) := by decide +kernel
theorem dX8_far_24 : decode cX8_far 24 = .ok (.istore 5, 2) := by decide +kernel
theorem dX8_far_26 : decode cX8_far 26 = .ok (.iload 5, 2) := by decide +kernel
theorem dX8_far_28 : decode cX8_far 28 = .ok (.iconst 2, 1) := by decide +kernel
theorem dX8_far_29 : decode cX8_far 29 = .ok (.if_icmp .ge 60, 3) := by decide +kernel
theorem dX8_far_32 : decode cX8_far 32 = .ok (.iload 4, 2) := by decide +kernel
theorem dX8_far_34 : decode cX8_far 34 = .ok (.ifCond .ne 11, 3) := by decide +kernel
theorem dX8_far_37 : decode cX8_far 37 = .ok (.iload 5, 2) := by decide +kernel
theorem dX8_far_39 : decode cX8_far 39 = .ok (.ifCond .le 6, 3) := by decide +kernel
theorem dX8_far_42 : decode cX8_far 42 = .ok (.goto 41, 3) := by decide +kernel
theorem dX8_far_45 : decode cX8_far 45 = .ok (.aload_n 0, 1) := by decide +kernel
theorem dX8_far_46 : decode cX8_far 46 = .ok (.iload 5, 2) := by decide +kernel
theorem dX8_far_48 : decode cX8_far 48 = .ok (.iload 4, 2) := by decide +kernel
theorem dX8_far_50 : decode cX8_far 50 = .ok (.imul, 1) := by decide +kernel
theorem dX8_far_51 : decode cX8_far 51 = .ok (.invokevirtual 150, 3) := by decide +kernel
theorem dX8_far_54 : decode cX8_far 54 = .ok (.istore 6, 2) := by decide +kernel
theorem dX8_far_56 : decode cX8_far 56 = .ok (.iload 6, 2) := by decide +kernel
theorem dX8_far_58 : decode cX8_far 58 = .ok (.aload_n 0, 1) := by decide +kernel
theorem dX8_far_59 : decode cX8_far 59 = .ok (.getfield 147, 3) := by decide +kernel
theorem dX8_far_62 : decode cX8_far 62 = .ok (.if_icmp .lt 6, 3) := by decide +kernel
theorem dX8_far_65 : decode cX8_far 65 = .ok (.goto 18, 3) := by decide +kernel
theorem dX8_far_68 : decode cX8_far 68 = .ok (.aload_n 0, 1) := by decide +kernel
theorem dX8_far_69 : decode cX8_far 69 = .ok (.iload 6, 2) := by decide +kernel
theorem dX8_far_71 : decode cX8_far 71 = .ok (.putfield 147, 3) := by decide +kernel
theorem dX8_far_74 : decode cX8_far 74 = .ok (.aload_n 0, 1) := by decide +kernel
theorem dX8_far_75 : decode cX8_far 75 = .ok (.iload 5, 2) := by decide +kernel
theorem dX8_far_77 : decode cX8_far 77 = .ok (.iload 4, 2) := by decide +kernel
theorem dX8_far_79 : decode cX8_far 79 = .ok (.imul, 1) := by decide +kernel
theorem dX8_far_80 : decode cX8_far 80 = .ok (.putfield 153, 3) := by decide +kernel
theorem dX8_far_83 : decode cX8_far 83 = .ok (.iinc 5 2, 3) := by decide +kernel
theorem dX8_far_86 : decode cX8_far 86 = .ok (.goto (-60), 3) := by decide +kernel
theorem dX8_far_89 : decode cX8_far 89 = .ok (.iinc 4 1, 3) := by decide +kernel
theorem dX8_far_92 : decode cX8_far 92 = .ok (.goto (-76), 3) := by decide +kernel
theorem dX8_far_95 : decode cX8_far 95 = .ok (.aload_n 0, 1) := by decide +kernel
theorem dX8_far_96 : decode cX8_far 96 = .ok (.getfield 147, 3) := by decide +kernel
theorem dX8_far_99 : decode cX8_far 99 = .ok (.ireturn, 1) := by decide +kernel
theorem dX8_isPair_0 : decode cX8_isPair 0 = .ok (.aload_n 0, 1) := by decide +kernel
theorem dX8_isPair_1 : decode cX8_isPair 1 = .ok (.iconst 0, 1) := by decide +kernel
theorem dX8_isPair_2 : decode cX8_isPair 2 = .ok (.putfield 82, 3) := by decide +kernel
theorem dX8_isPair_5 : decode cX8_isPair 5 = .ok (.aload_n 0, 1) := by decide +kernel
theorem dX8_isPair_6 : decode cX8_isPair 6 = .ok (.iload_n 1, 1) := by decide +kernel
theorem dX8_isPair_7 : decode cX8_isPair 7 = .ok (.invokevirtual 96, 3) := by decide +kernel
theorem dX8_isPair_10 : decode cX8_isPair 10 = .ok (.ifCond .eq 23, 3) := by decide +kernel
theorem dX8_isPair_13 : decode cX8_isPair 13 = .ok (.aload_n 0, 1) := by decide +kernel
theorem dX8_isPair_14 : decode cX8_isPair 14 = .ok (.iload_n 2, 1) := by decide +kernel
theorem dX8_isPair_15 : decode cX8_isPair 15 = .ok (.invokevirtual 96, 3) := by decide +kernel
theorem dX8_isPair_18 : decode cX8_isPair 18 = .ok (.ifCond .eq 15, 3) := by decide +kernel
theorem dX8_isPair_21 : decode cX8_isPair 21 = .ok (.aload_n 0, 1) := by decide +kernel
theorem dX8_isPair_22 : decode cX8_isPair 22 = .ok (.iload_n 3, 1) := by decide +kernel
theorem dX8_isPair_23 : decode cX8_isPair 23 = .ok (.invokevirtual 110, 3) := by decide +kernel
theorem dX8_isPair_26 : decode cX8_isPair 26 = .ok (.ifCond .eq 7, 3) := by decide +kernel
theorem dX8_isPair_29 : decode cX8_isPair 29 = .ok (.iconst 1, 1) := by decide +kernel
theorem dX8_isPair_30 : decode cX8_isPair 30 = .ok (.goto 4, 3) := by decide +kernel
theorem dX8_isPair_33 : decode cX8_isPair 33 = .ok (.iconst 0, 1) := by decide +kernel
theorem dX8_isPair_34 : decode cX8_isPair 34 = .ok (.ireturn, 1) := by decide +kernel
theorem dX8_distance_0 : decode cX8_distance 0 = .ok (.aload_n 0, 1) := by decide +kernel
theorem dX8_distance_1 : decode cX8_distance 1 = .ok (.iload_n 1, 1) := by decide +kernel
theorem dX8_distance_2 : decode cX8_distance 2 = .ok (.iload_n 2, 1) := by decide +kernel
theorem dX8_distance_3 : decode cX8_distance 3 = .ok (.iload_n 3, 1) := by decide +kernel
theorem dX8_distance_4 : decode cX8_distance 4 = .ok (.invokevirtual 156, 3) := by decide +kernel
theorem dX8_distance_7 : decode cX8_distance 7 = .ok (.ifCond .eq 13, 3) := by decide +kernel
theorem dX8_distance_10 : decode cX8_distance 10 = .ok (.aload_n 0, 1) := by decide +kernel
theorem dX8_distance_11 : decode cX8_distance 11 = .ok (.iload_n 1, 1) := by decide +kernel
theorem dX8_distance_12 : decode cX8_distance 12 = .ok (.iload_n 2, 1) := by decide +kernel
theorem dX8_distance_13 : decode cX8_distance 13 = .ok (.iload_n 3, 1) := by decide +kernel
theorem dX8_distance_14 : decode cX8_distance 14 = .ok (.invokevirtual 159, 3) := by decide +kernel
theorem dX8_distance_17 : decode cX8_distance 17 = .ok (.goto 4, 3) := by decide +kernel
theorem dX8_distance_20 : decode cX8_distance 20 = .ok (.iconst (-1), 1) := by decide +kernel
theorem dX8_distance_21 : decode cX8_distance 21 = .ok (.ireturn, 1) := by decide +kernel
theorem dX8_key_0 : decode cX8_key 0 = .ok (.aload_n 0, 1) := by decide +kernel
theorem dX8_key_1 : decode cX8_key 1 = .ok (.iload_n 1, 1) := by decide +kernel
theorem dX8_key_2 : decode cX8_key 2 = .ok (.iload_n 2, 1) := by decide +kernel
theorem dX8_key_3 : decode cX8_key 3 = .ok (.iload_n 3, 1) := by decide +kernel
theorem dX8_key_4 : decode cX8_key 4 = .ok (.invokevirtual 156, 3) := by decide +kernel
theorem dX8_key_7 : decode cX8_key 7 = .ok (.ifCond .ne 6, 3) := by decide +kernel
theorem dX8_key_10 : decode cX8_key 10 = .ok (.bipush 100, 2) := by decide +kernel
theorem dX8_key_12 : decode cX8_key 12 = .ok (.ireturn, 1) := by decide +kernel
theorem dX8_key_13 : decode cX8_key 13 = .ok (.aload_n 0, 1) := by decide +kernel
theorem dX8_key_14 : decode cX8_key 14 = .ok (.iload_n 1, 1) := by decide +kernel
theorem dX8_key_15 : decode cX8_key 15 = .ok (.iload_n 2, 1) := by decide +kernel
theorem dX8_key_16 : decode cX8_key 16 = .ok (.iload_n 3, 1) := by decide +kernel
theorem dX8_key_17 : decode cX8_key 17 = .ok (.invokevirtual 159, 3) := by decide +kernel
theorem dX8_key_20 : decode cX8_key 20 = .ok (.istore 4, 2) := by decide +kernel
theorem dX8_key_22 : decode cX8_key 22 = .ok (.aload_n 0, 1) := by decide +kernel
theorem dX8_key_23 : decode cX8_key 23 = .ok (.getfield 153, 3) := by decide +kernel
theorem dX8_key_26 : decode cX8_key 26 = .ok (.ireturn, 1) := by decide +kernel
theorem dX8_align_0 : decode cX8_align 0 = .ok (.aload_n 0, 1) := by decide +kernel
theorem dX8_align_1 : decode cX8_align 1 = .ok (.iload_n 1, 1) := by decide +kernel
theorem dX8_align_2 : decode cX8_align 2 = .ok (.iload_n 2, 1) := by decide +kernel
theorem dX8_align_3 : decode cX8_align 3 = .ok (.iload_n 3, 1) := by decide +kernel
theorem dX8_align_4 : decode cX8_align 4 = .ok (.invokevirtual 159, 3) := by decide +kernel
theorem dX8_align_7 : decode cX8_align 7 = .ok (.istore 4, 2) := by decide +kernel
theorem dX8_align_9 : decode cX8_align 9 = .ok (.aload_n 0, 1) := by decide +kernel
theorem dX8_align_10 : decode cX8_align 10 = .ok (.aload_n 0, 1) := by decide +kernel
theorem dX8_align_11 : decode cX8_align 11 = .ok (.getfield 153, 3) := by decide +kernel
theorem dX8_align_14 : decode cX8_align 14 = .ok (.invokevirtual 150, 3) := by decide +kernel
theorem dX8_align_17 : decode cX8_align 17 = .ok (.istore 4, 2) := by decide +kernel
theorem dX8_align_19 : decode cX8_align 19 = .ok (.aload_n 0, 1) := by decide +kernel
theorem dX8_align_20 : decode cX8_align 20 = .ok (.iconst 0, 1) := by decide +kernel
theorem dX8_align_21 : decode cX8_align 21 = .ok (.putfield 162, 3) := by decide +kernel
theorem dX8_align_24 : decode cX8_align 24 = .ok (.aload_n 0, 1) := by decide +kernel
theorem dX8_align_25 : decode cX8_align 25 = .ok (.getfield 117, 3) := by decide +kernel
theorem dX8_align_28 : decode cX8_align 28 = .ok (.istore 5, 2) := by decide +kernel
theorem dX8_align_30 : decode cX8_align 30 = .ok (.aload_n 0, 1) := by decide +kernel
theorem dX8_align_31 : decode cX8_align 31 = .ok (.getfield 120, 3) := by decide +kernel
theorem dX8_align_34 : decode cX8_align 34 = .ok (.istore 6, 2) := by decide +kernel
theorem dX8_align_36 : decode cX8_align 36 = .ok (.iload 5, 2) := by decide +kernel
theorem dX8_align_38 : decode cX8_align 38 = .ok (.ifCond .gt 8, 3) := by decide +kernel
theorem dX8_align_41 : decode cX8_align 41 = .ok (.iload 6, 2) := by decide +kernel
theorem dX8_align_43 : decode cX8_align 43 = .ok (.ifCond .le 275, 3) := by decide +kernel
theorem dX8_align_46 : decode cX8_align 46 = .ok (.aload_n 0, 1) := by decide +kernel
theorem dX8_align_47 : decode cX8_align 47 = .ok (.getfield 67, 3) := by decide +kernel
theorem dX8_align_50 : decode cX8_align 50 = .ok (.bipush 25, 2) := by decide +kernel
theorem dX8_align_52 : decode cX8_align 52 = .ok (.iload 5, 2) := by decide +kernel
theorem dX8_align_54 : decode cX8_align 54 = .ok (.imul, 1) := by decide +kernel
theorem dX8_align_55 : decode cX8_align 55 = .ok (.iload 6, 2) := by decide +kernel
theorem dX8_align_57 : decode cX8_align 57 = .ok (.iadd, 1) := by decide +kernel
theorem dX8_align_58 : decode cX8_align 58 = .ok (.iaload, 1) := by decide +kernel
theorem dX8_align_59 : decode cX8_align 59 = .ok (.istore 7, 2) := by decide +kernel
theorem dX8_align_61 : decode cX8_align 61 = .ok (.iload 5, 2) := by decide +kernel
theorem dX8_align_63 : decode cX8_align 63 = .ok (.ifCond .le 51, 3) := by decide +kernel
theorem dX8_align_66 : decode cX8_align 66 = .ok (.iload 6, 2) := by decide +kernel
theorem dX8_align_68 : decode cX8_align 68 = .ok (.ifCond .le 46, 3) := by decide +kernel
theorem dX8_align_71 : decode cX8_align 71 = .ok (.aload_n 0, 1) := by decide +kernel
theorem dX8_align_72 : decode cX8_align 72 = .ok (.getfield 67, 3) := by decide +kernel
theorem dX8_align_75 : decode cX8_align 75 = .ok (.bipush 25, 2) := by decide +kernel
theorem dX8_align_77 : decode cX8_align 77 = .ok (.iload 5, 2) := by decide +kernel
theorem dX8_align_79 : decode cX8_align 79 = .ok (.iconst 1, 1) := by decide +kernel
theorem dX8_align_80 : decode cX8_align 80 = .ok (.isub, 1) := by decide +kernel
theorem dX8_align_81 : decode cX8_align 81 = .ok (.imul, 1) := by decide +kernel
theorem dX8_align_82 : decode cX8_align 82 = .ok (.iload 6, 2) := by decide +kernel
theorem dX8_align_84 : decode cX8_align 84 = .ok (.iadd, 1) := by decide +kernel
theorem dX8_align_85 : decode cX8_align 85 = .ok (.iconst 1, 1) := by decide +kernel
theorem dX8_align_86 : decode cX8_align 86 = .ok (.isub, 1) := by decide +kernel
theorem dX8_align_87 : decode cX8_align 87 = .ok (.iaload, 1) := by decide +kernel
theorem dX8_align_88 : decode cX8_align 88 = .ok (.aload_n 0, 1) := by decide +kernel
theorem dX8_align_89 : decode cX8_align 89 = .ok (.iload 5, 2) := by decide +kernel
theorem dX8_align_91 : decode cX8_align 91 = .ok (.iconst 1, 1) := by decide +kernel
theorem dX8_align_92 : decode cX8_align 92 = .ok (.isub, 1) := by decide +kernel
theorem dX8_align_93 : decode cX8_align 93 = .ok (.iload 6, 2) := by decide +kernel
theorem dX8_align_95 : decode cX8_align 95 = .ok (.iconst 1, 1) := by decide +kernel
theorem dX8_align_96 : decode cX8_align 96 = .ok (.isub, 1) := by decide +kernel
theorem dX8_align_97 : decode cX8_align 97 = .ok (.aload_n 0, 1) := by decide +kernel
theorem dX8_align_98 : decode cX8_align 98 = .ok (.getfield 153, 3) := by decide +kernel
theorem dX8_align_101 : decode cX8_align 101 = .ok (.invokevirtual 136, 3) := by decide +kernel
theorem dX8_align_104 : decode cX8_align 104 = .ok (.iadd, 1) := by decide +kernel
theorem dX8_align_105 : decode cX8_align 105 = .ok (.iload 7, 2) := by decide +kernel
theorem dX8_align_107 : decode cX8_align 107 = .ok (.if_icmp .ne 7, 3) := by decide +kernel
theorem dX8_align_110 : decode cX8_align 110 = .ok (.iconst 1, 1) := by decide +kernel
theorem dX8_align_111 : decode cX8_align 111 = .ok (.goto 4, 3) := by decide +kernel
theorem dX8_align_114 : decode cX8_align 114 = .ok (.iconst 0, 1) := by decide +kernel
theorem dX8_align_115 : decode cX8_align 115 = .ok (.istore 8, 2) := by decide +kernel
theorem dX8_align_117 : decode cX8_align 117 = .ok (.iload 8, 2) := by decide +kernel
theorem dX8_align_119 : decode cX8_align 119 = .ok (.ifCond .ne 46, 3) := by decide +kernel
theorem dX8_align_122 : decode cX8_align 122 = .ok (.iload 5, 2) := by decide +kernel
theorem dX8_align_124 : decode cX8_align 124 = .ok (.ifCond .le 41, 3) := by decide +kernel
theorem dX8_align_127 : decode cX8_align 127 = .ok (.aload_n 0, 1) := by decide +kernel
theorem dX8_align_128 : decode cX8_align 128 = .ok (.getfield 67, 3) := by decide +kernel
theorem dX8_align_131 : decode cX8_align 131 = .ok (.bipush 25, 2) := by decide +kernel
theorem dX8_align_133 : decode cX8_align 133 = .ok (.iload 5, 2) := by decide +kernel
theorem dX8_align_135 : decode cX8_align 135 = .ok (.iconst 1, 1) := by decide +kernel
theorem dX8_align_136 : decode cX8_align 136 = .ok (.isub, 1) := by decide +kernel
theorem dX8_align_137 : decode cX8_align 137 = .ok (.imul, 1) := by decide +kernel
theorem dX8_align_138 : decode cX8_align 138 = .ok (.iload 6, 2) := by decide +kernel
theorem dX8_align_140 : decode cX8_align 140 = .ok (.iadd, 1) := by decide +kernel
theorem dX8_align_141 : decode cX8_align 141 = .ok (.iaload, 1) := by decide +kernel
theorem dX8_align_142 : decode cX8_align 142 = .ok (.aload_n 0, 1) := by decide +kernel
theorem dX8_align_143 : decode cX8_align 143 = .ok (.aload_n 0, 1) := by decide +kernel
theorem dX8_align_144 : decode cX8_align 144 = .ok (.getfield 55, 3) := by decide +kernel
theorem dX8_align_147 : decode cX8_align 147 = .ok (.iload 5, 2) := by decide +kernel
theorem dX8_align_149 : decode cX8_align 149 = .ok (.iconst 1, 1) := by decide +kernel
theorem dX8_align_150 : decode cX8_align 150 = .ok (.isub, 1) := by decide +kernel
theorem dX8_align_151 : decode cX8_align 151 = .ok (.iaload, 1) := by decide +kernel
theorem dX8_align_152 : decode cX8_align 152 = .ok (.invokevirtual 140, 3) := by decide +kernel
theorem dX8_align_155 : decode cX8_align 155 = .ok (.iadd, 1) := by decide +kernel
theorem dX8_align_156 : decode cX8_align 156 = .ok (.iload 7, 2) := by decide +kernel
theorem dX8_align_158 : decode cX8_align 158 = .ok (.if_icmp .ne 7, 3) := by decide +kernel
theorem dX8_align_161 : decode cX8_align 161 = .ok (.iconst 1, 1) := by decide +kernel
theorem dX8_align_162 : decode cX8_align 162 = .ok (.goto 4, 3) := by decide +kernel
theorem dX8_align_165 : decode cX8_align 165 = .ok (.iconst 0, 1) := by decide +kernel
theorem dX8_align_166 : decode cX8_align 166 = .ok (.istore 9, 2) := by decide +kernel
theorem dX8_align_168 : decode cX8_align 168 = .ok (.aload_n 0, 1) := by decide +kernel
theorem dX8_align_169 : decode cX8_align 169 = .ok (.getfield 70, 3) := by decide +kernel
theorem dX8_align_172 : decode cX8_align 172 = .ok (.aload_n 0, 1) := by decide +kernel
theorem dX8_align_173 : decode cX8_align 173 = .ok (.getfield 162, 3) := by decide +kernel
theorem dX8_align_176 : decode cX8_align 176 = .ok (.iload 8, 2) := by decide +kernel
theorem dX8_align_178 : decode cX8_align 178 = .ok (.ifCond .ne 8, 3) := by decide +kernel
theorem dX8_align_181 : decode cX8_align 181 = .ok (.iload 9, 2) := by decide +kernel
theorem dX8_align_183 : decode cX8_align 183 = .ok (.ifCond .eq 10, 3) := by decide +kernel
theorem dX8_align_186 : decode cX8_align 186 = .ok (.iload 5, 2) := by decide +kernel
theorem dX8_align_188 : decode cX8_align 188 = .ok (.iconst 1, 1) := by decide +kernel
theorem dX8_align_189 : decode cX8_align 189 = .ok (.isub, 1) := by decide +kernel
theorem dX8_align_190 : decode cX8_align 190 = .ok (.goto 4, 3) := by decide +kernel
theorem dX8_align_193 : decode cX8_align 193 = .ok (.iconst (-1), 1) := by decide +kernel
theorem dX8_align_194 : decode cX8_align 194 = .ok (.iastore, 1) := by decide +kernel
theorem dX8_align_195 : decode cX8_align 195 = .ok (.aload_n 0, 1) := by decide +kernel
theorem dX8_align_196 : decode cX8_align 196 = .ok (.getfield 73, 3) := by decide +kernel
theorem dX8_align_199 : decode cX8_align 199 = .ok (.aload_n 0, 1) := by decide +kernel
theorem dX8_align_200 : decode cX8_align 200 = .ok (.getfield 162, 3) := by decide +kernel
theorem dX8_align_203 : decode cX8_align 203 = .ok (.iload 9, 2) := by decide +kernel
theorem dX8_align_205 : decode cX8_align 205 = .ok (.ifCond .eq 7, 3) := by decide +kernel
theorem dX8_align_208 : decode cX8_align 208 = .ok (.iconst (-1), 1) := by decide +kernel
theorem dX8_align_209 : decode cX8_align 209 = .ok (.goto 7, 3) := by decide +kernel
theorem dX8_align_212 : decode cX8_align 212 = .ok (.iload 6, 2) := by decide +kernel
theorem dX8_align_214 : decode cX8_align 214 = .ok (.iconst 1, 1) := by decide +kernel
theorem dX8_align_215 : decode cX8_align 215 = .ok (.isub, 1) := by decide +kernel
theorem dX8_align_216 : decode cX8_align 216 = .ok (.iastore, 1) := by decide +kernel
theorem dX8_align_217 : decode cX8_align 217 = .ok (.aload_n 0, 1) := by decide +kernel
theorem dX8_align_218 : decode cX8_align 218 = .ok (.getfield 76, 3) := by decide +kernel
theorem dX8_align_221 : decode cX8_align 221 = .ok (.aload_n 0, 1) := by decide +kernel
theorem dX8_align_222 : decode cX8_align 222 = .ok (.getfield 162, 3) := by decide +kernel
theorem dX8_align_225 : decode cX8_align 225 = .ok (.iload 8, 2) := by decide +kernel
theorem dX8_align_227 : decode cX8_align 227 = .ok (.ifCond .eq 22, 3) := by decide +kernel
theorem dX8_align_230 : decode cX8_align 230 = .ok (.aload_n 0, 1) := by decide +kernel
theorem dX8_align_231 : decode cX8_align 231 = .ok (.iload 5, 2) := by decide +kernel
theorem dX8_align_233 : decode cX8_align 233 = .ok (.iconst 1, 1) := by decide +kernel
theorem dX8_align_234 : decode cX8_align 234 = .ok (.isub, 1) := by decide +kernel
theorem dX8_align_235 : decode cX8_align 235 = .ok (.iload 6, 2) := by decide +kernel
theorem dX8_align_237 : decode cX8_align 237 = .ok (.iconst 1, 1) := by decide +kernel
theorem dX8_align_238 : decode cX8_align 238 = .ok (.isub, 1) := by decide +kernel
theorem dX8_align_239 : decode cX8_align 239 = .ok (.aload_n 0, 1) := by decide +kernel
theorem dX8_align_240 : decode cX8_align 240 = .ok (.getfield 153, 3) := by decide +kernel
theorem dX8_align_243 : decode cX8_align 243 = .ok (.invokevirtual 136, 3) := by decide +kernel
theorem dX8_align_246 : decode cX8_align 246 = .ok (.goto 37, 3) := by decide +kernel
theorem dX8_align_249 : decode cX8_align 249 = .ok (.iload 9, 2) := by decide +kernel
theorem dX8_align_251 : decode cX8_align 251 = .ok (.ifCond .eq 19, 3) := by decide +kernel
theorem dX8_align_254 : decode cX8_align 254 = .ok (.aload_n 0, 1) := by decide +kernel
theorem dX8_align_255 : decode cX8_align 255 = .ok (.aload_n 0, 1) := by decide +kernel
theorem dX8_align_256 : decode cX8_align 256 = .ok (.getfield 55, 3) := by decide +kernel
theorem dX8_align_259 : decode cX8_align 259 = .ok (.iload 5, 2) := by decide +kernel
theorem dX8_align_261 : decode cX8_align 261 = .ok (.iconst 1, 1) := by decide +kernel
theorem dX8_align_262 : decode cX8_align 262 = .ok (.isub, 1) := by decide +kernel
theorem dX8_align_263 : decode cX8_align 263 = .ok (.iaload, 1) := by decide +kernel
theorem dX8_align_264 : decode cX8_align 264 = .ok (.invokevirtual 140, 3) := by decide +kernel
theorem dX8_align_267 : decode cX8_align 267 = .ok (.goto 16, 3) := by decide +kernel
theorem dX8_align_270 : decode cX8_align 270 = .ok (.aload_n 0, 1) := by decide +kernel
theorem dX8_align_271 : decode cX8_align 271 = .ok (.aload_n 0, 1) := by decide +kernel
theorem dX8_align_272 : decode cX8_align 272 = .ok (.getfield 61, 3) := by decide +kernel
theorem dX8_align_275 : decode cX8_align 275 = .ok (.iload 6, 2) := by decide +kernel
theorem dX8_align_277 : decode cX8_align 277 = .ok (.iconst 1, 1) := by decide +kernel
theorem dX8_align_278 : decode cX8_align 278 = .ok (.isub, 1) := by decide +kernel
theorem dX8_align_279 : decode cX8_align 279 = .ok (.iaload, 1) := by decide +kernel
theorem dX8_align_280 : decode cX8_align 280 = .ok (.invokevirtual 140, 3) := by decide +kernel
theorem dX8_align_283 : decode cX8_align 283 = .ok (.iastore, 1) := by decide +kernel
theorem dX8_align_284 : decode cX8_align 284 = .ok (.iload 8, 2) := by decide +kernel
theorem dX8_align_286 : decode cX8_align 286 = .ok (.ifCond .ne 8, 3) := by decide +kernel
theorem dX8_align_289 : decode cX8_align 289 = .ok (.iload 9, 2) := by decide +kernel
theorem dX8_align_291 : decode cX8_align 291 = .ok (.ifCond .eq 6, 3) := by decide +kernel
theorem dX8_align_294 : decode cX8_align 294 = .ok (.iinc 5 (-1), 3) := by decide +kernel
theorem dX8_align_297 : decode cX8_align 297 = .ok (.iload 9, 2) := by decide +kernel
theorem dX8_align_299 : decode cX8_align 299 = .ok (.ifCond .ne 6, 3) := by decide +kernel
theorem dX8_align_302 : decode cX8_align 302 = .ok (.iinc 6 (-1), 3) := by decide +kernel
theorem dX8_align_305 : decode cX8_align 305 = .ok (.aload_n 0, 1) := by decide +kernel
theorem dX8_align_306 : decode cX8_align 306 = .ok (.dup, 1) := by decide +kernel
theorem dX8_align_307 : decode cX8_align 307 = .ok (.getfield 162, 3) := by decide +kernel
theorem dX8_align_310 : decode cX8_align 310 = .ok (.iconst 1, 1) := by decide +kernel
theorem dX8_align_311 : decode cX8_align 311 = .ok (.iadd, 1) := by decide +kernel
theorem dX8_align_312 : decode cX8_align 312 = .ok (.putfield 162, 3) := by decide +kernel
theorem dX8_align_315 : decode cX8_align 315 = .ok (.goto (-279), 3) := by decide +kernel
theorem dX8_align_318 : decode cX8_align 318 = .ok (.return_, 1) := by decide +kernel
theorem dX8_column_0 : decode cX8_column 0 = .ok (.aload_n 0, 1) := by decide +kernel
theorem dX8_column_1 : decode cX8_column 1 = .ok (.iload_n 1, 1) := by decide +kernel
theorem dX8_column_2 : decode cX8_column 2 = .ok (.iload_n 2, 1) := by decide +kernel
theorem dX8_column_3 : decode cX8_column 3 = .ok (.iload_n 3, 1) := by decide +kernel
theorem dX8_column_4 : decode cX8_column 4 = .ok (.invokevirtual 156, 3) := by decide +kernel
theorem dX8_column_7 : decode cX8_column 7 = .ok (.ifCond .ne 5, 3) := by decide +kernel
theorem dX8_column_10 : decode cX8_column 10 = .ok (.iconst (-1), 1) := by decide +kernel
theorem dX8_column_11 : decode cX8_column 11 = .ok (.ireturn, 1) := by decide +kernel
theorem dX8_column_12 : decode cX8_column 12 = .ok (.aload_n 0, 1) := by decide +kernel
theorem dX8_column_13 : decode cX8_column 13 = .ok (.iload_n 1, 1) := by decide +kernel
theorem dX8_column_14 : decode cX8_column 14 = .ok (.iload_n 2, 1) := by decide +kernel
theorem dX8_column_15 : decode cX8_column 15 = .ok (.iload_n 3, 1) := by decide +kernel
theorem dX8_column_16 : decode cX8_column 16 = .ok (.invokevirtual 165, 3) := by decide +kernel
theorem dX8_column_19 : decode cX8_column 19 = .ok (.iload 4, 2) := by decide +kernel
theorem dX8_column_21 : decode cX8_column 21 = .ok (.ifCond .lt 12, 3) := by decide +kernel
theorem dX8_column_24 : decode cX8_column 24 = .ok (.iload 4, 2) := by decide +kernel
theorem dX8_column_26 : decode cX8_column 26 = .ok (.aload_n 0, 1) := by decide +kernel
theorem dX8_column_27 : decode cX8_column 27 = .ok (.getfield 162, 3) := by decide +kernel
theorem dX8_column_30 : decode cX8_column 30 = .ok (.if_icmp .lt 5, 3) := by decide +kernel
theorem dX8_column_33 : decode cX8_column 33 = .ok (.iconst (-1), 1) := by decide +kernel
theorem dX8_column_34 : decode cX8_column 34 = .ok (.ireturn, 1) := by decide +kernel
theorem dX8_column_35 : decode cX8_column 35 = .ok (.aload_n 0, 1) := by decide +kernel
theorem dX8_column_36 : decode cX8_column 36 = .ok (.getfield 162, 3) := by decide +kernel
theorem dX8_column_39 : decode cX8_column 39 = .ok (.iconst 1, 1) := by decide +kernel
theorem dX8_column_40 : decode cX8_column 40 = .ok (.isub, 1) := by decide +kernel
theorem dX8_column_41 : decode cX8_column 41 = .ok (.iload 4, 2) := by decide +kernel
theorem dX8_column_43 : decode cX8_column 43 = .ok (.isub, 1) := by decide +kernel
theorem dX8_column_44 : decode cX8_column 44 = .ok (.istore 6, 2) := by decide +kernel
theorem dX8_column_46 : decode cX8_column 46 = .ok (.iload 5, 2) := by decide +kernel
theorem dX8_column_48 : decode cX8_column 48 = .ok (.ifCond .ne 13, 3) := by decide +kernel
theorem dX8_column_51 : decode cX8_column 51 = .ok (.aload_n 0, 1) := by decide +kernel
theorem dX8_column_52 : decode cX8_column 52 = .ok (.getfield 70, 3) := by decide +kernel
theorem dX8_column_55 : decode cX8_column 55 = .ok (.iload 6, 2) := by decide +kernel
theorem dX8_column_57 : decode cX8_column 57 = .ok (.iaload, 1) := by decide +kernel
theorem dX8_column_58 : decode cX8_column 58 = .ok (.goto 36, 3) := by decide +kernel
theorem dX8_column_61 : decode cX8_column 61 = .ok (.iload 5, 2) := by decide +kernel
theorem dX8_column_63 : decode cX8_column 63 = .ok (.iconst 1, 1) := by decide +kernel
theorem dX8_column_64 : decode cX8_column 64 = .ok (.if_icmp .ne 13, 3) := by decide +kernel
theorem dX8_column_67 : decode cX8_column 67 = .ok (.aload_n 0, 1) := by decide +kernel
theorem dX8_column_68 : decode cX8_column 68 = .ok (.getfield 73, 3) := by decide +kernel
theorem dX8_column_71 : decode cX8_column 71 = .ok (.iload 6, 2) := by decide +kernel
theorem dX8_column_73 : decode cX8_column 73 = .ok (.iaload, 1) := by decide +kernel
theorem dX8_column_74 : decode cX8_column 74 = .ok (.goto 20, 3) := by decide +kernel
theorem dX8_column_77 : decode cX8_column 77 = .ok (.iload 5, 2) := by decide +kernel
theorem dX8_column_79 : decode cX8_column 79 = .ok (.iconst 2, 1) := by decide +kernel
theorem dX8_column_80 : decode cX8_column 80 = .ok (.if_icmp .ne 13, 3) := by decide +kernel
theorem dX8_column_83 : decode cX8_column 83 = .ok (.aload_n 0, 1) := by decide +kernel
theorem dX8_column_84 : decode cX8_column 84 = .ok (.getfield 76, 3) := by decide +kernel
theorem dX8_column_87 : decode cX8_column 87 = .ok (.iload 6, 2) := by decide +kernel
theorem dX8_column_89 : decode cX8_column 89 = .ok (.iaload, 1) := by decide +kernel
theorem dX8_column_90 : decode cX8_column 90 = .ok (.goto 4, 3) := by decide +kernel
theorem dX8_column_93 : decode cX8_column 93 = .ok (.iconst (-1), 1) := by decide +kernel
theorem dX8_column_94 : decode cX8_column 94 = .ok (.ireturn, 1) := by decide +kernel
theorem dX8_families_0 : decode cX8_families 0 = .ok (.aload_n 0, 1) := by decide +kernel
theorem dX8_families_1 : decode cX8_families 1 = .ok (.iconst 0, 1) := by decide +kernel
theorem dX8_families_2 : decode cX8_families 2 = .ok (.putfield 82, 3) := by decide +kernel
theorem dX8_families_5 : decode cX8_families 5 = .ok (.aload_n 0, 1) := by decide +kernel
theorem dX8_families_6 : decode cX8_families 6 = .ok (.iload_n 1, 1) := by decide +kernel
theorem dX8_families_7 : decode cX8_families 7 = .ok (.invokevirtual 96, 3) := by decide +kernel
theorem dX8_families_10 : decode cX8_families 10 = .ok (.ifCond .eq 31, 3) := by decide +kernel
theorem dX8_families_13 : decode cX8_families 13 = .ok (.iload_n 2, 1) := by decide +kernel
theorem dX8_families_14 : decode cX8_families 14 = .ok (.iconst 0, 1) := by decide +kernel
theorem dX8_families_15 : decode cX8_families 15 = .ok (.sipush 10000, 3) := by decide +kernel
theorem dX8_families_18 : decode cX8_families 18 = .ok (.invokestatic 92, 3) := by decide +kernel
theorem dX8_families_21 : decode cX8_families 21 = .ok (.ifCond .eq 20, 3) := by decide +kernel
theorem dX8_families_24 : decode cX8_families 24 = .ok (.aload_n 0, 1) := by decide +kernel
theorem dX8_families_25 : decode cX8_families 25 = .ok (.iload_n 3, 1) := by decide +kernel
theorem dX8_families_26 : decode cX8_families 26 = .ok (.invokevirtual 110, 3) := by decide +kernel
theorem dX8_families_29 : decode cX8_families 29 = .ok (.ifCond .eq 12, 3) := by decide +kernel
theorem dX8_families_32 : decode cX8_families 32 = .ok (.aload_n 0, 1) := by decide +kernel
theorem dX8_families_33 : decode cX8_families 33 = .ok (.iload_n 1, 1) := by decide +kernel
theorem dX8_families_34 : decode cX8_families 34 = .ok (.iload_n 3, 1) := by decide +kernel
theorem dX8_families_35 : decode cX8_families 35 = .ok (.invokevirtual 168, 3) := by decide +kernel
theorem dX8_families_38 : decode cX8_families 38 = .ok (.ifCond .eq 5, 3) := by decide +kernel
theorem dX8_families_41 : decode cX8_families 41 = .ok (.iconst 0, 1) := by decide +kernel
theorem dX8_families_42 : decode cX8_families 42 = .ok (.ireturn, 1) := by decide +kernel
theorem dX8_families_43 : decode cX8_families 43 = .ok (.sipush 400, 3) := by decide +kernel
theorem dX8_families_46 : decode cX8_families 46 = .ok (.newarray .boolean, 2) := by decide +kernel
theorem dX8_families_48 : decode cX8_families 48 = .ok (.astore 4, 2) := by decide +kernel
theorem dX8_families_50 : decode cX8_families 50 = .ok (.iconst 0, 1) := by decide +kernel
theorem dX8_families_51 : decode cX8_families 51 = .ok (.istore 5, 2) := by decide +kernel
theorem dX8_families_53 : decode cX8_families 53 = .ok (.iload 5, 2) := by decide +kernel
theorem dX8_families_55 : decode cX8_families 55 = .ok (.aload_n 0, 1) := by decide +kernel
theorem dX8_families_56 : decode cX8_families 56 = .ok (.getfield 86, 3) := by decide +kernel
theorem dX8_families_59 : decode cX8_families 59 = .ok (.if_icmp .ge 97, 3) := by decide +kernel
theorem dX8_families_62 : decode cX8_families 62 = .ok (.aload_n 0, 1) := by decide +kernel
theorem dX8_families_63 : decode cX8_families 63 = .ok (.getfield 79, 3) := by decide +kernel
theorem dX8_families_66 : decode cX8_families 66 = .ok (.iload 5, 2) := by decide +kernel
theorem dX8_families_68 : decode cX8_families 68 = .ok (.aload_n 0, 1) := by decide +kernel
theorem dX8_families_69 : decode cX8_families 69 = .ok (.iload 5, 2) := by decide +kernel
theorem dX8_families_71 : decode cX8_families 71 = .ok (.iload_n 3, 1) := by decide +kernel
theorem dX8_families_72 : decode cX8_families 72 = .ok (.invokevirtual 168, 3) := by decide +kernel
theorem dX8_families_75 : decode cX8_families 75 = .ok (.ifCond .eq 7, 3) := by decide +kernel
theorem dX8_families_78 : decode cX8_families 78 = .ok (.iconst (-1), 1) := by decide +kernel
theorem dX8_families_79 : decode cX8_families 79 = .ok (.goto 5, 3) := by decide +kernel
theorem dX8_families_82 : decode cX8_families 82 = .ok (.iload 5, 2) := by decide +kernel
theorem dX8_families_84 : decode cX8_families 84 = .ok (.iastore, 1) := by decide +kernel
theorem dX8_families_85 : decode cX8_families 85 = .ok (.iconst 0, 1) := by decide +kernel
theorem dX8_families_86 : decode cX8_families 86 = .ok (.istore 6, 2) := by decide +kernel
theorem dX8_families_88 : decode cX8_families 88 = .ok (.iload 6, 2) := by decide +kernel
theorem dX8_families_90 : decode cX8_families 90 = .ok (.iload 5, 2) := by decide +kernel
theorem dX8_families_92 : decode cX8_families 92 = .ok (.if_icmp .ge 58, 3) := by decide +kernel
theorem dX8_families_95 : decode cX8_families 95 = .ok (.aload 4, 2) := by decide +kernel
theorem dX8_families_97 : decode cX8_families 97 = .ok (.bipush 20, 2) := by decide +kernel
theorem dX8_families_99 : decode cX8_families 99 = .ok (.iload 5, 2) := by decide +kernel
theorem dX8_families_101 : decode cX8_families 101 = .ok (.imul, 1) := by decide +kernel
theorem dX8_families_102 : decode cX8_families 102 = .ok (.iload 6, 2) := by decide +kernel
theorem dX8_families_104 : decode cX8_families 104 = .ok (.iadd, 1) := by decide +kernel
theorem dX8_families_105 : decode cX8_families 105 = .ok (.aload_n 0, 1) := by decide +kernel
theorem dX8_families_106 : decode cX8_families 106 = .ok (.iload 5, 2) := by decide +kernel
theorem dX8_families_108 : decode cX8_families 108 = .ok (.iload_n 3, 1) := by decide +kernel
theorem dX8_families_109 : decode cX8_families 109 = .ok (.invokevirtual 168, 3) := by decide +kernel
theorem dX8_families_112 : decode cX8_families 112 = .ok (.ifCond .ne 30, 3) := by decide +kernel
theorem dX8_families_115 : decode cX8_families 115 = .ok (.aload_n 0, 1) := by decide +kernel
theorem dX8_families_116 : decode cX8_families 116 = .ok (.iload 6, 2) := by decide +kernel
theorem dX8_families_118 : decode cX8_families 118 = .ok (.iload_n 3, 1) := by decide +kernel
theorem dX8_families_119 : decode cX8_families 119 = .ok (.invokevirtual 168, 3) := by decide +kernel
theorem dX8_families_122 : decode cX8_families 122 = .ok (.ifCond .ne 20, 3) := by decide +kernel
theorem dX8_families_125 : decode cX8_families 125 = .ok (.aload_n 0, 1) := by decide +kernel
theorem dX8_families_126 : decode cX8_families 126 = .ok (.iload 5, 2) := by decide +kernel
theorem dX8_families_128 : decode cX8_families 128 = .ok (.iload 6, 2) := by decide +kernel
theorem dX8_families_130 : decode cX8_families 130 = .ok (.iload_n 3, 1) := by decide +kernel
theorem dX8_families_131 : decode cX8_families 131 = .ok (.invokevirtual 159, 3) := by decide +kernel
theorem dX8_families_134 : decode cX8_families 134 = .ok (.iload_n 2, 1) := by decide +kernel
theorem dX8_families_135 : decode cX8_families 135 = .ok (.if_icmp .gt 7, 3) := by decide +kernel
theorem dX8_families_138 : decode cX8_families 138 = .ok (.iconst 1, 1) := by decide +kernel
theorem dX8_families_139 : decode cX8_families 139 = .ok (.goto 4, 3) := by decide +kernel
theorem dX8_families_142 : decode cX8_families 142 = .ok (.iconst 0, 1) := by decide +kernel
theorem dX8_families_143 : decode cX8_families 143 = .ok (.bastore, 1) := by decide +kernel
theorem dX8_families_144 : decode cX8_families 144 = .ok (.iinc 6 1, 3) := by decide +kernel
theorem dX8_families_147 : decode cX8_families 147 = .ok (.goto (-59), 3) := by decide +kernel
theorem dX8_families_150 : decode cX8_families 150 = .ok (.iinc 5 1, 3) := by decide +kernel
theorem dX8_families_153 : decode cX8_families 153 = .ok (.goto (-100), 3) := by decide +kernel
theorem dX8_families_156 : decode cX8_families 156 = .ok (.iconst 1, 1) := by decide +kernel
theorem dX8_families_157 : decode cX8_families 157 = .ok (.istore 5, 2) := by decide +kernel
theorem dX8_families_159 : decode cX8_families 159 = .ok (.iload 5, 2) := by decide +kernel
theorem dX8_families_161 : decode cX8_families 161 = .ok (.ifCond .eq 117, 3) := by decide +kernel
theorem dX8_families_164 : decode cX8_families 164 = .ok (.iconst 0, 1) := by decide +kernel
theorem dX8_families_165 : decode cX8_families 165 = .ok (.istore 5, 2) := by decide +kernel
theorem dX8_families_167 : decode cX8_families 167 = .ok (.iconst 0, 1) := by decide +kernel
theorem dX8_families_168 : decode cX8_families 168 = .ok (.istore 6, 2) := by decide +kernel
theorem dX8_families_170 : decode cX8_families 170 = .ok (.iload 6, 2) := by decide +kernel
theorem dX8_families_172 : decode cX8_families 172 = .ok (.aload_n 0, 1) := by decide +kernel
theorem dX8_families_173 : decode cX8_families 173 = .ok (.getfield 86, 3) := by decide +kernel
theorem dX8_families_176 : decode cX8_families 176 = .ok (.if_icmp .ge 99, 3) := by decide +kernel
theorem dX8_families_179 : decode cX8_families 179 = .ok (.iconst 0, 1) := by decide +kernel
theorem dX8_families_180 : decode cX8_families 180 = .ok (.istore 7, 2) := by decide +kernel
theorem dX8_families_182 : decode cX8_families 182 = .ok (.iload 7, 2) := by decide +kernel
theorem dX8_families_184 : decode cX8_families 184 = .ok (.iload 6, 2) := by decide +kernel
theorem dX8_families_186 : decode cX8_families 186 = .ok (.if_icmp .ge 83, 3) := by decide +kernel
theorem dX8_families_189 : decode cX8_families 189 = .ok (.aload 4, 2) := by decide +kernel
theorem dX8_families_191 : decode cX8_families 191 = .ok (.bipush 20, 2) := by decide +kernel
theorem dX8_families_193 : decode cX8_families 193 = .ok (.iload 6, 2) := by decide +kernel
theorem dX8_families_195 : decode cX8_families 195 = .ok (.imul, 1) := by decide +kernel
theorem dX8_families_196 : decode cX8_families 196 = .ok (.iload 7, 2) := by decide +kernel
theorem dX8_families_198 : decode cX8_families 198 = .ok (.iadd, 1) := by decide +kernel
theorem dX8_families_199 : decode cX8_families 199 = .ok (.baload, 1) := by decide +kernel
theorem dX8_families_200 : decode cX8_families 200 = .ok (.ifCond .eq 63, 3) := by decide +kernel
theorem dX8_families_203 : decode cX8_families 203 = .ok (.aload_n 0, 1) := by decide +kernel
theorem dX8_families_204 : decode cX8_families 204 = .ok (.getfield 79, 3) := by decide +kernel
theorem dX8_families_207 : decode cX8_families 207 = .ok (.iload 6, 2) := by decide +kernel
theorem dX8_families_209 : decode cX8_families 209 = .ok (.iaload, 1) := by decide +kernel
theorem dX8_families_210 : decode cX8_families 210 = .ok (.aload_n 0, 1) := by decide +kernel
theorem dX8_families_211 : decode cX8_families 211 = .ok (.getfield 79, 3) := by decide +kernel
theorem dX8_families_214 : decode cX8_families 214 = .ok (.iload 7, 2) := by decide +kernel
theorem dX8_families_216 : decode cX8_families 216 = .ok (.iaload, 1) := by decide +kernel
theorem dX8_families_217 : decode cX8_families 217 = .ok (.if_icmp .ne 6, 3) := by decide +kernel
theorem dX8_families_220 : decode cX8_families 220 = .ok (.goto 43, 3) := by decide +kernel
theorem dX8_families_223 : decode cX8_families 223 = .ok (.aload_n 0, 1) := by decide +kernel
theorem dX8_families_224 : decode cX8_families 224 = .ok (.getfield 79, 3) := by decide +kernel
theorem dX8_families_227 : decode cX8_families 227 = .ok (.iload 6, 2) := by decide +kernel
theorem dX8_families_229 : decode cX8_families 229 = .ok (.iaload, 1) := by decide +kernel
theorem dX8_families_230 : decode cX8_families 230 = .ok (.aload_n 0, 1) := by decide +kernel
theorem dX8_families_231 : decode cX8_families 231 = .ok (.getfield 79, 3) := by decide +kernel
theorem dX8_families_234 : decode cX8_families 234 = .ok (.iload 7, 2) := by decide +kernel
theorem dX8_families_236 : decode cX8_families 236 = .ok (.iaload, 1) := by decide +kernel
theorem dX8_families_237 : decode cX8_families 237 = .ok (.invokestatic 129, 3) := by decide +kernel
theorem dX8_families_240 : decode cX8_families 240 = .ok (.istore 8, 2) := by decide +kernel
theorem dX8_families_242 : decode cX8_families 242 = .ok (.aload_n 0, 1) := by decide +kernel
theorem dX8_families_243 : decode cX8_families 243 = .ok (.getfield 79, 3) := by decide +kernel
theorem dX8_families_246 : decode cX8_families 246 = .ok (.iload 6, 2) := by decide +kernel
theorem dX8_families_248 : decode cX8_families 248 = .ok (.iload 8, 2) := by decide +kernel
theorem dX8_families_250 : decode cX8_families 250 = .ok (.iastore, 1) := by decide +kernel
theorem dX8_families_251 : decode cX8_families 251 = .ok (.aload_n 0, 1) := by decide +kernel
theorem dX8_families_252 : decode cX8_families 252 = .ok (.getfield 79, 3) := by decide +kernel
theorem dX8_families_255 : decode cX8_families 255 = .ok (.iload 7, 2) := by decide +kernel
theorem dX8_families_257 : decode cX8_families 257 = .ok (.iload 8, 2) := by decide +kernel
theorem dX8_families_259 : decode cX8_families 259 = .ok (.iastore, 1) := by decide +kernel
theorem dX8_families_260 : decode cX8_families 260 = .ok (.iconst 1, 1) := by decide +kernel
theorem dX8_families_261 : decode cX8_families 261 = .ok (.istore 5, 2) := by decide +kernel
theorem dX8_families_263 : decode cX8_families 263 = .ok (.iinc 7 1, 3) := by decide +kernel
theorem dX8_families_266 : decode cX8_families 266 = .ok (.goto (-84), 3) := by decide +kernel
theorem dX8_families_269 : decode cX8_families 269 = .ok (.iinc 6 1, 3) := by decide +kernel
theorem dX8_families_272 : decode cX8_families 272 = .ok (.goto (-102), 3) := by decide +kernel
theorem dX8_families_275 : decode cX8_families 275 = .ok (.goto (-116), 3) := by decide +kernel
theorem dX8_families_278 : decode cX8_families 278 = .ok (.iconst 1, 1) := by decide +kernel
theorem dX8_families_279 : decode cX8_families 279 = .ok (.ireturn, 1) := by decide +kernel
theorem dX8_family_0 : decode cX8_family 0 = .ok (.aload_n 0, 1) := by decide +kernel
theorem dX8_family_1 : decode cX8_family 1 = .ok (.iload_n 1, 1) := by decide +kernel
theorem dX8_family_2 : decode cX8_family 2 = .ok (.iload_n 2, 1) := by decide +kernel
theorem dX8_family_3 : decode cX8_family 3 = .ok (.iload_n 3, 1) := by decide +kernel
theorem dX8_family_4 : decode cX8_family 4 = .ok (.invokevirtual 171, 3) := by decide +kernel
theorem dX8_family_7 : decode cX8_family 7 = .ok (.ifCond .eq 12, 3) := by decide +kernel
theorem dX8_family_10 : decode cX8_family 10 = .ok (.aload_n 0, 1) := by decide +kernel
theorem dX8_family_11 : decode cX8_family 11 = .ok (.getfield 79, 3) := by decide +kernel
theorem dX8_family_14 : decode cX8_family 14 = .ok (.iload_n 1, 1) := by decide +kernel
theorem dX8_family_15 : decode cX8_family 15 = .ok (.iaload, 1) := by decide +kernel
theorem dX8_family_16 : decode cX8_family 16 = .ok (.goto 4, 3) := by decide +kernel
theorem dX8_family_19 : decode cX8_family 19 = .ok (.iconst (-1), 1) := by decide +kernel
theorem dX8_family_20 : decode cX8_family 20 = .ok (.ireturn, 1) := by decide +kernel
theorem dX8_kin_0 : decode cX8_kin 0 = .ok (.aload_n 0, 1) := by decide +kernel
theorem dX8_kin_1 : decode cX8_kin 1 = .ok (.iload_n 1, 1) := by decide +kernel
theorem dX8_kin_2 : decode cX8_kin 2 = .ok (.iload_n 2, 1) := by decide +kernel
theorem dX8_kin_3 : decode cX8_kin 3 = .ok (.iload_n 3, 1) := by decide +kernel
theorem dX8_kin_4 : decode cX8_kin 4 = .ok (.invokevirtual 171, 3) := by decide +kernel
theorem dX8_kin_7 : decode cX8_kin 7 = .ok (.ifCond .ne 5, 3) := by decide +kernel
theorem dX8_kin_10 : decode cX8_kin 10 = .ok (.iconst (-1), 1) := by decide +kernel
theorem dX8_kin_11 : decode cX8_kin 11 = .ok (.ireturn, 1) := by decide +kernel
theorem dX8_kin_12 : decode cX8_kin 12 = .ok (.iconst 0, 1) := by decide +kernel
theorem dX8_kin_13 : decode cX8_kin 13 = .ok (.istore 4, 2) := by decide +kernel
theorem dX8_kin_15 : decode cX8_kin 15 = .ok (.iconst 0, 1) := by decide +kernel
theorem dX8_kin_16 : decode cX8_kin 16 = .ok (.istore 5, 2) := by decide +kernel
theorem dX8_kin_18 : decode cX8_kin 18 = .ok (.iload 5, 2) := by decide +kernel
theorem dX8_kin_20 : decode cX8_kin 20 = .ok (.aload_n 0, 1) := by decide +kernel
theorem dX8_kin_21 : decode cX8_kin 21 = .ok (.getfield 86, 3) := by decide +kernel
theorem dX8_kin_24 : decode cX8_kin 24 = .ok (.if_icmp .ge 35, 3) := by decide +kernel
theorem dX8_kin_27 : decode cX8_kin 27 = .ok (.iload 4, 2) := by decide +kernel
theorem dX8_kin_29 : decode cX8_kin 29 = .ok (.aload_n 0, 1) := by decide +kernel
theorem dX8_kin_30 : decode cX8_kin 30 = .ok (.getfield 79, 3) := by decide +kernel
theorem dX8_kin_33 : decode cX8_kin 33 = .ok (.iload 5, 2) := by decide +kernel
theorem dX8_kin_35 : decode cX8_kin 35 = .ok (.iaload, 1) := by decide +kernel
theorem dX8_kin_36 : decode cX8_kin 36 = .ok (.aload_n 0, 1) := by decide +kernel
theorem dX8_kin_37 : decode cX8_kin 37 = .ok (.getfield 79, 3) := by decide +kernel
theorem dX8_kin_40 : decode cX8_kin 40 = .ok (.iload_n 1, 1) := by decide +kernel
theorem dX8_kin_41 : decode cX8_kin 41 = .ok (.iaload, 1) := by decide +kernel
theorem dX8_kin_42 : decode cX8_kin 42 = .ok (.if_icmp .ne 7, 3) := by decide +kernel
theorem dX8_kin_45 : decode cX8_kin 45 = .ok (.iconst 1, 1) := by decide +kernel
theorem dX8_kin_46 : decode cX8_kin 46 = .ok (.goto 4, 3) := by decide +kernel
theorem dX8_kin_49 : decode cX8_kin 49 = .ok (.iconst 0, 1) := by decide +kernel
theorem dX8_kin_50 : decode cX8_kin 50 = .ok (.iadd, 1) := by decide +kernel
theorem dX8_kin_51 : decode cX8_kin 51 = .ok (.istore 4, 2) := by decide +kernel
theorem dX8_kin_53 : decode cX8_kin 53 = .ok (.iinc 5 1, 3) := by decide +kernel
theorem dX8_kin_56 : decode cX8_kin 56 = .ok (.goto (-38), 3) := by decide +kernel
theorem dX8_kin_59 : decode cX8_kin 59 = .ok (.iload 4, 2) := by decide +kernel
theorem dX8_kin_61 : decode cX8_kin 61 = .ok (.ireturn, 1) := by decide +kernel
theorem dX8_sung_0 : decode cX8_sung 0 = .ok (.aload_n 0, 1) := by decide +kernel
theorem dX8_sung_1 : decode cX8_sung 1 = .ok (.iload_n 1, 1) := by decide +kernel
theorem dX8_sung_2 : decode cX8_sung 2 = .ok (.iload_n 2, 1) := by decide +kernel
theorem dX8_sung_3 : decode cX8_sung 3 = .ok (.iload_n 3, 1) := by decide +kernel
theorem dX8_sung_4 : decode cX8_sung 4 = .ok (.invokevirtual 171, 3) := by decide +kernel
theorem dX8_sung_7 : decode cX8_sung 7 = .ok (.ifCond .ne 5, 3) := by decide +kernel
theorem dX8_sung_10 : decode cX8_sung 10 = .ok (.iconst (-1), 1) := by decide +kernel
theorem dX8_sung_11 : decode cX8_sung 11 = .ok (.ireturn, 1) := by decide +kernel
theorem dX8_sung_12 : decode cX8_sung 12 = .ok (.iconst 0, 1) := by decide +kernel
theorem dX8_sung_13 : decode cX8_sung 13 = .ok (.istore 4, 2) := by decide +kernel
theorem dX8_sung_15 : decode cX8_sung 15 = .ok (.iconst 0, 1) := by decide +kernel
theorem dX8_sung_16 : decode cX8_sung 16 = .ok (.istore 5, 2) := by decide +kernel
theorem dX8_sung_18 : decode cX8_sung 18 = .ok (.iload 5, 2) := by decide +kernel
theorem dX8_sung_20 : decode cX8_sung 20 = .ok (.aload_n 0, 1) := by decide +kernel
theorem dX8_sung_21 : decode cX8_sung 21 = .ok (.getfield 86, 3) := by decide +kernel
theorem dX8_sung_24 : decode cX8_sung 24 = .ok (.if_icmp .ge 43, 3) := by decide +kernel
theorem dX8_sung_27 : decode cX8_sung 27 = .ok (.iload 4, 2) := by decide +kernel
theorem dX8_sung_29 : decode cX8_sung 29 = .ok (.aload_n 0, 1) := by decide +kernel
theorem dX8_sung_30 : decode cX8_sung 30 = .ok (.getfield 79, 3) := by decide +kernel
theorem dX8_sung_33 : decode cX8_sung 33 = .ok (.iload 5, 2) := by decide +kernel
theorem dX8_sung_35 : decode cX8_sung 35 = .ok (.iaload, 1) := by decide +kernel
theorem dX8_sung_36 : decode cX8_sung 36 = .ok (.aload_n 0, 1) := by decide +kernel
theorem dX8_sung_37 : decode cX8_sung 37 = .ok (.getfield 79, 3) := by decide +kernel
theorem dX8_sung_40 : decode cX8_sung 40 = .ok (.iload_n 1, 1) := by decide +kernel
theorem dX8_sung_41 : decode cX8_sung 41 = .ok (.iaload, 1) := by decide +kernel
theorem dX8_sung_42 : decode cX8_sung 42 = .ok (.if_icmp .ne 15, 3) := by decide +kernel
theorem dX8_sung_45 : decode cX8_sung 45 = .ok (.iconst 1, 1) := by decide +kernel
theorem dX8_sung_46 : decode cX8_sung 46 = .ok (.aload_n 0, 1) := by decide +kernel
theorem dX8_sung_47 : decode cX8_sung 47 = .ok (.getfield 16, 3) := by decide +kernel
theorem dX8_sung_50 : decode cX8_sung 50 = .ok (.iload 5, 2) := by decide +kernel
theorem dX8_sung_52 : decode cX8_sung 52 = .ok (.iaload, 1) := by decide +kernel
theorem dX8_sung_53 : decode cX8_sung 53 = .ok (.ishl, 1) := by decide +kernel
theorem dX8_sung_54 : decode cX8_sung 54 = .ok (.goto 4, 3) := by decide +kernel
theorem dX8_sung_57 : decode cX8_sung 57 = .ok (.iconst 0, 1) := by decide +kernel
theorem dX8_sung_58 : decode cX8_sung 58 = .ok (.ior, 1) := by decide +kernel
theorem dX8_sung_59 : decode cX8_sung 59 = .ok (.istore 4, 2) := by decide +kernel
theorem dX8_sung_61 : decode cX8_sung 61 = .ok (.iinc 5 1, 3) := by decide +kernel
theorem dX8_sung_64 : decode cX8_sung 64 = .ok (.goto (-46), 3) := by decide +kernel
theorem dX8_sung_67 : decode cX8_sung 67 = .ok (.iload 4, 2) := by decide +kernel
theorem dX8_sung_69 : decode cX8_sung 69 = .ok (.ireturn, 1) := by decide +kernel
theorem dX8_isEarlier_0 : decode cX8_isEarlier 0 = .ok (.aload_n 0, 1) := by decide +kernel
theorem dX8_isEarlier_1 : decode cX8_isEarlier 1 = .ok (.getfield 13, 3) := by decide +kernel
theorem dX8_isEarlier_4 : decode cX8_isEarlier 4 = .ok (.iload_n 1, 1) := by decide +kernel
theorem dX8_isEarlier_5 : decode cX8_isEarlier 5 = .ok (.iaload, 1) := by decide +kernel
theorem dX8_isEarlier_6 : decode cX8_isEarlier 6 = .ok (.aload_n 0, 1) := by decide +kernel
theorem dX8_isEarlier_7 : decode cX8_isEarlier 7 = .ok (.getfield 13, 3) := by decide +kernel
theorem dX8_isEarlier_10 : decode cX8_isEarlier 10 = .ok (.iload_n 2, 1) := by decide +kernel
theorem dX8_isEarlier_11 : decode cX8_isEarlier 11 = .ok (.iaload, 1) := by decide +kernel
theorem dX8_isEarlier_12 : decode cX8_isEarlier 12 = .ok (.if_icmp .lt 23, 3) := by decide +kernel
theorem dX8_isEarlier_15 : decode cX8_isEarlier 15 = .ok (.aload_n 0, 1) := by decide +kernel
theorem dX8_isEarlier_16 : decode cX8_isEarlier 16 = .ok (.getfield 13, 3) := by decide +kernel
theorem dX8_isEarlier_19 : decode cX8_isEarlier 19 = .ok (.iload_n 1, 1) := by decide +kernel
theorem dX8_isEarlier_20 : decode cX8_isEarlier 20 = .ok (.iaload, 1) := by decide +kernel
theorem dX8_isEarlier_21 : decode cX8_isEarlier 21 = .ok (.aload_n 0, 1) := by decide +kernel
theorem dX8_isEarlier_22 : decode cX8_isEarlier 22 = .ok (.getfield 13, 3) := by decide +kernel
theorem dX8_isEarlier_25 : decode cX8_isEarlier 25 = .ok (.iload_n 2, 1) := by decide +kernel
theorem dX8_isEarlier_26 : decode cX8_isEarlier 26 = .ok (.iaload, 1) := by decide +kernel
theorem dX8_isEarlier_27 : decode cX8_isEarlier 27 = .ok (.if_icmp .ne 12, 3) := by decide +kernel
theorem dX8_isEarlier_30 : decode cX8_isEarlier 30 = .ok (.iload_n 1, 1) := by decide +kernel
theorem dX8_isEarlier_31 : decode cX8_isEarlier 31 = .ok (.iload_n 2, 1) := by decide +kernel
theorem dX8_isEarlier_32 : decode cX8_isEarlier 32 = .ok (.if_icmp .ge 7, 3) := by decide +kernel
theorem dX8_isEarlier_35 : decode cX8_isEarlier 35 = .ok (.iconst 1, 1) := by decide +kernel
theorem dX8_isEarlier_36 : decode cX8_isEarlier 36 = .ok (.goto 4, 3) := by decide +kernel
theorem dX8_isEarlier_39 : decode cX8_isEarlier 39 = .ok (.iconst 0, 1) := by decide +kernel
theorem dX8_isEarlier_40 : decode cX8_isEarlier 40 = .ok (.ireturn, 1) := by decide +kernel
theorem dX8_sourceOf_0 : decode cX8_sourceOf 0 = .ok (.iconst (-1), 1) := by decide +kernel
theorem dX8_sourceOf_1 : decode cX8_sourceOf 1 = .ok (.istore_n 3, 1) := by decide +kernel
theorem dX8_sourceOf_2 : decode cX8_sourceOf 2 = .ok (.iconst 0, 1) := by decide +kernel
theorem dX8_sourceOf_3 : decode cX8_sourceOf 3 = .ok (.istore 4, 2) := by decide +kernel
theorem dX8_sourceOf_5 : decode cX8_sourceOf 5 = .ok (.iload 4, 2) := by decide +kernel
theorem dX8_sourceOf_7 : decode cX8_sourceOf 7 = .ok (.aload_n 0, 1) := by decide +kernel
theorem dX8_sourceOf_8 : decode cX8_sourceOf 8 = .ok (.getfield 86, 3) := by decide +kernel
theorem dX8_sourceOf_11 : decode cX8_sourceOf 11 = .ok (.if_icmp .ge 93, 3) := by decide +kernel
theorem dX8_sourceOf_14 : decode cX8_sourceOf 14 = .ok (.iload 4, 2) := by decide +kernel
theorem dX8_sourceOf_16 : decode cX8_sourceOf 16 = .ok (.iload_n 1, 1) := by decide +kernel
theorem dX8_sourceOf_17 : decode cX8_sourceOf 17 = .ok (.if_icmp .eq 81, 3) := by decide +kernel
theorem dX8_sourceOf_20 : decode cX8_sourceOf 20 = .ok (.aload_n 0, 1) := by decide +kernel
theorem dX8_sourceOf_21 : decode cX8_sourceOf 21 = .ok (.iload 4, 2) := by decide +kernel
theorem dX8_sourceOf_23 : decode cX8_sourceOf 23 = .ok (.iload_n 1, 1) := by decide +kernel
theorem dX8_sourceOf_24 : decode cX8_sourceOf 24 = .ok (.invokevirtual 174, 3) := by decide +kernel
theorem dX8_sourceOf_27 : decode cX8_sourceOf 27 = .ok (.ifCond .eq 71, 3) := by decide +kernel
theorem dX8_sourceOf_30 : decode cX8_sourceOf 30 = .ok (.aload_n 0, 1) := by decide +kernel
theorem dX8_sourceOf_31 : decode cX8_sourceOf 31 = .ok (.iload 4, 2) := by decide +kernel
theorem dX8_sourceOf_33 : decode cX8_sourceOf 33 = .ok (.iload_n 2, 1) := by decide +kernel
theorem dX8_sourceOf_34 : decode cX8_sourceOf 34 = .ok (.invokevirtual 168, 3) := by decide +kernel
theorem dX8_sourceOf_37 : decode cX8_sourceOf 37 = .ok (.ifCond .eq 6, 3) := by decide +kernel
theorem dX8_sourceOf_40 : decode cX8_sourceOf 40 = .ok (.goto 58, 3) := by decide +kernel
theorem dX8_sourceOf_43 : decode cX8_sourceOf 43 = .ok (.aload_n 0, 1) := by decide +kernel
theorem dX8_sourceOf_44 : decode cX8_sourceOf 44 = .ok (.iload_n 1, 1) := by decide +kernel
theorem dX8_sourceOf_45 : decode cX8_sourceOf 45 = .ok (.iload 4, 2) := by decide +kernel
theorem dX8_sourceOf_47 : decode cX8_sourceOf 47 = .ok (.iload_n 2, 1) := by decide +kernel
theorem dX8_sourceOf_48 : decode cX8_sourceOf 48 = .ok (.invokevirtual 159, 3) := by decide +kernel
theorem dX8_sourceOf_51 : decode cX8_sourceOf 51 = .ok (.istore 5, 2) := by decide +kernel
theorem dX8_sourceOf_53 : decode cX8_sourceOf 53 = .ok (.iload_n 3, 1) := by decide +kernel
theorem dX8_sourceOf_54 : decode cX8_sourceOf 54 = .ok (.iconst (-1), 1) := by decide +kernel
theorem dX8_sourceOf_55 : decode cX8_sourceOf 55 = .ok (.if_icmp .eq 34, 3) := by decide +kernel
theorem dX8_sourceOf_58 : decode cX8_sourceOf 58 = .ok (.iload 5, 2) := by decide +kernel
theorem dX8_sourceOf_60 : decode cX8_sourceOf 60 = .ok (.aload_n 0, 1) := by decide +kernel
theorem dX8_sourceOf_61 : decode cX8_sourceOf 61 = .ok (.getfield 177, 3) := by decide +kernel
theorem dX8_sourceOf_64 : decode cX8_sourceOf 64 = .ok (.if_icmp .gt 34, 3) := by decide +kernel
theorem dX8_sourceOf_67 : decode cX8_sourceOf 67 = .ok (.iload 5, 2) := by decide +kernel
theorem dX8_sourceOf_69 : decode cX8_sourceOf 69 = .ok (.aload_n 0, 1) := by decide +kernel
theorem dX8_sourceOf_70 : decode cX8_sourceOf 70 = .ok (.getfield 177, 3) := by decide +kernel
theorem dX8_sourceOf_73 : decode cX8_sourceOf 73 = .ok (.if_icmp .ne 16, 3) := by decide +kernel
theorem dX8_sourceOf_76 : decode cX8_sourceOf 76 = .ok (.aload_n 0, 1) := by decide +kernel
theorem dX8_sourceOf_77 : decode cX8_sourceOf 77 = .ok (.iload 4, 2) := by decide +kernel
theorem dX8_sourceOf_79 : decode cX8_sourceOf 79 = .ok (.iload_n 3, 1) := by decide +kernel
theorem dX8_sourceOf_80 : decode cX8_sourceOf 80 = .ok (.invokevirtual 174, 3) := by decide +kernel
theorem dX8_sourceOf_83 : decode cX8_sourceOf 83 = .ok (.ifCond .ne 6, 3) := by decide +kernel
theorem dX8_sourceOf_86 : decode cX8_sourceOf 86 = .ok (.goto 12, 3) := by decide +kernel
theorem dX8_sourceOf_89 : decode cX8_sourceOf 89 = .ok (.iload 4, 2) := by decide +kernel
theorem dX8_sourceOf_91 : decode cX8_sourceOf 91 = .ok (.istore_n 3, 1) := by decide +kernel
theorem dX8_sourceOf_92 : decode cX8_sourceOf 92 = .ok (.aload_n 0, 1) := by decide +kernel
theorem dX8_sourceOf_93 : decode cX8_sourceOf 93 = .ok (.iload 5, 2) := by decide +kernel
theorem dX8_sourceOf_95 : decode cX8_sourceOf 95 = .ok (.putfield 177, 3) := by decide +kernel
theorem dX8_sourceOf_98 : decode cX8_sourceOf 98 = .ok (.iinc 4 1, 3) := by decide +kernel
theorem dX8_sourceOf_101 : decode cX8_sourceOf 101 = .ok (.goto (-96), 3) := by decide +kernel
theorem dX8_sourceOf_104 : decode cX8_sourceOf 104 = .ok (.iload_n 3, 1) := by decide +kernel
theorem dX8_sourceOf_105 : decode cX8_sourceOf 105 = .ok (.iconst (-1), 1) := by decide +kernel
theorem dX8_sourceOf_106 : decode cX8_sourceOf 106 = .ok (.if_icmp .eq 20, 3) := by decide +kernel
theorem dX8_sourceOf_109 : decode cX8_sourceOf 109 = .ok (.aload_n 0, 1) := by decide +kernel
theorem dX8_sourceOf_110 : decode cX8_sourceOf 110 = .ok (.getfield 177, 3) := by decide +kernel
theorem dX8_sourceOf_113 : decode cX8_sourceOf 113 = .ok (.aload_n 0, 1) := by decide +kernel
theorem dX8_sourceOf_114 : decode cX8_sourceOf 114 = .ok (.getfield 52, 3) := by decide +kernel
theorem dX8_sourceOf_117 : decode cX8_sourceOf 117 = .ok (.iconst 4, 1) := by decide +kernel
theorem dX8_sourceOf_118 : decode cX8_sourceOf 118 = .ok (.iaload, 1) := by decide +kernel
theorem dX8_sourceOf_119 : decode cX8_sourceOf 119 = .ok (.if_icmp .ge 7, 3) := by decide +kernel
theorem dX8_sourceOf_122 : decode cX8_sourceOf 122 = .ok (.iload_n 3, 1) := by decide +kernel
theorem dX8_sourceOf_123 : decode cX8_sourceOf 123 = .ok (.goto 4, 3) := by decide +kernel
theorem dX8_sourceOf_126 : decode cX8_sourceOf 126 = .ok (.iconst (-1), 1) := by decide +kernel
theorem dX8_sourceOf_127 : decode cX8_sourceOf 127 = .ok (.ireturn, 1) := by decide +kernel
theorem dX8_isAsked_0 : decode cX8_isAsked 0 = .ok (.aload_n 0, 1) := by decide +kernel
theorem dX8_isAsked_1 : decode cX8_isAsked 1 = .ok (.iconst 0, 1) := by decide +kernel
theorem dX8_isAsked_2 : decode cX8_isAsked 2 = .ok (.putfield 82, 3) := by decide +kernel
theorem dX8_isAsked_5 : decode cX8_isAsked 5 = .ok (.aload_n 0, 1) := by decide +kernel
theorem dX8_isAsked_6 : decode cX8_isAsked 6 = .ok (.iload_n 1, 1) := by decide +kernel
theorem dX8_isAsked_7 : decode cX8_isAsked 7 = .ok (.invokevirtual 96, 3) := by decide +kernel
theorem dX8_isAsked_10 : decode cX8_isAsked 10 = .ok (.ifCond .eq 24, 3) := by decide +kernel
theorem dX8_isAsked_13 : decode cX8_isAsked 13 = .ok (.aload_n 0, 1) := by decide +kernel
theorem dX8_isAsked_14 : decode cX8_isAsked 14 = .ok (.iload_n 2, 1) := by decide +kernel
theorem dX8_isAsked_15 : decode cX8_isAsked 15 = .ok (.invokevirtual 110, 3) := by decide +kernel
theorem dX8_isAsked_18 : decode cX8_isAsked 18 = .ok (.ifCond .eq 16, 3) := by decide +kernel
theorem dX8_isAsked_21 : decode cX8_isAsked 21 = .ok (.aload_n 0, 1) := by decide +kernel
theorem dX8_isAsked_22 : decode cX8_isAsked 22 = .ok (.iload_n 1, 1) := by decide +kernel
theorem dX8_isAsked_23 : decode cX8_isAsked 23 = .ok (.iload_n 2, 1) := by decide +kernel
theorem dX8_isAsked_24 : decode cX8_isAsked 24 = .ok (.invokevirtual 168, 3) := by decide +kernel
theorem dX8_isAsked_27 : decode cX8_isAsked 27 = .ok (.ifCond .ne 7, 3) := by decide +kernel
theorem dX8_isAsked_30 : decode cX8_isAsked 30 = .ok (.iconst 1, 1) := by decide +kernel
theorem dX8_isAsked_31 : decode cX8_isAsked 31 = .ok (.goto 4, 3) := by decide +kernel
theorem dX8_isAsked_34 : decode cX8_isAsked 34 = .ok (.iconst 0, 1) := by decide +kernel
theorem dX8_isAsked_35 : decode cX8_isAsked 35 = .ok (.ireturn, 1) := by decide +kernel
theorem dX8_source_0 : decode cX8_source 0 = .ok (.aload_n 0, 1) := by decide +kernel
theorem dX8_source_1 : decode cX8_source 1 = .ok (.iload_n 1, 1) := by decide +kernel
theorem dX8_source_2 : decode cX8_source 2 = .ok (.iload_n 2, 1) := by decide +kernel
theorem dX8_source_3 : decode cX8_source 3 = .ok (.invokevirtual 180, 3) := by decide +kernel
theorem dX8_source_6 : decode cX8_source 6 = .ok (.ifCond .eq 12, 3) := by decide +kernel
theorem dX8_source_9 : decode cX8_source 9 = .ok (.aload_n 0, 1) := by decide +kernel
theorem dX8_source_10 : decode cX8_source 10 = .ok (.iload_n 1, 1) := by decide +kernel
theorem dX8_source_11 : decode cX8_source 11 = .ok (.iload_n 2, 1) := by decide +kernel
theorem dX8_source_12 : decode cX8_source 12 = .ok (.invokevirtual 183, 3) := by decide +kernel
theorem dX8_source_15 : decode cX8_source 15 = .ok (.goto 4, 3) := by decide +kernel
theorem dX8_source_18 : decode cX8_source 18 = .ok (.iconst (-1), 1) := by decide +kernel
theorem dX8_source_19 : decode cX8_source 19 = .ok (.ireturn, 1) := by decide +kernel
theorem dX8_changesOf_0 : decode cX8_changesOf 0 = .ok (.aload_n 0, 1) := by decide +kernel
theorem dX8_changesOf_1 : decode cX8_changesOf 1 = .ok (.iload_n 1, 1) := by decide +kernel
theorem dX8_changesOf_2 : decode cX8_changesOf 2 = .ok (.iload_n 2, 1) := by decide +kernel
theorem dX8_changesOf_3 : decode cX8_changesOf 3 = .ok (.invokevirtual 183, 3) := by decide +kernel
theorem dX8_changesOf_6 : decode cX8_changesOf 6 = .ok (.iconst (-1), 1) := by decide +kernel
theorem dX8_changesOf_7 : decode cX8_changesOf 7 = .ok (.if_icmp .ne 12, 3) := by decide +kernel
theorem dX8_changesOf_10 : decode cX8_changesOf 10 = .ok (.aload_n 0, 1) := by decide +kernel
theorem dX8_changesOf_11 : decode cX8_changesOf 11 = .ok (.getfield 52, 3) := by decide +kernel
theorem dX8_changesOf_14 : decode cX8_changesOf 14 = .ok (.iconst 4, 1) := by decide +kernel
theorem dX8_changesOf_15 : decode cX8_changesOf 15 = .ok (.iaload, 1) := by decide +kernel
theorem dX8_changesOf_16 : decode cX8_changesOf 16 = .ok (.goto 7, 3) := by decide +kernel
theorem dX8_changesOf_19 : decode cX8_changesOf 19 = .ok (.aload_n 0, 1) := by decide +kernel
theorem dX8_changesOf_20 : decode cX8_changesOf 20 = .ok (.getfield 177, 3) := by decide +kernel
theorem dX8_changesOf_23 : decode cX8_changesOf 23 = .ok (.ireturn, 1) := by decide +kernel
theorem dX8_changes_0 : decode cX8_changes 0 = .ok (.aload_n 0, 1) := by decide +kernel
theorem dX8_changes_1 : decode cX8_changes 1 = .ok (.iload_n 1, 1) := by decide +kernel
theorem dX8_changes_2 : decode cX8_changes 2 = .ok (.iload_n 2, 1) := by decide +kernel
theorem dX8_changes_3 : decode cX8_changes 3 = .ok (.invokevirtual 180, 3) := by decide +kernel
theorem dX8_changes_6 : decode cX8_changes 6 = .ok (.ifCond .eq 12, 3) := by decide +kernel
theorem dX8_changes_9 : decode cX8_changes 9 = .ok (.aload_n 0, 1) := by decide +kernel
theorem dX8_changes_10 : decode cX8_changes 10 = .ok (.iload_n 1, 1) := by decide +kernel
theorem dX8_changes_11 : decode cX8_changes 11 = .ok (.iload_n 2, 1) := by decide +kernel
theorem dX8_changes_12 : decode cX8_changes 12 = .ok (.invokevirtual 186, 3) := by decide +kernel
theorem dX8_changes_15 : decode cX8_changes 15 = .ok (.goto 4, 3) := by decide +kernel
theorem dX8_changes_18 : decode cX8_changes 18 = .ok (.iconst (-1), 1) := by decide +kernel
theorem dX8_changes_19 : decode cX8_changes 19 = .ok (.ireturn, 1) := by decide +kernel
theorem dX8_all_0 : decode cX8_all 0 = .ok (.aload_n 0, 1) := by decide +kernel
theorem dX8_all_1 : decode cX8_all 1 = .ok (.iconst 0, 1) := by decide +kernel
theorem dX8_all_2 : decode cX8_all 2 = .ok (.putfield 82, 3) := by decide +kernel
theorem dX8_all_5 : decode cX8_all 5 = .ok (.aload_n 0, 1) := by decide +kernel
theorem dX8_all_6 : decode cX8_all 6 = .ok (.iload_n 1, 1) := by decide +kernel
theorem dX8_all_7 : decode cX8_all 7 = .ok (.invokevirtual 110, 3) := by decide +kernel
theorem dX8_all_10 : decode cX8_all 10 = .ok (.ifCond .ne 5, 3) := by decide +kernel
theorem dX8_all_13 : decode cX8_all 13 = .ok (.iconst (-1), 1) := by decide +kernel
theorem dX8_all_14 : decode cX8_all 14 = .ok (.ireturn, 1) := by decide +kernel
theorem dX8_all_15 : decode cX8_all 15 = .ok (.iconst 0, 1) := by decide +kernel
theorem dX8_all_16 : decode cX8_all 16 = .ok (.istore_n 2, 1) := by decide +kernel
theorem dX8_all_17 : decode cX8_all 17 = .ok (.iconst 0, 1) := by decide +kernel
theorem dX8_all_18 : decode cX8_all 18 = .ok (.istore_n 3, 1) := by decide +kernel
theorem dX8_all_19 : decode cX8_all 19 = .ok (.iload_n 3, 1) := by decide +kernel
theorem dX8_all_20 : decode cX8_all 20 = .ok (.aload_n 0, 1) := by decide +kernel
theorem dX8_all_21 : decode cX8_all 21 = .ok (.getfield 86, 3) := by decide +kernel
theorem dX8_all_24 : decode cX8_all 24 = .ok (.if_icmp .ge 31, 3) := by decide +kernel
theorem dX8_all_27 : decode cX8_all 27 = .ok (.iload_n 2, 1) := by decide +kernel
theorem dX8_all_28 : decode cX8_all 28 = .ok (.aload_n 0, 1) := by decide +kernel
theorem dX8_all_29 : decode cX8_all 29 = .ok (.iload_n 3, 1) := by decide +kernel
theorem dX8_all_30 : decode cX8_all 30 = .ok (.iload_n 1, 1) := by decide +kernel
theorem dX8_all_31 : decode cX8_all 31 = .ok (.invokevirtual 168, 3) := by decide +kernel
theorem dX8_all_34 : decode cX8_all 34 = .ok (.ifCond .eq 7, 3) := by decide +kernel
theorem dX8_all_37 : decode cX8_all 37 = .ok (.iconst 0, 1) := by decide +kernel
theorem dX8_all_38 : decode cX8_all 38 = .ok (.goto 9, 3) := by decide +kernel
theorem dX8_all_41 : decode cX8_all 41 = .ok (.aload_n 0, 1) := by decide +kernel
theorem dX8_all_42 : decode cX8_all 42 = .ok (.iload_n 3, 1) := by decide +kernel
theorem dX8_all_43 : decode cX8_all 43 = .ok (.iload_n 1, 1) := by decide +kernel
theorem dX8_all_44 : decode cX8_all 44 = .ok (.invokevirtual 186, 3) := by decide +kernel
theorem dX8_all_47 : decode cX8_all 47 = .ok (.iadd, 1) := by decide +kernel
theorem dX8_all_48 : decode cX8_all 48 = .ok (.istore_n 2, 1) := by decide +kernel
theorem dX8_all_49 : decode cX8_all 49 = .ok (.iinc 3 1, 3) := by decide +kernel
theorem dX8_all_52 : decode cX8_all 52 = .ok (.goto (-33), 3) := by decide +kernel
theorem dX8_all_55 : decode cX8_all 55 = .ok (.iload_n 2, 1) := by decide +kernel
theorem dX8_all_56 : decode cX8_all 56 = .ok (.ireturn, 1) := by decide +kernel
theorem dX8_doubt_0 : decode cX8_doubt 0 = .ok (.aload_n 0, 1) := by decide +kernel
theorem dX8_doubt_1 : decode cX8_doubt 1 = .ok (.iload_n 1, 1) := by decide +kernel
theorem dX8_doubt_2 : decode cX8_doubt 2 = .ok (.iload_n 3, 1) := by decide +kernel
theorem dX8_doubt_3 : decode cX8_doubt 3 = .ok (.invokevirtual 180, 3) := by decide +kernel
theorem dX8_doubt_6 : decode cX8_doubt 6 = .ok (.ifCond .eq 14, 3) := by decide +kernel
theorem dX8_doubt_9 : decode cX8_doubt 9 = .ok (.iload_n 2, 1) := by decide +kernel
theorem dX8_doubt_10 : decode cX8_doubt 10 = .ok (.iconst 0, 1) := by decide +kernel
theorem dX8_doubt_11 : decode cX8_doubt 11 = .ok (.sipush 10000, 3) := by decide +kernel
theorem dX8_doubt_14 : decode cX8_doubt 14 = .ok (.invokestatic 92, 3) := by decide +kernel
theorem dX8_doubt_17 : decode cX8_doubt 17 = .ok (.ifCond .ne 5, 3) := by decide +kernel
theorem dX8_doubt_20 : decode cX8_doubt 20 = .ok (.iconst (-1), 1) := by decide +kernel
theorem dX8_doubt_21 : decode cX8_doubt 21 = .ok (.ireturn, 1) := by decide +kernel
theorem dX8_doubt_22 : decode cX8_doubt 22 = .ok (.aload_n 0, 1) := by decide +kernel
theorem dX8_doubt_23 : decode cX8_doubt 23 = .ok (.iload_n 1, 1) := by decide +kernel
theorem dX8_doubt_24 : decode cX8_doubt 24 = .ok (.iload_n 3, 1) := by decide +kernel
theorem dX8_doubt_25 : decode cX8_doubt 25 = .ok (.invokevirtual 183, 3) := by decide +kernel
theorem dX8_doubt_28 : decode cX8_doubt 28 = .ok (.istore 4, 2) := by decide +kernel
theorem dX8_doubt_30 : decode cX8_doubt 30 = .ok (.iload 4, 2) := by decide +kernel
theorem dX8_doubt_32 : decode cX8_doubt 32 = .ok (.iconst (-1), 1) := by decide +kernel
theorem dX8_doubt_33 : decode cX8_doubt 33 = .ok (.if_icmp .ne 5, 3) := by decide +kernel
theorem dX8_doubt_36 : decode cX8_doubt 36 = .ok (.iconst 0, 1) := by decide +kernel
theorem dX8_doubt_37 : decode cX8_doubt 37 = .ok (.ireturn, 1) := by decide +kernel
theorem dX8_doubt_38 : decode cX8_doubt 38 = .ok (.aload_n 0, 1) := by decide +kernel
theorem dX8_doubt_39 : decode cX8_doubt 39 = .ok (.getfield 177, 3) := by decide +kernel
theorem dX8_doubt_42 : decode cX8_doubt 42 = .ok (.iload_n 2, 1) := by decide +kernel
theorem dX8_doubt_43 : decode cX8_doubt 43 = .ok (.iadd, 1) := by decide +kernel
theorem dX8_doubt_44 : decode cX8_doubt 44 = .ok (.istore 5, 2) := by decide +kernel
theorem dX8_doubt_46 : decode cX8_doubt 46 = .ok (.iconst 0, 1) := by decide +kernel
theorem dX8_doubt_47 : decode cX8_doubt 47 = .ok (.istore 6, 2) := by decide +kernel
theorem dX8_doubt_49 : decode cX8_doubt 49 = .ok (.iconst 0, 1) := by decide +kernel
theorem dX8_doubt_50 : decode cX8_doubt 50 = .ok (.istore 7, 2) := by decide +kernel
theorem dX8_doubt_52 : decode cX8_doubt 52 = .ok (.iload 7, 2) := by decide +kernel
theorem dX8_doubt_54 : decode cX8_doubt 54 = .ok (.aload_n 0, 1) := by decide +kernel
theorem dX8_doubt_55 : decode cX8_doubt 55 = .ok (.getfield 86, 3) := by decide +kernel
theorem dX8_doubt_58 : decode cX8_doubt 58 = .ok (.if_icmp .ge 65, 3) := by decide +kernel
theorem dX8_doubt_61 : decode cX8_doubt 61 = .ok (.iload 6, 2) := by decide +kernel
theorem dX8_doubt_63 : decode cX8_doubt 63 = .ok (.iload 7, 2) := by decide +kernel
theorem dX8_doubt_65 : decode cX8_doubt 65 = .ok (.iload 4, 2) := by decide +kernel
theorem dX8_doubt_67 : decode cX8_doubt 67 = .ok (.if_icmp .eq 46, 3) := by decide +kernel
theorem dX8_doubt_70 : decode cX8_doubt 70 = .ok (.iload 7, 2) := by decide +kernel
theorem dX8_doubt_72 : decode cX8_doubt 72 = .ok (.iload_n 1, 1) := by decide +kernel
theorem dX8_doubt_73 : decode cX8_doubt 73 = .ok (.if_icmp .eq 40, 3) := by decide +kernel
theorem dX8_doubt_76 : decode cX8_doubt 76 = .ok (.aload_n 0, 1) := by decide +kernel
theorem dX8_doubt_77 : decode cX8_doubt 77 = .ok (.iload 7, 2) := by decide +kernel
theorem dX8_doubt_79 : decode cX8_doubt 79 = .ok (.iload_n 1, 1) := by decide +kernel
theorem dX8_doubt_80 : decode cX8_doubt 80 = .ok (.invokevirtual 174, 3) := by decide +kernel
theorem dX8_doubt_83 : decode cX8_doubt 83 = .ok (.ifCond .eq 30, 3) := by decide +kernel
theorem dX8_doubt_86 : decode cX8_doubt 86 = .ok (.aload_n 0, 1) := by decide +kernel
theorem dX8_doubt_87 : decode cX8_doubt 87 = .ok (.iload 7, 2) := by decide +kernel
theorem dX8_doubt_89 : decode cX8_doubt 89 = .ok (.iload_n 3, 1) := by decide +kernel
theorem dX8_doubt_90 : decode cX8_doubt 90 = .ok (.invokevirtual 168, 3) := by decide +kernel
theorem dX8_doubt_93 : decode cX8_doubt 93 = .ok (.ifCond .ne 20, 3) := by decide +kernel
theorem dX8_doubt_96 : decode cX8_doubt 96 = .ok (.aload_n 0, 1) := by decide +kernel
theorem dX8_doubt_97 : decode cX8_doubt 97 = .ok (.iload_n 1, 1) := by decide +kernel
theorem dX8_doubt_98 : decode cX8_doubt 98 = .ok (.iload 7, 2) := by decide +kernel
theorem dX8_doubt_100 : decode cX8_doubt 100 = .ok (.iload_n 3, 1) := by decide +kernel
theorem dX8_doubt_101 : decode cX8_doubt 101 = .ok (.invokevirtual 159, 3) := by decide +kernel
theorem dX8_doubt_104 : decode cX8_doubt 104 = .ok (.iload 5, 2) := by decide +kernel
theorem dX8_doubt_106 : decode cX8_doubt 106 = .ok (.if_icmp .gt 7, 3) := by decide +kernel
theorem dX8_doubt_109 : decode cX8_doubt 109 = .ok (.iconst 1, 1) := by decide +kernel
theorem dX8_doubt_110 : decode cX8_doubt 110 = .ok (.goto 4, 3) := by decide +kernel
theorem dX8_doubt_113 : decode cX8_doubt 113 = .ok (.iconst 0, 1) := by decide +kernel
theorem dX8_doubt_114 : decode cX8_doubt 114 = .ok (.iadd, 1) := by decide +kernel
theorem dX8_doubt_115 : decode cX8_doubt 115 = .ok (.istore 6, 2) := by decide +kernel
theorem dX8_doubt_117 : decode cX8_doubt 117 = .ok (.iinc 7 1, 3) := by decide +kernel
theorem dX8_doubt_120 : decode cX8_doubt 120 = .ok (.goto (-68), 3) := by decide +kernel
theorem dX8_doubt_123 : decode cX8_doubt 123 = .ok (.iload 6, 2) := by decide +kernel
theorem dX8_doubt_125 : decode cX8_doubt 125 = .ok (.ireturn, 1) := by decide +kernel
theorem dX8_habit_0 : decode cX8_habit 0 = .ok (.aload_n 0, 1) := by decide +kernel
theorem dX8_habit_1 : decode cX8_habit 1 = .ok (.iconst 0, 1) := by decide +kernel
theorem dX8_habit_2 : decode cX8_habit 2 = .ok (.putfield 82, 3) := by decide +kernel
theorem dX8_habit_5 : decode cX8_habit 5 = .ok (.iload_n 1, 1) := by decide +kernel
theorem dX8_habit_6 : decode cX8_habit 6 = .ok (.iconst 0, 1) := by decide +kernel
theorem dX8_habit_7 : decode cX8_habit 7 = .ok (.iconst 5, 1) := by decide +kernel
theorem dX8_habit_8 : decode cX8_habit 8 = .ok (.invokestatic 92, 3) := by decide +kernel
theorem dX8_habit_11 : decode cX8_habit 11 = .ok (.ifCond .eq 35, 3) := by decide +kernel
theorem dX8_habit_14 : decode cX8_habit 14 = .ok (.iload_n 2, 1) := by decide +kernel
theorem dX8_habit_15 : decode cX8_habit 15 = .ok (.iconst 0, 1) := by decide +kernel
theorem dX8_habit_16 : decode cX8_habit 16 = .ok (.iconst 5, 1) := by decide +kernel
theorem dX8_habit_17 : decode cX8_habit 17 = .ok (.invokestatic 92, 3) := by decide +kernel
theorem dX8_habit_20 : decode cX8_habit 20 = .ok (.ifCond .eq 26, 3) := by decide +kernel
theorem dX8_habit_23 : decode cX8_habit 23 = .ok (.iload_n 1, 1) := by decide +kernel
theorem dX8_habit_24 : decode cX8_habit 24 = .ok (.iload_n 2, 1) := by decide +kernel
theorem dX8_habit_25 : decode cX8_habit 25 = .ok (.if_icmp .eq 21, 3) := by decide +kernel
theorem dX8_habit_28 : decode cX8_habit 28 = .ok (.aload_n 0, 1) := by decide +kernel
theorem dX8_habit_29 : decode cX8_habit 29 = .ok (.iload_n 3, 1) := by decide +kernel
theorem dX8_habit_30 : decode cX8_habit 30 = .ok (.invokevirtual 110, 3) := by decide +kernel
theorem dX8_habit_33 : decode cX8_habit 33 = .ok (.ifCond .eq 13, 3) := by decide +kernel
theorem dX8_habit_36 : decode cX8_habit 36 = .ok (.iload 4, 2) := by decide +kernel
theorem dX8_habit_38 : decode cX8_habit 38 = .ok (.iconst 0, 1) := by decide +kernel
theorem dX8_habit_39 : decode cX8_habit 39 = .ok (.iconst 1, 1) := by decide +kernel
theorem dX8_habit_40 : decode cX8_habit 40 = .ok (.invokestatic 92, 3) := by decide +kernel
theorem dX8_habit_43 : decode cX8_habit 43 = .ok (.ifCond .ne 6, 3) := by decide +kernel
theorem dX8_habit_46 : decode cX8_habit 46 = .ok (.ldc 189, 2) := by decide +kernel
theorem dX8_habit_48 : decode cX8_habit 48 = .ok (.ireturn, 1) := by decide +kernel
theorem dX8_habit_49 : decode cX8_habit 49 = .ok (.iconst 0, 1) := by decide +kernel
theorem dX8_habit_50 : decode cX8_habit 50 = .ok (.istore 5, 2) := by decide +kernel
theorem dX8_habit_52 : decode cX8_habit 52 = .ok (.iconst 0, 1) := by decide +kernel
theorem dX8_habit_53 : decode cX8_habit 53 = .ok (.istore 6, 2) := by decide +kernel
theorem dX8_habit_55 : decode cX8_habit 55 = .ok (.iconst 0, 1) := by decide +kernel
theorem dX8_habit_56 : decode cX8_habit 56 = .ok (.istore 7, 2) := by decide +kernel
theorem dX8_habit_58 : decode cX8_habit 58 = .ok (.iload 7, 2) := by decide +kernel
theorem dX8_habit_60 : decode cX8_habit 60 = .ok (.aload_n 0, 1) := by decide +kernel
theorem dX8_habit_61 : decode cX8_habit 61 = .ok (.getfield 107, 3) := by decide +kernel
theorem dX8_habit_64 : decode cX8_habit 64 = .ok (.if_icmp .ge 230, 3) := by decide +kernel
theorem dX8_habit_67 : decode cX8_habit 67 = .ok (.aload_n 0, 1) := by decide +kernel
theorem dX8_habit_68 : decode cX8_habit 68 = .ok (.getfield 9, 3) := by decide +kernel
theorem dX8_habit_71 : decode cX8_habit 71 = .ok (.aload_n 0, 1) := by decide +kernel
theorem dX8_habit_72 : decode cX8_habit 72 = .ok (.getfield 46, 3) := by decide +kernel
theorem dX8_habit_75 : decode cX8_habit 75 = .ok (.iload 7, 2) := by decide +kernel
theorem dX8_habit_77 : decode cX8_habit 77 = .ok (.iaload, 1) := by decide +kernel
theorem dX8_habit_78 : decode cX8_habit 78 = .ok (.iaload, 1) := by decide +kernel
theorem dX8_habit_79 : decode cX8_habit 79 = .ok (.iload_n 1, 1) := by decide +kernel
theorem dX8_habit_80 : decode cX8_habit 80 = .ok (.if_icmp .ne 13, 3) := by decide +kernel
theorem dX8_habit_83 : decode cX8_habit 83 = .ok (.aload_n 0, 1) := by decide +kernel
theorem dX8_habit_84 : decode cX8_habit 84 = .ok (.getfield 46, 3) := by decide +kernel
theorem dX8_habit_87 : decode cX8_habit 87 = .ok (.iload 7, 2) := by decide +kernel
theorem dX8_habit_89 : decode cX8_habit 89 = .ok (.iaload, 1) := by decide +kernel
theorem dX8_habit_90 : decode cX8_habit 90 = .ok (.goto 10, 3) := by decide +kernel
theorem dX8_habit_93 : decode cX8_habit 93 = .ok (.aload_n 0, 1) := by decide +kernel
theorem dX8_habit_94 : decode cX8_habit 94 = .ok (.getfield 49, 3) := by decide +kernel
theorem dX8_habit_97 : decode cX8_habit 97 = .ok (.iload 7, 2) := by decide +kernel
theorem dX8_habit_99 : decode cX8_habit 99 = .ok (.iaload, 1) := by decide +kernel
theorem dX8_habit_100 : decode cX8_habit 100 = .ok (.istore 8, 2) := by decide +kernel
theorem dX8_habit_102 : decode cX8_habit 102 = .ok (.iload 8, 2) := by decide +kernel
theorem dX8_habit_104 : decode cX8_habit 104 = .ok (.aload_n 0, 1) := by decide +kernel
theorem dX8_habit_105 : decode cX8_habit 105 = .ok (.getfield 46, 3) := by decide +kernel
theorem dX8_habit_108 : decode cX8_habit 108 = .ok (.iload 7, 2) := by decide +kernel
theorem dX8_habit_110 : decode cX8_habit 110 = .ok (.iaload, 1) := by decide +kernel
theorem dX8_habit_111 : decode cX8_habit 111 = .ok (.if_icmp .ne 13, 3) := by decide +kernel
theorem dX8_habit_114 : decode cX8_habit 114 = .ok (.aload_n 0, 1) := by decide +kernel
theorem dX8_habit_115 : decode cX8_habit 115 = .ok (.getfield 49, 3) := by decide +kernel
theorem dX8_habit_118 : decode cX8_habit 118 = .ok (.iload 7, 2) := by decide +kernel
theorem dX8_habit_120 : decode cX8_habit 120 = .ok (.iaload, 1) := by decide +kernel
theorem dX8_habit_121 : decode cX8_habit 121 = .ok (.goto 10, 3) := by decide +kernel
theorem dX8_habit_124 : decode cX8_habit 124 = .ok (.aload_n 0, 1) := by decide +kernel
theorem dX8_habit_125 : decode cX8_habit 125 = .ok (.getfield 46, 3) := by decide +kernel
theorem dX8_habit_128 : decode cX8_habit 128 = .ok (.iload 7, 2) := by decide +kernel
theorem dX8_habit_130 : decode cX8_habit 130 = .ok (.iaload, 1) := by decide +kernel
theorem dX8_habit_131 : decode cX8_habit 131 = .ok (.istore 9, 2) := by decide +kernel
theorem dX8_habit_133 : decode cX8_habit 133 = .ok (.aload_n 0, 1) := by decide +kernel
theorem dX8_habit_134 : decode cX8_habit 134 = .ok (.getfield 9, 3) := by decide +kernel
theorem dX8_habit_137 : decode cX8_habit 137 = .ok (.iload 8, 2) := by decide +kernel
theorem dX8_habit_139 : decode cX8_habit 139 = .ok (.iaload, 1) := by decide +kernel
theorem dX8_habit_140 : decode cX8_habit 140 = .ok (.iload_n 1, 1) := by decide +kernel
theorem dX8_habit_141 : decode cX8_habit 141 = .ok (.if_icmp .ne 147, 3) := by decide +kernel
theorem dX8_habit_144 : decode cX8_habit 144 = .ok (.aload_n 0, 1) := by decide +kernel
theorem dX8_habit_145 : decode cX8_habit 145 = .ok (.getfield 9, 3) := by decide +kernel
theorem dX8_habit_148 : decode cX8_habit 148 = .ok (.iload 9, 2) := by decide +kernel
theorem dX8_habit_150 : decode cX8_habit 150 = .ok (.iaload, 1) := by decide +kernel
theorem dX8_habit_151 : decode cX8_habit 151 = .ok (.iload_n 2, 1) := by decide +kernel
theorem dX8_habit_152 : decode cX8_habit 152 = .ok (.if_icmp .ne 136, 3) := by decide +kernel
theorem dX8_habit_155 : decode cX8_habit 155 = .ok (.aload_n 0, 1) := by decide +kernel
theorem dX8_habit_156 : decode cX8_habit 156 = .ok (.iload 8, 2) := by decide +kernel
theorem dX8_habit_158 : decode cX8_habit 158 = .ok (.iload_n 3, 1) := by decide +kernel
theorem dX8_habit_159 : decode cX8_habit 159 = .ok (.invokevirtual 168, 3) := by decide +kernel
theorem dX8_habit_162 : decode cX8_habit 162 = .ok (.ifCond .ne 126, 3) := by decide +kernel
theorem dX8_habit_165 : decode cX8_habit 165 = .ok (.aload_n 0, 1) := by decide +kernel
theorem dX8_habit_166 : decode cX8_habit 166 = .ok (.iload 9, 2) := by decide +kernel
theorem dX8_habit_168 : decode cX8_habit 168 = .ok (.iload_n 3, 1) := by decide +kernel
theorem dX8_habit_169 : decode cX8_habit 169 = .ok (.invokevirtual 168, 3) := by decide +kernel
theorem dX8_habit_172 : decode cX8_habit 172 = .ok (.ifCond .eq 6, 3) := by decide +kernel
theorem dX8_habit_175 : decode cX8_habit 175 = .ok (.goto 113, 3) := by decide +kernel
theorem dX8_habit_178 : decode cX8_habit 178 = .ok (.aload_n 0, 1) := by decide +kernel
theorem dX8_habit_179 : decode cX8_habit 179 = .ok (.iload 8, 2) := by decide +kernel
theorem dX8_habit_181 : decode cX8_habit 181 = .ok (.iload 9, 2) := by decide +kernel
theorem dX8_habit_183 : decode cX8_habit 183 = .ok (.iload_n 3, 1) := by decide +kernel
theorem dX8_habit_184 : decode cX8_habit 184 = .ok (.invokevirtual 165, 3) := by decide +kernel
theorem dX8_habit_187 : decode cX8_habit 187 = .ok (.iconst 0, 1) := by decide +kernel
theorem dX8_habit_188 : decode cX8_habit 188 = .ok (.istore 10, 2) := by decide +kernel
theorem dX8_habit_190 : decode cX8_habit 190 = .ok (.iload 10, 2) := by decide +kernel
theorem dX8_habit_192 : decode cX8_habit 192 = .ok (.aload_n 0, 1) := by decide +kernel
theorem dX8_habit_193 : decode cX8_habit 193 = .ok (.getfield 162, 3) := by decide +kernel
theorem dX8_habit_196 : decode cX8_habit 196 = .ok (.if_icmp .ge 92, 3) := by decide +kernel
theorem dX8_habit_199 : decode cX8_habit 199 = .ok (.aload_n 0, 1) := by decide +kernel
theorem dX8_habit_200 : decode cX8_habit 200 = .ok (.getfield 70, 3) := by decide +kernel
theorem dX8_habit_203 : decode cX8_habit 203 = .ok (.iload 10, 2) := by decide +kernel
theorem dX8_habit_205 : decode cX8_habit 205 = .ok (.iaload, 1) := by decide +kernel
theorem dX8_habit_206 : decode cX8_habit 206 = .ok (.istore 11, 2) := by decide +kernel
theorem dX8_habit_208 : decode cX8_habit 208 = .ok (.aload_n 0, 1) := by decide +kernel
theorem dX8_habit_209 : decode cX8_habit 209 = .ok (.getfield 73, 3) := by decide +kernel
theorem dX8_habit_212 : decode cX8_habit 212 = .ok (.iload 10, 2) := by decide +kernel
theorem dX8_habit_214 : decode cX8_habit 214 = .ok (.iaload, 1) := by decide +kernel
theorem dX8_habit_215 : decode cX8_habit 215 = .ok (.istore 12, 2) := by decide +kernel
theorem dX8_habit_217 : decode cX8_habit 217 = .ok (.iload 11, 2) := by decide +kernel
theorem dX8_habit_219 : decode cX8_habit 219 = .ok (.iconst (-1), 1) := by decide +kernel
theorem dX8_habit_220 : decode cX8_habit 220 = .ok (.if_icmp .eq 62, 3) := by decide +kernel
theorem dX8_habit_223 : decode cX8_habit 223 = .ok (.iload 12, 2) := by decide +kernel
theorem dX8_habit_225 : decode cX8_habit 225 = .ok (.iconst (-1), 1) := by decide +kernel
theorem dX8_habit_226 : decode cX8_habit 226 = .ok (.if_icmp .eq 56, 3) := by decide +kernel
theorem dX8_habit_229 : decode cX8_habit 229 = .ok (.aload_n 0, 1) := by decide +kernel
theorem dX8_habit_230 : decode cX8_habit 230 = .ok (.getfield 55, 3) := by decide +kernel
theorem dX8_habit_233 : decode cX8_habit 233 = .ok (.iload 11, 2) := by decide +kernel
theorem dX8_habit_235 : decode cX8_habit 235 = .ok (.iaload, 1) := by decide +kernel
theorem dX8_habit_236 : decode cX8_habit 236 = .ok (.iconst (-1), 1) := by decide +kernel
theorem dX8_habit_237 : decode cX8_habit 237 = .ok (.if_icmp .eq 45, 3) := by decide +kernel
theorem dX8_habit_240 : decode cX8_habit 240 = .ok (.aload_n 0, 1) := by decide +kernel
theorem dX8_habit_241 : decode cX8_habit 241 = .ok (.getfield 61, 3) := by decide +kernel
theorem dX8_habit_244 : decode cX8_habit 244 = .ok (.iload 12, 2) := by decide +kernel
theorem dX8_habit_246 : decode cX8_habit 246 = .ok (.iaload, 1) := by decide +kernel
theorem dX8_habit_247 : decode cX8_habit 247 = .ok (.iconst (-1), 1) := by decide +kernel
theorem dX8_habit_248 : decode cX8_habit 248 = .ok (.if_icmp .ne 6, 3) := by decide +kernel
theorem dX8_habit_251 : decode cX8_habit 251 = .ok (.goto 31, 3) := by decide +kernel
theorem dX8_habit_254 : decode cX8_habit 254 = .ok (.iload 5, 2) := by decide +kernel
theorem dX8_habit_256 : decode cX8_habit 256 = .ok (.aload_n 0, 1) := by decide +kernel
theorem dX8_habit_257 : decode cX8_habit 257 = .ok (.getfield 55, 3) := by decide +kernel
theorem dX8_habit_260 : decode cX8_habit 260 = .ok (.iload 11, 2) := by decide +kernel
theorem dX8_habit_262 : decode cX8_habit 262 = .ok (.iaload, 1) := by decide +kernel
theorem dX8_habit_263 : decode cX8_habit 263 = .ok (.aload_n 0, 1) := by decide +kernel
theorem dX8_habit_264 : decode cX8_habit 264 = .ok (.getfield 153, 3) := by decide +kernel
theorem dX8_habit_267 : decode cX8_habit 267 = .ok (.iadd, 1) := by decide +kernel
theorem dX8_habit_268 : decode cX8_habit 268 = .ok (.aload_n 0, 1) := by decide +kernel
theorem dX8_habit_269 : decode cX8_habit 269 = .ok (.getfield 61, 3) := by decide +kernel
theorem dX8_habit_272 : decode cX8_habit 272 = .ok (.iload 12, 2) := by decide +kernel
theorem dX8_habit_274 : decode cX8_habit 274 = .ok (.iaload, 1) := by decide +kernel
theorem dX8_habit_275 : decode cX8_habit 275 = .ok (.isub, 1) := by decide +kernel
theorem dX8_habit_276 : decode cX8_habit 276 = .ok (.iadd, 1) := by decide +kernel
theorem dX8_habit_277 : decode cX8_habit 277 = .ok (.istore 5, 2) := by decide +kernel
theorem dX8_habit_279 : decode cX8_habit 279 = .ok (.iinc 6 1, 3) := by decide +kernel
theorem dX8_habit_282 : decode cX8_habit 282 = .ok (.iinc 10 1, 3) := by decide +kernel
theorem dX8_habit_285 : decode cX8_habit 285 = .ok (.goto (-95), 3) := by decide +kernel
theorem dX8_habit_288 : decode cX8_habit 288 = .ok (.iinc 7 1, 3) := by decide +kernel
theorem dX8_habit_291 : decode cX8_habit 291 = .ok (.goto (-233), 3) := by decide +kernel
theorem dX8_habit_294 : decode cX8_habit 294 = .ok (.iload 4, 2) := by decide +kernel
theorem dX8_habit_296 : decode cX8_habit 296 = .ok (.ifCond .ne 8, 3) := by decide +kernel
theorem dX8_habit_299 : decode cX8_habit 299 = .ok (.iload 5, 2) := by decide +kernel
theorem dX8_habit_301 : decode cX8_habit 301 = .ok (.goto 5, 3) := by decide +kernel
theorem dX8_habit_304 : decode cX8_habit 304 = .ok (.iload 6, 2) := by decide +kernel
theorem dX8_habit_306 : decode cX8_habit 306 = .ok (.ireturn, 1) := by decide +kernel
theorem dX8_span_0 : decode cX8_span 0 = .ok (.aload_n 0, 1) := by decide +kernel
theorem dX8_span_1 : decode cX8_span 1 = .ok (.iconst 0, 1) := by decide +kernel
theorem dX8_span_2 : decode cX8_span 2 = .ok (.putfield 82, 3) := by decide +kernel
theorem dX8_span_5 : decode cX8_span 5 = .ok (.iload_n 1, 1) := by decide +kernel
theorem dX8_span_6 : decode cX8_span 6 = .ok (.iconst 0, 1) := by decide +kernel
theorem dX8_span_7 : decode cX8_span 7 = .ok (.bipush 9, 2) := by decide +kernel
theorem dX8_span_9 : decode cX8_span 9 = .ok (.invokestatic 92, 3) := by decide +kernel
theorem dX8_span_12 : decode cX8_span 12 = .ok (.ifCond .eq 11, 3) := by decide +kernel
theorem dX8_span_15 : decode cX8_span 15 = .ok (.aload_n 0, 1) := by decide +kernel
theorem dX8_span_16 : decode cX8_span 16 = .ok (.iload_n 2, 1) := by decide +kernel
theorem dX8_span_17 : decode cX8_span 17 = .ok (.invokevirtual 110, 3) := by decide +kernel
theorem dX8_span_20 : decode cX8_span 20 = .ok (.ifCond .ne 5, 3) := by decide +kernel
theorem dX8_span_23 : decode cX8_span 23 = .ok (.iconst (-1), 1) := by decide +kernel
theorem dX8_span_24 : decode cX8_span 24 = .ok (.ireturn, 1) := by decide +kernel
theorem dX8_span_25 : decode cX8_span 25 = .ok (.iconst (-1), 1) := by decide +kernel
theorem dX8_span_26 : decode cX8_span 26 = .ok (.istore 4, 2) := by decide +kernel
theorem dX8_span_28 : decode cX8_span 28 = .ok (.iconst 0, 1) := by decide +kernel
theorem dX8_span_29 : decode cX8_span 29 = .ok (.istore 5, 2) := by decide +kernel
theorem dX8_span_31 : decode cX8_span 31 = .ok (.iload 5, 2) := by decide +kernel
theorem dX8_span_33 : decode cX8_span 33 = .ok (.aload_n 0, 1) := by decide +kernel
theorem dX8_span_34 : decode cX8_span 34 = .ok (.getfield 86, 3) := by decide +kernel
theorem dX8_span_37 : decode cX8_span 37 = .ok (.if_icmp .ge 76, 3) := by decide +kernel
theorem dX8_span_40 : decode cX8_span 40 = .ok (.aload_n 0, 1) := by decide +kernel
theorem dX8_span_41 : decode cX8_span 41 = .ok (.getfield 16, 3) := by decide +kernel
theorem dX8_span_44 : decode cX8_span 44 = .ok (.iload 5, 2) := by decide +kernel
theorem dX8_span_46 : decode cX8_span 46 = .ok (.iaload, 1) := by decide +kernel
theorem dX8_span_47 : decode cX8_span 47 = .ok (.iload_n 1, 1) := by decide +kernel
theorem dX8_span_48 : decode cX8_span 48 = .ok (.if_icmp .ne 59, 3) := by decide +kernel
theorem dX8_span_51 : decode cX8_span 51 = .ok (.aload_n 0, 1) := by decide +kernel
theorem dX8_span_52 : decode cX8_span 52 = .ok (.iload 5, 2) := by decide +kernel
theorem dX8_span_54 : decode cX8_span 54 = .ok (.iload_n 2, 1) := by decide +kernel
theorem dX8_span_55 : decode cX8_span 55 = .ok (.invokevirtual 168, 3) := by decide +kernel
theorem dX8_span_58 : decode cX8_span 58 = .ok (.ifCond .ne 49, 3) := by decide +kernel
theorem dX8_span_61 : decode cX8_span 61 = .ok (.iload 4, 2) := by decide +kernel
theorem dX8_span_63 : decode cX8_span 63 = .ok (.iconst (-1), 1) := by decide +kernel
theorem dX8_span_64 : decode cX8_span 64 = .ok (.if_icmp .eq 34, 3) := by decide +kernel
theorem dX8_span_67 : decode cX8_span 67 = .ok (.iload_n 3, 1) := by decide +kernel
theorem dX8_span_68 : decode cX8_span 68 = .ok (.ifCond .eq 18, 3) := by decide +kernel
theorem dX8_span_71 : decode cX8_span 71 = .ok (.aload_n 0, 1) := by decide +kernel
theorem dX8_span_72 : decode cX8_span 72 = .ok (.getfield 13, 3) := by decide +kernel
theorem dX8_span_75 : decode cX8_span 75 = .ok (.iload 5, 2) := by decide +kernel
theorem dX8_span_77 : decode cX8_span 77 = .ok (.iaload, 1) := by decide +kernel
theorem dX8_span_78 : decode cX8_span 78 = .ok (.iload 4, 2) := by decide +kernel
theorem dX8_span_80 : decode cX8_span 80 = .ok (.if_icmp .le 27, 3) := by decide +kernel
theorem dX8_span_83 : decode cX8_span 83 = .ok (.goto 15, 3) := by decide +kernel
theorem dX8_span_86 : decode cX8_span 86 = .ok (.aload_n 0, 1) := by decide +kernel
theorem dX8_span_87 : decode cX8_span 87 = .ok (.getfield 13, 3) := by decide +kernel
theorem dX8_span_90 : decode cX8_span 90 = .ok (.iload 5, 2) := by decide +kernel
theorem dX8_span_92 : decode cX8_span 92 = .ok (.iaload, 1) := by decide +kernel
theorem dX8_span_93 : decode cX8_span 93 = .ok (.iload 4, 2) := by decide +kernel
theorem dX8_span_95 : decode cX8_span 95 = .ok (.if_icmp .ge 12, 3) := by decide +kernel
theorem dX8_span_98 : decode cX8_span 98 = .ok (.aload_n 0, 1) := by decide +kernel
theorem dX8_span_99 : decode cX8_span 99 = .ok (.getfield 13, 3) := by decide +kernel
theorem dX8_span_102 : decode cX8_span 102 = .ok (.iload 5, 2) := by decide +kernel
theorem dX8_span_104 : decode cX8_span 104 = .ok (.iaload, 1) := by decide +kernel
theorem dX8_span_105 : decode cX8_span 105 = .ok (.istore 4, 2) := by decide +kernel
theorem dX8_span_107 : decode cX8_span 107 = .ok (.iinc 5 1, 3) := by decide +kernel
theorem dX8_span_110 : decode cX8_span 110 = .ok (.goto (-79), 3) := by decide +kernel
theorem dX8_span_113 : decode cX8_span 113 = .ok (.iload 4, 2) := by decide +kernel
theorem dX8_span_115 : decode cX8_span 115 = .ok (.ireturn, 1) := by decide +kernel
theorem dX8_count_0 : decode cX8_count 0 = .ok (.aload_n 0, 1) := by decide +kernel
theorem dX8_count_1 : decode cX8_count 1 = .ok (.iconst 0, 1) := by decide +kernel
theorem dX8_count_2 : decode cX8_count 2 = .ok (.putfield 82, 3) := by decide +kernel
theorem dX8_count_5 : decode cX8_count 5 = .ok (.iconst 0, 1) := by decide +kernel
theorem dX8_count_6 : decode cX8_count 6 = .ok (.istore_n 2, 1) := by decide +kernel
theorem dX8_count_7 : decode cX8_count 7 = .ok (.iload_n 1, 1) := by decide +kernel
theorem dX8_count_8 : decode cX8_count 8 = .ok (.tableswitch 123 0 5 #[40, 45, 50, 86, 113, 118], 40) := by decide +kernel
theorem dX8_count_48 : decode cX8_count 48 = .ok (.aload_n 0, 1) := by decide +kernel
theorem dX8_count_49 : decode cX8_count 49 = .ok (.getfield 89, 3) := by decide +kernel
theorem dX8_count_52 : decode cX8_count 52 = .ok (.ireturn, 1) := by decide +kernel
theorem dX8_count_53 : decode cX8_count 53 = .ok (.aload_n 0, 1) := by decide +kernel
theorem dX8_count_54 : decode cX8_count 54 = .ok (.getfield 86, 3) := by decide +kernel
theorem dX8_count_57 : decode cX8_count 57 = .ok (.ireturn, 1) := by decide +kernel
theorem dX8_count_58 : decode cX8_count 58 = .ok (.iconst 0, 1) := by decide +kernel
theorem dX8_count_59 : decode cX8_count 59 = .ok (.istore_n 3, 1) := by decide +kernel
theorem dX8_count_60 : decode cX8_count 60 = .ok (.iload_n 3, 1) := by decide +kernel
theorem dX8_count_61 : decode cX8_count 61 = .ok (.aload_n 0, 1) := by decide +kernel
theorem dX8_count_62 : decode cX8_count 62 = .ok (.getfield 86, 3) := by decide +kernel
theorem dX8_count_65 : decode cX8_count 65 = .ok (.if_icmp .ge 27, 3) := by decide +kernel
theorem dX8_count_68 : decode cX8_count 68 = .ok (.iload_n 2, 1) := by decide +kernel
theorem dX8_count_69 : decode cX8_count 69 = .ok (.aload_n 0, 1) := by decide +kernel
theorem dX8_count_70 : decode cX8_count 70 = .ok (.getfield 22, 3) := by decide +kernel
theorem dX8_count_73 : decode cX8_count 73 = .ok (.iload_n 3, 1) := by decide +kernel
theorem dX8_count_74 : decode cX8_count 74 = .ok (.iaload, 1) := by decide +kernel
theorem dX8_count_75 : decode cX8_count 75 = .ok (.iconst (-1), 1) := by decide +kernel
theorem dX8_count_76 : decode cX8_count 76 = .ok (.if_icmp .eq 7, 3) := by decide +kernel
theorem dX8_count_79 : decode cX8_count 79 = .ok (.iconst 1, 1) := by decide +kernel
theorem dX8_count_80 : decode cX8_count 80 = .ok (.goto 4, 3) := by decide +kernel
theorem dX8_count_83 : decode cX8_count 83 = .ok (.iconst 0, 1) := by decide +kernel
theorem dX8_count_84 : decode cX8_count 84 = .ok (.iadd, 1) := by decide +kernel
theorem dX8_count_85 : decode cX8_count 85 = .ok (.istore_n 2, 1) := by decide +kernel
theorem dX8_count_86 : decode cX8_count 86 = .ok (.iinc 3 1, 3) := by decide +kernel
theorem dX8_count_89 : decode cX8_count 89 = .ok (.goto (-29), 3) := by decide +kernel
theorem dX8_count_92 : decode cX8_count 92 = .ok (.iload_n 2, 1) := by decide +kernel
theorem dX8_count_93 : decode cX8_count 93 = .ok (.ireturn, 1) := by decide +kernel
theorem dX8_count_94 : decode cX8_count 94 = .ok (.iconst 0, 1) := by decide +kernel
theorem dX8_count_95 : decode cX8_count 95 = .ok (.istore_n 3, 1) := by decide +kernel
theorem dX8_count_96 : decode cX8_count 96 = .ok (.iload_n 3, 1) := by decide +kernel
theorem dX8_count_97 : decode cX8_count 97 = .ok (.aload_n 0, 1) := by decide +kernel
theorem dX8_count_98 : decode cX8_count 98 = .ok (.getfield 86, 3) := by decide +kernel
theorem dX8_count_101 : decode cX8_count 101 = .ok (.if_icmp .ge 18, 3) := by decide +kernel
theorem dX8_count_104 : decode cX8_count 104 = .ok (.iload_n 2, 1) := by decide +kernel
theorem dX8_count_105 : decode cX8_count 105 = .ok (.aload_n 0, 1) := by decide +kernel
theorem dX8_count_106 : decode cX8_count 106 = .ok (.getfield 19, 3) := by decide +kernel
theorem dX8_count_109 : decode cX8_count 109 = .ok (.iload_n 3, 1) := by decide +kernel
theorem dX8_count_110 : decode cX8_count 110 = .ok (.iaload, 1) := by decide +kernel
theorem dX8_count_111 : decode cX8_count 111 = .ok (.iadd, 1) := by decide +kernel
theorem dX8_count_112 : decode cX8_count 112 = .ok (.istore_n 2, 1) := by decide +kernel
theorem dX8_count_113 : decode cX8_count 113 = .ok (.iinc 3 1, 3) := by decide +kernel
theorem dX8_count_116 : decode cX8_count 116 = .ok (.goto (-20), 3) := by decide +kernel
theorem dX8_count_119 : decode cX8_count 119 = .ok (.iload_n 2, 1) := by decide +kernel
theorem dX8_count_120 : decode cX8_count 120 = .ok (.ireturn, 1) := by decide +kernel
theorem dX8_count_121 : decode cX8_count 121 = .ok (.aload_n 0, 1) := by decide +kernel
theorem dX8_count_122 : decode cX8_count 122 = .ok (.getfield 104, 3) := by decide +kernel
theorem dX8_count_125 : decode cX8_count 125 = .ok (.ireturn, 1) := by decide +kernel
theorem dX8_count_126 : decode cX8_count 126 = .ok (.aload_n 0, 1) := by decide +kernel
theorem dX8_count_127 : decode cX8_count 127 = .ok (.getfield 107, 3) := by decide +kernel
theorem dX8_count_130 : decode cX8_count 130 = .ok (.ireturn, 1) := by decide +kernel
theorem dX8_count_131 : decode cX8_count 131 = .ok (.iconst (-1), 1) := by decide +kernel
theorem dX8_count_132 : decode cX8_count 132 = .ok (.ireturn, 1) := by decide +kernel
theorem dL_at_0 : decode cL_at 0 = .ok (.aload 5, 2) := by decide +kernel
theorem dL_at_2 : decode cL_at 2 = .ok (.iconst 0, 1) := by decide +kernel
theorem dL_at_3 : decode cL_at 3 = .ok (.aload_n 0, 1) := by decide +kernel
theorem dL_at_4 : decode cL_at 4 = .ok (.iload_n 1, 1) := by decide +kernel
theorem dL_at_5 : decode cL_at 5 = .ok (.iload_n 2, 1) := by decide +kernel
theorem dL_at_6 : decode cL_at 6 = .ok (.iload_n 3, 1) := by decide +kernel
theorem dL_at_7 : decode cL_at 7 = .ok (.iload 4, 2) := by decide +kernel
theorem dL_at_9 : decode cL_at 9 = .ok (.invokevirtual 7, 3) := by decide +kernel
theorem dL_at_12 : decode cL_at 12 = .ok (.i2l, 1) := by decide +kernel
theorem dL_at_13 : decode cL_at 13 = .ok (.lastore, 1) := by decide +kernel
theorem dL_at_14 : decode cL_at 14 = .ok (.goto 7, 3) := by decide +kernel
theorem dL_at_17 : decode cL_at 17 = .ok (.astore 6, 2) := by decide +kernel
theorem dL_at_19 : decode cL_at 19 = .ok (.iconst 1, 1) := by decide +kernel
theorem dL_at_20 : decode cL_at 20 = .ok (.ireturn, 1) := by decide +kernel
theorem dL_at_21 : decode cL_at 21 = .ok (.iconst 0, 1) := by decide +kernel
theorem dL_at_22 : decode cL_at 22 = .ok (.ireturn, 1) := by decide +kernel
theorem dL_law_0 : decode cL_law 0 = .ok (.new 8, 3) := by decide +kernel
theorem dL_law_3 : decode cL_law 3 = .ok (.dup, 1) := by decide +kernel
theorem dL_law_4 : decode cL_law 4 = .ok (.invokespecial 15, 3) := by decide +kernel
theorem dL_law_7 : decode cL_law 7 = .ok (.astore_n 1, 1) := by decide +kernel
theorem dL_law_8 : decode cL_law 8 = .ok (.new 16, 3) := by decide +kernel
theorem dL_law_11 : decode cL_law 11 = .ok (.dup, 1) := by decide +kernel
theorem dL_law_12 : decode cL_law 12 = .ok (.invokespecial 18, 3) := by decide +kernel
theorem dL_law_15 : decode cL_law 15 = .ok (.astore_n 2, 1) := by decide +kernel
theorem dL_law_16 : decode cL_law 16 = .ok (.iconst 1, 1) := by decide +kernel
theorem dL_law_17 : decode cL_law 17 = .ok (.newarray .long, 2) := by decide +kernel
theorem dL_law_19 : decode cL_law 19 = .ok (.astore_n 3, 1) := by decide +kernel
theorem dL_law_20 : decode cL_law 20 = .ok (.iconst 0, 1) := by decide +kernel
theorem dL_law_21 : decode cL_law 21 = .ok (.istore 4, 2) := by decide +kernel
theorem dL_law_23 : decode cL_law 23 = .ok (.iload 4, 2) := by decide +kernel
theorem dL_law_25 : decode cL_law 25 = .ok (.aload_n 0, 1) := by decide +kernel
theorem dL_law_26 : decode cL_law 26 = .ok (.arraylength, 1) := by decide +kernel
theorem dL_law_27 : decode cL_law 27 = .ok (.bipush 6, 2) := by decide +kernel
theorem dL_law_29 : decode cL_law 29 = .ok (.isub, 1) := by decide +kernel
theorem dL_law_30 : decode cL_law 30 = .ok (.if_icmp .gt 1108, 3) := by decide +kernel
theorem dL_law_33 : decode cL_law 33 = .ok (.aload_n 0, 1) := by decide +kernel
theorem dL_law_34 : decode cL_law 34 = .ok (.iload 4, 2) := by decide +kernel
theorem dL_law_36 : decode cL_law 36 = .ok (.iaload, 1) := by decide +kernel
theorem dL_law_37 : decode cL_law 37 = .ok (.bipush 31, 2) := by decide +kernel
theorem dL_law_39 : decode cL_law 39 = .ok (.iand, 1) := by decide +kernel
theorem dL_law_40 : decode cL_law 40 = .ok (.tableswitch 1092 0 20 #[100, 149, 198, 259, 284, 321, 346, 383, 475, 524, 573, 646, 695, 744, 793, 830, 867, 892, 941, 1002, 1067], 100) := by decide +kernel
theorem dL_law_140 : decode cL_law 140 = .ok (.aload_n 1, 1) := by decide +kernel
theorem dL_law_141 : decode cL_law 141 = .ok (.aload_n 0, 1) := by decide +kernel
theorem dL_law_142 : decode cL_law 142 = .ok (.iload 4, 2) := by decide +kernel
theorem dL_law_144 : decode cL_law 144 = .ok (.iconst 1, 1) := by decide +kernel
theorem dL_law_145 : decode cL_law 145 = .ok (.iadd, 1) := by decide +kernel
theorem dL_law_146 : decode cL_law 146 = .ok (.iaload, 1) := by decide +kernel
theorem dL_law_147 : decode cL_law 147 = .ok (.aload_n 0, 1) := by decide +kernel
theorem dL_law_148 : decode cL_law 148 = .ok (.iload 4, 2) := by decide +kernel
theorem dL_law_150 : decode cL_law 150 = .ok (.iconst 2, 1) := by decide +kernel
theorem dL_law_151 : decode cL_law 151 = .ok (.iadd, 1) := by decide +kernel
theorem dL_law_152 : decode cL_law 152 = .ok (.iaload, 1) := by decide +kernel
theorem dL_law_153 : decode cL_law 153 = .ok (.aload_n 0, 1) := by decide +kernel
theorem dL_law_154 : decode cL_law 154 = .ok (.iload 4, 2) := by decide +kernel
theorem dL_law_156 : decode cL_law 156 = .ok (.iconst 3, 1) := by decide +kernel
theorem dL_law_157 : decode cL_law 157 = .ok (.iadd, 1) := by decide +kernel
theorem dL_law_158 : decode cL_law 158 = .ok (.iaload, 1) := by decide +kernel
theorem dL_law_159 : decode cL_law 159 = .ok (.invokevirtual 19, 3) := by decide +kernel
theorem dL_law_162 : decode cL_law 162 = .ok (.aload_n 2, 1) := by decide +kernel
theorem dL_law_163 : decode cL_law 163 = .ok (.aload_n 0, 1) := by decide +kernel
theorem dL_law_164 : decode cL_law 164 = .ok (.iload 4, 2) := by decide +kernel
theorem dL_law_166 : decode cL_law 166 = .ok (.iconst 1, 1) := by decide +kernel
theorem dL_law_167 : decode cL_law 167 = .ok (.iadd, 1) := by decide +kernel
theorem dL_law_168 : decode cL_law 168 = .ok (.iaload, 1) := by decide +kernel
theorem dL_law_169 : decode cL_law 169 = .ok (.aload_n 0, 1) := by decide +kernel
theorem dL_law_170 : decode cL_law 170 = .ok (.iload 4, 2) := by decide +kernel
theorem dL_law_172 : decode cL_law 172 = .ok (.iconst 2, 1) := by decide +kernel
theorem dL_law_173 : decode cL_law 173 = .ok (.iadd, 1) := by decide +kernel
theorem dL_law_174 : decode cL_law 174 = .ok (.iaload, 1) := by decide +kernel
theorem dL_law_175 : decode cL_law 175 = .ok (.aload_n 0, 1) := by decide +kernel
theorem dL_law_176 : decode cL_law 176 = .ok (.iload 4, 2) := by decide +kernel
theorem dL_law_178 : decode cL_law 178 = .ok (.iconst 3, 1) := by decide +kernel
theorem dL_law_179 : decode cL_law 179 = .ok (.iadd, 1) := by decide +kernel
theorem dL_law_180 : decode cL_law 180 = .ok (.iaload, 1) := by decide +kernel
theorem dL_law_181 : decode cL_law 181 = .ok (.invokevirtual 23, 3) := by decide +kernel
theorem dL_law_184 : decode cL_law 184 = .ok (.if_icmp .eq 948, 3) := by decide +kernel
theorem dL_law_187 : decode cL_law 187 = .ok (.iconst 0, 1) := by decide +kernel
theorem dL_law_188 : decode cL_law 188 = .ok (.ireturn, 1) := by decide +kernel
theorem dL_law_189 : decode cL_law 189 = .ok (.aload_n 1, 1) := by decide +kernel
theorem dL_law_190 : decode cL_law 190 = .ok (.aload_n 0, 1) := by decide +kernel
theorem dL_law_191 : decode cL_law 191 = .ok (.iload 4, 2) := by decide +kernel
theorem dL_law_193 : decode cL_law 193 = .ok (.iconst 1, 1) := by decide +kernel
theorem dL_law_194 : decode cL_law 194 = .ok (.iadd, 1) := by decide +kernel
theorem dL_law_195 : decode cL_law 195 = .ok (.iaload, 1) := by decide +kernel
theorem dL_law_196 : decode cL_law 196 = .ok (.aload_n 0, 1) := by decide +kernel
theorem dL_law_197 : decode cL_law 197 = .ok (.iload 4, 2) := by decide +kernel
theorem dL_law_199 : decode cL_law 199 = .ok (.iconst 2, 1) := by decide +kernel
theorem dL_law_200 : decode cL_law 200 = .ok (.iadd, 1) := by decide +kernel
theorem dL_law_201 : decode cL_law 201 = .ok (.iaload, 1) := by decide +kernel
theorem dL_law_202 : decode cL_law 202 = .ok (.aload_n 0, 1) := by decide +kernel
theorem dL_law_203 : decode cL_law 203 = .ok (.iload 4, 2) := by decide +kernel
theorem dL_law_205 : decode cL_law 205 = .ok (.iconst 3, 1) := by decide +kernel
theorem dL_law_206 : decode cL_law 206 = .ok (.iadd, 1) := by decide +kernel
theorem dL_law_207 : decode cL_law 207 = .ok (.iaload, 1) := by decide +kernel
theorem dL_law_208 : decode cL_law 208 = .ok (.invokevirtual 24, 3) := by decide +kernel
theorem dL_law_211 : decode cL_law 211 = .ok (.aload_n 2, 1) := by decide +kernel
theorem dL_law_212 : decode cL_law 212 = .ok (.aload_n 0, 1) := by decide +kernel
theorem dL_law_213 : decode cL_law 213 = .ok (.iload 4, 2) := by decide +kernel
theorem dL_law_215 : decode cL_law 215 = .ok (.iconst 1, 1) := by decide +kernel
theorem dL_law_216 : decode cL_law 216 = .ok (.iadd, 1) := by decide +kernel
theorem dL_law_217 : decode cL_law 217 = .ok (.iaload, 1) := by decide +kernel
theorem dL_law_218 : decode cL_law 218 = .ok (.aload_n 0, 1) := by decide +kernel
theorem dL_law_219 : decode cL_law 219 = .ok (.iload 4, 2) := by decide +kernel
theorem dL_law_221 : decode cL_law 221 = .ok (.iconst 2, 1) := by decide +kernel
theorem dL_law_222 : decode cL_law 222 = .ok (.iadd, 1) := by decide +kernel
theorem dL_law_223 : decode cL_law 223 = .ok (.iaload, 1) := by decide +kernel
theorem dL_law_224 : decode cL_law 224 = .ok (.aload_n 0, 1) := by decide +kernel
theorem dL_law_225 : decode cL_law 225 = .ok (.iload 4, 2) := by decide +kernel
theorem dL_law_227 : decode cL_law 227 = .ok (.iconst 3, 1) := by decide +kernel
theorem dL_law_228 : decode cL_law 228 = .ok (.iadd, 1) := by decide +kernel
theorem dL_law_229 : decode cL_law 229 = .ok (.iaload, 1) := by decide +kernel
theorem dL_law_230 : decode cL_law 230 = .ok (.invokevirtual 27, 3) := by decide +kernel
theorem dL_law_233 : decode cL_law 233 = .ok (.if_icmp .eq 899, 3) := by decide +kernel
theorem dL_law_236 : decode cL_law 236 = .ok (.iconst 0, 1) := by decide +kernel
theorem dL_law_237 : decode cL_law 237 = .ok (.ireturn, 1) := by decide +kernel
theorem dL_law_238 : decode cL_law 238 = .ok (.aload_n 1, 1) := by decide +kernel
theorem dL_law_239 : decode cL_law 239 = .ok (.aload_n 0, 1) := by decide +kernel
theorem dL_law_240 : decode cL_law 240 = .ok (.iload 4, 2) := by decide +kernel
theorem dL_law_242 : decode cL_law 242 = .ok (.iconst 1, 1) := by decide +kernel
theorem dL_law_243 : decode cL_law 243 = .ok (.iadd, 1) := by decide +kernel
theorem dL_law_244 : decode cL_law 244 = .ok (.iaload, 1) := by decide +kernel
theorem dL_law_245 : decode cL_law 245 = .ok (.aload_n 0, 1) := by decide +kernel
theorem dL_law_246 : decode cL_law 246 = .ok (.iload 4, 2) := by decide +kernel
theorem dL_law_248 : decode cL_law 248 = .ok (.iconst 2, 1) := by decide +kernel
theorem dL_law_249 : decode cL_law 249 = .ok (.iadd, 1) := by decide +kernel
theorem dL_law_250 : decode cL_law 250 = .ok (.iaload, 1) := by decide +kernel
theorem dL_law_251 : decode cL_law 251 = .ok (.aload_n 0, 1) := by decide +kernel
theorem dL_law_252 : decode cL_law 252 = .ok (.iload 4, 2) := by decide +kernel
theorem dL_law_254 : decode cL_law 254 = .ok (.iconst 3, 1) := by decide +kernel
theorem dL_law_255 : decode cL_law 255 = .ok (.iadd, 1) := by decide +kernel
theorem dL_law_256 : decode cL_law 256 = .ok (.iaload, 1) := by decide +kernel
theorem dL_law_257 : decode cL_law 257 = .ok (.aload_n 0, 1) := by decide +kernel
theorem dL_law_258 : decode cL_law 258 = .ok (.iload 4, 2) := by decide +kernel
theorem dL_law_260 : decode cL_law 260 = .ok (.iconst 4, 1) := by decide +kernel
theorem dL_law_261 : decode cL_law 261 = .ok (.iadd, 1) := by decide +kernel
theorem dL_law_262 : decode cL_law 262 = .ok (.iaload, 1) := by decide +kernel
theorem dL_law_263 : decode cL_law 263 = .ok (.invokevirtual 28, 3) := by decide +kernel
theorem dL_law_266 : decode cL_law 266 = .ok (.aload_n 2, 1) := by decide +kernel
theorem dL_law_267 : decode cL_law 267 = .ok (.aload_n 0, 1) := by decide +kernel
theorem dL_law_268 : decode cL_law 268 = .ok (.iload 4, 2) := by decide +kernel
theorem dL_law_270 : decode cL_law 270 = .ok (.iconst 1, 1) := by decide +kernel
theorem dL_law_271 : decode cL_law 271 = .ok (.iadd, 1) := by decide +kernel
theorem dL_law_272 : decode cL_law 272 = .ok (.iaload, 1) := by decide +kernel
theorem dL_law_273 : decode cL_law 273 = .ok (.aload_n 0, 1) := by decide +kernel
theorem dL_law_274 : decode cL_law 274 = .ok (.iload 4, 2) := by decide +kernel
theorem dL_law_276 : decode cL_law 276 = .ok (.iconst 2, 1) := by decide +kernel
theorem dL_law_277 : decode cL_law 277 = .ok (.iadd, 1) := by decide +kernel
theorem dL_law_278 : decode cL_law 278 = .ok (.iaload, 1) := by decide +kernel
theorem dL_law_279 : decode cL_law 279 = .ok (.aload_n 0, 1) := by decide +kernel
theorem dL_law_280 : decode cL_law 280 = .ok (.iload 4, 2) := by decide +kernel
theorem dL_law_282 : decode cL_law 282 = .ok (.iconst 3, 1) := by decide +kernel
theorem dL_law_283 : decode cL_law 283 = .ok (.iadd, 1) := by decide +kernel
theorem dL_law_284 : decode cL_law 284 = .ok (.iaload, 1) := by decide +kernel
theorem dL_law_285 : decode cL_law 285 = .ok (.aload_n 0, 1) := by decide +kernel
theorem dL_law_286 : decode cL_law 286 = .ok (.iload 4, 2) := by decide +kernel
theorem dL_law_288 : decode cL_law 288 = .ok (.iconst 4, 1) := by decide +kernel
theorem dL_law_289 : decode cL_law 289 = .ok (.iadd, 1) := by decide +kernel
theorem dL_law_290 : decode cL_law 290 = .ok (.iaload, 1) := by decide +kernel
theorem dL_law_291 : decode cL_law 291 = .ok (.invokevirtual 32, 3) := by decide +kernel
theorem dL_law_294 : decode cL_law 294 = .ok (.if_icmp .eq 838, 3) := by decide +kernel
theorem dL_law_297 : decode cL_law 297 = .ok (.iconst 0, 1) := by decide +kernel
theorem dL_law_298 : decode cL_law 298 = .ok (.ireturn, 1) := by decide +kernel
theorem dL_law_299 : decode cL_law 299 = .ok (.aload_n 1, 1) := by decide +kernel
theorem dL_law_300 : decode cL_law 300 = .ok (.aload_n 0, 1) := by decide +kernel
theorem dL_law_301 : decode cL_law 301 = .ok (.iload 4, 2) := by decide +kernel
theorem dL_law_303 : decode cL_law 303 = .ok (.iconst 1, 1) := by decide +kernel
theorem dL_law_304 : decode cL_law 304 = .ok (.iadd, 1) := by decide +kernel
theorem dL_law_305 : decode cL_law 305 = .ok (.iaload, 1) := by decide +kernel
theorem dL_law_306 : decode cL_law 306 = .ok (.invokevirtual 33, 3) := by decide +kernel
theorem dL_law_309 : decode cL_law 309 = .ok (.aload_n 2, 1) := by decide +kernel
theorem dL_law_310 : decode cL_law 310 = .ok (.aload_n 0, 1) := by decide +kernel
theorem dL_law_311 : decode cL_law 311 = .ok (.iload 4, 2) := by decide +kernel
theorem dL_law_313 : decode cL_law 313 = .ok (.iconst 1, 1) := by decide +kernel
theorem dL_law_314 : decode cL_law 314 = .ok (.iadd, 1) := by decide +kernel
theorem dL_law_315 : decode cL_law 315 = .ok (.iaload, 1) := by decide +kernel
theorem dL_law_316 : decode cL_law 316 = .ok (.invokevirtual 37, 3) := by decide +kernel
theorem dL_law_319 : decode cL_law 319 = .ok (.if_icmp .eq 813, 3) := by decide +kernel
theorem dL_law_322 : decode cL_law 322 = .ok (.iconst 0, 1) := by decide +kernel
theorem dL_law_323 : decode cL_law 323 = .ok (.ireturn, 1) := by decide +kernel
theorem dL_law_324 : decode cL_law 324 = .ok (.aload_n 1, 1) := by decide +kernel
theorem dL_law_325 : decode cL_law 325 = .ok (.aload_n 0, 1) := by decide +kernel
theorem dL_law_326 : decode cL_law 326 = .ok (.iload 4, 2) := by decide +kernel
theorem dL_law_328 : decode cL_law 328 = .ok (.iconst 1, 1) := by decide +kernel
theorem dL_law_329 : decode cL_law 329 = .ok (.iadd, 1) := by decide +kernel
theorem dL_law_330 : decode cL_law 330 = .ok (.iaload, 1) := by decide +kernel
theorem dL_law_331 : decode cL_law 331 = .ok (.aload_n 0, 1) := by decide +kernel
theorem dL_law_332 : decode cL_law 332 = .ok (.iload 4, 2) := by decide +kernel
theorem dL_law_334 : decode cL_law 334 = .ok (.iconst 2, 1) := by decide +kernel
theorem dL_law_335 : decode cL_law 335 = .ok (.iadd, 1) := by decide +kernel
theorem dL_law_336 : decode cL_law 336 = .ok (.iaload, 1) := by decide +kernel
theorem dL_law_337 : decode cL_law 337 = .ok (.invokevirtual 38, 3) := by decide +kernel
theorem dL_law_340 : decode cL_law 340 = .ok (.aload_n 2, 1) := by decide +kernel
theorem dL_law_341 : decode cL_law 341 = .ok (.aload_n 0, 1) := by decide +kernel
theorem dL_law_342 : decode cL_law 342 = .ok (.iload 4, 2) := by decide +kernel
theorem dL_law_344 : decode cL_law 344 = .ok (.iconst 1, 1) := by decide +kernel
theorem dL_law_345 : decode cL_law 345 = .ok (.iadd, 1) := by decide +kernel
theorem dL_law_346 : decode cL_law 346 = .ok (.iaload, 1) := by decide +kernel
theorem dL_law_347 : decode cL_law 347 = .ok (.aload_n 0, 1) := by decide +kernel
theorem dL_law_348 : decode cL_law 348 = .ok (.iload 4, 2) := by decide +kernel
theorem dL_law_350 : decode cL_law 350 = .ok (.iconst 2, 1) := by decide +kernel
theorem dL_law_351 : decode cL_law 351 = .ok (.iadd, 1) := by decide +kernel
theorem dL_law_352 : decode cL_law 352 = .ok (.iaload, 1) := by decide +kernel
theorem dL_law_353 : decode cL_law 353 = .ok (.invokevirtual 42, 3) := by decide +kernel
theorem dL_law_356 : decode cL_law 356 = .ok (.if_icmp .eq 776, 3) := by decide +kernel
theorem dL_law_359 : decode cL_law 359 = .ok (.iconst 0, 1) := by decide +kernel
theorem dL_law_360 : decode cL_law 360 = .ok (.ireturn, 1) := by decide +kernel
theorem dL_law_361 : decode cL_law 361 = .ok (.aload_n 1, 1) := by decide +kernel
theorem dL_law_362 : decode cL_law 362 = .ok (.aload_n 0, 1) := by decide +kernel
theorem dL_law_363 : decode cL_law 363 = .ok (.iload 4, 2) := by decide +kernel
theorem dL_law_365 : decode cL_law 365 = .ok (.iconst 1, 1) := by decide +kernel
theorem dL_law_366 : decode cL_law 366 = .ok (.iadd, 1) := by decide +kernel
theorem dL_law_367 : decode cL_law 367 = .ok (.iaload, 1) := by decide +kernel
theorem dL_law_368 : decode cL_law 368 = .ok (.invokevirtual 43, 3) := by decide +kernel
theorem dL_law_371 : decode cL_law 371 = .ok (.aload_n 2, 1) := by decide +kernel
theorem dL_law_372 : decode cL_law 372 = .ok (.aload_n 0, 1) := by decide +kernel
theorem dL_law_373 : decode cL_law 373 = .ok (.iload 4, 2) := by decide +kernel
theorem dL_law_375 : decode cL_law 375 = .ok (.iconst 1, 1) := by decide +kernel
theorem dL_law_376 : decode cL_law 376 = .ok (.iadd, 1) := by decide +kernel
theorem dL_law_377 : decode cL_law 377 = .ok (.iaload, 1) := by decide +kernel
theorem dL_law_378 : decode cL_law 378 = .ok (.invokevirtual 47, 3) := by decide +kernel
theorem dL_law_381 : decode cL_law 381 = .ok (.if_icmp .eq 751, 3) := by decide +kernel
theorem dL_law_384 : decode cL_law 384 = .ok (.iconst 0, 1) := by decide +kernel
theorem dL_law_385 : decode cL_law 385 = .ok (.ireturn, 1) := by decide +kernel
theorem dL_law_386 : decode cL_law 386 = .ok (.aload_n 1, 1) := by decide +kernel
theorem dL_law_387 : decode cL_law 387 = .ok (.aload_n 0, 1) := by decide +kernel
theorem dL_law_388 : decode cL_law 388 = .ok (.iload 4, 2) := by decide +kernel
theorem dL_law_390 : decode cL_law 390 = .ok (.iconst 1, 1) := by decide +kernel
theorem dL_law_391 : decode cL_law 391 = .ok (.iadd, 1) := by decide +kernel
theorem dL_law_392 : decode cL_law 392 = .ok (.iaload, 1) := by decide +kernel
theorem dL_law_393 : decode cL_law 393 = .ok (.aload_n 0, 1) := by decide +kernel
theorem dL_law_394 : decode cL_law 394 = .ok (.iload 4, 2) := by decide +kernel
theorem dL_law_396 : decode cL_law 396 = .ok (.iconst 2, 1) := by decide +kernel
theorem dL_law_397 : decode cL_law 397 = .ok (.iadd, 1) := by decide +kernel
theorem dL_law_398 : decode cL_law 398 = .ok (.iaload, 1) := by decide +kernel
theorem dL_law_399 : decode cL_law 399 = .ok (.invokevirtual 48, 3) := by decide +kernel
theorem dL_law_402 : decode cL_law 402 = .ok (.aload_n 2, 1) := by decide +kernel
theorem dL_law_403 : decode cL_law 403 = .ok (.aload_n 0, 1) := by decide +kernel
theorem dL_law_404 : decode cL_law 404 = .ok (.iload 4, 2) := by decide +kernel
theorem dL_law_406 : decode cL_law 406 = .ok (.iconst 1, 1) := by decide +kernel
theorem dL_law_407 : decode cL_law 407 = .ok (.iadd, 1) := by decide +kernel
theorem dL_law_408 : decode cL_law 408 = .ok (.iaload, 1) := by decide +kernel
theorem dL_law_409 : decode cL_law 409 = .ok (.aload_n 0, 1) := by decide +kernel
theorem dL_law_410 : decode cL_law 410 = .ok (.iload 4, 2) := by decide +kernel
theorem dL_law_412 : decode cL_law 412 = .ok (.iconst 2, 1) := by decide +kernel
theorem dL_law_413 : decode cL_law 413 = .ok (.iadd, 1) := by decide +kernel
theorem dL_law_414 : decode cL_law 414 = .ok (.iaload, 1) := by decide +kernel
theorem dL_law_415 : decode cL_law 415 = .ok (.invokevirtual 51, 3) := by decide +kernel
theorem dL_law_418 : decode cL_law 418 = .ok (.if_icmp .eq 714, 3) := by decide +kernel
theorem dL_law_421 : decode cL_law 421 = .ok (.iconst 0, 1) := by decide +kernel
theorem dL_law_422 : decode cL_law 422 = .ok (.ireturn, 1) := by decide +kernel
theorem dL_law_423 : decode cL_law 423 = .ok (.aload_n 1, 1) := by decide +kernel
theorem dL_law_424 : decode cL_law 424 = .ok (.aload_n 0, 1) := by decide +kernel
theorem dL_law_425 : decode cL_law 425 = .ok (.iload 4, 2) := by decide +kernel
theorem dL_law_427 : decode cL_law 427 = .ok (.iconst 1, 1) := by decide +kernel
theorem dL_law_428 : decode cL_law 428 = .ok (.iadd, 1) := by decide +kernel
theorem dL_law_429 : decode cL_law 429 = .ok (.iaload, 1) := by decide +kernel
theorem dL_law_430 : decode cL_law 430 = .ok (.aload_n 0, 1) := by decide +kernel
theorem dL_law_431 : decode cL_law 431 = .ok (.iload 4, 2) := by decide +kernel
theorem dL_law_433 : decode cL_law 433 = .ok (.iconst 2, 1) := by decide +kernel
theorem dL_law_434 : decode cL_law 434 = .ok (.iadd, 1) := by decide +kernel
theorem dL_law_435 : decode cL_law 435 = .ok (.iaload, 1) := by decide +kernel
theorem dL_law_436 : decode cL_law 436 = .ok (.aload_n 0, 1) := by decide +kernel
theorem dL_law_437 : decode cL_law 437 = .ok (.iload 4, 2) := by decide +kernel
theorem dL_law_439 : decode cL_law 439 = .ok (.iconst 3, 1) := by decide +kernel
theorem dL_law_440 : decode cL_law 440 = .ok (.iadd, 1) := by decide +kernel
theorem dL_law_441 : decode cL_law 441 = .ok (.iaload, 1) := by decide +kernel
theorem dL_law_442 : decode cL_law 442 = .ok (.aload_n 0, 1) := by decide +kernel
theorem dL_law_443 : decode cL_law 443 = .ok (.iload 4, 2) := by decide +kernel
theorem dL_law_445 : decode cL_law 445 = .ok (.iconst 4, 1) := by decide +kernel
theorem dL_law_446 : decode cL_law 446 = .ok (.iadd, 1) := by decide +kernel
theorem dL_law_447 : decode cL_law 447 = .ok (.iaload, 1) := by decide +kernel
theorem dL_law_448 : decode cL_law 448 = .ok (.aload_n 3, 1) := by decide +kernel
theorem dL_law_449 : decode cL_law 449 = .ok (.invokestatic 52, 3) := by decide +kernel
theorem dL_law_452 : decode cL_law 452 = .ok (.istore 5, 2) := by decide +kernel
theorem dL_law_454 : decode cL_law 454 = .ok (.aload_n 2, 1) := by decide +kernel
theorem dL_law_455 : decode cL_law 455 = .ok (.aload_n 0, 1) := by decide +kernel
theorem dL_law_456 : decode cL_law 456 = .ok (.iload 4, 2) := by decide +kernel
theorem dL_law_458 : decode cL_law 458 = .ok (.iconst 1, 1) := by decide +kernel
theorem dL_law_459 : decode cL_law 459 = .ok (.iadd, 1) := by decide +kernel
theorem dL_law_460 : decode cL_law 460 = .ok (.iaload, 1) := by decide +kernel
theorem dL_law_461 : decode cL_law 461 = .ok (.aload_n 0, 1) := by decide +kernel
theorem dL_law_462 : decode cL_law 462 = .ok (.iload 4, 2) := by decide +kernel
theorem dL_law_464 : decode cL_law 464 = .ok (.iconst 2, 1) := by decide +kernel
theorem dL_law_465 : decode cL_law 465 = .ok (.iadd, 1) := by decide +kernel
theorem dL_law_466 : decode cL_law 466 = .ok (.iaload, 1) := by decide +kernel
theorem dL_law_467 : decode cL_law 467 = .ok (.aload_n 0, 1) := by decide +kernel
theorem dL_law_468 : decode cL_law 468 = .ok (.iload 4, 2) := by decide +kernel
theorem dL_law_470 : decode cL_law 470 = .ok (.iconst 3, 1) := by decide +kernel
theorem dL_law_471 : decode cL_law 471 = .ok (.iadd, 1) := by decide +kernel
theorem dL_law_472 : decode cL_law 472 = .ok (.iaload, 1) := by decide +kernel
theorem dL_law_473 : decode cL_law 473 = .ok (.aload_n 0, 1) := by decide +kernel
theorem dL_law_474 : decode cL_law 474 = .ok (.iload 4, 2) := by decide +kernel
theorem dL_law_476 : decode cL_law 476 = .ok (.iconst 4, 1) := by decide +kernel
theorem dL_law_477 : decode cL_law 477 = .ok (.iadd, 1) := by decide +kernel
theorem dL_law_478 : decode cL_law 478 = .ok (.iaload, 1) := by decide +kernel
theorem dL_law_479 : decode cL_law 479 = .ok (.invokevirtual 57, 3) := by decide +kernel
theorem dL_law_482 : decode cL_law 482 = .ok (.istore 6, 2) := by decide +kernel
theorem dL_law_484 : decode cL_law 484 = .ok (.aload_n 2, 1) := by decide +kernel
theorem dL_law_485 : decode cL_law 485 = .ok (.invokevirtual 58, 3) := by decide +kernel
theorem dL_law_488 : decode cL_law 488 = .ok (.iload 5, 2) := by decide +kernel
theorem dL_law_490 : decode cL_law 490 = .ok (.if_icmp .eq 5, 3) := by decide +kernel
theorem dL_law_493 : decode cL_law 493 = .ok (.iconst 0, 1) := by decide +kernel
theorem dL_law_494 : decode cL_law 494 = .ok (.ireturn, 1) := by decide +kernel
theorem dL_law_495 : decode cL_law 495 = .ok (.iload 5, 2) := by decide +kernel
theorem dL_law_497 : decode cL_law 497 = .ok (.ifCond .ne 15, 3) := by decide +kernel
theorem dL_law_500 : decode cL_law 500 = .ok (.aload_n 3, 1) := by decide +kernel
theorem dL_law_501 : decode cL_law 501 = .ok (.iconst 0, 1) := by decide +kernel
theorem dL_law_502 : decode cL_law 502 = .ok (.laload, 1) := by decide +kernel
theorem dL_law_503 : decode cL_law 503 = .ok (.iload 6, 2) := by decide +kernel
theorem dL_law_505 : decode cL_law 505 = .ok (.i2l, 1) := by decide +kernel
theorem dL_law_506 : decode cL_law 506 = .ok (.lcmp, 1) := by decide +kernel
theorem dL_law_507 : decode cL_law 507 = .ok (.ifCond .eq 5, 3) := by decide +kernel
theorem dL_law_510 : decode cL_law 510 = .ok (.iconst 0, 1) := by decide +kernel
theorem dL_law_511 : decode cL_law 511 = .ok (.ireturn, 1) := by decide +kernel
theorem dL_law_512 : decode cL_law 512 = .ok (.goto 620, 3) := by decide +kernel
theorem dL_law_515 : decode cL_law 515 = .ok (.aload_n 1, 1) := by decide +kernel
theorem dL_law_516 : decode cL_law 516 = .ok (.aload_n 0, 1) := by decide +kernel
theorem dL_law_517 : decode cL_law 517 = .ok (.iload 4, 2) := by decide +kernel
theorem dL_law_519 : decode cL_law 519 = .ok (.iconst 1, 1) := by decide +kernel
theorem dL_law_520 : decode cL_law 520 = .ok (.iadd, 1) := by decide +kernel
theorem dL_law_521 : decode cL_law 521 = .ok (.iaload, 1) := by decide +kernel
theorem dL_law_522 : decode cL_law 522 = .ok (.aload_n 0, 1) := by decide +kernel
theorem dL_law_523 : decode cL_law 523 = .ok (.iload 4, 2) := by decide +kernel
theorem dL_law_525 : decode cL_law 525 = .ok (.iconst 2, 1) := by decide +kernel
theorem dL_law_526 : decode cL_law 526 = .ok (.iadd, 1) := by decide +kernel
theorem dL_law_527 : decode cL_law 527 = .ok (.iaload, 1) := by decide +kernel
theorem dL_law_528 : decode cL_law 528 = .ok (.aload_n 0, 1) := by decide +kernel
theorem dL_law_529 : decode cL_law 529 = .ok (.iload 4, 2) := by decide +kernel
theorem dL_law_531 : decode cL_law 531 = .ok (.iconst 3, 1) := by decide +kernel
theorem dL_law_532 : decode cL_law 532 = .ok (.iadd, 1) := by decide +kernel
theorem dL_law_533 : decode cL_law 533 = .ok (.iaload, 1) := by decide +kernel
theorem dL_law_534 : decode cL_law 534 = .ok (.invokevirtual 62, 3) := by decide +kernel
theorem dL_law_537 : decode cL_law 537 = .ok (.aload_n 2, 1) := by decide +kernel
theorem dL_law_538 : decode cL_law 538 = .ok (.aload_n 0, 1) := by decide +kernel
theorem dL_law_539 : decode cL_law 539 = .ok (.iload 4, 2) := by decide +kernel
theorem dL_law_541 : decode cL_law 541 = .ok (.iconst 1, 1) := by decide +kernel
theorem dL_law_542 : decode cL_law 542 = .ok (.iadd, 1) := by decide +kernel
theorem dL_law_543 : decode cL_law 543 = .ok (.iaload, 1) := by decide +kernel
theorem dL_law_544 : decode cL_law 544 = .ok (.aload_n 0, 1) := by decide +kernel
theorem dL_law_545 : decode cL_law 545 = .ok (.iload 4, 2) := by decide +kernel
theorem dL_law_547 : decode cL_law 547 = .ok (.iconst 2, 1) := by decide +kernel
theorem dL_law_548 : decode cL_law 548 = .ok (.iadd, 1) := by decide +kernel
theorem dL_law_549 : decode cL_law 549 = .ok (.iaload, 1) := by decide +kernel
theorem dL_law_550 : decode cL_law 550 = .ok (.aload_n 0, 1) := by decide +kernel
theorem dL_law_551 : decode cL_law 551 = .ok (.iload 4, 2) := by decide +kernel
theorem dL_law_553 : decode cL_law 553 = .ok (.iconst 3, 1) := by decide +kernel
theorem dL_law_554 : decode cL_law 554 = .ok (.iadd, 1) := by decide +kernel
theorem dL_law_555 : decode cL_law 555 = .ok (.iaload, 1) := by decide +kernel
theorem dL_law_556 : decode cL_law 556 = .ok (.invokevirtual 65, 3) := by decide +kernel
theorem dL_law_559 : decode cL_law 559 = .ok (.if_icmp .eq 573, 3) := by decide +kernel
theorem dL_law_562 : decode cL_law 562 = .ok (.iconst 0, 1) := by decide +kernel
theorem dL_law_563 : decode cL_law 563 = .ok (.ireturn, 1) := by decide +kernel
theorem dL_law_564 : decode cL_law 564 = .ok (.aload_n 1, 1) := by decide +kernel
theorem dL_law_565 : decode cL_law 565 = .ok (.aload_n 0, 1) := by decide +kernel
theorem dL_law_566 : decode cL_law 566 = .ok (.iload 4, 2) := by decide +kernel
theorem dL_law_568 : decode cL_law 568 = .ok (.iconst 1, 1) := by decide +kernel
theorem dL_law_569 : decode cL_law 569 = .ok (.iadd, 1) := by decide +kernel
theorem dL_law_570 : decode cL_law 570 = .ok (.iaload, 1) := by decide +kernel
theorem dL_law_571 : decode cL_law 571 = .ok (.aload_n 0, 1) := by decide +kernel
theorem dL_law_572 : decode cL_law 572 = .ok (.iload 4, 2) := by decide +kernel
theorem dL_law_574 : decode cL_law 574 = .ok (.iconst 2, 1) := by decide +kernel
theorem dL_law_575 : decode cL_law 575 = .ok (.iadd, 1) := by decide +kernel
theorem dL_law_576 : decode cL_law 576 = .ok (.iaload, 1) := by decide +kernel
theorem dL_law_577 : decode cL_law 577 = .ok (.aload_n 0, 1) := by decide +kernel
theorem dL_law_578 : decode cL_law 578 = .ok (.iload 4, 2) := by decide +kernel
theorem dL_law_580 : decode cL_law 580 = .ok (.iconst 3, 1) := by decide +kernel
theorem dL_law_581 : decode cL_law 581 = .ok (.iadd, 1) := by decide +kernel
theorem dL_law_582 : decode cL_law 582 = .ok (.iaload, 1) := by decide +kernel
theorem dL_law_583 : decode cL_law 583 = .ok (.invokevirtual 66, 3) := by decide +kernel
theorem dL_law_586 : decode cL_law 586 = .ok (.aload_n 2, 1) := by decide +kernel
theorem dL_law_587 : decode cL_law 587 = .ok (.aload_n 0, 1) := by decide +kernel
theorem dL_law_588 : decode cL_law 588 = .ok (.iload 4, 2) := by decide +kernel
theorem dL_law_590 : decode cL_law 590 = .ok (.iconst 1, 1) := by decide +kernel
theorem dL_law_591 : decode cL_law 591 = .ok (.iadd, 1) := by decide +kernel
theorem dL_law_592 : decode cL_law 592 = .ok (.iaload, 1) := by decide +kernel
theorem dL_law_593 : decode cL_law 593 = .ok (.aload_n 0, 1) := by decide +kernel
theorem dL_law_594 : decode cL_law 594 = .ok (.iload 4, 2) := by decide +kernel
theorem dL_law_596 : decode cL_law 596 = .ok (.iconst 2, 1) := by decide +kernel
theorem dL_law_597 : decode cL_law 597 = .ok (.iadd, 1) := by decide +kernel
theorem dL_law_598 : decode cL_law 598 = .ok (.iaload, 1) := by decide +kernel
theorem dL_law_599 : decode cL_law 599 = .ok (.aload_n 0, 1) := by decide +kernel
theorem dL_law_600 : decode cL_law 600 = .ok (.iload 4, 2) := by decide +kernel
theorem dL_law_602 : decode cL_law 602 = .ok (.iconst 3, 1) := by decide +kernel
theorem dL_law_603 : decode cL_law 603 = .ok (.iadd, 1) := by decide +kernel
theorem dL_law_604 : decode cL_law 604 = .ok (.iaload, 1) := by decide +kernel
theorem dL_law_605 : decode cL_law 605 = .ok (.invokevirtual 69, 3) := by decide +kernel
theorem dL_law_608 : decode cL_law 608 = .ok (.if_icmp .eq 524, 3) := by decide +kernel
theorem dL_law_611 : decode cL_law 611 = .ok (.iconst 0, 1) := by decide +kernel
theorem dL_law_612 : decode cL_law 612 = .ok (.ireturn, 1) := by decide +kernel
theorem dL_law_613 : decode cL_law 613 = .ok (.aload_n 1, 1) := by decide +kernel
theorem dL_law_614 : decode cL_law 614 = .ok (.aload_n 0, 1) := by decide +kernel
theorem dL_law_615 : decode cL_law 615 = .ok (.iload 4, 2) := by decide +kernel
theorem dL_law_617 : decode cL_law 617 = .ok (.iconst 1, 1) := by decide +kernel
theorem dL_law_618 : decode cL_law 618 = .ok (.iadd, 1) := by decide +kernel
theorem dL_law_619 : decode cL_law 619 = .ok (.iaload, 1) := by decide +kernel
theorem dL_law_620 : decode cL_law 620 = .ok (.aload_n 0, 1) := by decide +kernel
theorem dL_law_621 : decode cL_law 621 = .ok (.iload 4, 2) := by decide +kernel
theorem dL_law_623 : decode cL_law 623 = .ok (.iconst 2, 1) := by decide +kernel
theorem dL_law_624 : decode cL_law 624 = .ok (.iadd, 1) := by decide +kernel
theorem dL_law_625 : decode cL_law 625 = .ok (.iaload, 1) := by decide +kernel
theorem dL_law_626 : decode cL_law 626 = .ok (.aload_n 0, 1) := by decide +kernel
theorem dL_law_627 : decode cL_law 627 = .ok (.iload 4, 2) := by decide +kernel
theorem dL_law_629 : decode cL_law 629 = .ok (.iconst 3, 1) := by decide +kernel
theorem dL_law_630 : decode cL_law 630 = .ok (.iadd, 1) := by decide +kernel
theorem dL_law_631 : decode cL_law 631 = .ok (.iaload, 1) := by decide +kernel
theorem dL_law_632 : decode cL_law 632 = .ok (.aload_n 0, 1) := by decide +kernel
theorem dL_law_633 : decode cL_law 633 = .ok (.iload 4, 2) := by decide +kernel
theorem dL_law_635 : decode cL_law 635 = .ok (.iconst 4, 1) := by decide +kernel
theorem dL_law_636 : decode cL_law 636 = .ok (.iadd, 1) := by decide +kernel
theorem dL_law_637 : decode cL_law 637 = .ok (.iaload, 1) := by decide +kernel
theorem dL_law_638 : decode cL_law 638 = .ok (.aload_n 0, 1) := by decide +kernel
theorem dL_law_639 : decode cL_law 639 = .ok (.iload 4, 2) := by decide +kernel
theorem dL_law_641 : decode cL_law 641 = .ok (.iconst 5, 1) := by decide +kernel
theorem dL_law_642 : decode cL_law 642 = .ok (.iadd, 1) := by decide +kernel
theorem dL_law_643 : decode cL_law 643 = .ok (.iaload, 1) := by decide +kernel
theorem dL_law_644 : decode cL_law 644 = .ok (.invokevirtual 70, 3) := by decide +kernel
theorem dL_law_647 : decode cL_law 647 = .ok (.aload_n 2, 1) := by decide +kernel
theorem dL_law_648 : decode cL_law 648 = .ok (.aload_n 0, 1) := by decide +kernel
theorem dL_law_649 : decode cL_law 649 = .ok (.iload 4, 2) := by decide +kernel
theorem dL_law_651 : decode cL_law 651 = .ok (.iconst 1, 1) := by decide +kernel
theorem dL_law_652 : decode cL_law 652 = .ok (.iadd, 1) := by decide +kernel
theorem dL_law_653 : decode cL_law 653 = .ok (.iaload, 1) := by decide +kernel
theorem dL_law_654 : decode cL_law 654 = .ok (.aload_n 0, 1) := by decide +kernel
theorem dL_law_655 : decode cL_law 655 = .ok (.iload 4, 2) := by decide +kernel
theorem dL_law_657 : decode cL_law 657 = .ok (.iconst 2, 1) := by decide +kernel
theorem dL_law_658 : decode cL_law 658 = .ok (.iadd, 1) := by decide +kernel
theorem dL_law_659 : decode cL_law 659 = .ok (.iaload, 1) := by decide +kernel
theorem dL_law_660 : decode cL_law 660 = .ok (.aload_n 0, 1) := by decide +kernel
theorem dL_law_661 : decode cL_law 661 = .ok (.iload 4, 2) := by decide +kernel
theorem dL_law_663 : decode cL_law 663 = .ok (.iconst 3, 1) := by decide +kernel
theorem dL_law_664 : decode cL_law 664 = .ok (.iadd, 1) := by decide +kernel
theorem dL_law_665 : decode cL_law 665 = .ok (.iaload, 1) := by decide +kernel
theorem dL_law_666 : decode cL_law 666 = .ok (.aload_n 0, 1) := by decide +kernel
theorem dL_law_667 : decode cL_law 667 = .ok (.iload 4, 2) := by decide +kernel
theorem dL_law_669 : decode cL_law 669 = .ok (.iconst 4, 1) := by decide +kernel
theorem dL_law_670 : decode cL_law 670 = .ok (.iadd, 1) := by decide +kernel
theorem dL_law_671 : decode cL_law 671 = .ok (.iaload, 1) := by decide +kernel
theorem dL_law_672 : decode cL_law 672 = .ok (.aload_n 0, 1) := by decide +kernel
theorem dL_law_673 : decode cL_law 673 = .ok (.iload 4, 2) := by decide +kernel
theorem dL_law_675 : decode cL_law 675 = .ok (.iconst 5, 1) := by decide +kernel
theorem dL_law_676 : decode cL_law 676 = .ok (.iadd, 1) := by decide +kernel
theorem dL_law_677 : decode cL_law 677 = .ok (.iaload, 1) := by decide +kernel
theorem dL_law_678 : decode cL_law 678 = .ok (.invokevirtual 74, 3) := by decide +kernel
theorem dL_law_681 : decode cL_law 681 = .ok (.if_icmp .eq 451, 3) := by decide +kernel
theorem dL_law_684 : decode cL_law 684 = .ok (.iconst 0, 1) := by decide +kernel
theorem dL_law_685 : decode cL_law 685 = .ok (.ireturn, 1) := by decide +kernel
theorem dL_law_686 : decode cL_law 686 = .ok (.aload_n 1, 1) := by decide +kernel
theorem dL_law_687 : decode cL_law 687 = .ok (.aload_n 0, 1) := by decide +kernel
theorem dL_law_688 : decode cL_law 688 = .ok (.iload 4, 2) := by decide +kernel
theorem dL_law_690 : decode cL_law 690 = .ok (.iconst 1, 1) := by decide +kernel
theorem dL_law_691 : decode cL_law 691 = .ok (.iadd, 1) := by decide +kernel
theorem dL_law_692 : decode cL_law 692 = .ok (.iaload, 1) := by decide +kernel
theorem dL_law_693 : decode cL_law 693 = .ok (.aload_n 0, 1) := by decide +kernel
theorem dL_law_694 : decode cL_law 694 = .ok (.iload 4, 2) := by decide +kernel
theorem dL_law_696 : decode cL_law 696 = .ok (.iconst 2, 1) := by decide +kernel
theorem dL_law_697 : decode cL_law 697 = .ok (.iadd, 1) := by decide +kernel
theorem dL_law_698 : decode cL_law 698 = .ok (.iaload, 1) := by decide +kernel
theorem dL_law_699 : decode cL_law 699 = .ok (.aload_n 0, 1) := by decide +kernel
theorem dL_law_700 : decode cL_law 700 = .ok (.iload 4, 2) := by decide +kernel
theorem dL_law_702 : decode cL_law 702 = .ok (.iconst 3, 1) := by decide +kernel
theorem dL_law_703 : decode cL_law 703 = .ok (.iadd, 1) := by decide +kernel
theorem dL_law_704 : decode cL_law 704 = .ok (.iaload, 1) := by decide +kernel
theorem dL_law_705 : decode cL_law 705 = .ok (.invokevirtual 75, 3) := by decide +kernel
theorem dL_law_708 : decode cL_law 708 = .ok (.aload_n 2, 1) := by decide +kernel
theorem dL_law_709 : decode cL_law 709 = .ok (.aload_n 0, 1) := by decide +kernel
theorem dL_law_710 : decode cL_law 710 = .ok (.iload 4, 2) := by decide +kernel
theorem dL_law_712 : decode cL_law 712 = .ok (.iconst 1, 1) := by decide +kernel
theorem dL_law_713 : decode cL_law 713 = .ok (.iadd, 1) := by decide +kernel
theorem dL_law_714 : decode cL_law 714 = .ok (.iaload, 1) := by decide +kernel
theorem dL_law_715 : decode cL_law 715 = .ok (.aload_n 0, 1) := by decide +kernel
theorem dL_law_716 : decode cL_law 716 = .ok (.iload 4, 2) := by decide +kernel
theorem dL_law_718 : decode cL_law 718 = .ok (.iconst 2, 1) := by decide +kernel
theorem dL_law_719 : decode cL_law 719 = .ok (.iadd, 1) := by decide +kernel
theorem dL_law_720 : decode cL_law 720 = .ok (.iaload, 1) := by decide +kernel
theorem dL_law_721 : decode cL_law 721 = .ok (.aload_n 0, 1) := by decide +kernel
theorem dL_law_722 : decode cL_law 722 = .ok (.iload 4, 2) := by decide +kernel
theorem dL_law_724 : decode cL_law 724 = .ok (.iconst 3, 1) := by decide +kernel
theorem dL_law_725 : decode cL_law 725 = .ok (.iadd, 1) := by decide +kernel
theorem dL_law_726 : decode cL_law 726 = .ok (.iaload, 1) := by decide +kernel
theorem dL_law_727 : decode cL_law 727 = .ok (.invokevirtual 78, 3) := by decide +kernel
theorem dL_law_730 : decode cL_law 730 = .ok (.if_icmp .eq 402, 3) := by decide +kernel
theorem dL_law_733 : decode cL_law 733 = .ok (.iconst 0, 1) := by decide +kernel
theorem dL_law_734 : decode cL_law 734 = .ok (.ireturn, 1) := by decide +kernel
theorem dL_law_735 : decode cL_law 735 = .ok (.aload_n 1, 1) := by decide +kernel
theorem dL_law_736 : decode cL_law 736 = .ok (.aload_n 0, 1) := by decide +kernel
theorem dL_law_737 : decode cL_law 737 = .ok (.iload 4, 2) := by decide +kernel
theorem dL_law_739 : decode cL_law 739 = .ok (.iconst 1, 1) := by decide +kernel
theorem dL_law_740 : decode cL_law 740 = .ok (.iadd, 1) := by decide +kernel
theorem dL_law_741 : decode cL_law 741 = .ok (.iaload, 1) := by decide +kernel
theorem dL_law_742 : decode cL_law 742 = .ok (.aload_n 0, 1) := by decide +kernel
theorem dL_law_743 : decode cL_law 743 = .ok (.iload 4, 2) := by decide +kernel
theorem dL_law_745 : decode cL_law 745 = .ok (.iconst 2, 1) := by decide +kernel
theorem dL_law_746 : decode cL_law 746 = .ok (.iadd, 1) := by decide +kernel
theorem dL_law_747 : decode cL_law 747 = .ok (.iaload, 1) := by decide +kernel
theorem dL_law_748 : decode cL_law 748 = .ok (.aload_n 0, 1) := by decide +kernel
theorem dL_law_749 : decode cL_law 749 = .ok (.iload 4, 2) := by decide +kernel
theorem dL_law_751 : decode cL_law 751 = .ok (.iconst 3, 1) := by decide +kernel
theorem dL_law_752 : decode cL_law 752 = .ok (.iadd, 1) := by decide +kernel
theorem dL_law_753 : decode cL_law 753 = .ok (.iaload, 1) := by decide +kernel
theorem dL_law_754 : decode cL_law 754 = .ok (.invokevirtual 79, 3) := by decide +kernel
theorem dL_law_757 : decode cL_law 757 = .ok (.aload_n 2, 1) := by decide +kernel
theorem dL_law_758 : decode cL_law 758 = .ok (.aload_n 0, 1) := by decide +kernel
theorem dL_law_759 : decode cL_law 759 = .ok (.iload 4, 2) := by decide +kernel
theorem dL_law_761 : decode cL_law 761 = .ok (.iconst 1, 1) := by decide +kernel
theorem dL_law_762 : decode cL_law 762 = .ok (.iadd, 1) := by decide +kernel
theorem dL_law_763 : decode cL_law 763 = .ok (.iaload, 1) := by decide +kernel
theorem dL_law_764 : decode cL_law 764 = .ok (.aload_n 0, 1) := by decide +kernel
theorem dL_law_765 : decode cL_law 765 = .ok (.iload 4, 2) := by decide +kernel
theorem dL_law_767 : decode cL_law 767 = .ok (.iconst 2, 1) := by decide +kernel
theorem dL_law_768 : decode cL_law 768 = .ok (.iadd, 1) := by decide +kernel
theorem dL_law_769 : decode cL_law 769 = .ok (.iaload, 1) := by decide +kernel
theorem dL_law_770 : decode cL_law 770 = .ok (.aload_n 0, 1) := by decide +kernel
theorem dL_law_771 : decode cL_law 771 = .ok (.iload 4, 2) := by decide +kernel
theorem dL_law_773 : decode cL_law 773 = .ok (.iconst 3, 1) := by decide +kernel
theorem dL_law_774 : decode cL_law 774 = .ok (.iadd, 1) := by decide +kernel
theorem dL_law_775 : decode cL_law 775 = .ok (.iaload, 1) := by decide +kernel
theorem dL_law_776 : decode cL_law 776 = .ok (.invokevirtual 82, 3) := by decide +kernel
theorem dL_law_779 : decode cL_law 779 = .ok (.if_icmp .eq 353, 3) := by decide +kernel
theorem dL_law_782 : decode cL_law 782 = .ok (.iconst 0, 1) := by decide +kernel
theorem dL_law_783 : decode cL_law 783 = .ok (.ireturn, 1) := by decide +kernel
theorem dL_law_784 : decode cL_law 784 = .ok (.aload_n 1, 1) := by decide +kernel
theorem dL_law_785 : decode cL_law 785 = .ok (.aload_n 0, 1) := by decide +kernel
theorem dL_law_786 : decode cL_law 786 = .ok (.iload 4, 2) := by decide +kernel
theorem dL_law_788 : decode cL_law 788 = .ok (.iconst 1, 1) := by decide +kernel
theorem dL_law_789 : decode cL_law 789 = .ok (.iadd, 1) := by decide +kernel
theorem dL_law_790 : decode cL_law 790 = .ok (.iaload, 1) := by decide +kernel
theorem dL_law_791 : decode cL_law 791 = .ok (.aload_n 0, 1) := by decide +kernel
theorem dL_law_792 : decode cL_law 792 = .ok (.iload 4, 2) := by decide +kernel
theorem dL_law_794 : decode cL_law 794 = .ok (.iconst 2, 1) := by decide +kernel
theorem dL_law_795 : decode cL_law 795 = .ok (.iadd, 1) := by decide +kernel
theorem dL_law_796 : decode cL_law 796 = .ok (.iaload, 1) := by decide +kernel
theorem dL_law_797 : decode cL_law 797 = .ok (.aload_n 0, 1) := by decide +kernel
theorem dL_law_798 : decode cL_law 798 = .ok (.iload 4, 2) := by decide +kernel
theorem dL_law_800 : decode cL_law 800 = .ok (.iconst 3, 1) := by decide +kernel
theorem dL_law_801 : decode cL_law 801 = .ok (.iadd, 1) := by decide +kernel
theorem dL_law_802 : decode cL_law 802 = .ok (.iaload, 1) := by decide +kernel
theorem dL_law_803 : decode cL_law 803 = .ok (.invokevirtual 83, 3) := by decide +kernel
theorem dL_law_806 : decode cL_law 806 = .ok (.aload_n 2, 1) := by decide +kernel
theorem dL_law_807 : decode cL_law 807 = .ok (.aload_n 0, 1) := by decide +kernel
theorem dL_law_808 : decode cL_law 808 = .ok (.iload 4, 2) := by decide +kernel
theorem dL_law_810 : decode cL_law 810 = .ok (.iconst 1, 1) := by decide +kernel
theorem dL_law_811 : decode cL_law 811 = .ok (.iadd, 1) := by decide +kernel
theorem dL_law_812 : decode cL_law 812 = .ok (.iaload, 1) := by decide +kernel
theorem dL_law_813 : decode cL_law 813 = .ok (.aload_n 0, 1) := by decide +kernel
theorem dL_law_814 : decode cL_law 814 = .ok (.iload 4, 2) := by decide +kernel
theorem dL_law_816 : decode cL_law 816 = .ok (.iconst 2, 1) := by decide +kernel
theorem dL_law_817 : decode cL_law 817 = .ok (.iadd, 1) := by decide +kernel
theorem dL_law_818 : decode cL_law 818 = .ok (.iaload, 1) := by decide +kernel
theorem dL_law_819 : decode cL_law 819 = .ok (.aload_n 0, 1) := by decide +kernel
theorem dL_law_820 : decode cL_law 820 = .ok (.iload 4, 2) := by decide +kernel
theorem dL_law_822 : decode cL_law 822 = .ok (.iconst 3, 1) := by decide +kernel
theorem dL_law_823 : decode cL_law 823 = .ok (.iadd, 1) := by decide +kernel
theorem dL_law_824 : decode cL_law 824 = .ok (.iaload, 1) := by decide +kernel
theorem dL_law_825 : decode cL_law 825 = .ok (.invokevirtual 86, 3) := by decide +kernel
theorem dL_law_828 : decode cL_law 828 = .ok (.if_icmp .eq 304, 3) := by decide +kernel
theorem dL_law_831 : decode cL_law 831 = .ok (.iconst 0, 1) := by decide +kernel
theorem dL_law_832 : decode cL_law 832 = .ok (.ireturn, 1) := by decide +kernel
theorem dL_law_833 : decode cL_law 833 = .ok (.aload_n 1, 1) := by decide +kernel
theorem dL_law_834 : decode cL_law 834 = .ok (.aload_n 0, 1) := by decide +kernel
theorem dL_law_835 : decode cL_law 835 = .ok (.iload 4, 2) := by decide +kernel
theorem dL_law_837 : decode cL_law 837 = .ok (.iconst 1, 1) := by decide +kernel
theorem dL_law_838 : decode cL_law 838 = .ok (.iadd, 1) := by decide +kernel
theorem dL_law_839 : decode cL_law 839 = .ok (.iaload, 1) := by decide +kernel
theorem dL_law_840 : decode cL_law 840 = .ok (.aload_n 0, 1) := by decide +kernel
theorem dL_law_841 : decode cL_law 841 = .ok (.iload 4, 2) := by decide +kernel
theorem dL_law_843 : decode cL_law 843 = .ok (.iconst 2, 1) := by decide +kernel
theorem dL_law_844 : decode cL_law 844 = .ok (.iadd, 1) := by decide +kernel
theorem dL_law_845 : decode cL_law 845 = .ok (.iaload, 1) := by decide +kernel
theorem dL_law_846 : decode cL_law 846 = .ok (.invokevirtual 87, 3) := by decide +kernel
theorem dL_law_849 : decode cL_law 849 = .ok (.aload_n 2, 1) := by decide +kernel
theorem dL_law_850 : decode cL_law 850 = .ok (.aload_n 0, 1) := by decide +kernel
theorem dL_law_851 : decode cL_law 851 = .ok (.iload 4, 2) := by decide +kernel
theorem dL_law_853 : decode cL_law 853 = .ok (.iconst 1, 1) := by decide +kernel
theorem dL_law_854 : decode cL_law 854 = .ok (.iadd, 1) := by decide +kernel
theorem dL_law_855 : decode cL_law 855 = .ok (.iaload, 1) := by decide +kernel
theorem dL_law_856 : decode cL_law 856 = .ok (.aload_n 0, 1) := by decide +kernel
theorem dL_law_857 : decode cL_law 857 = .ok (.iload 4, 2) := by decide +kernel
theorem dL_law_859 : decode cL_law 859 = .ok (.iconst 2, 1) := by decide +kernel
theorem dL_law_860 : decode cL_law 860 = .ok (.iadd, 1) := by decide +kernel
theorem dL_law_861 : decode cL_law 861 = .ok (.iaload, 1) := by decide +kernel
theorem dL_law_862 : decode cL_law 862 = .ok (.invokevirtual 91, 3) := by decide +kernel
theorem dL_law_865 : decode cL_law 865 = .ok (.if_icmp .eq 267, 3) := by decide +kernel
theorem dL_law_868 : decode cL_law 868 = .ok (.iconst 0, 1) := by decide +kernel
theorem dL_law_869 : decode cL_law 869 = .ok (.ireturn, 1) := by decide +kernel
theorem dL_law_870 : decode cL_law 870 = .ok (.aload_n 1, 1) := by decide +kernel
theorem dL_law_871 : decode cL_law 871 = .ok (.aload_n 0, 1) := by decide +kernel
theorem dL_law_872 : decode cL_law 872 = .ok (.iload 4, 2) := by decide +kernel
theorem dL_law_874 : decode cL_law 874 = .ok (.iconst 1, 1) := by decide +kernel
theorem dL_law_875 : decode cL_law 875 = .ok (.iadd, 1) := by decide +kernel
theorem dL_law_876 : decode cL_law 876 = .ok (.iaload, 1) := by decide +kernel
theorem dL_law_877 : decode cL_law 877 = .ok (.aload_n 0, 1) := by decide +kernel
theorem dL_law_878 : decode cL_law 878 = .ok (.iload 4, 2) := by decide +kernel
theorem dL_law_880 : decode cL_law 880 = .ok (.iconst 2, 1) := by decide +kernel
theorem dL_law_881 : decode cL_law 881 = .ok (.iadd, 1) := by decide +kernel
theorem dL_law_882 : decode cL_law 882 = .ok (.iaload, 1) := by decide +kernel
theorem dL_law_883 : decode cL_law 883 = .ok (.invokevirtual 92, 3) := by decide +kernel
theorem dL_law_886 : decode cL_law 886 = .ok (.aload_n 2, 1) := by decide +kernel
theorem dL_law_887 : decode cL_law 887 = .ok (.aload_n 0, 1) := by decide +kernel
theorem dL_law_888 : decode cL_law 888 = .ok (.iload 4, 2) := by decide +kernel
theorem dL_law_890 : decode cL_law 890 = .ok (.iconst 1, 1) := by decide +kernel
theorem dL_law_891 : decode cL_law 891 = .ok (.iadd, 1) := by decide +kernel
theorem dL_law_892 : decode cL_law 892 = .ok (.iaload, 1) := by decide +kernel
theorem dL_law_893 : decode cL_law 893 = .ok (.aload_n 0, 1) := by decide +kernel
theorem dL_law_894 : decode cL_law 894 = .ok (.iload 4, 2) := by decide +kernel
theorem dL_law_896 : decode cL_law 896 = .ok (.iconst 2, 1) := by decide +kernel
theorem dL_law_897 : decode cL_law 897 = .ok (.iadd, 1) := by decide +kernel
theorem dL_law_898 : decode cL_law 898 = .ok (.iaload, 1) := by decide +kernel
theorem dL_law_899 : decode cL_law 899 = .ok (.invokevirtual 95, 3) := by decide +kernel
theorem dL_law_902 : decode cL_law 902 = .ok (.if_icmp .eq 230, 3) := by decide +kernel
theorem dL_law_905 : decode cL_law 905 = .ok (.iconst 0, 1) := by decide +kernel
theorem dL_law_906 : decode cL_law 906 = .ok (.ireturn, 1) := by decide +kernel
theorem dL_law_907 : decode cL_law 907 = .ok (.aload_n 1, 1) := by decide +kernel
theorem dL_law_908 : decode cL_law 908 = .ok (.aload_n 0, 1) := by decide +kernel
theorem dL_law_909 : decode cL_law 909 = .ok (.iload 4, 2) := by decide +kernel
theorem dL_law_911 : decode cL_law 911 = .ok (.iconst 1, 1) := by decide +kernel
theorem dL_law_912 : decode cL_law 912 = .ok (.iadd, 1) := by decide +kernel
theorem dL_law_913 : decode cL_law 913 = .ok (.iaload, 1) := by decide +kernel
theorem dL_law_914 : decode cL_law 914 = .ok (.invokevirtual 96, 3) := by decide +kernel
theorem dL_law_917 : decode cL_law 917 = .ok (.aload_n 2, 1) := by decide +kernel
theorem dL_law_918 : decode cL_law 918 = .ok (.aload_n 0, 1) := by decide +kernel
theorem dL_law_919 : decode cL_law 919 = .ok (.iload 4, 2) := by decide +kernel
theorem dL_law_921 : decode cL_law 921 = .ok (.iconst 1, 1) := by decide +kernel
theorem dL_law_922 : decode cL_law 922 = .ok (.iadd, 1) := by decide +kernel
theorem dL_law_923 : decode cL_law 923 = .ok (.iaload, 1) := by decide +kernel
theorem dL_law_924 : decode cL_law 924 = .ok (.invokevirtual 99, 3) := by decide +kernel
theorem dL_law_927 : decode cL_law 927 = .ok (.if_icmp .eq 205, 3) := by decide +kernel
theorem dL_law_930 : decode cL_law 930 = .ok (.iconst 0, 1) := by decide +kernel
theorem dL_law_931 : decode cL_law 931 = .ok (.ireturn, 1) := by decide +kernel
theorem dL_law_932 : decode cL_law 932 = .ok (.aload_n 1, 1) := by decide +kernel
theorem dL_law_933 : decode cL_law 933 = .ok (.aload_n 0, 1) := by decide +kernel
theorem dL_law_934 : decode cL_law 934 = .ok (.iload 4, 2) := by decide +kernel
theorem dL_law_936 : decode cL_law 936 = .ok (.iconst 1, 1) := by decide +kernel
theorem dL_law_937 : decode cL_law 937 = .ok (.iadd, 1) := by decide +kernel
theorem dL_law_938 : decode cL_law 938 = .ok (.iaload, 1) := by decide +kernel
theorem dL_law_939 : decode cL_law 939 = .ok (.aload_n 0, 1) := by decide +kernel
theorem dL_law_940 : decode cL_law 940 = .ok (.iload 4, 2) := by decide +kernel
theorem dL_law_942 : decode cL_law 942 = .ok (.iconst 2, 1) := by decide +kernel
theorem dL_law_943 : decode cL_law 943 = .ok (.iadd, 1) := by decide +kernel
theorem dL_law_944 : decode cL_law 944 = .ok (.iaload, 1) := by decide +kernel
theorem dL_law_945 : decode cL_law 945 = .ok (.aload_n 0, 1) := by decide +kernel
theorem dL_law_946 : decode cL_law 946 = .ok (.iload 4, 2) := by decide +kernel
theorem dL_law_948 : decode cL_law 948 = .ok (.iconst 3, 1) := by decide +kernel
theorem dL_law_949 : decode cL_law 949 = .ok (.iadd, 1) := by decide +kernel
theorem dL_law_950 : decode cL_law 950 = .ok (.iaload, 1) := by decide +kernel
theorem dL_law_951 : decode cL_law 951 = .ok (.invokevirtual 100, 3) := by decide +kernel
theorem dL_law_954 : decode cL_law 954 = .ok (.aload_n 2, 1) := by decide +kernel
theorem dL_law_955 : decode cL_law 955 = .ok (.aload_n 0, 1) := by decide +kernel
theorem dL_law_956 : decode cL_law 956 = .ok (.iload 4, 2) := by decide +kernel
theorem dL_law_958 : decode cL_law 958 = .ok (.iconst 1, 1) := by decide +kernel
theorem dL_law_959 : decode cL_law 959 = .ok (.iadd, 1) := by decide +kernel
theorem dL_law_960 : decode cL_law 960 = .ok (.iaload, 1) := by decide +kernel
theorem dL_law_961 : decode cL_law 961 = .ok (.aload_n 0, 1) := by decide +kernel
theorem dL_law_962 : decode cL_law 962 = .ok (.iload 4, 2) := by decide +kernel
theorem dL_law_964 : decode cL_law 964 = .ok (.iconst 2, 1) := by decide +kernel
theorem dL_law_965 : decode cL_law 965 = .ok (.iadd, 1) := by decide +kernel
theorem dL_law_966 : decode cL_law 966 = .ok (.iaload, 1) := by decide +kernel
theorem dL_law_967 : decode cL_law 967 = .ok (.aload_n 0, 1) := by decide +kernel
theorem dL_law_968 : decode cL_law 968 = .ok (.iload 4, 2) := by decide +kernel
theorem dL_law_970 : decode cL_law 970 = .ok (.iconst 3, 1) := by decide +kernel
theorem dL_law_971 : decode cL_law 971 = .ok (.iadd, 1) := by decide +kernel
theorem dL_law_972 : decode cL_law 972 = .ok (.iaload, 1) := by decide +kernel
theorem dL_law_973 : decode cL_law 973 = .ok (.invokevirtual 103, 3) := by decide +kernel
theorem dL_law_976 : decode cL_law 976 = .ok (.if_icmp .eq 156, 3) := by decide +kernel
theorem dL_law_979 : decode cL_law 979 = .ok (.iconst 0, 1) := by decide +kernel
theorem dL_law_980 : decode cL_law 980 = .ok (.ireturn, 1) := by decide +kernel
theorem dL_law_981 : decode cL_law 981 = .ok (.aload_n 1, 1) := by decide +kernel
theorem dL_law_982 : decode cL_law 982 = .ok (.aload_n 0, 1) := by decide +kernel
theorem dL_law_983 : decode cL_law 983 = .ok (.iload 4, 2) := by decide +kernel
theorem dL_law_985 : decode cL_law 985 = .ok (.iconst 1, 1) := by decide +kernel
theorem dL_law_986 : decode cL_law 986 = .ok (.iadd, 1) := by decide +kernel
theorem dL_law_987 : decode cL_law 987 = .ok (.iaload, 1) := by decide +kernel
theorem dL_law_988 : decode cL_law 988 = .ok (.aload_n 0, 1) := by decide +kernel
theorem dL_law_989 : decode cL_law 989 = .ok (.iload 4, 2) := by decide +kernel
theorem dL_law_991 : decode cL_law 991 = .ok (.iconst 2, 1) := by decide +kernel
theorem dL_law_992 : decode cL_law 992 = .ok (.iadd, 1) := by decide +kernel
theorem dL_law_993 : decode cL_law 993 = .ok (.iaload, 1) := by decide +kernel
theorem dL_law_994 : decode cL_law 994 = .ok (.aload_n 0, 1) := by decide +kernel
theorem dL_law_995 : decode cL_law 995 = .ok (.iload 4, 2) := by decide +kernel
theorem dL_law_997 : decode cL_law 997 = .ok (.iconst 3, 1) := by decide +kernel
theorem dL_law_998 : decode cL_law 998 = .ok (.iadd, 1) := by decide +kernel
theorem dL_law_999 : decode cL_law 999 = .ok (.iaload, 1) := by decide +kernel
theorem dL_law_1000 : decode cL_law 1000 = .ok (.aload_n 0, 1) := by decide +kernel
theorem dL_law_1001 : decode cL_law 1001 = .ok (.iload 4, 2) := by decide +kernel
theorem dL_law_1003 : decode cL_law 1003 = .ok (.iconst 4, 1) := by decide +kernel
theorem dL_law_1004 : decode cL_law 1004 = .ok (.iadd, 1) := by decide +kernel
theorem dL_law_1005 : decode cL_law 1005 = .ok (.iaload, 1) := by decide +kernel
theorem dL_law_1006 : decode cL_law 1006 = .ok (.invokevirtual 104, 3) := by decide +kernel
theorem dL_law_1009 : decode cL_law 1009 = .ok (.aload_n 2, 1) := by decide +kernel
theorem dL_law_1010 : decode cL_law 1010 = .ok (.aload_n 0, 1) := by decide +kernel
theorem dL_law_1011 : decode cL_law 1011 = .ok (.iload 4, 2) := by decide +kernel
theorem dL_law_1013 : decode cL_law 1013 = .ok (.iconst 1, 1) := by decide +kernel
theorem dL_law_1014 : decode cL_law 1014 = .ok (.iadd, 1) := by decide +kernel
theorem dL_law_1015 : decode cL_law 1015 = .ok (.iaload, 1) := by decide +kernel
theorem dL_law_1016 : decode cL_law 1016 = .ok (.aload_n 0, 1) := by decide +kernel
theorem dL_law_1017 : decode cL_law 1017 = .ok (.iload 4, 2) := by decide +kernel
theorem dL_law_1019 : decode cL_law 1019 = .ok (.iconst 2, 1) := by decide +kernel
theorem dL_law_1020 : decode cL_law 1020 = .ok (.iadd, 1) := by decide +kernel
theorem dL_law_1021 : decode cL_law 1021 = .ok (.iaload, 1) := by decide +kernel
theorem dL_law_1022 : decode cL_law 1022 = .ok (.aload_n 0, 1) := by decide +kernel
theorem dL_law_1023 : decode cL_law 1023 = .ok (.iload 4, 2) := by decide +kernel
theorem dL_law_1025 : decode cL_law 1025 = .ok (.iconst 3, 1) := by decide +kernel
theorem dL_law_1026 : decode cL_law 1026 = .ok (.iadd, 1) := by decide +kernel
theorem dL_law_1027 : decode cL_law 1027 = .ok (.iaload, 1) := by decide +kernel
theorem dL_law_1028 : decode cL_law 1028 = .ok (.aload_n 0, 1) := by decide +kernel
theorem dL_law_1029 : decode cL_law 1029 = .ok (.iload 4, 2) := by decide +kernel
theorem dL_law_1031 : decode cL_law 1031 = .ok (.iconst 4, 1) := by decide +kernel
theorem dL_law_1032 : decode cL_law 1032 = .ok (.iadd, 1) := by decide +kernel
theorem dL_law_1033 : decode cL_law 1033 = .ok (.iaload, 1) := by decide +kernel
theorem dL_law_1034 : decode cL_law 1034 = .ok (.invokevirtual 107, 3) := by decide +kernel
theorem dL_law_1037 : decode cL_law 1037 = .ok (.if_icmp .eq 95, 3) := by decide +kernel
theorem dL_law_1040 : decode cL_law 1040 = .ok (.iconst 0, 1) := by decide +kernel
theorem dL_law_1041 : decode cL_law 1041 = .ok (.ireturn, 1) := by decide +kernel
theorem dL_law_1042 : decode cL_law 1042 = .ok (.aload_n 1, 1) := by decide +kernel
theorem dL_law_1043 : decode cL_law 1043 = .ok (.aload_n 0, 1) := by decide +kernel
theorem dL_law_1044 : decode cL_law 1044 = .ok (.iload 4, 2) := by decide +kernel
theorem dL_law_1046 : decode cL_law 1046 = .ok (.iconst 1, 1) := by decide +kernel
theorem dL_law_1047 : decode cL_law 1047 = .ok (.iadd, 1) := by decide +kernel
theorem dL_law_1048 : decode cL_law 1048 = .ok (.iaload, 1) := by decide +kernel
theorem dL_law_1049 : decode cL_law 1049 = .ok (.aload_n 0, 1) := by decide +kernel
theorem dL_law_1050 : decode cL_law 1050 = .ok (.iload 4, 2) := by decide +kernel
theorem dL_law_1052 : decode cL_law 1052 = .ok (.iconst 2, 1) := by decide +kernel
theorem dL_law_1053 : decode cL_law 1053 = .ok (.iadd, 1) := by decide +kernel
theorem dL_law_1054 : decode cL_law 1054 = .ok (.iaload, 1) := by decide +kernel
theorem dL_law_1055 : decode cL_law 1055 = .ok (.aload_n 0, 1) := by decide +kernel
theorem dL_law_1056 : decode cL_law 1056 = .ok (.iload 4, 2) := by decide +kernel
theorem dL_law_1058 : decode cL_law 1058 = .ok (.iconst 3, 1) := by decide +kernel
theorem dL_law_1059 : decode cL_law 1059 = .ok (.iadd, 1) := by decide +kernel
theorem dL_law_1060 : decode cL_law 1060 = .ok (.iaload, 1) := by decide +kernel
theorem dL_law_1061 : decode cL_law 1061 = .ok (.ifCond .eq 7, 3) := by decide +kernel
theorem dL_law_1064 : decode cL_law 1064 = .ok (.iconst 1, 1) := by decide +kernel
theorem dL_law_1065 : decode cL_law 1065 = .ok (.goto 4, 3) := by decide +kernel
theorem dL_law_1068 : decode cL_law 1068 = .ok (.iconst 0, 1) := by decide +kernel
theorem dL_law_1069 : decode cL_law 1069 = .ok (.invokevirtual 108, 3) := by decide +kernel
theorem dL_law_1072 : decode cL_law 1072 = .ok (.aload_n 2, 1) := by decide +kernel
theorem dL_law_1073 : decode cL_law 1073 = .ok (.aload_n 0, 1) := by decide +kernel
theorem dL_law_1074 : decode cL_law 1074 = .ok (.iload 4, 2) := by decide +kernel
theorem dL_law_1076 : decode cL_law 1076 = .ok (.iconst 1, 1) := by decide +kernel
theorem dL_law_1077 : decode cL_law 1077 = .ok (.iadd, 1) := by decide +kernel
theorem dL_law_1078 : decode cL_law 1078 = .ok (.iaload, 1) := by decide +kernel
theorem dL_law_1079 : decode cL_law 1079 = .ok (.aload_n 0, 1) := by decide +kernel
theorem dL_law_1080 : decode cL_law 1080 = .ok (.iload 4, 2) := by decide +kernel
theorem dL_law_1082 : decode cL_law 1082 = .ok (.iconst 2, 1) := by decide +kernel
theorem dL_law_1083 : decode cL_law 1083 = .ok (.iadd, 1) := by decide +kernel
theorem dL_law_1084 : decode cL_law 1084 = .ok (.iaload, 1) := by decide +kernel
theorem dL_law_1085 : decode cL_law 1085 = .ok (.aload_n 0, 1) := by decide +kernel
theorem dL_law_1086 : decode cL_law 1086 = .ok (.iload 4, 2) := by decide +kernel
theorem dL_law_1088 : decode cL_law 1088 = .ok (.iconst 3, 1) := by decide +kernel
theorem dL_law_1089 : decode cL_law 1089 = .ok (.iadd, 1) := by decide +kernel
theorem dL_law_1090 : decode cL_law 1090 = .ok (.iaload, 1) := by decide +kernel
theorem dL_law_1091 : decode cL_law 1091 = .ok (.ifCond .eq 7, 3) := by decide +kernel
theorem dL_law_1094 : decode cL_law 1094 = .ok (.iconst 1, 1) := by decide +kernel
theorem dL_law_1095 : decode cL_law 1095 = .ok (.goto 4, 3) := by decide +kernel
theorem dL_law_1098 : decode cL_law 1098 = .ok (.iconst 0, 1) := by decide +kernel
theorem dL_law_1099 : decode cL_law 1099 = .ok (.invokevirtual 112, 3) := by decide +kernel
theorem dL_law_1102 : decode cL_law 1102 = .ok (.if_icmp .eq 30, 3) := by decide +kernel
theorem dL_law_1105 : decode cL_law 1105 = .ok (.iconst 0, 1) := by decide +kernel
theorem dL_law_1106 : decode cL_law 1106 = .ok (.ireturn, 1) := by decide +kernel
theorem dL_law_1107 : decode cL_law 1107 = .ok (.aload_n 1, 1) := by decide +kernel
theorem dL_law_1108 : decode cL_law 1108 = .ok (.aload_n 0, 1) := by decide +kernel
theorem dL_law_1109 : decode cL_law 1109 = .ok (.iload 4, 2) := by decide +kernel
theorem dL_law_1111 : decode cL_law 1111 = .ok (.iconst 1, 1) := by decide +kernel
theorem dL_law_1112 : decode cL_law 1112 = .ok (.iadd, 1) := by decide +kernel
theorem dL_law_1113 : decode cL_law 1113 = .ok (.iaload, 1) := by decide +kernel
theorem dL_law_1114 : decode cL_law 1114 = .ok (.invokevirtual 113, 3) := by decide +kernel
theorem dL_law_1117 : decode cL_law 1117 = .ok (.aload_n 2, 1) := by decide +kernel
theorem dL_law_1118 : decode cL_law 1118 = .ok (.aload_n 0, 1) := by decide +kernel
theorem dL_law_1119 : decode cL_law 1119 = .ok (.iload 4, 2) := by decide +kernel
theorem dL_law_1121 : decode cL_law 1121 = .ok (.iconst 1, 1) := by decide +kernel
theorem dL_law_1122 : decode cL_law 1122 = .ok (.iadd, 1) := by decide +kernel
theorem dL_law_1123 : decode cL_law 1123 = .ok (.iaload, 1) := by decide +kernel
theorem dL_law_1124 : decode cL_law 1124 = .ok (.invokevirtual 116, 3) := by decide +kernel
theorem dL_law_1127 : decode cL_law 1127 = .ok (.if_icmp .eq 5, 3) := by decide +kernel
theorem dL_law_1130 : decode cL_law 1130 = .ok (.iconst 0, 1) := by decide +kernel
theorem dL_law_1131 : decode cL_law 1131 = .ok (.ireturn, 1) := by decide +kernel
theorem dL_law_1132 : decode cL_law 1132 = .ok (.iinc 4 6, 3) := by decide +kernel
theorem dL_law_1135 : decode cL_law 1135 = .ok (.goto (-1112), 3) := by decide +kernel
theorem dL_law_1138 : decode cL_law 1138 = .ok (.iconst 1, 1) := by decide +kernel
theorem dL_law_1139 : decode cL_law 1139 = .ok (.ireturn, 1) := by decide +kernel
