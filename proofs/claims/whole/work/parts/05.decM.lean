theorem dX11_in_0 : decode cX11_in 0 = .ok (.lload_n 0, 1) := by decide +kernel
theorem dX11_in_1 : decode cX11_in 1 = .ok (.lload_n 2, 1) := by decide +kernel
theorem dX11_in_2 : decode cX11_in 2 = .ok (.lcmp, 1) := by decide +kernel
theorem dX11_in_3 : decode cX11_in 3 = .ok (.ifCond .lt 14, 3) := by decide +kernel
theorem dX11_in_6 : decode cX11_in 6 = .ok (.lload_n 0, 1) := by decide +kernel
theorem dX11_in_7 : decode cX11_in 7 = .ok (.lload 4, 2) := by decide +kernel
theorem dX11_in_9 : decode cX11_in 9 = .ok (.lcmp, 1) := by decide +kernel
theorem dX11_in_10 : decode cX11_in 10 = .ok (.ifCond .gt 7, 3) := by decide +kernel
theorem dX11_in_13 : decode cX11_in 13 = .ok (.iconst 1, 1) := by decide +kernel
theorem dX11_in_14 : decode cX11_in 14 = .ok (.goto 4, 3) := by decide +kernel
theorem dX11_in_17 : decode cX11_in 17 = .ok (.iconst 0, 1) := by decide +kernel
theorem dX11_in_18 : decode cX11_in 18 = .ok (.ireturn, 1) := by decide +kernel
theorem dX11_init_0 : decode cX11_init 0 = .ok (.aload_n 0, 1) := by decide +kernel
theorem dX11_init_1 : decode cX11_init 1 = .ok (.invokespecial 1, 3) := by decide +kernel
theorem dX11_init_4 : decode cX11_init 4 = .ok (.aload_n 0, 1) := by decide +kernel
theorem dX11_init_5 : decode cX11_init 5 = .ok (.iconst 3, 1) := by decide +kernel
theorem dX11_init_6 : decode cX11_init 6 = .ok (.newarray .int, 2) := by decide +kernel
theorem dX11_init_8 : decode cX11_init 8 = .ok (.putfield 7, 3) := by decide +kernel
theorem dX11_init_11 : decode cX11_init 11 = .ok (.aload_n 0, 1) := by decide +kernel
theorem dX11_init_12 : decode cX11_init 12 = .ok (.bipush 7, 2) := by decide +kernel
theorem dX11_init_14 : decode cX11_init 14 = .ok (.newarray .int, 2) := by decide +kernel
theorem dX11_init_16 : decode cX11_init 16 = .ok (.putfield 13, 3) := by decide +kernel
theorem dX11_init_19 : decode cX11_init 19 = .ok (.aload_n 0, 1) := by decide +kernel
theorem dX11_init_20 : decode cX11_init 20 = .ok (.bipush 7, 2) := by decide +kernel
theorem dX11_init_22 : decode cX11_init 22 = .ok (.newarray .int, 2) := by decide +kernel
theorem dX11_init_24 : decode cX11_init 24 = .ok (.putfield 16, 3) := by decide +kernel
theorem dX11_init_27 : decode cX11_init 27 = .ok (.aload_n 0, 1) := by decide +kernel
theorem dX11_init_28 : decode cX11_init 28 = .ok (.bipush 7, 2) := by decide +kernel
theorem dX11_init_30 : decode cX11_init 30 = .ok (.newarray .int, 2) := by decide +kernel
theorem dX11_init_32 : decode cX11_init 32 = .ok (.putfield 19, 3) := by decide +kernel
theorem dX11_init_35 : decode cX11_init 35 = .ok (.aload_n 0, 1) := by decide +kernel
theorem dX11_init_36 : decode cX11_init 36 = .ok (.bipush 7, 2) := by decide +kernel
theorem dX11_init_38 : decode cX11_init 38 = .ok (.newarray .int, 2) := by decide +kernel
theorem dX11_init_40 : decode cX11_init 40 = .ok (.putfield 22, 3) := by decide +kernel
theorem dX11_init_43 : decode cX11_init 43 = .ok (.aload_n 0, 1) := by decide +kernel
theorem dX11_init_44 : decode cX11_init 44 = .ok (.bipush 7, 2) := by decide +kernel
theorem dX11_init_46 : decode cX11_init 46 = .ok (.newarray .int, 2) := by decide +kernel
theorem dX11_init_48 : decode cX11_init 48 = .ok (.putfield 25, 3) := by decide +kernel
theorem dX11_init_51 : decode cX11_init 51 = .ok (.aload_n 0, 1) := by decide +kernel
theorem dX11_init_52 : decode cX11_init 52 = .ok (.bipush 8, 2) := by decide +kernel
theorem dX11_init_54 : decode cX11_init 54 = .ok (.newarray .int, 2) := by decide +kernel
theorem dX11_init_56 : decode cX11_init 56 = .ok (.putfield 28, 3) := by decide +kernel
theorem dX11_init_59 : decode cX11_init 59 = .ok (.aload_n 0, 1) := by decide +kernel
theorem dX11_init_60 : decode cX11_init 60 = .ok (.bipush 8, 2) := by decide +kernel
theorem dX11_init_62 : decode cX11_init 62 = .ok (.newarray .int, 2) := by decide +kernel
theorem dX11_init_64 : decode cX11_init 64 = .ok (.putfield 31, 3) := by decide +kernel
theorem dX11_init_67 : decode cX11_init 67 = .ok (.aload_n 0, 1) := by decide +kernel
theorem dX11_init_68 : decode cX11_init 68 = .ok (.bipush 6, 2) := by decide +kernel
theorem dX11_init_70 : decode cX11_init 70 = .ok (.newarray .int, 2) := by decide +kernel
theorem dX11_init_72 : decode cX11_init 72 = .ok (.putfield 34, 3) := by decide +kernel
theorem dX11_init_75 : decode cX11_init 75 = .ok (.aload_n 0, 1) := by decide +kernel
theorem dX11_init_76 : decode cX11_init 76 = .ok (.bipush 6, 2) := by decide +kernel
theorem dX11_init_78 : decode cX11_init 78 = .ok (.newarray .int, 2) := by decide +kernel
theorem dX11_init_80 : decode cX11_init 80 = .ok (.putfield 37, 3) := by decide +kernel
theorem dX11_init_83 : decode cX11_init 83 = .ok (.aload_n 0, 1) := by decide +kernel
theorem dX11_init_84 : decode cX11_init 84 = .ok (.iconst 3, 1) := by decide +kernel
theorem dX11_init_85 : decode cX11_init 85 = .ok (.newarray .int, 2) := by decide +kernel
theorem dX11_init_87 : decode cX11_init 87 = .ok (.putfield 40, 3) := by decide +kernel
theorem dX11_init_90 : decode cX11_init 90 = .ok (.aload_n 0, 1) := by decide +kernel
theorem dX11_init_91 : decode cX11_init 91 = .ok (.bipush 7, 2) := by decide +kernel
theorem dX11_init_93 : decode cX11_init 93 = .ok (.newarray .int, 2) := by decide +kernel
theorem dX11_init_95 : decode cX11_init 95 = .ok (.putfield 43, 3) := by decide +kernel
theorem dX11_init_98 : decode cX11_init 98 = .ok (.aload_n 0, 1) := by decide +kernel
theorem dX11_init_99 : decode cX11_init 99 = .ok (.bipush 7, 2) := by decide +kernel
theorem dX11_init_101 : decode cX11_init 101 = .ok (.newarray .int, 2) := by decide +kernel
theorem dX11_init_103 : decode cX11_init 103 = .ok (.putfield 46, 3) := by decide +kernel
theorem dX11_init_106 : decode cX11_init 106 = .ok (.aload_n 0, 1) := by decide +kernel
theorem dX11_init_107 : decode cX11_init 107 = .ok (.bipush 7, 2) := by decide +kernel
theorem dX11_init_109 : decode cX11_init 109 = .ok (.newarray .int, 2) := by decide +kernel
theorem dX11_init_111 : decode cX11_init 111 = .ok (.putfield 49, 3) := by decide +kernel
theorem dX11_init_114 : decode cX11_init 114 = .ok (.aload_n 0, 1) := by decide +kernel
theorem dX11_init_115 : decode cX11_init 115 = .ok (.bipush 7, 2) := by decide +kernel
theorem dX11_init_117 : decode cX11_init 117 = .ok (.newarray .int, 2) := by decide +kernel
theorem dX11_init_119 : decode cX11_init 119 = .ok (.putfield 52, 3) := by decide +kernel
theorem dX11_init_122 : decode cX11_init 122 = .ok (.aload_n 0, 1) := by decide +kernel
theorem dX11_init_123 : decode cX11_init 123 = .ok (.bipush 7, 2) := by decide +kernel
theorem dX11_init_125 : decode cX11_init 125 = .ok (.newarray .int, 2) := by decide +kernel
theorem dX11_init_127 : decode cX11_init 127 = .ok (.putfield 55, 3) := by decide +kernel
theorem dX11_init_130 : decode cX11_init 130 = .ok (.aload_n 0, 1) := by decide +kernel
theorem dX11_init_131 : decode cX11_init 131 = .ok (.bipush 7, 2) := by decide +kernel
theorem dX11_init_133 : decode cX11_init 133 = .ok (.newarray .int, 2) := by decide +kernel
theorem dX11_init_135 : decode cX11_init 135 = .ok (.putfield 58, 3) := by decide +kernel
theorem dX11_init_138 : decode cX11_init 138 = .ok (.aload_n 0, 1) := by decide +kernel
theorem dX11_init_139 : decode cX11_init 139 = .ok (.bipush 7, 2) := by decide +kernel
theorem dX11_init_141 : decode cX11_init 141 = .ok (.newarray .int, 2) := by decide +kernel
theorem dX11_init_143 : decode cX11_init 143 = .ok (.putfield 61, 3) := by decide +kernel
theorem dX11_init_146 : decode cX11_init 146 = .ok (.aload_n 0, 1) := by decide +kernel
theorem dX11_init_147 : decode cX11_init 147 = .ok (.sipush 128, 3) := by decide +kernel
theorem dX11_init_150 : decode cX11_init 150 = .ok (.newarray .int, 2) := by decide +kernel
theorem dX11_init_152 : decode cX11_init 152 = .ok (.putfield 64, 3) := by decide +kernel
theorem dX11_init_155 : decode cX11_init 155 = .ok (.aload_n 0, 1) := by decide +kernel
theorem dX11_init_156 : decode cX11_init 156 = .ok (.sipush 150, 3) := by decide +kernel
theorem dX11_init_159 : decode cX11_init 159 = .ok (.newarray .int, 2) := by decide +kernel
theorem dX11_init_161 : decode cX11_init 161 = .ok (.putfield 67, 3) := by decide +kernel
theorem dX11_init_164 : decode cX11_init 164 = .ok (.aload_n 0, 1) := by decide +kernel
theorem dX11_init_165 : decode cX11_init 165 = .ok (.sipush 150, 3) := by decide +kernel
theorem dX11_init_168 : decode cX11_init 168 = .ok (.newarray .int, 2) := by decide +kernel
theorem dX11_init_170 : decode cX11_init 170 = .ok (.putfield 70, 3) := by decide +kernel
theorem dX11_init_173 : decode cX11_init 173 = .ok (.aload_n 0, 1) := by decide +kernel
theorem dX11_init_174 : decode cX11_init 174 = .ok (.iconst 3, 1) := by decide +kernel
theorem dX11_init_175 : decode cX11_init 175 = .ok (.newarray .int, 2) := by decide +kernel
theorem dX11_init_177 : decode cX11_init 177 = .ok (.putfield 73, 3) := by decide +kernel
theorem dX11_init_180 : decode cX11_init 180 = .ok (.aload_n 0, 1) := by decide +kernel
theorem dX11_init_181 : decode cX11_init 181 = .ok (.sipush 216, 3) := by decide +kernel
theorem dX11_init_184 : decode cX11_init 184 = .ok (.newarray .int, 2) := by decide +kernel
theorem dX11_init_186 : decode cX11_init 186 = .ok (.putfield 76, 3) := by decide +kernel
theorem dX11_init_189 : decode cX11_init 189 = .ok (.aload_n 0, 1) := by decide +kernel
theorem dX11_init_190 : decode cX11_init 190 = .ok (.bipush 9, 2) := by decide +kernel
theorem dX11_init_192 : decode cX11_init 192 = .ok (.newarray .int, 2) := by decide +kernel
theorem dX11_init_194 : decode cX11_init 194 = .ok (.putfield 79, 3) := by decide +kernel
theorem dX11_init_197 : decode cX11_init 197 = .ok (.aload_n 0, 1) := by decide +kernel
theorem dX11_init_198 : decode cX11_init 198 = .ok (.iconst 4, 1) := by decide +kernel
theorem dX11_init_199 : decode cX11_init 199 = .ok (.invokevirtual 82, 3) := by decide +kernel
theorem dX11_init_202 : decode cX11_init 202 = .ok (.aload_n 0, 1) := by decide +kernel
theorem dX11_init_203 : decode cX11_init 203 = .ok (.lconst 0, 1) := by decide +kernel
theorem dX11_init_204 : decode cX11_init 204 = .ok (.putfield 86, 3) := by decide +kernel
theorem dX11_init_207 : decode cX11_init 207 = .ok (.aload_n 0, 1) := by decide +kernel
theorem dX11_init_208 : decode cX11_init 208 = .ok (.lconst 1, 1) := by decide +kernel
theorem dX11_init_209 : decode cX11_init 209 = .ok (.putfield 90, 3) := by decide +kernel
theorem dX11_init_212 : decode cX11_init 212 = .ok (.return_, 1) := by decide +kernel
theorem dX11_bad_0 : decode cX11_bad 0 = .ok (.aload_n 0, 1) := by decide +kernel
theorem dX11_bad_1 : decode cX11_bad 1 = .ok (.getfield 7, 3) := by decide +kernel
theorem dX11_bad_4 : decode cX11_bad 4 = .ok (.iconst 0, 1) := by decide +kernel
theorem dX11_bad_5 : decode cX11_bad 5 = .ok (.dup2, 1) := by decide +kernel
theorem dX11_bad_6 : decode cX11_bad 6 = .ok (.iaload, 1) := by decide +kernel
theorem dX11_bad_7 : decode cX11_bad 7 = .ok (.iconst 1, 1) := by decide +kernel
theorem dX11_bad_8 : decode cX11_bad 8 = .ok (.iadd, 1) := by decide +kernel
theorem dX11_bad_9 : decode cX11_bad 9 = .ok (.iastore, 1) := by decide +kernel
theorem dX11_bad_10 : decode cX11_bad 10 = .ok (.iload_n 1, 1) := by decide +kernel
theorem dX11_bad_11 : decode cX11_bad 11 = .ok (.ireturn, 1) := by decide +kernel
theorem dX11_no_0 : decode cX11_no 0 = .ok (.aload_n 0, 1) := by decide +kernel
theorem dX11_no_1 : decode cX11_no 1 = .ok (.getfield 7, 3) := by decide +kernel
theorem dX11_no_4 : decode cX11_no 4 = .ok (.iconst 1, 1) := by decide +kernel
theorem dX11_no_5 : decode cX11_no 5 = .ok (.dup2, 1) := by decide +kernel
theorem dX11_no_6 : decode cX11_no 6 = .ok (.iaload, 1) := by decide +kernel
theorem dX11_no_7 : decode cX11_no 7 = .ok (.iconst 1, 1) := by decide +kernel
theorem dX11_no_8 : decode cX11_no 8 = .ok (.iadd, 1) := by decide +kernel
theorem dX11_no_9 : decode cX11_no 9 = .ok (.iastore, 1) := by decide +kernel
theorem dX11_no_10 : decode cX11_no 10 = .ok (.bipush (-3), 2) := by decide +kernel
theorem dX11_no_12 : decode cX11_no 12 = .ok (.ireturn, 1) := by decide +kernel
theorem dX11_full_0 : decode cX11_full 0 = .ok (.aload_n 0, 1) := by decide +kernel
theorem dX11_full_1 : decode cX11_full 1 = .ok (.getfield 7, 3) := by decide +kernel
theorem dX11_full_4 : decode cX11_full 4 = .ok (.iconst 2, 1) := by decide +kernel
theorem dX11_full_5 : decode cX11_full 5 = .ok (.dup2, 1) := by decide +kernel
theorem dX11_full_6 : decode cX11_full 6 = .ok (.iaload, 1) := by decide +kernel
theorem dX11_full_7 : decode cX11_full 7 = .ok (.iconst 1, 1) := by decide +kernel
theorem dX11_full_8 : decode cX11_full 8 = .ok (.iadd, 1) := by decide +kernel
theorem dX11_full_9 : decode cX11_full 9 = .ok (.iastore, 1) := by decide +kernel
theorem dX11_full_10 : decode cX11_full 10 = .ok (.bipush (-4), 2) := by decide +kernel
theorem dX11_full_12 : decode cX11_full 12 = .ok (.ireturn, 1) := by decide +kernel
theorem dX11_isDay_0 : decode cX11_isDay 0 = .ok (.iload_n 1, 1) := by decide +kernel
theorem dX11_isDay_1 : decode cX11_isDay 1 = .ok (.i2l, 1) := by decide +kernel
theorem dX11_isDay_2 : decode cX11_isDay 2 = .ok (.lconst 0, 1) := by decide +kernel
theorem dX11_isDay_3 : decode cX11_isDay 3 = .ok (.aload_n 0, 1) := by decide +kernel
theorem dX11_isDay_4 : decode cX11_isDay 4 = .ok (.getfield 93, 3) := by decide +kernel
theorem dX11_isDay_7 : decode cX11_isDay 7 = .ok (.iconst 1, 1) := by decide +kernel
theorem dX11_isDay_8 : decode cX11_isDay 8 = .ok (.isub, 1) := by decide +kernel
theorem dX11_isDay_9 : decode cX11_isDay 9 = .ok (.i2l, 1) := by decide +kernel
theorem dX11_isDay_10 : decode cX11_isDay 10 = .ok (.invokestatic 97, 3) := by decide +kernel
theorem dX11_isDay_13 : decode cX11_isDay 13 = .ok (.ireturn, 1) := by decide +kernel
theorem dX11_isFact_0 : decode cX11_isFact 0 = .ok (.iload_n 0, 1) := by decide +kernel
theorem dX11_isFact_1 : decode cX11_isFact 1 = .ok (.i2l, 1) := by decide +kernel
theorem dX11_isFact_2 : decode cX11_isFact 2 = .ok (.lconst 0, 1) := by decide +kernel
theorem dX11_isFact_3 : decode cX11_isFact 3 = .ok (.ldc2_w 101, 3) := by decide +kernel
theorem dX11_isFact_6 : decode cX11_isFact 6 = .ok (.invokestatic 97, 3) := by decide +kernel
theorem dX11_isFact_9 : decode cX11_isFact 9 = .ok (.ireturn, 1) := by decide +kernel
theorem dX11_begins_0 : decode cX11_begins 0 = .ok (.aload_n 0, 1) := by decide +kernel
theorem dX11_begins_1 : decode cX11_begins 1 = .ok (.iload_n 1, 1) := by decide +kernel
theorem dX11_begins_2 : decode cX11_begins 2 = .ok (.putfield 93, 3) := by decide +kernel
theorem dX11_begins_5 : decode cX11_begins 5 = .ok (.iconst 0, 1) := by decide +kernel
theorem dX11_begins_6 : decode cX11_begins 6 = .ok (.istore_n 2, 1) := by decide +kernel
theorem dX11_begins_7 : decode cX11_begins 7 = .ok (.iload_n 2, 1) := by decide +kernel
theorem dX11_begins_8 : decode cX11_begins 8 = .ok (.bipush 7, 2) := by decide +kernel
theorem dX11_begins_10 : decode cX11_begins 10 = .ok (.if_icmp .ge 51, 3) := by decide +kernel
theorem dX11_begins_13 : decode cX11_begins 13 = .ok (.aload_n 0, 1) := by decide +kernel
theorem dX11_begins_14 : decode cX11_begins 14 = .ok (.getfield 13, 3) := by decide +kernel
theorem dX11_begins_17 : decode cX11_begins 17 = .ok (.iload_n 2, 1) := by decide +kernel
theorem dX11_begins_18 : decode cX11_begins 18 = .ok (.iconst 0, 1) := by decide +kernel
theorem dX11_begins_19 : decode cX11_begins 19 = .ok (.iastore, 1) := by decide +kernel
theorem dX11_begins_20 : decode cX11_begins 20 = .ok (.aload_n 0, 1) := by decide +kernel
theorem dX11_begins_21 : decode cX11_begins 21 = .ok (.getfield 16, 3) := by decide +kernel
theorem dX11_begins_24 : decode cX11_begins 24 = .ok (.iload_n 2, 1) := by decide +kernel
theorem dX11_begins_25 : decode cX11_begins 25 = .ok (.iconst 0, 1) := by decide +kernel
theorem dX11_begins_26 : decode cX11_begins 26 = .ok (.iastore, 1) := by decide +kernel
theorem dX11_begins_27 : decode cX11_begins 27 = .ok (.aload_n 0, 1) := by decide +kernel
theorem dX11_begins_28 : decode cX11_begins 28 = .ok (.getfield 19, 3) := by decide +kernel
theorem dX11_begins_31 : decode cX11_begins 31 = .ok (.iload_n 2, 1) := by decide +kernel
theorem dX11_begins_32 : decode cX11_begins 32 = .ok (.iconst 0, 1) := by decide +kernel
theorem dX11_begins_33 : decode cX11_begins 33 = .ok (.iastore, 1) := by decide +kernel
theorem dX11_begins_34 : decode cX11_begins 34 = .ok (.aload_n 0, 1) := by decide +kernel
theorem dX11_begins_35 : decode cX11_begins 35 = .ok (.getfield 22, 3) := by decide +kernel
theorem dX11_begins_38 : decode cX11_begins 38 = .ok (.iload_n 2, 1) := by decide +kernel
theorem dX11_begins_39 : decode cX11_begins 39 = .ok (.iconst (-1), 1) := by decide +kernel
theorem dX11_begins_40 : decode cX11_begins 40 = .ok (.iastore, 1) := by decide +kernel
theorem dX11_begins_41 : decode cX11_begins 41 = .ok (.aload_n 0, 1) := by decide +kernel
theorem dX11_begins_42 : decode cX11_begins 42 = .ok (.getfield 25, 3) := by decide +kernel
theorem dX11_begins_45 : decode cX11_begins 45 = .ok (.iload_n 2, 1) := by decide +kernel
theorem dX11_begins_46 : decode cX11_begins 46 = .ok (.iload_n 2, 1) := by decide +kernel
theorem dX11_begins_47 : decode cX11_begins 47 = .ok (.iastore, 1) := by decide +kernel
theorem dX11_begins_48 : decode cX11_begins 48 = .ok (.aload_n 0, 1) := by decide +kernel
theorem dX11_begins_49 : decode cX11_begins 49 = .ok (.getfield 43, 3) := by decide +kernel
theorem dX11_begins_52 : decode cX11_begins 52 = .ok (.iload_n 2, 1) := by decide +kernel
theorem dX11_begins_53 : decode cX11_begins 53 = .ok (.iconst (-1), 1) := by decide +kernel
theorem dX11_begins_54 : decode cX11_begins 54 = .ok (.iastore, 1) := by decide +kernel
theorem dX11_begins_55 : decode cX11_begins 55 = .ok (.iinc 2 1, 3) := by decide +kernel
theorem dX11_begins_58 : decode cX11_begins 58 = .ok (.goto (-51), 3) := by decide +kernel
theorem dX11_begins_61 : decode cX11_begins 61 = .ok (.aload_n 0, 1) := by decide +kernel
theorem dX11_begins_62 : decode cX11_begins 62 = .ok (.iconst 0, 1) := by decide +kernel
theorem dX11_begins_63 : decode cX11_begins 63 = .ok (.putfield 103, 3) := by decide +kernel
theorem dX11_begins_66 : decode cX11_begins 66 = .ok (.aload_n 0, 1) := by decide +kernel
theorem dX11_begins_67 : decode cX11_begins 67 = .ok (.iconst 0, 1) := by decide +kernel
theorem dX11_begins_68 : decode cX11_begins 68 = .ok (.putfield 106, 3) := by decide +kernel
theorem dX11_begins_71 : decode cX11_begins 71 = .ok (.aload_n 0, 1) := by decide +kernel
theorem dX11_begins_72 : decode cX11_begins 72 = .ok (.iconst 0, 1) := by decide +kernel
theorem dX11_begins_73 : decode cX11_begins 73 = .ok (.putfield 109, 3) := by decide +kernel
theorem dX11_begins_76 : decode cX11_begins 76 = .ok (.aload_n 0, 1) := by decide +kernel
theorem dX11_begins_77 : decode cX11_begins 77 = .ok (.iconst 0, 1) := by decide +kernel
theorem dX11_begins_78 : decode cX11_begins 78 = .ok (.putfield 112, 3) := by decide +kernel
theorem dX11_begins_81 : decode cX11_begins 81 = .ok (.aload_n 0, 1) := by decide +kernel
theorem dX11_begins_82 : decode cX11_begins 82 = .ok (.iconst 0, 1) := by decide +kernel
theorem dX11_begins_83 : decode cX11_begins 83 = .ok (.putfield 115, 3) := by decide +kernel
theorem dX11_begins_86 : decode cX11_begins 86 = .ok (.return_, 1) := by decide +kernel
theorem dX11_life_0 : decode cX11_life 0 = .ok (.iload_n 1, 1) := by decide +kernel
theorem dX11_life_1 : decode cX11_life 1 = .ok (.i2l, 1) := by decide +kernel
theorem dX11_life_2 : decode cX11_life 2 = .ok (.lconst 1, 1) := by decide +kernel
theorem dX11_life_3 : decode cX11_life 3 = .ok (.ldc2_w 118, 3) := by decide +kernel
theorem dX11_life_6 : decode cX11_life 6 = .ok (.invokestatic 97, 3) := by decide +kernel
theorem dX11_life_9 : decode cX11_life 9 = .ok (.ifCond .ne 10, 3) := by decide +kernel
theorem dX11_life_12 : decode cX11_life 12 = .ok (.aload_n 0, 1) := by decide +kernel
theorem dX11_life_13 : decode cX11_life 13 = .ok (.bipush (-2), 2) := by decide +kernel
theorem dX11_life_15 : decode cX11_life 15 = .ok (.invokevirtual 120, 3) := by decide +kernel
theorem dX11_life_18 : decode cX11_life 18 = .ok (.ireturn, 1) := by decide +kernel
theorem dX11_life_19 : decode cX11_life 19 = .ok (.aload_n 0, 1) := by decide +kernel
theorem dX11_life_20 : decode cX11_life 20 = .ok (.getfield 93, 3) := by decide +kernel
theorem dX11_life_23 : decode cX11_life 23 = .ok (.istore_n 2, 1) := by decide +kernel
theorem dX11_life_24 : decode cX11_life 24 = .ok (.aload_n 0, 1) := by decide +kernel
theorem dX11_life_25 : decode cX11_life 25 = .ok (.iload_n 1, 1) := by decide +kernel
theorem dX11_life_26 : decode cX11_life 26 = .ok (.invokevirtual 82, 3) := by decide +kernel
theorem dX11_life_29 : decode cX11_life 29 = .ok (.iload_n 2, 1) := by decide +kernel
theorem dX11_life_30 : decode cX11_life 30 = .ok (.ireturn, 1) := by decide +kernel
theorem dX11_day_0 : decode cX11_day 0 = .ok (.aload_n 0, 1) := by decide +kernel
theorem dX11_day_1 : decode cX11_day 1 = .ok (.iload_n 1, 1) := by decide +kernel
theorem dX11_day_2 : decode cX11_day 2 = .ok (.invokevirtual 124, 3) := by decide +kernel
theorem dX11_day_5 : decode cX11_day 5 = .ok (.ifCond .eq 15, 3) := by decide +kernel
theorem dX11_day_8 : decode cX11_day 8 = .ok (.iload_n 2, 1) := by decide +kernel
theorem dX11_day_9 : decode cX11_day 9 = .ok (.i2l, 1) := by decide +kernel
theorem dX11_day_10 : decode cX11_day 10 = .ok (.lconst 0, 1) := by decide +kernel
theorem dX11_day_11 : decode cX11_day 11 = .ok (.ldc2_w 101, 3) := by decide +kernel
theorem dX11_day_14 : decode cX11_day 14 = .ok (.invokestatic 97, 3) := by decide +kernel
theorem dX11_day_17 : decode cX11_day 17 = .ok (.ifCond .ne 10, 3) := by decide +kernel
theorem dX11_day_20 : decode cX11_day 20 = .ok (.aload_n 0, 1) := by decide +kernel
theorem dX11_day_21 : decode cX11_day 21 = .ok (.bipush (-2), 2) := by decide +kernel
theorem dX11_day_23 : decode cX11_day 23 = .ok (.invokevirtual 120, 3) := by decide +kernel
theorem dX11_day_26 : decode cX11_day 26 = .ok (.ireturn, 1) := by decide +kernel
theorem dX11_day_27 : decode cX11_day 27 = .ok (.aload_n 0, 1) := by decide +kernel
theorem dX11_day_28 : decode cX11_day 28 = .ok (.getfield 13, 3) := by decide +kernel
theorem dX11_day_31 : decode cX11_day 31 = .ok (.iload_n 1, 1) := by decide +kernel
theorem dX11_day_32 : decode cX11_day 32 = .ok (.iaload, 1) := by decide +kernel
theorem dX11_day_33 : decode cX11_day 33 = .ok (.istore_n 3, 1) := by decide +kernel
theorem dX11_day_34 : decode cX11_day 34 = .ok (.aload_n 0, 1) := by decide +kernel
theorem dX11_day_35 : decode cX11_day 35 = .ok (.getfield 13, 3) := by decide +kernel
theorem dX11_day_38 : decode cX11_day 38 = .ok (.iload_n 1, 1) := by decide +kernel
theorem dX11_day_39 : decode cX11_day 39 = .ok (.iload_n 2, 1) := by decide +kernel
theorem dX11_day_40 : decode cX11_day 40 = .ok (.iastore, 1) := by decide +kernel
theorem dX11_day_41 : decode cX11_day 41 = .ok (.aload_n 0, 1) := by decide +kernel
theorem dX11_day_42 : decode cX11_day 42 = .ok (.iconst 0, 1) := by decide +kernel
theorem dX11_day_43 : decode cX11_day 43 = .ok (.putfield 115, 3) := by decide +kernel
theorem dX11_day_46 : decode cX11_day 46 = .ok (.iload_n 3, 1) := by decide +kernel
theorem dX11_day_47 : decode cX11_day 47 = .ok (.ireturn, 1) := by decide +kernel
theorem dX11_fact_0 : decode cX11_fact 0 = .ok (.aload_n 0, 1) := by decide +kernel
theorem dX11_fact_1 : decode cX11_fact 1 = .ok (.iload_n 1, 1) := by decide +kernel
theorem dX11_fact_2 : decode cX11_fact 2 = .ok (.invokevirtual 124, 3) := by decide +kernel
theorem dX11_fact_5 : decode cX11_fact 5 = .ok (.ifCond .eq 20, 3) := by decide +kernel
theorem dX11_fact_8 : decode cX11_fact 8 = .ok (.iload_n 2, 1) := by decide +kernel
theorem dX11_fact_9 : decode cX11_fact 9 = .ok (.i2l, 1) := by decide +kernel
theorem dX11_fact_10 : decode cX11_fact 10 = .ok (.lconst 0, 1) := by decide +kernel
theorem dX11_fact_11 : decode cX11_fact 11 = .ok (.lconst 1, 1) := by decide +kernel
theorem dX11_fact_12 : decode cX11_fact 12 = .ok (.invokestatic 97, 3) := by decide +kernel
theorem dX11_fact_15 : decode cX11_fact 15 = .ok (.ifCond .eq 10, 3) := by decide +kernel
theorem dX11_fact_18 : decode cX11_fact 18 = .ok (.iload_n 3, 1) := by decide +kernel
theorem dX11_fact_19 : decode cX11_fact 19 = .ok (.invokestatic 128, 3) := by decide +kernel
theorem dX11_fact_22 : decode cX11_fact 22 = .ok (.ifCond .ne 10, 3) := by decide +kernel
theorem dX11_fact_25 : decode cX11_fact 25 = .ok (.aload_n 0, 1) := by decide +kernel
theorem dX11_fact_26 : decode cX11_fact 26 = .ok (.bipush (-2), 2) := by decide +kernel
theorem dX11_fact_28 : decode cX11_fact 28 = .ok (.invokevirtual 120, 3) := by decide +kernel
theorem dX11_fact_31 : decode cX11_fact 31 = .ok (.ireturn, 1) := by decide +kernel
theorem dX11_fact_32 : decode cX11_fact 32 = .ok (.iload_n 2, 1) := by decide +kernel
theorem dX11_fact_33 : decode cX11_fact 33 = .ok (.ifCond .ne 12, 3) := by decide +kernel
theorem dX11_fact_36 : decode cX11_fact 36 = .ok (.aload_n 0, 1) := by decide +kernel
theorem dX11_fact_37 : decode cX11_fact 37 = .ok (.getfield 16, 3) := by decide +kernel
theorem dX11_fact_40 : decode cX11_fact 40 = .ok (.iload_n 1, 1) := by decide +kernel
theorem dX11_fact_41 : decode cX11_fact 41 = .ok (.iaload, 1) := by decide +kernel
theorem dX11_fact_42 : decode cX11_fact 42 = .ok (.goto 9, 3) := by decide +kernel
theorem dX11_fact_45 : decode cX11_fact 45 = .ok (.aload_n 0, 1) := by decide +kernel
theorem dX11_fact_46 : decode cX11_fact 46 = .ok (.getfield 19, 3) := by decide +kernel
theorem dX11_fact_49 : decode cX11_fact 49 = .ok (.iload_n 1, 1) := by decide +kernel
theorem dX11_fact_50 : decode cX11_fact 50 = .ok (.iaload, 1) := by decide +kernel
theorem dX11_fact_51 : decode cX11_fact 51 = .ok (.istore 5, 2) := by decide +kernel
theorem dX11_fact_53 : decode cX11_fact 53 = .ok (.iload 5, 2) := by decide +kernel
theorem dX11_fact_55 : decode cX11_fact 55 = .ok (.iload_n 3, 1) := by decide +kernel
theorem dX11_fact_56 : decode cX11_fact 56 = .ok (.ishr, 1) := by decide +kernel
theorem dX11_fact_57 : decode cX11_fact 57 = .ok (.iconst 1, 1) := by decide +kernel
theorem dX11_fact_58 : decode cX11_fact 58 = .ok (.iand, 1) := by decide +kernel
theorem dX11_fact_59 : decode cX11_fact 59 = .ok (.iconst 1, 1) := by decide +kernel
theorem dX11_fact_60 : decode cX11_fact 60 = .ok (.if_icmp .ne 7, 3) := by decide +kernel
theorem dX11_fact_63 : decode cX11_fact 63 = .ok (.iconst 1, 1) := by decide +kernel
theorem dX11_fact_64 : decode cX11_fact 64 = .ok (.goto 4, 3) := by decide +kernel
theorem dX11_fact_67 : decode cX11_fact 67 = .ok (.iconst 0, 1) := by decide +kernel
theorem dX11_fact_68 : decode cX11_fact 68 = .ok (.iload 4, 2) := by decide +kernel
theorem dX11_fact_70 : decode cX11_fact 70 = .ok (.if_icmp .ne 8, 3) := by decide +kernel
theorem dX11_fact_73 : decode cX11_fact 73 = .ok (.aload_n 0, 1) := by decide +kernel
theorem dX11_fact_74 : decode cX11_fact 74 = .ok (.invokevirtual 131, 3) := by decide +kernel
theorem dX11_fact_77 : decode cX11_fact 77 = .ok (.ireturn, 1) := by decide +kernel
theorem dX11_fact_78 : decode cX11_fact 78 = .ok (.iload_n 2, 1) := by decide +kernel
theorem dX11_fact_79 : decode cX11_fact 79 = .ok (.ifCond .ne 18, 3) := by decide +kernel
theorem dX11_fact_82 : decode cX11_fact 82 = .ok (.aload_n 0, 1) := by decide +kernel
theorem dX11_fact_83 : decode cX11_fact 83 = .ok (.getfield 16, 3) := by decide +kernel
theorem dX11_fact_86 : decode cX11_fact 86 = .ok (.iload_n 1, 1) := by decide +kernel
theorem dX11_fact_87 : decode cX11_fact 87 = .ok (.dup2, 1) := by decide +kernel
theorem dX11_fact_88 : decode cX11_fact 88 = .ok (.iaload, 1) := by decide +kernel
theorem dX11_fact_89 : decode cX11_fact 89 = .ok (.iconst 1, 1) := by decide +kernel
theorem dX11_fact_90 : decode cX11_fact 90 = .ok (.iload_n 3, 1) := by decide +kernel
theorem dX11_fact_91 : decode cX11_fact 91 = .ok (.ishl, 1) := by decide +kernel
theorem dX11_fact_92 : decode cX11_fact 92 = .ok (.ixor, 1) := by decide +kernel
theorem dX11_fact_93 : decode cX11_fact 93 = .ok (.iastore, 1) := by decide +kernel
theorem dX11_fact_94 : decode cX11_fact 94 = .ok (.goto 15, 3) := by decide +kernel
theorem dX11_fact_97 : decode cX11_fact 97 = .ok (.aload_n 0, 1) := by decide +kernel
theorem dX11_fact_98 : decode cX11_fact 98 = .ok (.getfield 19, 3) := by decide +kernel
theorem dX11_fact_101 : decode cX11_fact 101 = .ok (.iload_n 1, 1) := by decide +kernel
theorem dX11_fact_102 : decode cX11_fact 102 = .ok (.dup2, 1) := by decide +kernel
theorem dX11_fact_103 : decode cX11_fact 103 = .ok (.iaload, 1) := by decide +kernel
theorem dX11_fact_104 : decode cX11_fact 104 = .ok (.iconst 1, 1) := by decide +kernel
theorem dX11_fact_105 : decode cX11_fact 105 = .ok (.iload_n 3, 1) := by decide +kernel
theorem dX11_fact_106 : decode cX11_fact 106 = .ok (.ishl, 1) := by decide +kernel
theorem dX11_fact_107 : decode cX11_fact 107 = .ok (.ixor, 1) := by decide +kernel
theorem dX11_fact_108 : decode cX11_fact 108 = .ok (.iastore, 1) := by decide +kernel
theorem dX11_fact_109 : decode cX11_fact 109 = .ok (.aload_n 0, 1) := by decide +kernel
theorem dX11_fact_110 : decode cX11_fact 110 = .ok (.iconst 0, 1) := by decide +kernel
theorem dX11_fact_111 : decode cX11_fact 111 = .ok (.putfield 115, 3) := by decide +kernel
theorem dX11_fact_114 : decode cX11_fact 114 = .ok (.iconst 1, 1) := by decide +kernel
theorem dX11_fact_115 : decode cX11_fact 115 = .ok (.ireturn, 1) := by decide +kernel
theorem dX11_isNote_0 : decode cX11_isNote 0 = .ok (.iconst 0, 1) := by decide +kernel
theorem dX11_isNote_1 : decode cX11_isNote 1 = .ok (.istore_n 3, 1) := by decide +kernel
theorem dX11_isNote_2 : decode cX11_isNote 2 = .ok (.iconst 0, 1) := by decide +kernel
theorem dX11_isNote_3 : decode cX11_isNote 3 = .ok (.istore 4, 2) := by decide +kernel
theorem dX11_isNote_5 : decode cX11_isNote 5 = .ok (.iload 4, 2) := by decide +kernel
theorem dX11_isNote_7 : decode cX11_isNote 7 = .ok (.aload_n 0, 1) := by decide +kernel
theorem dX11_isNote_8 : decode cX11_isNote 8 = .ok (.getfield 103, 3) := by decide +kernel
theorem dX11_isNote_11 : decode cX11_isNote 11 = .ok (.if_icmp .ge 41, 3) := by decide +kernel
theorem dX11_isNote_14 : decode cX11_isNote 14 = .ok (.iload_n 3, 1) := by decide +kernel
theorem dX11_isNote_15 : decode cX11_isNote 15 = .ok (.ifCond .ne 25, 3) := by decide +kernel
theorem dX11_isNote_18 : decode cX11_isNote 18 = .ok (.aload_n 0, 1) := by decide +kernel
theorem dX11_isNote_19 : decode cX11_isNote 19 = .ok (.getfield 28, 3) := by decide +kernel
theorem dX11_isNote_22 : decode cX11_isNote 22 = .ok (.iload 4, 2) := by decide +kernel
theorem dX11_isNote_24 : decode cX11_isNote 24 = .ok (.iaload, 1) := by decide +kernel
theorem dX11_isNote_25 : decode cX11_isNote 25 = .ok (.iload_n 1, 1) := by decide +kernel
theorem dX11_isNote_26 : decode cX11_isNote 26 = .ok (.if_icmp .ne 18, 3) := by decide +kernel
theorem dX11_isNote_29 : decode cX11_isNote 29 = .ok (.aload_n 0, 1) := by decide +kernel
theorem dX11_isNote_30 : decode cX11_isNote 30 = .ok (.getfield 31, 3) := by decide +kernel
theorem dX11_isNote_33 : decode cX11_isNote 33 = .ok (.iload 4, 2) := by decide +kernel
theorem dX11_isNote_35 : decode cX11_isNote 35 = .ok (.iaload, 1) := by decide +kernel
theorem dX11_isNote_36 : decode cX11_isNote 36 = .ok (.iload_n 2, 1) := by decide +kernel
theorem dX11_isNote_37 : decode cX11_isNote 37 = .ok (.if_icmp .ne 7, 3) := by decide +kernel
theorem dX11_isNote_40 : decode cX11_isNote 40 = .ok (.iconst 1, 1) := by decide +kernel
theorem dX11_isNote_41 : decode cX11_isNote 41 = .ok (.goto 4, 3) := by decide +kernel
theorem dX11_isNote_44 : decode cX11_isNote 44 = .ok (.iconst 0, 1) := by decide +kernel
theorem dX11_isNote_45 : decode cX11_isNote 45 = .ok (.istore_n 3, 1) := by decide +kernel
theorem dX11_isNote_46 : decode cX11_isNote 46 = .ok (.iinc 4 1, 3) := by decide +kernel
theorem dX11_isNote_49 : decode cX11_isNote 49 = .ok (.goto (-44), 3) := by decide +kernel
theorem dX11_isNote_52 : decode cX11_isNote 52 = .ok (.iload_n 3, 1) := by decide +kernel
theorem dX11_isNote_53 : decode cX11_isNote 53 = .ok (.ireturn, 1) := by decide +kernel
theorem dX11_note_0 : decode cX11_note 0 = .ok (.aload_n 0, 1) := by decide +kernel
theorem dX11_note_1 : decode cX11_note 1 = .ok (.iload_n 1, 1) := by decide +kernel
theorem dX11_note_2 : decode cX11_note 2 = .ok (.invokevirtual 124, 3) := by decide +kernel
theorem dX11_note_5 : decode cX11_note 5 = .ok (.ifCond .eq 10, 3) := by decide +kernel
theorem dX11_note_8 : decode cX11_note 8 = .ok (.iload_n 2, 1) := by decide +kernel
theorem dX11_note_9 : decode cX11_note 9 = .ok (.invokestatic 128, 3) := by decide +kernel
theorem dX11_note_12 : decode cX11_note 12 = .ok (.ifCond .ne 10, 3) := by decide +kernel
theorem dX11_note_15 : decode cX11_note 15 = .ok (.aload_n 0, 1) := by decide +kernel
theorem dX11_note_16 : decode cX11_note 16 = .ok (.bipush (-2), 2) := by decide +kernel
theorem dX11_note_18 : decode cX11_note 18 = .ok (.invokevirtual 120, 3) := by decide +kernel
theorem dX11_note_21 : decode cX11_note 21 = .ok (.ireturn, 1) := by decide +kernel
theorem dX11_note_22 : decode cX11_note 22 = .ok (.aload_n 0, 1) := by decide +kernel
theorem dX11_note_23 : decode cX11_note 23 = .ok (.iload_n 1, 1) := by decide +kernel
theorem dX11_note_24 : decode cX11_note 24 = .ok (.iload_n 2, 1) := by decide +kernel
theorem dX11_note_25 : decode cX11_note 25 = .ok (.invokevirtual 135, 3) := by decide +kernel
theorem dX11_note_28 : decode cX11_note 28 = .ok (.ifCond .eq 8, 3) := by decide +kernel
theorem dX11_note_31 : decode cX11_note 31 = .ok (.aload_n 0, 1) := by decide +kernel
theorem dX11_note_32 : decode cX11_note 32 = .ok (.invokevirtual 131, 3) := by decide +kernel
theorem dX11_note_35 : decode cX11_note 35 = .ok (.ireturn, 1) := by decide +kernel
theorem dX11_note_36 : decode cX11_note 36 = .ok (.aload_n 0, 1) := by decide +kernel
theorem dX11_note_37 : decode cX11_note 37 = .ok (.getfield 103, 3) := by decide +kernel
theorem dX11_note_40 : decode cX11_note 40 = .ok (.bipush 6, 2) := by decide +kernel
theorem dX11_note_42 : decode cX11_note 42 = .ok (.if_icmp .ne 8, 3) := by decide +kernel
theorem dX11_note_45 : decode cX11_note 45 = .ok (.aload_n 0, 1) := by decide +kernel
theorem dX11_note_46 : decode cX11_note 46 = .ok (.invokevirtual 139, 3) := by decide +kernel
theorem dX11_note_49 : decode cX11_note 49 = .ok (.ireturn, 1) := by decide +kernel
theorem dX11_note_50 : decode cX11_note 50 = .ok (.aload_n 0, 1) := by decide +kernel
theorem dX11_note_51 : decode cX11_note 51 = .ok (.getfield 28, 3) := by decide +kernel
theorem dX11_note_54 : decode cX11_note 54 = .ok (.aload_n 0, 1) := by decide +kernel
theorem dX11_note_55 : decode cX11_note 55 = .ok (.getfield 103, 3) := by decide +kernel
theorem dX11_note_58 : decode cX11_note 58 = .ok (.iload_n 1, 1) := by decide +kernel
theorem dX11_note_59 : decode cX11_note 59 = .ok (.iastore, 1) := by decide +kernel
theorem dX11_note_60 : decode cX11_note 60 = .ok (.aload_n 0, 1) := by decide +kernel
theorem dX11_note_61 : decode cX11_note 61 = .ok (.getfield 31, 3) := by decide +kernel
theorem dX11_note_64 : decode cX11_note 64 = .ok (.aload_n 0, 1) := by decide +kernel
theorem dX11_note_65 : decode cX11_note 65 = .ok (.getfield 103, 3) := by decide +kernel
theorem dX11_note_68 : decode cX11_note 68 = .ok (.iload_n 2, 1) := by decide +kernel
theorem dX11_note_69 : decode cX11_note 69 = .ok (.iastore, 1) := by decide +kernel
theorem dX11_note_70 : decode cX11_note 70 = .ok (.aload_n 0, 1) := by decide +kernel
theorem dX11_note_71 : decode cX11_note 71 = .ok (.dup, 1) := by decide +kernel
theorem dX11_note_72 : decode cX11_note 72 = .ok (.getfield 103, 3) := by decide +kernel
theorem dX11_note_75 : decode cX11_note 75 = .ok (.iconst 1, 1) := by decide +kernel
theorem dX11_note_76 : decode cX11_note 76 = .ok (.iadd, 1) := by decide +kernel
theorem dX11_note_77 : decode cX11_note 77 = .ok (.putfield 103, 3) := by decide +kernel
theorem dX11_note_80 : decode cX11_note 80 = .ok (.aload_n 0, 1) := by decide +kernel
theorem dX11_note_81 : decode cX11_note 81 = .ok (.iconst 0, 1) := by decide +kernel
theorem dX11_note_82 : decode cX11_note 82 = .ok (.putfield 115, 3) := by decide +kernel
theorem dX11_note_85 : decode cX11_note 85 = .ok (.aload_n 0, 1) := by decide +kernel
theorem dX11_note_86 : decode cX11_note 86 = .ok (.getfield 103, 3) := by decide +kernel
theorem dX11_note_89 : decode cX11_note 89 = .ok (.iconst 1, 1) := by decide +kernel
theorem dX11_note_90 : decode cX11_note 90 = .ok (.isub, 1) := by decide +kernel
theorem dX11_note_91 : decode cX11_note 91 = .ok (.ireturn, 1) := by decide +kernel
theorem dX11_ahead_0 : decode cX11_ahead 0 = .ok (.aload_n 0, 1) := by decide +kernel
theorem dX11_ahead_1 : decode cX11_ahead 1 = .ok (.iload_n 1, 1) := by decide +kernel
theorem dX11_ahead_2 : decode cX11_ahead 2 = .ok (.invokevirtual 124, 3) := by decide +kernel
theorem dX11_ahead_5 : decode cX11_ahead 5 = .ok (.ifCond .eq 16, 3) := by decide +kernel
theorem dX11_ahead_8 : decode cX11_ahead 8 = .ok (.aload_n 0, 1) := by decide +kernel
theorem dX11_ahead_9 : decode cX11_ahead 9 = .ok (.iload_n 2, 1) := by decide +kernel
theorem dX11_ahead_10 : decode cX11_ahead 10 = .ok (.invokevirtual 124, 3) := by decide +kernel
theorem dX11_ahead_13 : decode cX11_ahead 13 = .ok (.ifCond .eq 8, 3) := by decide +kernel
theorem dX11_ahead_16 : decode cX11_ahead 16 = .ok (.iload_n 1, 1) := by decide +kernel
theorem dX11_ahead_17 : decode cX11_ahead 17 = .ok (.iload_n 2, 1) := by decide +kernel
theorem dX11_ahead_18 : decode cX11_ahead 18 = .ok (.if_icmp .ne 10, 3) := by decide +kernel
theorem dX11_ahead_21 : decode cX11_ahead 21 = .ok (.aload_n 0, 1) := by decide +kernel
theorem dX11_ahead_22 : decode cX11_ahead 22 = .ok (.bipush (-2), 2) := by decide +kernel
theorem dX11_ahead_24 : decode cX11_ahead 24 = .ok (.invokevirtual 120, 3) := by decide +kernel
theorem dX11_ahead_27 : decode cX11_ahead 27 = .ok (.ireturn, 1) := by decide +kernel
theorem dX11_ahead_28 : decode cX11_ahead 28 = .ok (.aload_n 0, 1) := by decide +kernel
theorem dX11_ahead_29 : decode cX11_ahead 29 = .ok (.getfield 106, 3) := by decide +kernel
theorem dX11_ahead_32 : decode cX11_ahead 32 = .ok (.bipush 6, 2) := by decide +kernel
theorem dX11_ahead_34 : decode cX11_ahead 34 = .ok (.if_icmp .ne 8, 3) := by decide +kernel
theorem dX11_ahead_37 : decode cX11_ahead 37 = .ok (.aload_n 0, 1) := by decide +kernel
theorem dX11_ahead_38 : decode cX11_ahead 38 = .ok (.invokevirtual 139, 3) := by decide +kernel
theorem dX11_ahead_41 : decode cX11_ahead 41 = .ok (.ireturn, 1) := by decide +kernel
theorem dX11_ahead_42 : decode cX11_ahead 42 = .ok (.aload_n 0, 1) := by decide +kernel
theorem dX11_ahead_43 : decode cX11_ahead 43 = .ok (.getfield 34, 3) := by decide +kernel
theorem dX11_ahead_46 : decode cX11_ahead 46 = .ok (.aload_n 0, 1) := by decide +kernel
theorem dX11_ahead_47 : decode cX11_ahead 47 = .ok (.getfield 106, 3) := by decide +kernel
theorem dX11_ahead_50 : decode cX11_ahead 50 = .ok (.iload_n 1, 1) := by decide +kernel
theorem dX11_ahead_51 : decode cX11_ahead 51 = .ok (.iastore, 1) := by decide +kernel
theorem dX11_ahead_52 : decode cX11_ahead 52 = .ok (.aload_n 0, 1) := by decide +kernel
theorem dX11_ahead_53 : decode cX11_ahead 53 = .ok (.getfield 37, 3) := by decide +kernel
theorem dX11_ahead_56 : decode cX11_ahead 56 = .ok (.aload_n 0, 1) := by decide +kernel
theorem dX11_ahead_57 : decode cX11_ahead 57 = .ok (.getfield 106, 3) := by decide +kernel
theorem dX11_ahead_60 : decode cX11_ahead 60 = .ok (.iload_n 2, 1) := by decide +kernel
theorem dX11_ahead_61 : decode cX11_ahead 61 = .ok (.iastore, 1) := by decide +kernel
theorem dX11_ahead_62 : decode cX11_ahead 62 = .ok (.aload_n 0, 1) := by decide +kernel
theorem dX11_ahead_63 : decode cX11_ahead 63 = .ok (.dup, 1) := by decide +kernel
theorem dX11_ahead_64 : decode cX11_ahead 64 = .ok (.getfield 106, 3) := by decide +kernel
theorem dX11_ahead_67 : decode cX11_ahead 67 = .ok (.iconst 1, 1) := by decide +kernel
theorem dX11_ahead_68 : decode cX11_ahead 68 = .ok (.iadd, 1) := by decide +kernel
theorem dX11_ahead_69 : decode cX11_ahead 69 = .ok (.putfield 106, 3) := by decide +kernel
theorem dX11_ahead_72 : decode cX11_ahead 72 = .ok (.aload_n 0, 1) := by decide +kernel
theorem dX11_ahead_73 : decode cX11_ahead 73 = .ok (.getfield 106, 3) := by decide +kernel
theorem dX11_ahead_76 : decode cX11_ahead 76 = .ok (.iconst 1, 1) := by decide +kernel
theorem dX11_ahead_77 : decode cX11_ahead 77 = .ok (.isub, 1) := by decide +kernel
theorem dX11_ahead_78 : decode cX11_ahead 78 = .ok (.ireturn, 1) := by decide +kernel
theorem dX11_at_0 : decode cX11_at 0 = .ok (.aload_n 0, 1) := by decide +kernel
theorem dX11_at_1 : decode cX11_at 1 = .ok (.iload_n 1, 1) := by decide +kernel
theorem dX11_at_2 : decode cX11_at 2 = .ok (.invokevirtual 124, 3) := by decide +kernel
theorem dX11_at_5 : decode cX11_at 5 = .ok (.ifCond .eq 16, 3) := by decide +kernel
theorem dX11_at_8 : decode cX11_at 8 = .ok (.iload_n 2, 1) := by decide +kernel
theorem dX11_at_9 : decode cX11_at 9 = .ok (.iconst (-1), 1) := by decide +kernel
theorem dX11_at_10 : decode cX11_at 10 = .ok (.if_icmp .eq 18, 3) := by decide +kernel
theorem dX11_at_13 : decode cX11_at 13 = .ok (.aload_n 0, 1) := by decide +kernel
theorem dX11_at_14 : decode cX11_at 14 = .ok (.iload_n 2, 1) := by decide +kernel
theorem dX11_at_15 : decode cX11_at 15 = .ok (.invokevirtual 124, 3) := by decide +kernel
theorem dX11_at_18 : decode cX11_at 18 = .ok (.ifCond .ne 10, 3) := by decide +kernel
theorem dX11_at_21 : decode cX11_at 21 = .ok (.aload_n 0, 1) := by decide +kernel
theorem dX11_at_22 : decode cX11_at 22 = .ok (.bipush (-10), 2) := by decide +kernel
theorem dX11_at_24 : decode cX11_at 24 = .ok (.invokevirtual 120, 3) := by decide +kernel
theorem dX11_at_27 : decode cX11_at 27 = .ok (.ireturn, 1) := by decide +kernel
theorem dX11_at_28 : decode cX11_at 28 = .ok (.aload_n 0, 1) := by decide +kernel
theorem dX11_at_29 : decode cX11_at 29 = .ok (.getfield 22, 3) := by decide +kernel
theorem dX11_at_32 : decode cX11_at 32 = .ok (.iload_n 1, 1) := by decide +kernel
theorem dX11_at_33 : decode cX11_at 33 = .ok (.iaload, 1) := by decide +kernel
theorem dX11_at_34 : decode cX11_at 34 = .ok (.istore_n 3, 1) := by decide +kernel
theorem dX11_at_35 : decode cX11_at 35 = .ok (.aload_n 0, 1) := by decide +kernel
theorem dX11_at_36 : decode cX11_at 36 = .ok (.getfield 22, 3) := by decide +kernel
theorem dX11_at_39 : decode cX11_at 39 = .ok (.iload_n 1, 1) := by decide +kernel
theorem dX11_at_40 : decode cX11_at 40 = .ok (.iload_n 2, 1) := by decide +kernel
theorem dX11_at_41 : decode cX11_at 41 = .ok (.iastore, 1) := by decide +kernel
theorem dX11_at_42 : decode cX11_at 42 = .ok (.iload_n 3, 1) := by decide +kernel
theorem dX11_at_43 : decode cX11_at 43 = .ok (.ireturn, 1) := by decide +kernel
theorem dX11_diaries_0 : decode cX11_diaries 0 = .ok (.iconst 0, 1) := by decide +kernel
theorem dX11_diaries_1 : decode cX11_diaries 1 = .ok (.istore_n 1, 1) := by decide +kernel
theorem dX11_diaries_2 : decode cX11_diaries 2 = .ok (.iconst 0, 1) := by decide +kernel
theorem dX11_diaries_3 : decode cX11_diaries 3 = .ok (.istore_n 2, 1) := by decide +kernel
theorem dX11_diaries_4 : decode cX11_diaries 4 = .ok (.iload_n 2, 1) := by decide +kernel
theorem dX11_diaries_5 : decode cX11_diaries 5 = .ok (.aload_n 0, 1) := by decide +kernel
theorem dX11_diaries_6 : decode cX11_diaries 6 = .ok (.getfield 93, 3) := by decide +kernel
theorem dX11_diaries_9 : decode cX11_diaries 9 = .ok (.if_icmp .ge 27, 3) := by decide +kernel
theorem dX11_diaries_12 : decode cX11_diaries 12 = .ok (.iload_n 1, 1) := by decide +kernel
theorem dX11_diaries_13 : decode cX11_diaries 13 = .ok (.aload_n 0, 1) := by decide +kernel
theorem dX11_diaries_14 : decode cX11_diaries 14 = .ok (.getfield 43, 3) := by decide +kernel
theorem dX11_diaries_17 : decode cX11_diaries 17 = .ok (.iload_n 2, 1) := by decide +kernel
theorem dX11_diaries_18 : decode cX11_diaries 18 = .ok (.iaload, 1) := by decide +kernel
theorem dX11_diaries_19 : decode cX11_diaries 19 = .ok (.iconst (-1), 1) := by decide +kernel
theorem dX11_diaries_20 : decode cX11_diaries 20 = .ok (.if_icmp .ne 7, 3) := by decide +kernel
theorem dX11_diaries_23 : decode cX11_diaries 23 = .ok (.iconst 0, 1) := by decide +kernel
theorem dX11_diaries_24 : decode cX11_diaries 24 = .ok (.goto 4, 3) := by decide +kernel
theorem dX11_diaries_27 : decode cX11_diaries 27 = .ok (.iconst 1, 1) := by decide +kernel
theorem dX11_diaries_28 : decode cX11_diaries 28 = .ok (.iadd, 1) := by decide +kernel
theorem dX11_diaries_29 : decode cX11_diaries 29 = .ok (.istore_n 1, 1) := by decide +kernel
theorem dX11_diaries_30 : decode cX11_diaries 30 = .ok (.iinc 2 1, 3) := by decide +kernel
theorem dX11_diaries_33 : decode cX11_diaries 33 = .ok (.goto (-29), 3) := by decide +kernel
theorem dX11_diaries_36 : decode cX11_diaries 36 = .ok (.iload_n 1, 1) := by decide +kernel
theorem dX11_diaries_37 : decode cX11_diaries 37 = .ok (.ireturn, 1) := by decide +kernel
theorem dX11_tear_0 : decode cX11_tear 0 = .ok (.iload_n 1, 1) := by decide +kernel
theorem dX11_tear_1 : decode cX11_tear 1 = .ok (.i2l, 1) := by decide +kernel
theorem dX11_tear_2 : decode cX11_tear 2 = .ok (.lconst 0, 1) := by decide +kernel
theorem dX11_tear_3 : decode cX11_tear 3 = .ok (.ldc2_w 142, 3) := by decide +kernel
theorem dX11_tear_6 : decode cX11_tear 6 = .ok (.invokestatic 97, 3) := by decide +kernel
theorem dX11_tear_9 : decode cX11_tear 9 = .ok (.ifCond .ne 10, 3) := by decide +kernel
theorem dX11_tear_12 : decode cX11_tear 12 = .ok (.aload_n 0, 1) := by decide +kernel
theorem dX11_tear_13 : decode cX11_tear 13 = .ok (.bipush (-2), 2) := by decide +kernel
theorem dX11_tear_15 : decode cX11_tear 15 = .ok (.invokevirtual 120, 3) := by decide +kernel
theorem dX11_tear_18 : decode cX11_tear 18 = .ok (.ireturn, 1) := by decide +kernel
theorem dX11_tear_19 : decode cX11_tear 19 = .ok (.iload_n 1, 1) := by decide +kernel
theorem dX11_tear_20 : decode cX11_tear 20 = .ok (.ifCond .ne 10, 3) := by decide +kernel
theorem dX11_tear_23 : decode cX11_tear 23 = .ok (.aload_n 0, 1) := by decide +kernel
theorem dX11_tear_24 : decode cX11_tear 24 = .ok (.getfield 103, 3) := by decide +kernel
theorem dX11_tear_27 : decode cX11_tear 27 = .ok (.goto 31, 3) := by decide +kernel
theorem dX11_tear_30 : decode cX11_tear 30 = .ok (.iload_n 1, 1) := by decide +kernel
theorem dX11_tear_31 : decode cX11_tear 31 = .ok (.iconst 1, 1) := by decide +kernel
theorem dX11_tear_32 : decode cX11_tear 32 = .ok (.if_icmp .ne 10, 3) := by decide +kernel
theorem dX11_tear_35 : decode cX11_tear 35 = .ok (.aload_n 0, 1) := by decide +kernel
theorem dX11_tear_36 : decode cX11_tear 36 = .ok (.getfield 106, 3) := by decide +kernel
theorem dX11_tear_39 : decode cX11_tear 39 = .ok (.goto 19, 3) := by decide +kernel
theorem dX11_tear_42 : decode cX11_tear 42 = .ok (.iload_n 1, 1) := by decide +kernel
theorem dX11_tear_43 : decode cX11_tear 43 = .ok (.iconst 2, 1) := by decide +kernel
theorem dX11_tear_44 : decode cX11_tear 44 = .ok (.if_icmp .ne 10, 3) := by decide +kernel
theorem dX11_tear_47 : decode cX11_tear 47 = .ok (.aload_n 0, 1) := by decide +kernel
theorem dX11_tear_48 : decode cX11_tear 48 = .ok (.invokevirtual 144, 3) := by decide +kernel
theorem dX11_tear_51 : decode cX11_tear 51 = .ok (.goto 7, 3) := by decide +kernel
theorem dX11_tear_54 : decode cX11_tear 54 = .ok (.aload_n 0, 1) := by decide +kernel
theorem dX11_tear_55 : decode cX11_tear 55 = .ok (.getfield 109, 3) := by decide +kernel
theorem dX11_tear_58 : decode cX11_tear 58 = .ok (.istore_n 2, 1) := by decide +kernel
theorem dX11_tear_59 : decode cX11_tear 59 = .ok (.iload_n 1, 1) := by decide +kernel
theorem dX11_tear_60 : decode cX11_tear 60 = .ok (.ifCond .ne 16, 3) := by decide +kernel
theorem dX11_tear_63 : decode cX11_tear 63 = .ok (.aload_n 0, 1) := by decide +kernel
theorem dX11_tear_64 : decode cX11_tear 64 = .ok (.iconst 0, 1) := by decide +kernel
theorem dX11_tear_65 : decode cX11_tear 65 = .ok (.putfield 103, 3) := by decide +kernel
theorem dX11_tear_68 : decode cX11_tear 68 = .ok (.aload_n 0, 1) := by decide +kernel
theorem dX11_tear_69 : decode cX11_tear 69 = .ok (.iconst 0, 1) := by decide +kernel
theorem dX11_tear_70 : decode cX11_tear 70 = .ok (.putfield 115, 3) := by decide +kernel
theorem dX11_tear_73 : decode cX11_tear 73 = .ok (.goto 50, 3) := by decide +kernel
theorem dX11_tear_76 : decode cX11_tear 76 = .ok (.iload_n 1, 1) := by decide +kernel
theorem dX11_tear_77 : decode cX11_tear 77 = .ok (.iconst 1, 1) := by decide +kernel
theorem dX11_tear_78 : decode cX11_tear 78 = .ok (.if_icmp .ne 11, 3) := by decide +kernel
theorem dX11_tear_81 : decode cX11_tear 81 = .ok (.aload_n 0, 1) := by decide +kernel
theorem dX11_tear_82 : decode cX11_tear 82 = .ok (.iconst 0, 1) := by decide +kernel
theorem dX11_tear_83 : decode cX11_tear 83 = .ok (.putfield 106, 3) := by decide +kernel
theorem dX11_tear_86 : decode cX11_tear 86 = .ok (.goto 37, 3) := by decide +kernel
theorem dX11_tear_89 : decode cX11_tear 89 = .ok (.iload_n 1, 1) := by decide +kernel
theorem dX11_tear_90 : decode cX11_tear 90 = .ok (.iconst 2, 1) := by decide +kernel
theorem dX11_tear_91 : decode cX11_tear 91 = .ok (.if_icmp .ne 27, 3) := by decide +kernel
theorem dX11_tear_94 : decode cX11_tear 94 = .ok (.iconst 0, 1) := by decide +kernel
theorem dX11_tear_95 : decode cX11_tear 95 = .ok (.istore_n 3, 1) := by decide +kernel
theorem dX11_tear_96 : decode cX11_tear 96 = .ok (.iload_n 3, 1) := by decide +kernel
theorem dX11_tear_97 : decode cX11_tear 97 = .ok (.bipush 7, 2) := by decide +kernel
theorem dX11_tear_99 : decode cX11_tear 99 = .ok (.if_icmp .ge 16, 3) := by decide +kernel
theorem dX11_tear_102 : decode cX11_tear 102 = .ok (.aload_n 0, 1) := by decide +kernel
theorem dX11_tear_103 : decode cX11_tear 103 = .ok (.getfield 43, 3) := by decide +kernel
theorem dX11_tear_106 : decode cX11_tear 106 = .ok (.iload_n 3, 1) := by decide +kernel
theorem dX11_tear_107 : decode cX11_tear 107 = .ok (.iconst (-1), 1) := by decide +kernel
theorem dX11_tear_108 : decode cX11_tear 108 = .ok (.iastore, 1) := by decide +kernel
theorem dX11_tear_109 : decode cX11_tear 109 = .ok (.iinc 3 1, 3) := by decide +kernel
theorem dX11_tear_112 : decode cX11_tear 112 = .ok (.goto (-16), 3) := by decide +kernel
theorem dX11_tear_115 : decode cX11_tear 115 = .ok (.goto 8, 3) := by decide +kernel
theorem dX11_tear_118 : decode cX11_tear 118 = .ok (.aload_n 0, 1) := by decide +kernel
theorem dX11_tear_119 : decode cX11_tear 119 = .ok (.iconst 0, 1) := by decide +kernel
theorem dX11_tear_120 : decode cX11_tear 120 = .ok (.putfield 109, 3) := by decide +kernel
theorem dX11_tear_123 : decode cX11_tear 123 = .ok (.iload_n 2, 1) := by decide +kernel
theorem dX11_tear_124 : decode cX11_tear 124 = .ok (.ireturn, 1) := by decide +kernel
theorem dX11_orders_0 : decode cX11_orders 0 = .ok (.iconst 1, 1) := by decide +kernel
theorem dX11_orders_1 : decode cX11_orders 1 = .ok (.istore_n 1, 1) := by decide +kernel
theorem dX11_orders_2 : decode cX11_orders 2 = .ok (.iconst 2, 1) := by decide +kernel
theorem dX11_orders_3 : decode cX11_orders 3 = .ok (.istore_n 2, 1) := by decide +kernel
theorem dX11_orders_4 : decode cX11_orders 4 = .ok (.iload_n 2, 1) := by decide +kernel
theorem dX11_orders_5 : decode cX11_orders 5 = .ok (.aload_n 0, 1) := by decide +kernel
theorem dX11_orders_6 : decode cX11_orders 6 = .ok (.getfield 93, 3) := by decide +kernel
theorem dX11_orders_9 : decode cX11_orders 9 = .ok (.if_icmp .gt 13, 3) := by decide +kernel
theorem dX11_orders_12 : decode cX11_orders 12 = .ok (.iload_n 1, 1) := by decide +kernel
theorem dX11_orders_13 : decode cX11_orders 13 = .ok (.iload_n 2, 1) := by decide +kernel
theorem dX11_orders_14 : decode cX11_orders 14 = .ok (.imul, 1) := by decide +kernel
theorem dX11_orders_15 : decode cX11_orders 15 = .ok (.istore_n 1, 1) := by decide +kernel
theorem dX11_orders_16 : decode cX11_orders 16 = .ok (.iinc 2 1, 3) := by decide +kernel
theorem dX11_orders_19 : decode cX11_orders 19 = .ok (.goto (-15), 3) := by decide +kernel
theorem dX11_orders_22 : decode cX11_orders 22 = .ok (.iload_n 1, 1) := by decide +kernel
theorem dX11_orders_23 : decode cX11_orders 23 = .ok (.ireturn, 1) := by decide +kernel
theorem dX11_starts_0 : decode cX11_starts 0 = .ok (.iconst 0, 1) := by decide +kernel
theorem dX11_starts_1 : decode cX11_starts 1 = .ok (.istore_n 1, 1) := by decide +kernel
theorem dX11_starts_2 : decode cX11_starts 2 = .ok (.iload_n 1, 1) := by decide +kernel
theorem dX11_starts_3 : decode cX11_starts 3 = .ok (.bipush 7, 2) := by decide +kernel
theorem dX11_starts_5 : decode cX11_starts 5 = .ok (.if_icmp .ge 13, 3) := by decide +kernel
theorem dX11_starts_8 : decode cX11_starts 8 = .ok (.aload_n 0, 1) := by decide +kernel
theorem dX11_starts_9 : decode cX11_starts 9 = .ok (.iload_n 1, 1) := by decide +kernel
theorem dX11_starts_10 : decode cX11_starts 10 = .ok (.iload_n 1, 1) := by decide +kernel
theorem dX11_starts_11 : decode cX11_starts 11 = .ok (.iastore, 1) := by decide +kernel
theorem dX11_starts_12 : decode cX11_starts 12 = .ok (.iinc 1 1, 3) := by decide +kernel
theorem dX11_starts_15 : decode cX11_starts 15 = .ok (.goto (-13), 3) := by decide +kernel
theorem dX11_starts_18 : decode cX11_starts 18 = .ok (.return_, 1) := by decide +kernel
theorem dX11_turns_0 : decode cX11_turns 0 = .ok (.aload_n 0, 1) := by decide +kernel
theorem dX11_turns_1 : decode cX11_turns 1 = .ok (.getfield 93, 3) := by decide +kernel
theorem dX11_turns_4 : decode cX11_turns 4 = .ok (.iconst 2, 1) := by decide +kernel
theorem dX11_turns_5 : decode cX11_turns 5 = .ok (.isub, 1) := by decide +kernel
theorem dX11_turns_6 : decode cX11_turns 6 = .ok (.istore_n 2, 1) := by decide +kernel
theorem dX11_turns_7 : decode cX11_turns 7 = .ok (.iload_n 2, 1) := by decide +kernel
theorem dX11_turns_8 : decode cX11_turns 8 = .ok (.ifCond .lt 20, 3) := by decide +kernel
theorem dX11_turns_11 : decode cX11_turns 11 = .ok (.aload_n 1, 1) := by decide +kernel
theorem dX11_turns_12 : decode cX11_turns 12 = .ok (.iload_n 2, 1) := by decide +kernel
theorem dX11_turns_13 : decode cX11_turns 13 = .ok (.iaload, 1) := by decide +kernel
theorem dX11_turns_14 : decode cX11_turns 14 = .ok (.aload_n 1, 1) := by decide +kernel
theorem dX11_turns_15 : decode cX11_turns 15 = .ok (.iload_n 2, 1) := by decide +kernel
theorem dX11_turns_16 : decode cX11_turns 16 = .ok (.iconst 1, 1) := by decide +kernel
theorem dX11_turns_17 : decode cX11_turns 17 = .ok (.iadd, 1) := by decide +kernel
theorem dX11_turns_18 : decode cX11_turns 18 = .ok (.iaload, 1) := by decide +kernel
theorem dX11_turns_19 : decode cX11_turns 19 = .ok (.if_icmp .le 9, 3) := by decide +kernel
theorem dX11_turns_22 : decode cX11_turns 22 = .ok (.iinc 2 (-1), 3) := by decide +kernel
theorem dX11_turns_25 : decode cX11_turns 25 = .ok (.goto (-18), 3) := by decide +kernel
theorem dX11_turns_28 : decode cX11_turns 28 = .ok (.iload_n 2, 1) := by decide +kernel
theorem dX11_turns_29 : decode cX11_turns 29 = .ok (.ifCond .lt 41, 3) := by decide +kernel
theorem dX11_turns_32 : decode cX11_turns 32 = .ok (.aload_n 0, 1) := by decide +kernel
theorem dX11_turns_33 : decode cX11_turns 33 = .ok (.getfield 93, 3) := by decide +kernel
theorem dX11_turns_36 : decode cX11_turns 36 = .ok (.iconst 1, 1) := by decide +kernel
theorem dX11_turns_37 : decode cX11_turns 37 = .ok (.isub, 1) := by decide +kernel
theorem dX11_turns_38 : decode cX11_turns 38 = .ok (.istore_n 3, 1) := by decide +kernel
theorem dX11_turns_39 : decode cX11_turns 39 = .ok (.aload_n 1, 1) := by decide +kernel
theorem dX11_turns_40 : decode cX11_turns 40 = .ok (.iload_n 3, 1) := by decide +kernel
theorem dX11_turns_41 : decode cX11_turns 41 = .ok (.iaload, 1) := by decide +kernel
theorem dX11_turns_42 : decode cX11_turns 42 = .ok (.aload_n 1, 1) := by decide +kernel
theorem dX11_turns_43 : decode cX11_turns 43 = .ok (.iload_n 2, 1) := by decide +kernel
theorem dX11_turns_44 : decode cX11_turns 44 = .ok (.iaload, 1) := by decide +kernel
theorem dX11_turns_45 : decode cX11_turns 45 = .ok (.if_icmp .ge 9, 3) := by decide +kernel
theorem dX11_turns_48 : decode cX11_turns 48 = .ok (.iinc 3 (-1), 3) := by decide +kernel
theorem dX11_turns_51 : decode cX11_turns 51 = .ok (.goto (-12), 3) := by decide +kernel
theorem dX11_turns_54 : decode cX11_turns 54 = .ok (.aload_n 1, 1) := by decide +kernel
theorem dX11_turns_55 : decode cX11_turns 55 = .ok (.iload_n 2, 1) := by decide +kernel
theorem dX11_turns_56 : decode cX11_turns 56 = .ok (.iaload, 1) := by decide +kernel
theorem dX11_turns_57 : decode cX11_turns 57 = .ok (.istore 4, 2) := by decide +kernel
theorem dX11_turns_59 : decode cX11_turns 59 = .ok (.aload_n 1, 1) := by decide +kernel
theorem dX11_turns_60 : decode cX11_turns 60 = .ok (.iload_n 2, 1) := by decide +kernel
theorem dX11_turns_61 : decode cX11_turns 61 = .ok (.aload_n 1, 1) := by decide +kernel
theorem dX11_turns_62 : decode cX11_turns 62 = .ok (.iload_n 3, 1) := by decide +kernel
theorem dX11_turns_63 : decode cX11_turns 63 = .ok (.iaload, 1) := by decide +kernel
theorem dX11_turns_64 : decode cX11_turns 64 = .ok (.iastore, 1) := by decide +kernel
theorem dX11_turns_65 : decode cX11_turns 65 = .ok (.aload_n 1, 1) := by decide +kernel
theorem dX11_turns_66 : decode cX11_turns 66 = .ok (.iload_n 3, 1) := by decide +kernel
theorem dX11_turns_67 : decode cX11_turns 67 = .ok (.iload 4, 2) := by decide +kernel
theorem dX11_turns_69 : decode cX11_turns 69 = .ok (.iastore, 1) := by decide +kernel
theorem dX11_turns_70 : decode cX11_turns 70 = .ok (.iload_n 2, 1) := by decide +kernel
theorem dX11_turns_71 : decode cX11_turns 71 = .ok (.iconst 1, 1) := by decide +kernel
theorem dX11_turns_72 : decode cX11_turns 72 = .ok (.iadd, 1) := by decide +kernel
theorem dX11_turns_73 : decode cX11_turns 73 = .ok (.istore_n 3, 1) := by decide +kernel
theorem dX11_turns_74 : decode cX11_turns 74 = .ok (.aload_n 0, 1) := by decide +kernel
theorem dX11_turns_75 : decode cX11_turns 75 = .ok (.getfield 93, 3) := by decide +kernel
theorem dX11_turns_78 : decode cX11_turns 78 = .ok (.iconst 1, 1) := by decide +kernel
theorem dX11_turns_79 : decode cX11_turns 79 = .ok (.isub, 1) := by decide +kernel
theorem dX11_turns_80 : decode cX11_turns 80 = .ok (.istore 4, 2) := by decide +kernel
theorem dX11_turns_82 : decode cX11_turns 82 = .ok (.iload_n 3, 1) := by decide +kernel
theorem dX11_turns_83 : decode cX11_turns 83 = .ok (.iload 4, 2) := by decide +kernel
theorem dX11_turns_85 : decode cX11_turns 85 = .ok (.if_icmp .ge 30, 3) := by decide +kernel
theorem dX11_turns_88 : decode cX11_turns 88 = .ok (.aload_n 1, 1) := by decide +kernel
theorem dX11_turns_89 : decode cX11_turns 89 = .ok (.iload_n 3, 1) := by decide +kernel
theorem dX11_turns_90 : decode cX11_turns 90 = .ok (.iaload, 1) := by decide +kernel
theorem dX11_turns_91 : decode cX11_turns 91 = .ok (.istore 5, 2) := by decide +kernel
theorem dX11_turns_93 : decode cX11_turns 93 = .ok (.aload_n 1, 1) := by decide +kernel
theorem dX11_turns_94 : decode cX11_turns 94 = .ok (.iload_n 3, 1) := by decide +kernel
theorem dX11_turns_95 : decode cX11_turns 95 = .ok (.aload_n 1, 1) := by decide +kernel
theorem dX11_turns_96 : decode cX11_turns 96 = .ok (.iload 4, 2) := by decide +kernel
theorem dX11_turns_98 : decode cX11_turns 98 = .ok (.iaload, 1) := by decide +kernel
theorem dX11_turns_99 : decode cX11_turns 99 = .ok (.iastore, 1) := by decide +kernel
theorem dX11_turns_100 : decode cX11_turns 100 = .ok (.aload_n 1, 1) := by decide +kernel
theorem dX11_turns_101 : decode cX11_turns 101 = .ok (.iload 4, 2) := by decide +kernel
theorem dX11_turns_103 : decode cX11_turns 103 = .ok (.iload 5, 2) := by decide +kernel
theorem dX11_turns_105 : decode cX11_turns 105 = .ok (.iastore, 1) := by decide +kernel
theorem dX11_turns_106 : decode cX11_turns 106 = .ok (.iinc 3 1, 3) := by decide +kernel
theorem dX11_turns_109 : decode cX11_turns 109 = .ok (.iinc 4 (-1), 3) := by decide +kernel
theorem dX11_turns_112 : decode cX11_turns 112 = .ok (.goto (-30), 3) := by decide +kernel
theorem dX11_turns_115 : decode cX11_turns 115 = .ok (.return_, 1) := by decide +kernel
theorem dX11_rankOf_0 : decode cX11_rankOf 0 = .ok (.iconst 0, 1) := by decide +kernel
theorem dX11_rankOf_1 : decode cX11_rankOf 1 = .ok (.istore_n 2, 1) := by decide +kernel
theorem dX11_rankOf_2 : decode cX11_rankOf 2 = .ok (.iconst 0, 1) := by decide +kernel
theorem dX11_rankOf_3 : decode cX11_rankOf 3 = .ok (.istore_n 3, 1) := by decide +kernel
theorem dX11_rankOf_4 : decode cX11_rankOf 4 = .ok (.iload_n 3, 1) := by decide +kernel
theorem dX11_rankOf_5 : decode cX11_rankOf 5 = .ok (.aload_n 0, 1) := by decide +kernel
theorem dX11_rankOf_6 : decode cX11_rankOf 6 = .ok (.getfield 93, 3) := by decide +kernel
theorem dX11_rankOf_9 : decode cX11_rankOf 9 = .ok (.if_icmp .ge 64, 3) := by decide +kernel
theorem dX11_rankOf_12 : decode cX11_rankOf 12 = .ok (.iconst 0, 1) := by decide +kernel
theorem dX11_rankOf_13 : decode cX11_rankOf 13 = .ok (.istore 4, 2) := by decide +kernel
theorem dX11_rankOf_15 : decode cX11_rankOf 15 = .ok (.iload_n 3, 1) := by decide +kernel
theorem dX11_rankOf_16 : decode cX11_rankOf 16 = .ok (.iconst 1, 1) := by decide +kernel
theorem dX11_rankOf_17 : decode cX11_rankOf 17 = .ok (.iadd, 1) := by decide +kernel
theorem dX11_rankOf_18 : decode cX11_rankOf 18 = .ok (.istore 5, 2) := by decide +kernel
theorem dX11_rankOf_20 : decode cX11_rankOf 20 = .ok (.iload 5, 2) := by decide +kernel
theorem dX11_rankOf_22 : decode cX11_rankOf 22 = .ok (.aload_n 0, 1) := by decide +kernel
theorem dX11_rankOf_23 : decode cX11_rankOf 23 = .ok (.getfield 93, 3) := by decide +kernel
theorem dX11_rankOf_26 : decode cX11_rankOf 26 = .ok (.if_icmp .ge 29, 3) := by decide +kernel
theorem dX11_rankOf_29 : decode cX11_rankOf 29 = .ok (.iload 4, 2) := by decide +kernel
theorem dX11_rankOf_31 : decode cX11_rankOf 31 = .ok (.aload_n 1, 1) := by decide +kernel
theorem dX11_rankOf_32 : decode cX11_rankOf 32 = .ok (.iload 5, 2) := by decide +kernel
theorem dX11_rankOf_34 : decode cX11_rankOf 34 = .ok (.iaload, 1) := by decide +kernel
theorem dX11_rankOf_35 : decode cX11_rankOf 35 = .ok (.aload_n 1, 1) := by decide +kernel
theorem dX11_rankOf_36 : decode cX11_rankOf 36 = .ok (.iload_n 3, 1) := by decide +kernel
theorem dX11_rankOf_37 : decode cX11_rankOf 37 = .ok (.iaload, 1) := by decide +kernel
theorem dX11_rankOf_38 : decode cX11_rankOf 38 = .ok (.if_icmp .ge 7, 3) := by decide +kernel
theorem dX11_rankOf_41 : decode cX11_rankOf 41 = .ok (.iconst 1, 1) := by decide +kernel
theorem dX11_rankOf_42 : decode cX11_rankOf 42 = .ok (.goto 4, 3) := by decide +kernel
theorem dX11_rankOf_45 : decode cX11_rankOf 45 = .ok (.iconst 0, 1) := by decide +kernel
theorem dX11_rankOf_46 : decode cX11_rankOf 46 = .ok (.iadd, 1) := by decide +kernel
theorem dX11_rankOf_47 : decode cX11_rankOf 47 = .ok (.istore 4, 2) := by decide +kernel
theorem dX11_rankOf_49 : decode cX11_rankOf 49 = .ok (.iinc 5 1, 3) := by decide +kernel
theorem dX11_rankOf_52 : decode cX11_rankOf 52 = .ok (.goto (-32), 3) := by decide +kernel
theorem dX11_rankOf_55 : decode cX11_rankOf 55 = .ok (.iload_n 2, 1) := by decide +kernel
theorem dX11_rankOf_56 : decode cX11_rankOf 56 = .ok (.aload_n 0, 1) := by decide +kernel
theorem dX11_rankOf_57 : decode cX11_rankOf 57 = .ok (.getfield 93, 3) := by decide +kernel
theorem dX11_rankOf_60 : decode cX11_rankOf 60 = .ok (.iload_n 3, 1) := by decide +kernel
theorem dX11_rankOf_61 : decode cX11_rankOf 61 = .ok (.isub, 1) := by decide +kernel
theorem dX11_rankOf_62 : decode cX11_rankOf 62 = .ok (.imul, 1) := by decide +kernel
theorem dX11_rankOf_63 : decode cX11_rankOf 63 = .ok (.iload 4, 2) := by decide +kernel
theorem dX11_rankOf_65 : decode cX11_rankOf 65 = .ok (.iadd, 1) := by decide +kernel
theorem dX11_rankOf_66 : decode cX11_rankOf 66 = .ok (.istore_n 2, 1) := by decide +kernel
theorem dX11_rankOf_67 : decode cX11_rankOf 67 = .ok (.iinc 3 1, 3) := by decide +kernel
theorem dX11_rankOf_70 : decode cX11_rankOf 70 = .ok (.goto (-66), 3) := by decide +kernel
theorem dX11_rankOf_73 : decode cX11_rankOf 73 = .ok (.iload_n 2, 1) := by decide +kernel
theorem dX11_rankOf_74 : decode cX11_rankOf 74 = .ok (.ireturn, 1) := by decide +kernel
theorem dX11_rowOf_0 : decode cX11_rowOf 0 = .ok (.iload_n 1, 1) := by decide +kernel
theorem dX11_rowOf_1 : decode cX11_rowOf 1 = .ok (.istore_n 3, 1) := by decide +kernel
theorem dX11_rowOf_2 : decode cX11_rowOf 2 = .ok (.aload_n 0, 1) := by decide +kernel
theorem dX11_rowOf_3 : decode cX11_rowOf 3 = .ok (.invokevirtual 147, 3) := by decide +kernel
theorem dX11_rowOf_6 : decode cX11_rowOf 6 = .ok (.istore 4, 2) := by decide +kernel
theorem dX11_rowOf_8 : decode cX11_rowOf 8 = .ok (.iconst 0, 1) := by decide +kernel
theorem dX11_rowOf_9 : decode cX11_rowOf 9 = .ok (.istore 5, 2) := by decide +kernel
theorem dX11_rowOf_11 : decode cX11_rowOf 11 = .ok (.iconst 0, 1) := by decide +kernel
theorem dX11_rowOf_12 : decode cX11_rowOf 12 = .ok (.istore 6, 2) := by decide +kernel
theorem dX11_rowOf_14 : decode cX11_rowOf 14 = .ok (.iload 6, 2) := by decide +kernel
theorem dX11_rowOf_16 : decode cX11_rowOf 16 = .ok (.aload_n 0, 1) := by decide +kernel
theorem dX11_rowOf_17 : decode cX11_rowOf 17 = .ok (.getfield 93, 3) := by decide +kernel
theorem dX11_rowOf_20 : decode cX11_rowOf 20 = .ok (.if_icmp .ge 93, 3) := by decide +kernel
theorem dX11_rowOf_23 : decode cX11_rowOf 23 = .ok (.iload 4, 2) := by decide +kernel
theorem dX11_rowOf_25 : decode cX11_rowOf 25 = .ok (.aload_n 0, 1) := by decide +kernel
theorem dX11_rowOf_26 : decode cX11_rowOf 26 = .ok (.getfield 93, 3) := by decide +kernel
theorem dX11_rowOf_29 : decode cX11_rowOf 29 = .ok (.iload 6, 2) := by decide +kernel
theorem dX11_rowOf_31 : decode cX11_rowOf 31 = .ok (.isub, 1) := by decide +kernel
theorem dX11_rowOf_32 : decode cX11_rowOf 32 = .ok (.idiv, 1) := by decide +kernel
theorem dX11_rowOf_33 : decode cX11_rowOf 33 = .ok (.istore 4, 2) := by decide +kernel
theorem dX11_rowOf_35 : decode cX11_rowOf 35 = .ok (.iload_n 3, 1) := by decide +kernel
theorem dX11_rowOf_36 : decode cX11_rowOf 36 = .ok (.iload 4, 2) := by decide +kernel
theorem dX11_rowOf_38 : decode cX11_rowOf 38 = .ok (.idiv, 1) := by decide +kernel
theorem dX11_rowOf_39 : decode cX11_rowOf 39 = .ok (.istore 7, 2) := by decide +kernel
theorem dX11_rowOf_41 : decode cX11_rowOf 41 = .ok (.iload_n 3, 1) := by decide +kernel
theorem dX11_rowOf_42 : decode cX11_rowOf 42 = .ok (.iload 4, 2) := by decide +kernel
theorem dX11_rowOf_44 : decode cX11_rowOf 44 = .ok (.irem, 1) := by decide +kernel
theorem dX11_rowOf_45 : decode cX11_rowOf 45 = .ok (.istore_n 3, 1) := by decide +kernel
theorem dX11_rowOf_46 : decode cX11_rowOf 46 = .ok (.iconst 0, 1) := by decide +kernel
theorem dX11_rowOf_47 : decode cX11_rowOf 47 = .ok (.istore 8, 2) := by decide +kernel
theorem dX11_rowOf_49 : decode cX11_rowOf 49 = .ok (.iload 5, 2) := by decide +kernel
theorem dX11_rowOf_51 : decode cX11_rowOf 51 = .ok (.iload 8, 2) := by decide +kernel
theorem dX11_rowOf_53 : decode cX11_rowOf 53 = .ok (.ishr, 1) := by decide +kernel
theorem dX11_rowOf_54 : decode cX11_rowOf 54 = .ok (.iconst 1, 1) := by decide +kernel
theorem dX11_rowOf_55 : decode cX11_rowOf 55 = .ok (.iand, 1) := by decide +kernel
theorem dX11_rowOf_56 : decode cX11_rowOf 56 = .ok (.iconst 1, 1) := by decide +kernel
theorem dX11_rowOf_57 : decode cX11_rowOf 57 = .ok (.if_icmp .eq 8, 3) := by decide +kernel
theorem dX11_rowOf_60 : decode cX11_rowOf 60 = .ok (.iload 7, 2) := by decide +kernel
theorem dX11_rowOf_62 : decode cX11_rowOf 62 = .ok (.ifCond .le 30, 3) := by decide +kernel
theorem dX11_rowOf_65 : decode cX11_rowOf 65 = .ok (.iload 7, 2) := by decide +kernel
theorem dX11_rowOf_67 : decode cX11_rowOf 67 = .ok (.iload 5, 2) := by decide +kernel
theorem dX11_rowOf_69 : decode cX11_rowOf 69 = .ok (.iload 8, 2) := by decide +kernel
theorem dX11_rowOf_71 : decode cX11_rowOf 71 = .ok (.ishr, 1) := by decide +kernel
theorem dX11_rowOf_72 : decode cX11_rowOf 72 = .ok (.iconst 1, 1) := by decide +kernel
theorem dX11_rowOf_73 : decode cX11_rowOf 73 = .ok (.iand, 1) := by decide +kernel
theorem dX11_rowOf_74 : decode cX11_rowOf 74 = .ok (.iconst 1, 1) := by decide +kernel
theorem dX11_rowOf_75 : decode cX11_rowOf 75 = .ok (.if_icmp .ne 7, 3) := by decide +kernel
theorem dX11_rowOf_78 : decode cX11_rowOf 78 = .ok (.iconst 0, 1) := by decide +kernel
theorem dX11_rowOf_79 : decode cX11_rowOf 79 = .ok (.goto 4, 3) := by decide +kernel
theorem dX11_rowOf_82 : decode cX11_rowOf 82 = .ok (.iconst 1, 1) := by decide +kernel
theorem dX11_rowOf_83 : decode cX11_rowOf 83 = .ok (.isub, 1) := by decide +kernel
theorem dX11_rowOf_84 : decode cX11_rowOf 84 = .ok (.istore 7, 2) := by decide +kernel
theorem dX11_rowOf_86 : decode cX11_rowOf 86 = .ok (.iinc 8 1, 3) := by decide +kernel
theorem dX11_rowOf_89 : decode cX11_rowOf 89 = .ok (.goto (-40), 3) := by decide +kernel
theorem dX11_rowOf_92 : decode cX11_rowOf 92 = .ok (.iload 5, 2) := by decide +kernel
theorem dX11_rowOf_94 : decode cX11_rowOf 94 = .ok (.iconst 1, 1) := by decide +kernel
theorem dX11_rowOf_95 : decode cX11_rowOf 95 = .ok (.iload 8, 2) := by decide +kernel
theorem dX11_rowOf_97 : decode cX11_rowOf 97 = .ok (.ishl, 1) := by decide +kernel
theorem dX11_rowOf_98 : decode cX11_rowOf 98 = .ok (.ior, 1) := by decide +kernel
theorem dX11_rowOf_99 : decode cX11_rowOf 99 = .ok (.istore 5, 2) := by decide +kernel
theorem dX11_rowOf_101 : decode cX11_rowOf 101 = .ok (.aload_n 2, 1) := by decide +kernel
theorem dX11_rowOf_102 : decode cX11_rowOf 102 = .ok (.iload 6, 2) := by decide +kernel
theorem dX11_rowOf_104 : decode cX11_rowOf 104 = .ok (.iload 8, 2) := by decide +kernel
theorem dX11_rowOf_106 : decode cX11_rowOf 106 = .ok (.iastore, 1) := by decide +kernel
theorem dX11_rowOf_107 : decode cX11_rowOf 107 = .ok (.iinc 6 1, 3) := by decide +kernel
theorem dX11_rowOf_110 : decode cX11_rowOf 110 = .ok (.goto (-96), 3) := by decide +kernel
theorem dX11_rowOf_113 : decode cX11_rowOf 113 = .ok (.return_, 1) := by decide +kernel
theorem dX11_isRank_0 : decode cX11_isRank 0 = .ok (.iload_n 1, 1) := by decide +kernel
theorem dX11_isRank_1 : decode cX11_isRank 1 = .ok (.i2l, 1) := by decide +kernel
theorem dX11_isRank_2 : decode cX11_isRank 2 = .ok (.lconst 0, 1) := by decide +kernel
theorem dX11_isRank_3 : decode cX11_isRank 3 = .ok (.aload_n 0, 1) := by decide +kernel
theorem dX11_isRank_4 : decode cX11_isRank 4 = .ok (.invokevirtual 147, 3) := by decide +kernel
theorem dX11_isRank_7 : decode cX11_isRank 7 = .ok (.iconst 1, 1) := by decide +kernel
theorem dX11_isRank_8 : decode cX11_isRank 8 = .ok (.isub, 1) := by decide +kernel
theorem dX11_isRank_9 : decode cX11_isRank 9 = .ok (.i2l, 1) := by decide +kernel
theorem dX11_isRank_10 : decode cX11_isRank 10 = .ok (.invokestatic 97, 3) := by decide +kernel
theorem dX11_isRank_13 : decode cX11_isRank 13 = .ok (.ireturn, 1) := by decide +kernel
theorem dX11_order_0 : decode cX11_order 0 = .ok (.aload_n 0, 1) := by decide +kernel
theorem dX11_order_1 : decode cX11_order 1 = .ok (.iload_n 1, 1) := by decide +kernel
theorem dX11_order_2 : decode cX11_order 2 = .ok (.invokevirtual 150, 3) := by decide +kernel
theorem dX11_order_5 : decode cX11_order 5 = .ok (.ifCond .ne 10, 3) := by decide +kernel
theorem dX11_order_8 : decode cX11_order 8 = .ok (.aload_n 0, 1) := by decide +kernel
theorem dX11_order_9 : decode cX11_order 9 = .ok (.bipush (-2), 2) := by decide +kernel
theorem dX11_order_11 : decode cX11_order 11 = .ok (.invokevirtual 120, 3) := by decide +kernel
theorem dX11_order_14 : decode cX11_order 14 = .ok (.ireturn, 1) := by decide +kernel
theorem dX11_order_15 : decode cX11_order 15 = .ok (.aload_n 0, 1) := by decide +kernel
theorem dX11_order_16 : decode cX11_order 16 = .ok (.aload_n 0, 1) := by decide +kernel
theorem dX11_order_17 : decode cX11_order 17 = .ok (.getfield 25, 3) := by decide +kernel
theorem dX11_order_20 : decode cX11_order 20 = .ok (.invokevirtual 153, 3) := by decide +kernel
theorem dX11_order_23 : decode cX11_order 23 = .ok (.istore_n 2, 1) := by decide +kernel
theorem dX11_order_24 : decode cX11_order 24 = .ok (.aload_n 0, 1) := by decide +kernel
theorem dX11_order_25 : decode cX11_order 25 = .ok (.iload_n 1, 1) := by decide +kernel
theorem dX11_order_26 : decode cX11_order 26 = .ok (.aload_n 0, 1) := by decide +kernel
theorem dX11_order_27 : decode cX11_order 27 = .ok (.getfield 25, 3) := by decide +kernel
theorem dX11_order_30 : decode cX11_order 30 = .ok (.invokevirtual 157, 3) := by decide +kernel
theorem dX11_order_33 : decode cX11_order 33 = .ok (.aload_n 0, 1) := by decide +kernel
theorem dX11_order_34 : decode cX11_order 34 = .ok (.iconst 0, 1) := by decide +kernel
theorem dX11_order_35 : decode cX11_order 35 = .ok (.putfield 115, 3) := by decide +kernel
theorem dX11_order_38 : decode cX11_order 38 = .ok (.iload_n 2, 1) := by decide +kernel
theorem dX11_order_39 : decode cX11_order 39 = .ok (.ireturn, 1) := by decide +kernel
theorem dX11_learns_0 : decode cX11_learns 0 = .ok (.aload_n 0, 1) := by decide +kernel
theorem dX11_learns_1 : decode cX11_learns 1 = .ok (.getfield 13, 3) := by decide +kernel
theorem dX11_learns_4 : decode cX11_learns 4 = .ok (.iload_n 1, 1) := by decide +kernel
theorem dX11_learns_5 : decode cX11_learns 5 = .ok (.iaload, 1) := by decide +kernel
theorem dX11_learns_6 : decode cX11_learns 6 = .ok (.istore_n 2, 1) := by decide +kernel
theorem dX11_learns_7 : decode cX11_learns 7 = .ok (.iload_n 2, 1) := by decide +kernel
theorem dX11_learns_8 : decode cX11_learns 8 = .ok (.iconst 2, 1) := by decide +kernel
theorem dX11_learns_9 : decode cX11_learns 9 = .ok (.if_icmp .eq 8, 3) := by decide +kernel
theorem dX11_learns_12 : decode cX11_learns 12 = .ok (.iload_n 2, 1) := by decide +kernel
theorem dX11_learns_13 : decode cX11_learns 13 = .ok (.iconst 5, 1) := by decide +kernel
theorem dX11_learns_14 : decode cX11_learns 14 = .ok (.if_icmp .ne 7, 3) := by decide +kernel
theorem dX11_learns_17 : decode cX11_learns 17 = .ok (.iconst 0, 1) := by decide +kernel
theorem dX11_learns_18 : decode cX11_learns 18 = .ok (.goto 30, 3) := by decide +kernel
theorem dX11_learns_21 : decode cX11_learns 21 = .ok (.iload_n 2, 1) := by decide +kernel
theorem dX11_learns_22 : decode cX11_learns 22 = .ok (.iconst 4, 1) := by decide +kernel
theorem dX11_learns_23 : decode cX11_learns 23 = .ok (.if_icmp .ne 19, 3) := by decide +kernel
theorem dX11_learns_26 : decode cX11_learns 26 = .ok (.aload_n 0, 1) := by decide +kernel
theorem dX11_learns_27 : decode cX11_learns 27 = .ok (.getfield 19, 3) := by decide +kernel
theorem dX11_learns_30 : decode cX11_learns 30 = .ok (.iload_n 1, 1) := by decide +kernel
theorem dX11_learns_31 : decode cX11_learns 31 = .ok (.iaload, 1) := by decide +kernel
theorem dX11_learns_32 : decode cX11_learns 32 = .ok (.aload_n 0, 1) := by decide +kernel
theorem dX11_learns_33 : decode cX11_learns 33 = .ok (.getfield 16, 3) := by decide +kernel
theorem dX11_learns_36 : decode cX11_learns 36 = .ok (.iload_n 1, 1) := by decide +kernel
theorem dX11_learns_37 : decode cX11_learns 37 = .ok (.iaload, 1) := by decide +kernel
theorem dX11_learns_38 : decode cX11_learns 38 = .ok (.ior, 1) := by decide +kernel
theorem dX11_learns_39 : decode cX11_learns 39 = .ok (.goto 9, 3) := by decide +kernel
theorem dX11_learns_42 : decode cX11_learns 42 = .ok (.aload_n 0, 1) := by decide +kernel
theorem dX11_learns_43 : decode cX11_learns 43 = .ok (.getfield 19, 3) := by decide +kernel
theorem dX11_learns_46 : decode cX11_learns 46 = .ok (.iload_n 1, 1) := by decide +kernel
theorem dX11_learns_47 : decode cX11_learns 47 = .ok (.iaload, 1) := by decide +kernel
theorem dX11_learns_48 : decode cX11_learns 48 = .ok (.ireturn, 1) := by decide +kernel
theorem dX11_asks_0 : decode cX11_asks 0 = .ok (.aload_n 0, 1) := by decide +kernel
theorem dX11_asks_1 : decode cX11_asks 1 = .ok (.getfield 13, 3) := by decide +kernel
theorem dX11_asks_4 : decode cX11_asks 4 = .ok (.iload_n 1, 1) := by decide +kernel
theorem dX11_asks_5 : decode cX11_asks 5 = .ok (.iaload, 1) := by decide +kernel
theorem dX11_asks_6 : decode cX11_asks 6 = .ok (.iconst 5, 1) := by decide +kernel
theorem dX11_asks_7 : decode cX11_asks 7 = .ok (.if_icmp .ne 7, 3) := by decide +kernel
theorem dX11_asks_10 : decode cX11_asks 10 = .ok (.iconst 0, 1) := by decide +kernel
theorem dX11_asks_11 : decode cX11_asks 11 = .ok (.goto 9, 3) := by decide +kernel
theorem dX11_asks_14 : decode cX11_asks 14 = .ok (.aload_n 0, 1) := by decide +kernel
theorem dX11_asks_15 : decode cX11_asks 15 = .ok (.getfield 16, 3) := by decide +kernel
theorem dX11_asks_18 : decode cX11_asks 18 = .ok (.iload_n 1, 1) := by decide +kernel
theorem dX11_asks_19 : decode cX11_asks 19 = .ok (.iaload, 1) := by decide +kernel
theorem dX11_asks_20 : decode cX11_asks 20 = .ok (.ireturn, 1) := by decide +kernel
theorem dX11_lives_0 : decode cX11_lives 0 = .ok (.iconst 0, 1) := by decide +kernel
theorem dX11_lives_1 : decode cX11_lives 1 = .ok (.istore_n 2, 1) := by decide +kernel
theorem dX11_lives_2 : decode cX11_lives 2 = .ok (.iconst 0, 1) := by decide +kernel
theorem dX11_lives_3 : decode cX11_lives 3 = .ok (.istore_n 3, 1) := by decide +kernel
theorem dX11_lives_4 : decode cX11_lives 4 = .ok (.iload_n 3, 1) := by decide +kernel
theorem dX11_lives_5 : decode cX11_lives 5 = .ok (.aload_n 0, 1) := by decide +kernel
theorem dX11_lives_6 : decode cX11_lives 6 = .ok (.getfield 93, 3) := by decide +kernel
theorem dX11_lives_9 : decode cX11_lives 9 = .ok (.if_icmp .ge 37, 3) := by decide +kernel
theorem dX11_lives_12 : decode cX11_lives 12 = .ok (.aload_n 0, 1) := by decide +kernel
theorem dX11_lives_13 : decode cX11_lives 13 = .ok (.getfield 46, 3) := by decide +kernel
theorem dX11_lives_16 : decode cX11_lives 16 = .ok (.aload_n 1, 1) := by decide +kernel
theorem dX11_lives_17 : decode cX11_lives 17 = .ok (.iload_n 3, 1) := by decide +kernel
theorem dX11_lives_18 : decode cX11_lives 18 = .ok (.iaload, 1) := by decide +kernel
theorem dX11_lives_19 : decode cX11_lives 19 = .ok (.iload_n 2, 1) := by decide +kernel
theorem dX11_lives_20 : decode cX11_lives 20 = .ok (.iastore, 1) := by decide +kernel
theorem dX11_lives_21 : decode cX11_lives 21 = .ok (.aload_n 0, 1) := by decide +kernel
theorem dX11_lives_22 : decode cX11_lives 22 = .ok (.getfield 55, 3) := by decide +kernel
theorem dX11_lives_25 : decode cX11_lives 25 = .ok (.aload_n 1, 1) := by decide +kernel
theorem dX11_lives_26 : decode cX11_lives 26 = .ok (.iload_n 3, 1) := by decide +kernel
theorem dX11_lives_27 : decode cX11_lives 27 = .ok (.iaload, 1) := by decide +kernel
theorem dX11_lives_28 : decode cX11_lives 28 = .ok (.iload_n 3, 1) := by decide +kernel
theorem dX11_lives_29 : decode cX11_lives 29 = .ok (.iastore, 1) := by decide +kernel
theorem dX11_lives_30 : decode cX11_lives 30 = .ok (.iload_n 2, 1) := by decide +kernel
theorem dX11_lives_31 : decode cX11_lives 31 = .ok (.aload_n 0, 1) := by decide +kernel
theorem dX11_lives_32 : decode cX11_lives 32 = .ok (.aload_n 1, 1) := by decide +kernel
theorem dX11_lives_33 : decode cX11_lives 33 = .ok (.iload_n 3, 1) := by decide +kernel
theorem dX11_lives_34 : decode cX11_lives 34 = .ok (.iaload, 1) := by decide +kernel
theorem dX11_lives_35 : decode cX11_lives 35 = .ok (.invokevirtual 161, 3) := by decide +kernel
theorem dX11_lives_38 : decode cX11_lives 38 = .ok (.ior, 1) := by decide +kernel
theorem dX11_lives_39 : decode cX11_lives 39 = .ok (.istore_n 2, 1) := by decide +kernel
theorem dX11_lives_40 : decode cX11_lives 40 = .ok (.iinc 3 1, 3) := by decide +kernel
theorem dX11_lives_43 : decode cX11_lives 43 = .ok (.goto (-39), 3) := by decide +kernel
theorem dX11_lives_46 : decode cX11_lives 46 = .ok (.aload_n 0, 1) := by decide +kernel
theorem dX11_lives_47 : decode cX11_lives 47 = .ok (.iconst 0, 1) := by decide +kernel
theorem dX11_lives_48 : decode cX11_lives 48 = .ok (.putfield 164, 3) := by decide +kernel
theorem dX11_lives_51 : decode cX11_lives 51 = .ok (.iconst 0, 1) := by decide +kernel
theorem dX11_lives_52 : decode cX11_lives 52 = .ok (.istore_n 3, 1) := by decide +kernel
theorem dX11_lives_53 : decode cX11_lives 53 = .ok (.iload_n 3, 1) := by decide +kernel
theorem dX11_lives_54 : decode cX11_lives 54 = .ok (.aload_n 0, 1) := by decide +kernel
theorem dX11_lives_55 : decode cX11_lives 55 = .ok (.getfield 93, 3) := by decide +kernel
theorem dX11_lives_58 : decode cX11_lives 58 = .ok (.if_icmp .ge 179, 3) := by decide +kernel
theorem dX11_lives_61 : decode cX11_lives 61 = .ok (.iconst 0, 1) := by decide +kernel
theorem dX11_lives_62 : decode cX11_lives 62 = .ok (.istore 4, 2) := by decide +kernel
theorem dX11_lives_64 : decode cX11_lives 64 = .ok (.iconst 0, 1) := by decide +kernel
theorem dX11_lives_65 : decode cX11_lives 65 = .ok (.istore 5, 2) := by decide +kernel
theorem dX11_lives_67 : decode cX11_lives 67 = .ok (.iload 5, 2) := by decide +kernel
theorem dX11_lives_69 : decode cX11_lives 69 = .ok (.aload_n 0, 1) := by decide +kernel
theorem dX11_lives_70 : decode cX11_lives 70 = .ok (.getfield 103, 3) := by decide +kernel
theorem dX11_lives_73 : decode cX11_lives 73 = .ok (.if_icmp .ge 104, 3) := by decide +kernel
theorem dX11_lives_76 : decode cX11_lives 76 = .ok (.aload_n 0, 1) := by decide +kernel
theorem dX11_lives_77 : decode cX11_lives 77 = .ok (.getfield 13, 3) := by decide +kernel
theorem dX11_lives_80 : decode cX11_lives 80 = .ok (.iload_n 3, 1) := by decide +kernel
theorem dX11_lives_81 : decode cX11_lives 81 = .ok (.iaload, 1) := by decide +kernel
theorem dX11_lives_82 : decode cX11_lives 82 = .ok (.iconst 1, 1) := by decide +kernel
theorem dX11_lives_83 : decode cX11_lives 83 = .ok (.if_icmp .eq 94, 3) := by decide +kernel
theorem dX11_lives_86 : decode cX11_lives 86 = .ok (.aload_n 0, 1) := by decide +kernel
theorem dX11_lives_87 : decode cX11_lives 87 = .ok (.getfield 13, 3) := by decide +kernel
theorem dX11_lives_90 : decode cX11_lives 90 = .ok (.iload_n 3, 1) := by decide +kernel
theorem dX11_lives_91 : decode cX11_lives 91 = .ok (.iaload, 1) := by decide +kernel
theorem dX11_lives_92 : decode cX11_lives 92 = .ok (.iconst 4, 1) := by decide +kernel
theorem dX11_lives_93 : decode cX11_lives 93 = .ok (.if_icmp .eq 84, 3) := by decide +kernel
theorem dX11_lives_96 : decode cX11_lives 96 = .ok (.aload_n 0, 1) := by decide +kernel
theorem dX11_lives_97 : decode cX11_lives 97 = .ok (.getfield 28, 3) := by decide +kernel
theorem dX11_lives_100 : decode cX11_lives 100 = .ok (.iload 5, 2) := by decide +kernel
theorem dX11_lives_102 : decode cX11_lives 102 = .ok (.iaload, 1) := by decide +kernel
theorem dX11_lives_103 : decode cX11_lives 103 = .ok (.istore 6, 2) := by decide +kernel
theorem dX11_lives_105 : decode cX11_lives 105 = .ok (.aload_n 0, 1) := by decide +kernel
theorem dX11_lives_106 : decode cX11_lives 106 = .ok (.getfield 13, 3) := by decide +kernel
theorem dX11_lives_109 : decode cX11_lives 109 = .ok (.iload 6, 2) := by decide +kernel
theorem dX11_lives_111 : decode cX11_lives 111 = .ok (.iaload, 1) := by decide +kernel
theorem dX11_lives_112 : decode cX11_lives 112 = .ok (.iconst 3, 1) := by decide +kernel
theorem dX11_lives_113 : decode cX11_lives 113 = .ok (.if_icmp .eq 18, 3) := by decide +kernel
theorem dX11_lives_116 : decode cX11_lives 116 = .ok (.aload_n 0, 1) := by decide +kernel
theorem dX11_lives_117 : decode cX11_lives 117 = .ok (.getfield 13, 3) := by decide +kernel
theorem dX11_lives_120 : decode cX11_lives 120 = .ok (.iload 6, 2) := by decide +kernel
theorem dX11_lives_122 : decode cX11_lives 122 = .ok (.iaload, 1) := by decide +kernel
theorem dX11_lives_123 : decode cX11_lives 123 = .ok (.iconst 5, 1) := by decide +kernel
theorem dX11_lives_124 : decode cX11_lives 124 = .ok (.if_icmp .eq 7, 3) := by decide +kernel
theorem dX11_lives_127 : decode cX11_lives 127 = .ok (.iconst 1, 1) := by decide +kernel
theorem dX11_lives_128 : decode cX11_lives 128 = .ok (.goto 4, 3) := by decide +kernel
theorem dX11_lives_131 : decode cX11_lives 131 = .ok (.iconst 0, 1) := by decide +kernel
theorem dX11_lives_132 : decode cX11_lives 132 = .ok (.istore 7, 2) := by decide +kernel
theorem dX11_lives_134 : decode cX11_lives 134 = .ok (.iload 4, 2) := by decide +kernel
theorem dX11_lives_136 : decode cX11_lives 136 = .ok (.iload 6, 2) := by decide +kernel
theorem dX11_lives_138 : decode cX11_lives 138 = .ok (.iload_n 3, 1) := by decide +kernel
theorem dX11_lives_139 : decode cX11_lives 139 = .ok (.if_icmp .ge 28, 3) := by decide +kernel
theorem dX11_lives_142 : decode cX11_lives 142 = .ok (.iload 7, 2) := by decide +kernel
theorem dX11_lives_144 : decode cX11_lives 144 = .ok (.ifCond .eq 23, 3) := by decide +kernel
theorem dX11_lives_147 : decode cX11_lives 147 = .ok (.aload_n 0, 1) := by decide +kernel
theorem dX11_lives_148 : decode cX11_lives 148 = .ok (.getfield 52, 3) := by decide +kernel
theorem dX11_lives_151 : decode cX11_lives 151 = .ok (.iload 6, 2) := by decide +kernel
theorem dX11_lives_153 : decode cX11_lives 153 = .ok (.iaload, 1) := by decide +kernel
theorem dX11_lives_154 : decode cX11_lives 154 = .ok (.iconst 1, 1) := by decide +kernel
theorem dX11_lives_155 : decode cX11_lives 155 = .ok (.aload_n 0, 1) := by decide +kernel
theorem dX11_lives_156 : decode cX11_lives 156 = .ok (.getfield 31, 3) := by decide +kernel
theorem dX11_lives_159 : decode cX11_lives 159 = .ok (.iload 5, 2) := by decide +kernel
theorem dX11_lives_161 : decode cX11_lives 161 = .ok (.iaload, 1) := by decide +kernel
theorem dX11_lives_162 : decode cX11_lives 162 = .ok (.ishl, 1) := by decide +kernel
theorem dX11_lives_163 : decode cX11_lives 163 = .ok (.iand, 1) := by decide +kernel
theorem dX11_lives_164 : decode cX11_lives 164 = .ok (.goto 4, 3) := by decide +kernel
theorem dX11_lives_167 : decode cX11_lives 167 = .ok (.iconst 0, 1) := by decide +kernel
theorem dX11_lives_168 : decode cX11_lives 168 = .ok (.ior, 1) := by decide +kernel
theorem dX11_lives_169 : decode cX11_lives 169 = .ok (.istore 4, 2) := by decide +kernel
theorem dX11_lives_171 : decode cX11_lives 171 = .ok (.iinc 5 1, 3) := by decide +kernel
theorem dX11_lives_174 : decode cX11_lives 174 = .ok (.goto (-107), 3) := by decide +kernel
theorem dX11_lives_177 : decode cX11_lives 177 = .ok (.aload_n 0, 1) := by decide +kernel
theorem dX11_lives_178 : decode cX11_lives 178 = .ok (.getfield 49, 3) := by decide +kernel
theorem dX11_lives_181 : decode cX11_lives 181 = .ok (.iload_n 3, 1) := by decide +kernel
theorem dX11_lives_182 : decode cX11_lives 182 = .ok (.iload 4, 2) := by decide +kernel
theorem dX11_lives_184 : decode cX11_lives 184 = .ok (.iastore, 1) := by decide +kernel
theorem dX11_lives_185 : decode cX11_lives 185 = .ok (.aload_n 0, 1) := by decide +kernel
theorem dX11_lives_186 : decode cX11_lives 186 = .ok (.getfield 52, 3) := by decide +kernel
theorem dX11_lives_189 : decode cX11_lives 189 = .ok (.iload_n 3, 1) := by decide +kernel
theorem dX11_lives_190 : decode cX11_lives 190 = .ok (.aload_n 0, 1) := by decide +kernel
theorem dX11_lives_191 : decode cX11_lives 191 = .ok (.getfield 46, 3) := by decide +kernel
theorem dX11_lives_194 : decode cX11_lives 194 = .ok (.iload_n 3, 1) := by decide +kernel
theorem dX11_lives_195 : decode cX11_lives 195 = .ok (.iaload, 1) := by decide +kernel
theorem dX11_lives_196 : decode cX11_lives 196 = .ok (.iload 4, 2) := by decide +kernel
theorem dX11_lives_198 : decode cX11_lives 198 = .ok (.ior, 1) := by decide +kernel
theorem dX11_lives_199 : decode cX11_lives 199 = .ok (.iastore, 1) := by decide +kernel
theorem dX11_lives_200 : decode cX11_lives 200 = .ok (.aload_n 0, 1) := by decide +kernel
theorem dX11_lives_201 : decode cX11_lives 201 = .ok (.dup, 1) := by decide +kernel
theorem dX11_lives_202 : decode cX11_lives 202 = .ok (.getfield 164, 3) := by decide +kernel
theorem dX11_lives_205 : decode cX11_lives 205 = .ok (.aload_n 0, 1) := by decide +kernel
theorem dX11_lives_206 : decode cX11_lives 206 = .ok (.iload_n 3, 1) := by decide +kernel
theorem dX11_lives_207 : decode cX11_lives 207 = .ok (.invokevirtual 167, 3) := by decide +kernel
theorem dX11_lives_210 : decode cX11_lives 210 = .ok (.aload_n 0, 1) := by decide +kernel
theorem dX11_lives_211 : decode cX11_lives 211 = .ok (.getfield 52, 3) := by decide +kernel
theorem dX11_lives_214 : decode cX11_lives 214 = .ok (.iload_n 3, 1) := by decide +kernel
theorem dX11_lives_215 : decode cX11_lives 215 = .ok (.iaload, 1) := by decide +kernel
theorem dX11_lives_216 : decode cX11_lives 216 = .ok (.iconst (-1), 1) := by decide +kernel
theorem dX11_lives_217 : decode cX11_lives 217 = .ok (.ixor, 1) := by decide +kernel
theorem dX11_lives_218 : decode cX11_lives 218 = .ok (.iand, 1) := by decide +kernel
theorem dX11_lives_219 : decode cX11_lives 219 = .ok (.ifCond .ne 7, 3) := by decide +kernel
theorem dX11_lives_222 : decode cX11_lives 222 = .ok (.iconst 1, 1) := by decide +kernel
theorem dX11_lives_223 : decode cX11_lives 223 = .ok (.goto 4, 3) := by decide +kernel
theorem dX11_lives_226 : decode cX11_lives 226 = .ok (.iconst 0, 1) := by decide +kernel
theorem dX11_lives_227 : decode cX11_lives 227 = .ok (.iadd, 1) := by decide +kernel
theorem dX11_lives_228 : decode cX11_lives 228 = .ok (.putfield 164, 3) := by decide +kernel
theorem dX11_lives_231 : decode cX11_lives 231 = .ok (.iinc 3 1, 3) := by decide +kernel
theorem dX11_lives_234 : decode cX11_lives 234 = .ok (.goto (-181), 3) := by decide +kernel
theorem dX11_lives_237 : decode cX11_lives 237 = .ok (.return_, 1) := by decide +kernel
theorem dX11_lived_0 : decode cX11_lived 0 = .ok (.aload_n 0, 1) := by decide +kernel
theorem dX11_lived_1 : decode cX11_lived 1 = .ok (.iload_n 1, 1) := by decide +kernel
theorem dX11_lived_2 : decode cX11_lived 2 = .ok (.invokevirtual 124, 3) := by decide +kernel
theorem dX11_lived_5 : decode cX11_lived 5 = .ok (.ifCond .eq 12, 3) := by decide +kernel
theorem dX11_lived_8 : decode cX11_lived 8 = .ok (.aload_n 0, 1) := by decide +kernel
theorem dX11_lived_9 : decode cX11_lived 9 = .ok (.getfield 25, 3) := by decide +kernel
theorem dX11_lived_12 : decode cX11_lived 12 = .ok (.iload_n 1, 1) := by decide +kernel
theorem dX11_lived_13 : decode cX11_lived 13 = .ok (.iaload, 1) := by decide +kernel
theorem dX11_lived_14 : decode cX11_lived 14 = .ok (.goto 9, 3) := by decide +kernel
theorem dX11_lived_17 : decode cX11_lived 17 = .ok (.aload_n 0, 1) := by decide +kernel
theorem dX11_lived_18 : decode cX11_lived 18 = .ok (.bipush (-2), 2) := by decide +kernel
theorem dX11_lived_20 : decode cX11_lived 20 = .ok (.invokevirtual 120, 3) := by decide +kernel
theorem dX11_lived_23 : decode cX11_lived 23 = .ok (.ireturn, 1) := by decide +kernel
theorem dX11_knows_0 : decode cX11_knows 0 = .ok (.aload_n 0, 1) := by decide +kernel
theorem dX11_knows_1 : decode cX11_knows 1 = .ok (.iload_n 1, 1) := by decide +kernel
theorem dX11_knows_2 : decode cX11_knows 2 = .ok (.invokevirtual 124, 3) := by decide +kernel
theorem dX11_knows_5 : decode cX11_knows 5 = .ok (.ifCond .ne 10, 3) := by decide +kernel
theorem dX11_knows_8 : decode cX11_knows 8 = .ok (.aload_n 0, 1) := by decide +kernel
theorem dX11_knows_9 : decode cX11_knows 9 = .ok (.bipush (-2), 2) := by decide +kernel
theorem dX11_knows_11 : decode cX11_knows 11 = .ok (.invokevirtual 120, 3) := by decide +kernel
theorem dX11_knows_14 : decode cX11_knows 14 = .ok (.ireturn, 1) := by decide +kernel
theorem dX11_knows_15 : decode cX11_knows 15 = .ok (.aload_n 0, 1) := by decide +kernel
theorem dX11_knows_16 : decode cX11_knows 16 = .ok (.aload_n 0, 1) := by decide +kernel
theorem dX11_knows_17 : decode cX11_knows 17 = .ok (.getfield 25, 3) := by decide +kernel
theorem dX11_knows_20 : decode cX11_knows 20 = .ok (.invokevirtual 170, 3) := by decide +kernel
theorem dX11_knows_23 : decode cX11_knows 23 = .ok (.aload_n 0, 1) := by decide +kernel
theorem dX11_knows_24 : decode cX11_knows 24 = .ok (.getfield 52, 3) := by decide +kernel
theorem dX11_knows_27 : decode cX11_knows 27 = .ok (.iload_n 1, 1) := by decide +kernel
theorem dX11_knows_28 : decode cX11_knows 28 = .ok (.iaload, 1) := by decide +kernel
theorem dX11_knows_29 : decode cX11_knows 29 = .ok (.ireturn, 1) := by decide +kernel
theorem dX11_reads_0 : decode cX11_reads 0 = .ok (.aload_n 0, 1) := by decide +kernel
theorem dX11_reads_1 : decode cX11_reads 1 = .ok (.iload_n 1, 1) := by decide +kernel
theorem dX11_reads_2 : decode cX11_reads 2 = .ok (.invokevirtual 124, 3) := by decide +kernel
theorem dX11_reads_5 : decode cX11_reads 5 = .ok (.ifCond .ne 10, 3) := by decide +kernel
theorem dX11_reads_8 : decode cX11_reads 8 = .ok (.aload_n 0, 1) := by decide +kernel
theorem dX11_reads_9 : decode cX11_reads 9 = .ok (.bipush (-2), 2) := by decide +kernel
theorem dX11_reads_11 : decode cX11_reads 11 = .ok (.invokevirtual 120, 3) := by decide +kernel
theorem dX11_reads_14 : decode cX11_reads 14 = .ok (.ireturn, 1) := by decide +kernel
theorem dX11_reads_15 : decode cX11_reads 15 = .ok (.aload_n 0, 1) := by decide +kernel
theorem dX11_reads_16 : decode cX11_reads 16 = .ok (.aload_n 0, 1) := by decide +kernel
theorem dX11_reads_17 : decode cX11_reads 17 = .ok (.getfield 25, 3) := by decide +kernel
theorem dX11_reads_20 : decode cX11_reads 20 = .ok (.invokevirtual 170, 3) := by decide +kernel
theorem dX11_reads_23 : decode cX11_reads 23 = .ok (.aload_n 0, 1) := by decide +kernel
theorem dX11_reads_24 : decode cX11_reads 24 = .ok (.getfield 49, 3) := by decide +kernel
theorem dX11_reads_27 : decode cX11_reads 27 = .ok (.iload_n 1, 1) := by decide +kernel
theorem dX11_reads_28 : decode cX11_reads 28 = .ok (.iaload, 1) := by decide +kernel
theorem dX11_reads_29 : decode cX11_reads 29 = .ok (.ireturn, 1) := by decide +kernel
theorem dX11_missing_0 : decode cX11_missing 0 = .ok (.aload_n 0, 1) := by decide +kernel
theorem dX11_missing_1 : decode cX11_missing 1 = .ok (.iload_n 1, 1) := by decide +kernel
theorem dX11_missing_2 : decode cX11_missing 2 = .ok (.invokevirtual 124, 3) := by decide +kernel
theorem dX11_missing_5 : decode cX11_missing 5 = .ok (.ifCond .ne 10, 3) := by decide +kernel
theorem dX11_missing_8 : decode cX11_missing 8 = .ok (.aload_n 0, 1) := by decide +kernel
theorem dX11_missing_9 : decode cX11_missing 9 = .ok (.bipush (-2), 2) := by decide +kernel
theorem dX11_missing_11 : decode cX11_missing 11 = .ok (.invokevirtual 120, 3) := by decide +kernel
theorem dX11_missing_14 : decode cX11_missing 14 = .ok (.ireturn, 1) := by decide +kernel
theorem dX11_missing_15 : decode cX11_missing 15 = .ok (.aload_n 0, 1) := by decide +kernel
theorem dX11_missing_16 : decode cX11_missing 16 = .ok (.aload_n 0, 1) := by decide +kernel
theorem dX11_missing_17 : decode cX11_missing 17 = .ok (.getfield 25, 3) := by decide +kernel
theorem dX11_missing_20 : decode cX11_missing 20 = .ok (.invokevirtual 170, 3) := by decide +kernel
theorem dX11_missing_23 : decode cX11_missing 23 = .ok (.aload_n 0, 1) := by decide +kernel
theorem dX11_missing_24 : decode cX11_missing 24 = .ok (.iload_n 1, 1) := by decide +kernel
theorem dX11_missing_25 : decode cX11_missing 25 = .ok (.invokevirtual 167, 3) := by decide +kernel
theorem dX11_missing_28 : decode cX11_missing 28 = .ok (.aload_n 0, 1) := by decide +kernel
theorem dX11_missing_29 : decode cX11_missing 29 = .ok (.getfield 52, 3) := by decide +kernel
theorem dX11_missing_32 : decode cX11_missing 32 = .ok (.iload_n 1, 1) := by decide +kernel
theorem dX11_missing_33 : decode cX11_missing 33 = .ok (.iaload, 1) := by decide +kernel
theorem dX11_missing_34 : decode cX11_missing 34 = .ok (.iconst (-1), 1) := by decide +kernel
theorem dX11_missing_35 : decode cX11_missing 35 = .ok (.ixor, 1) := by decide +kernel
theorem dX11_missing_36 : decode cX11_missing 36 = .ok (.iand, 1) := by decide +kernel
theorem dX11_missing_37 : decode cX11_missing 37 = .ok (.ireturn, 1) := by decide +kernel
theorem dX11_first_0 : decode cX11_first 0 = .ok (.iload_n 1, 1) := by decide +kernel
theorem dX11_first_1 : decode cX11_first 1 = .ok (.i2l, 1) := by decide +kernel
theorem dX11_first_2 : decode cX11_first 2 = .ok (.lconst 0, 1) := by decide +kernel
theorem dX11_first_3 : decode cX11_first 3 = .ok (.lconst 1, 1) := by decide +kernel
theorem dX11_first_4 : decode cX11_first 4 = .ok (.invokestatic 97, 3) := by decide +kernel
theorem dX11_first_7 : decode cX11_first 7 = .ok (.ifCond .ne 10, 3) := by decide +kernel
theorem dX11_first_10 : decode cX11_first 10 = .ok (.aload_n 0, 1) := by decide +kernel
theorem dX11_first_11 : decode cX11_first 11 = .ok (.bipush (-2), 2) := by decide +kernel
theorem dX11_first_13 : decode cX11_first 13 = .ok (.invokevirtual 120, 3) := by decide +kernel
theorem dX11_first_16 : decode cX11_first 16 = .ok (.ireturn, 1) := by decide +kernel
theorem dX11_first_17 : decode cX11_first 17 = .ok (.aload_n 0, 1) := by decide +kernel
theorem dX11_first_18 : decode cX11_first 18 = .ok (.aload_n 0, 1) := by decide +kernel
theorem dX11_first_19 : decode cX11_first 19 = .ok (.getfield 25, 3) := by decide +kernel
theorem dX11_first_22 : decode cX11_first 22 = .ok (.invokevirtual 170, 3) := by decide +kernel
theorem dX11_first_25 : decode cX11_first 25 = .ok (.iconst (-1), 1) := by decide +kernel
theorem dX11_first_26 : decode cX11_first 26 = .ok (.istore_n 2, 1) := by decide +kernel
theorem dX11_first_27 : decode cX11_first 27 = .ok (.aload_n 0, 1) := by decide +kernel
theorem dX11_first_28 : decode cX11_first 28 = .ok (.getfield 93, 3) := by decide +kernel
theorem dX11_first_31 : decode cX11_first 31 = .ok (.iconst 1, 1) := by decide +kernel
theorem dX11_first_32 : decode cX11_first 32 = .ok (.isub, 1) := by decide +kernel
theorem dX11_first_33 : decode cX11_first 33 = .ok (.istore_n 3, 1) := by decide +kernel
theorem dX11_first_34 : decode cX11_first 34 = .ok (.iload_n 3, 1) := by decide +kernel
theorem dX11_first_35 : decode cX11_first 35 = .ok (.ifCond .lt 47, 3) := by decide +kernel
theorem dX11_first_38 : decode cX11_first 38 = .ok (.aload_n 0, 1) := by decide +kernel
theorem dX11_first_39 : decode cX11_first 39 = .ok (.aload_n 0, 1) := by decide +kernel
theorem dX11_first_40 : decode cX11_first 40 = .ok (.getfield 25, 3) := by decide +kernel
theorem dX11_first_43 : decode cX11_first 43 = .ok (.iload_n 3, 1) := by decide +kernel
theorem dX11_first_44 : decode cX11_first 44 = .ok (.iaload, 1) := by decide +kernel
theorem dX11_first_45 : decode cX11_first 45 = .ok (.invokevirtual 167, 3) := by decide +kernel
theorem dX11_first_48 : decode cX11_first 48 = .ok (.aload_n 0, 1) := by decide +kernel
theorem dX11_first_49 : decode cX11_first 49 = .ok (.getfield 52, 3) := by decide +kernel
theorem dX11_first_52 : decode cX11_first 52 = .ok (.aload_n 0, 1) := by decide +kernel
theorem dX11_first_53 : decode cX11_first 53 = .ok (.getfield 25, 3) := by decide +kernel
theorem dX11_first_56 : decode cX11_first 56 = .ok (.iload_n 3, 1) := by decide +kernel
theorem dX11_first_57 : decode cX11_first 57 = .ok (.iaload, 1) := by decide +kernel
theorem dX11_first_58 : decode cX11_first 58 = .ok (.iaload, 1) := by decide +kernel
theorem dX11_first_59 : decode cX11_first 59 = .ok (.iconst (-1), 1) := by decide +kernel
theorem dX11_first_60 : decode cX11_first 60 = .ok (.ixor, 1) := by decide +kernel
theorem dX11_first_61 : decode cX11_first 61 = .ok (.iand, 1) := by decide +kernel
theorem dX11_first_62 : decode cX11_first 62 = .ok (.ifCond .ne 7, 3) := by decide +kernel
theorem dX11_first_65 : decode cX11_first 65 = .ok (.iload_n 2, 1) := by decide +kernel
theorem dX11_first_66 : decode cX11_first 66 = .ok (.goto 9, 3) := by decide +kernel
theorem dX11_first_69 : decode cX11_first 69 = .ok (.aload_n 0, 1) := by decide +kernel
theorem dX11_first_70 : decode cX11_first 70 = .ok (.getfield 25, 3) := by decide +kernel
theorem dX11_first_73 : decode cX11_first 73 = .ok (.iload_n 3, 1) := by decide +kernel
theorem dX11_first_74 : decode cX11_first 74 = .ok (.iaload, 1) := by decide +kernel
theorem dX11_first_75 : decode cX11_first 75 = .ok (.istore_n 2, 1) := by decide +kernel
theorem dX11_first_76 : decode cX11_first 76 = .ok (.iinc 3 (-1), 3) := by decide +kernel
theorem dX11_first_79 : decode cX11_first 79 = .ok (.goto (-45), 3) := by decide +kernel
theorem dX11_first_82 : decode cX11_first 82 = .ok (.iload_n 1, 1) := by decide +kernel
theorem dX11_first_83 : decode cX11_first 83 = .ok (.ifCond .ne 7, 3) := by decide +kernel
theorem dX11_first_86 : decode cX11_first 86 = .ok (.iload_n 2, 1) := by decide +kernel
theorem dX11_first_87 : decode cX11_first 87 = .ok (.goto 7, 3) := by decide +kernel
theorem dX11_first_90 : decode cX11_first 90 = .ok (.aload_n 0, 1) := by decide +kernel
theorem dX11_first_91 : decode cX11_first 91 = .ok (.getfield 164, 3) := by decide +kernel
theorem dX11_first_94 : decode cX11_first 94 = .ok (.ireturn, 1) := by decide +kernel
theorem dX11_cards_0 : decode cX11_cards 0 = .ok (.aload_n 0, 1) := by decide +kernel
theorem dX11_cards_1 : decode cX11_cards 1 = .ok (.iload_n 1, 1) := by decide +kernel
theorem dX11_cards_2 : decode cX11_cards 2 = .ok (.invokevirtual 124, 3) := by decide +kernel
theorem dX11_cards_5 : decode cX11_cards 5 = .ok (.ifCond .ne 10, 3) := by decide +kernel
theorem dX11_cards_8 : decode cX11_cards 8 = .ok (.aload_n 0, 1) := by decide +kernel
theorem dX11_cards_9 : decode cX11_cards 9 = .ok (.bipush (-2), 2) := by decide +kernel
theorem dX11_cards_11 : decode cX11_cards 11 = .ok (.invokevirtual 120, 3) := by decide +kernel
theorem dX11_cards_14 : decode cX11_cards 14 = .ok (.ireturn, 1) := by decide +kernel
theorem dX11_cards_15 : decode cX11_cards 15 = .ok (.aload_n 0, 1) := by decide +kernel
theorem dX11_cards_16 : decode cX11_cards 16 = .ok (.aload_n 0, 1) := by decide +kernel
theorem dX11_cards_17 : decode cX11_cards 17 = .ok (.getfield 25, 3) := by decide +kernel
theorem dX11_cards_20 : decode cX11_cards 20 = .ok (.invokevirtual 170, 3) := by decide +kernel
theorem dX11_cards_23 : decode cX11_cards 23 = .ok (.iconst 0, 1) := by decide +kernel
theorem dX11_cards_24 : decode cX11_cards 24 = .ok (.istore_n 2, 1) := by decide +kernel
theorem dX11_cards_25 : decode cX11_cards 25 = .ok (.iconst 0, 1) := by decide +kernel
theorem dX11_cards_26 : decode cX11_cards 26 = .ok (.istore_n 3, 1) := by decide +kernel
theorem dX11_cards_27 : decode cX11_cards 27 = .ok (.iload_n 3, 1) := by decide +kernel
theorem dX11_cards_28 : decode cX11_cards 28 = .ok (.iload_n 1, 1) := by decide +kernel
theorem dX11_cards_29 : decode cX11_cards 29 = .ok (.if_icmp .ge 18, 3) := by decide +kernel
theorem dX11_cards_32 : decode cX11_cards 32 = .ok (.iload_n 2, 1) := by decide +kernel
theorem dX11_cards_33 : decode cX11_cards 33 = .ok (.aload_n 0, 1) := by decide +kernel
theorem dX11_cards_34 : decode cX11_cards 34 = .ok (.getfield 52, 3) := by decide +kernel
theorem dX11_cards_37 : decode cX11_cards 37 = .ok (.iload_n 3, 1) := by decide +kernel
theorem dX11_cards_38 : decode cX11_cards 38 = .ok (.iaload, 1) := by decide +kernel
theorem dX11_cards_39 : decode cX11_cards 39 = .ok (.ior, 1) := by decide +kernel
theorem dX11_cards_40 : decode cX11_cards 40 = .ok (.istore_n 2, 1) := by decide +kernel
theorem dX11_cards_41 : decode cX11_cards 41 = .ok (.iinc 3 1, 3) := by decide +kernel
theorem dX11_cards_44 : decode cX11_cards 44 = .ok (.goto (-17), 3) := by decide +kernel
theorem dX11_cards_47 : decode cX11_cards 47 = .ok (.iload_n 2, 1) := by decide +kernel
theorem dX11_cards_48 : decode cX11_cards 48 = .ok (.aload_n 0, 1) := by decide +kernel
theorem dX11_cards_49 : decode cX11_cards 49 = .ok (.getfield 52, 3) := by decide +kernel
theorem dX11_cards_52 : decode cX11_cards 52 = .ok (.iload_n 1, 1) := by decide +kernel
theorem dX11_cards_53 : decode cX11_cards 53 = .ok (.iaload, 1) := by decide +kernel
theorem dX11_cards_54 : decode cX11_cards 54 = .ok (.iconst (-1), 1) := by decide +kernel
theorem dX11_cards_55 : decode cX11_cards 55 = .ok (.ixor, 1) := by decide +kernel
theorem dX11_cards_56 : decode cX11_cards 56 = .ok (.iand, 1) := by decide +kernel
theorem dX11_cards_57 : decode cX11_cards 57 = .ok (.ireturn, 1) := by decide +kernel
theorem dX11_isTold_0 : decode cX11_isTold 0 = .ok (.iconst 1, 1) := by decide +kernel
theorem dX11_isTold_1 : decode cX11_isTold 1 = .ok (.istore_n 1, 1) := by decide +kernel
theorem dX11_isTold_2 : decode cX11_isTold 2 = .ok (.iconst 0, 1) := by decide +kernel
theorem dX11_isTold_3 : decode cX11_isTold 3 = .ok (.istore_n 2, 1) := by decide +kernel
theorem dX11_isTold_4 : decode cX11_isTold 4 = .ok (.iload_n 2, 1) := by decide +kernel
theorem dX11_isTold_5 : decode cX11_isTold 5 = .ok (.aload_n 0, 1) := by decide +kernel
theorem dX11_isTold_6 : decode cX11_isTold 6 = .ok (.getfield 106, 3) := by decide +kernel
theorem dX11_isTold_9 : decode cX11_isTold 9 = .ok (.if_icmp .ge 44, 3) := by decide +kernel
theorem dX11_isTold_12 : decode cX11_isTold 12 = .ok (.iload_n 1, 1) := by decide +kernel
theorem dX11_isTold_13 : decode cX11_isTold 13 = .ok (.ifCond .eq 32, 3) := by decide +kernel
theorem dX11_isTold_16 : decode cX11_isTold 16 = .ok (.aload_n 0, 1) := by decide +kernel
theorem dX11_isTold_17 : decode cX11_isTold 17 = .ok (.getfield 55, 3) := by decide +kernel
theorem dX11_isTold_20 : decode cX11_isTold 20 = .ok (.aload_n 0, 1) := by decide +kernel
theorem dX11_isTold_21 : decode cX11_isTold 21 = .ok (.getfield 34, 3) := by decide +kernel
theorem dX11_isTold_24 : decode cX11_isTold 24 = .ok (.iload_n 2, 1) := by decide +kernel
theorem dX11_isTold_25 : decode cX11_isTold 25 = .ok (.iaload, 1) := by decide +kernel
theorem dX11_isTold_26 : decode cX11_isTold 26 = .ok (.iaload, 1) := by decide +kernel
theorem dX11_isTold_27 : decode cX11_isTold 27 = .ok (.aload_n 0, 1) := by decide +kernel
theorem dX11_isTold_28 : decode cX11_isTold 28 = .ok (.getfield 55, 3) := by decide +kernel
theorem dX11_isTold_31 : decode cX11_isTold 31 = .ok (.aload_n 0, 1) := by decide +kernel
theorem dX11_isTold_32 : decode cX11_isTold 32 = .ok (.getfield 37, 3) := by decide +kernel
theorem dX11_isTold_35 : decode cX11_isTold 35 = .ok (.iload_n 2, 1) := by decide +kernel
theorem dX11_isTold_36 : decode cX11_isTold 36 = .ok (.iaload, 1) := by decide +kernel
theorem dX11_isTold_37 : decode cX11_isTold 37 = .ok (.iaload, 1) := by decide +kernel
theorem dX11_isTold_38 : decode cX11_isTold 38 = .ok (.if_icmp .ge 7, 3) := by decide +kernel
theorem dX11_isTold_41 : decode cX11_isTold 41 = .ok (.iconst 1, 1) := by decide +kernel
theorem dX11_isTold_42 : decode cX11_isTold 42 = .ok (.goto 4, 3) := by decide +kernel
theorem dX11_isTold_45 : decode cX11_isTold 45 = .ok (.iconst 0, 1) := by decide +kernel
theorem dX11_isTold_46 : decode cX11_isTold 46 = .ok (.istore_n 1, 1) := by decide +kernel
theorem dX11_isTold_47 : decode cX11_isTold 47 = .ok (.iinc 2 1, 3) := by decide +kernel
theorem dX11_isTold_50 : decode cX11_isTold 50 = .ok (.goto (-46), 3) := by decide +kernel
theorem dX11_isTold_53 : decode cX11_isTold 53 = .ok (.iconst 0, 1) := by decide +kernel
theorem dX11_isTold_54 : decode cX11_isTold 54 = .ok (.istore_n 2, 1) := by decide +kernel
theorem dX11_isTold_55 : decode cX11_isTold 55 = .ok (.iload_n 2, 1) := by decide +kernel
theorem dX11_isTold_56 : decode cX11_isTold 56 = .ok (.aload_n 0, 1) := by decide +kernel
theorem dX11_isTold_57 : decode cX11_isTold 57 = .ok (.getfield 93, 3) := by decide +kernel
theorem dX11_isTold_60 : decode cX11_isTold 60 = .ok (.if_icmp .ge 44, 3) := by decide +kernel
theorem dX11_isTold_63 : decode cX11_isTold 63 = .ok (.iload_n 1, 1) := by decide +kernel
theorem dX11_isTold_64 : decode cX11_isTold 64 = .ok (.ifCond .eq 32, 3) := by decide +kernel
theorem dX11_isTold_67 : decode cX11_isTold 67 = .ok (.aload_n 0, 1) := by decide +kernel
theorem dX11_isTold_68 : decode cX11_isTold 68 = .ok (.getfield 22, 3) := by decide +kernel
theorem dX11_isTold_71 : decode cX11_isTold 71 = .ok (.iload_n 2, 1) := by decide +kernel
theorem dX11_isTold_72 : decode cX11_isTold 72 = .ok (.iaload, 1) := by decide +kernel
theorem dX11_isTold_73 : decode cX11_isTold 73 = .ok (.iconst (-1), 1) := by decide +kernel
theorem dX11_isTold_74 : decode cX11_isTold 74 = .ok (.if_icmp .eq 18, 3) := by decide +kernel
theorem dX11_isTold_77 : decode cX11_isTold 77 = .ok (.aload_n 0, 1) := by decide +kernel
theorem dX11_isTold_78 : decode cX11_isTold 78 = .ok (.getfield 22, 3) := by decide +kernel
theorem dX11_isTold_81 : decode cX11_isTold 81 = .ok (.iload_n 2, 1) := by decide +kernel
theorem dX11_isTold_82 : decode cX11_isTold 82 = .ok (.iaload, 1) := by decide +kernel
theorem dX11_isTold_83 : decode cX11_isTold 83 = .ok (.aload_n 0, 1) := by decide +kernel
theorem dX11_isTold_84 : decode cX11_isTold 84 = .ok (.getfield 55, 3) := by decide +kernel
theorem dX11_isTold_87 : decode cX11_isTold 87 = .ok (.iload_n 2, 1) := by decide +kernel
theorem dX11_isTold_88 : decode cX11_isTold 88 = .ok (.iaload, 1) := by decide +kernel
theorem dX11_isTold_89 : decode cX11_isTold 89 = .ok (.if_icmp .ne 7, 3) := by decide +kernel
theorem dX11_isTold_92 : decode cX11_isTold 92 = .ok (.iconst 1, 1) := by decide +kernel
theorem dX11_isTold_93 : decode cX11_isTold 93 = .ok (.goto 4, 3) := by decide +kernel
theorem dX11_isTold_96 : decode cX11_isTold 96 = .ok (.iconst 0, 1) := by decide +kernel
theorem dX11_isTold_97 : decode cX11_isTold 97 = .ok (.istore_n 1, 1) := by decide +kernel
theorem dX11_isTold_98 : decode cX11_isTold 98 = .ok (.iinc 2 1, 3) := by decide +kernel
theorem dX11_isTold_101 : decode cX11_isTold 101 = .ok (.goto (-46), 3) := by decide +kernel
theorem dX11_isTold_104 : decode cX11_isTold 104 = .ok (.iload_n 1, 1) := by decide +kernel
theorem dX11_isTold_105 : decode cX11_isTold 105 = .ok (.ireturn, 1) := by decide +kernel
theorem dX11_doesHang_0 : decode cX11_doesHang 0 = .ok (.aload_n 0, 1) := by decide +kernel
theorem dX11_doesHang_1 : decode cX11_doesHang 1 = .ok (.getfield 164, 3) := by decide +kernel
theorem dX11_doesHang_4 : decode cX11_doesHang 4 = .ok (.aload_n 0, 1) := by decide +kernel
theorem dX11_doesHang_5 : decode cX11_doesHang 5 = .ok (.getfield 93, 3) := by decide +kernel
theorem dX11_doesHang_8 : decode cX11_doesHang 8 = .ok (.if_icmp .ne 14, 3) := by decide +kernel
theorem dX11_doesHang_11 : decode cX11_doesHang 11 = .ok (.aload_n 0, 1) := by decide +kernel
theorem dX11_doesHang_12 : decode cX11_doesHang 12 = .ok (.invokevirtual 174, 3) := by decide +kernel
theorem dX11_doesHang_15 : decode cX11_doesHang 15 = .ok (.ifCond .eq 7, 3) := by decide +kernel
theorem dX11_doesHang_18 : decode cX11_doesHang 18 = .ok (.iconst 1, 1) := by decide +kernel
theorem dX11_doesHang_19 : decode cX11_doesHang 19 = .ok (.goto 4, 3) := by decide +kernel
theorem dX11_doesHang_22 : decode cX11_doesHang 22 = .ok (.iconst 0, 1) := by decide +kernel
theorem dX11_doesHang_23 : decode cX11_doesHang 23 = .ok (.ireturn, 1) := by decide +kernel
theorem dX11_hang_0 : decode cX11_hang 0 = .ok (.iload_n 1, 1) := by decide +kernel
theorem dX11_hang_1 : decode cX11_hang 1 = .ok (.iconst (-1), 1) := by decide +kernel
theorem dX11_hang_2 : decode cX11_hang 2 = .ok (.if_icmp .ge 10, 3) := by decide +kernel
theorem dX11_hang_5 : decode cX11_hang 5 = .ok (.aload_n 0, 1) := by decide +kernel
theorem dX11_hang_6 : decode cX11_hang 6 = .ok (.bipush (-10), 2) := by decide +kernel
theorem dX11_hang_8 : decode cX11_hang 8 = .ok (.invokevirtual 120, 3) := by decide +kernel
theorem dX11_hang_11 : decode cX11_hang 11 = .ok (.ireturn, 1) := by decide +kernel
theorem dX11_hang_12 : decode cX11_hang 12 = .ok (.iconst 0, 1) := by decide +kernel
theorem dX11_hang_13 : decode cX11_hang 13 = .ok (.istore_n 2, 1) := by decide +kernel
theorem dX11_hang_14 : decode cX11_hang 14 = .ok (.aload_n 0, 1) := by decide +kernel
theorem dX11_hang_15 : decode cX11_hang 15 = .ok (.getfield 58, 3) := by decide +kernel
theorem dX11_hang_18 : decode cX11_hang 18 = .ok (.invokestatic 178, 3) := by decide +kernel
theorem dX11_hang_21 : decode cX11_hang 21 = .ok (.iconst 0, 1) := by decide +kernel
theorem dX11_hang_22 : decode cX11_hang 22 = .ok (.istore_n 3, 1) := by decide +kernel
theorem dX11_hang_23 : decode cX11_hang 23 = .ok (.iload_n 3, 1) := by decide +kernel
theorem dX11_hang_24 : decode cX11_hang 24 = .ok (.aload_n 0, 1) := by decide +kernel
theorem dX11_hang_25 : decode cX11_hang 25 = .ok (.invokevirtual 147, 3) := by decide +kernel
theorem dX11_hang_28 : decode cX11_hang 28 = .ok (.if_icmp .ge 42, 3) := by decide +kernel
theorem dX11_hang_31 : decode cX11_hang 31 = .ok (.aload_n 0, 1) := by decide +kernel
theorem dX11_hang_32 : decode cX11_hang 32 = .ok (.aload_n 0, 1) := by decide +kernel
theorem dX11_hang_33 : decode cX11_hang 33 = .ok (.getfield 58, 3) := by decide +kernel
theorem dX11_hang_36 : decode cX11_hang 36 = .ok (.invokevirtual 170, 3) := by decide +kernel
theorem dX11_hang_39 : decode cX11_hang 39 = .ok (.aload_n 0, 1) := by decide +kernel
theorem dX11_hang_40 : decode cX11_hang 40 = .ok (.invokevirtual 181, 3) := by decide +kernel
theorem dX11_hang_43 : decode cX11_hang 43 = .ok (.ifCond .eq 13, 3) := by decide +kernel
theorem dX11_hang_46 : decode cX11_hang 46 = .ok (.iload_n 2, 1) := by decide +kernel
theorem dX11_hang_47 : decode cX11_hang 47 = .ok (.iload_n 1, 1) := by decide +kernel
theorem dX11_hang_48 : decode cX11_hang 48 = .ok (.if_icmp .ne 5, 3) := by decide +kernel
theorem dX11_hang_51 : decode cX11_hang 51 = .ok (.iload_n 3, 1) := by decide +kernel
theorem dX11_hang_52 : decode cX11_hang 52 = .ok (.ireturn, 1) := by decide +kernel
theorem dX11_hang_53 : decode cX11_hang 53 = .ok (.iinc 2 1, 3) := by decide +kernel
theorem dX11_hang_56 : decode cX11_hang 56 = .ok (.aload_n 0, 1) := by decide +kernel
theorem dX11_hang_57 : decode cX11_hang 57 = .ok (.aload_n 0, 1) := by decide +kernel
theorem dX11_hang_58 : decode cX11_hang 58 = .ok (.getfield 58, 3) := by decide +kernel
theorem dX11_hang_61 : decode cX11_hang 61 = .ok (.invokevirtual 184, 3) := by decide +kernel
theorem dX11_hang_64 : decode cX11_hang 64 = .ok (.iinc 3 1, 3) := by decide +kernel
theorem dX11_hang_67 : decode cX11_hang 67 = .ok (.goto (-44), 3) := by decide +kernel
theorem dX11_hang_70 : decode cX11_hang 70 = .ok (.iload_n 1, 1) := by decide +kernel
theorem dX11_hang_71 : decode cX11_hang 71 = .ok (.iconst (-1), 1) := by decide +kernel
theorem dX11_hang_72 : decode cX11_hang 72 = .ok (.if_icmp .ne 7, 3) := by decide +kernel
theorem dX11_hang_75 : decode cX11_hang 75 = .ok (.iload_n 2, 1) := by decide +kernel
theorem dX11_hang_76 : decode cX11_hang 76 = .ok (.goto 5, 3) := by decide +kernel
theorem dX11_hang_79 : decode cX11_hang 79 = .ok (.bipush (-5), 2) := by decide +kernel
theorem dX11_hang_81 : decode cX11_hang 81 = .ok (.ireturn, 1) := by decide +kernel
theorem dX11_must_0 : decode cX11_must 0 = .ok (.aload_n 0, 1) := by decide +kernel
theorem dX11_must_1 : decode cX11_must 1 = .ok (.iload_n 1, 1) := by decide +kernel
theorem dX11_must_2 : decode cX11_must 2 = .ok (.invokevirtual 124, 3) := by decide +kernel
theorem dX11_must_5 : decode cX11_must 5 = .ok (.ifCond .ne 10, 3) := by decide +kernel
theorem dX11_must_8 : decode cX11_must 8 = .ok (.aload_n 0, 1) := by decide +kernel
theorem dX11_must_9 : decode cX11_must 9 = .ok (.bipush (-2), 2) := by decide +kernel
theorem dX11_must_11 : decode cX11_must 11 = .ok (.invokevirtual 120, 3) := by decide +kernel
theorem dX11_must_14 : decode cX11_must 14 = .ok (.ireturn, 1) := by decide +kernel
theorem dX11_must_15 : decode cX11_must 15 = .ok (.iconst 1, 1) := by decide +kernel
theorem dX11_must_16 : decode cX11_must 16 = .ok (.aload_n 0, 1) := by decide +kernel
theorem dX11_must_17 : decode cX11_must 17 = .ok (.getfield 93, 3) := by decide +kernel
theorem dX11_must_20 : decode cX11_must 20 = .ok (.ishl, 1) := by decide +kernel
theorem dX11_must_21 : decode cX11_must 21 = .ok (.iconst 1, 1) := by decide +kernel
theorem dX11_must_22 : decode cX11_must 22 = .ok (.isub, 1) := by decide +kernel
theorem dX11_must_23 : decode cX11_must 23 = .ok (.istore_n 2, 1) := by decide +kernel
theorem dX11_must_24 : decode cX11_must 24 = .ok (.iconst 0, 1) := by decide +kernel
theorem dX11_must_25 : decode cX11_must 25 = .ok (.istore_n 3, 1) := by decide +kernel
theorem dX11_must_26 : decode cX11_must 26 = .ok (.aload_n 0, 1) := by decide +kernel
theorem dX11_must_27 : decode cX11_must 27 = .ok (.getfield 58, 3) := by decide +kernel
theorem dX11_must_30 : decode cX11_must 30 = .ok (.invokestatic 178, 3) := by decide +kernel
theorem dX11_must_33 : decode cX11_must 33 = .ok (.iconst 0, 1) := by decide +kernel
theorem dX11_must_34 : decode cX11_must 34 = .ok (.istore 4, 2) := by decide +kernel
theorem dX11_must_36 : decode cX11_must 36 = .ok (.iload 4, 2) := by decide +kernel
theorem dX11_must_38 : decode cX11_must 38 = .ok (.aload_n 0, 1) := by decide +kernel
theorem dX11_must_39 : decode cX11_must 39 = .ok (.invokevirtual 147, 3) := by decide +kernel
theorem dX11_must_42 : decode cX11_must 42 = .ok (.if_icmp .ge 81, 3) := by decide +kernel
theorem dX11_must_45 : decode cX11_must 45 = .ok (.aload_n 0, 1) := by decide +kernel
theorem dX11_must_46 : decode cX11_must 46 = .ok (.aload_n 0, 1) := by decide +kernel
theorem dX11_must_47 : decode cX11_must 47 = .ok (.getfield 58, 3) := by decide +kernel
theorem dX11_must_50 : decode cX11_must 50 = .ok (.invokevirtual 170, 3) := by decide +kernel
theorem dX11_must_53 : decode cX11_must 53 = .ok (.aload_n 0, 1) := by decide +kernel
theorem dX11_must_54 : decode cX11_must 54 = .ok (.invokevirtual 181, 3) := by decide +kernel
theorem dX11_must_57 : decode cX11_must 57 = .ok (.ifCond .eq 52, 3) := by decide +kernel
theorem dX11_must_60 : decode cX11_must 60 = .ok (.iconst 1, 1) := by decide +kernel
theorem dX11_must_61 : decode cX11_must 61 = .ok (.istore_n 3, 1) := by decide +kernel
theorem dX11_must_62 : decode cX11_must 62 = .ok (.iconst 0, 1) := by decide +kernel
theorem dX11_must_63 : decode cX11_must 63 = .ok (.istore 5, 2) := by decide +kernel
theorem dX11_must_65 : decode cX11_must 65 = .ok (.iload 5, 2) := by decide +kernel
theorem dX11_must_67 : decode cX11_must 67 = .ok (.aload_n 0, 1) := by decide +kernel
theorem dX11_must_68 : decode cX11_must 68 = .ok (.getfield 93, 3) := by decide +kernel
theorem dX11_must_71 : decode cX11_must 71 = .ok (.if_icmp .ge 38, 3) := by decide +kernel
theorem dX11_must_74 : decode cX11_must 74 = .ok (.iload_n 2, 1) := by decide +kernel
theorem dX11_must_75 : decode cX11_must 75 = .ok (.aload_n 0, 1) := by decide +kernel
theorem dX11_must_76 : decode cX11_must 76 = .ok (.getfield 55, 3) := by decide +kernel
theorem dX11_must_79 : decode cX11_must 79 = .ok (.iload 5, 2) := by decide +kernel
theorem dX11_must_81 : decode cX11_must 81 = .ok (.iaload, 1) := by decide +kernel
theorem dX11_must_82 : decode cX11_must 82 = .ok (.aload_n 0, 1) := by decide +kernel
theorem dX11_must_83 : decode cX11_must 83 = .ok (.getfield 55, 3) := by decide +kernel
theorem dX11_must_86 : decode cX11_must 86 = .ok (.iload_n 1, 1) := by decide +kernel
theorem dX11_must_87 : decode cX11_must 87 = .ok (.iaload, 1) := by decide +kernel
theorem dX11_must_88 : decode cX11_must 88 = .ok (.if_icmp .ge 7, 3) := by decide +kernel
theorem dX11_must_91 : decode cX11_must 91 = .ok (.iconst (-1), 1) := by decide +kernel
theorem dX11_must_92 : decode cX11_must 92 = .ok (.goto 9, 3) := by decide +kernel
theorem dX11_must_95 : decode cX11_must 95 = .ok (.iconst 1, 1) := by decide +kernel
theorem dX11_must_96 : decode cX11_must 96 = .ok (.iload 5, 2) := by decide +kernel
theorem dX11_must_98 : decode cX11_must 98 = .ok (.ishl, 1) := by decide +kernel
theorem dX11_must_99 : decode cX11_must 99 = .ok (.iconst (-1), 1) := by decide +kernel
theorem dX11_must_100 : decode cX11_must 100 = .ok (.ixor, 1) := by decide +kernel
theorem dX11_must_101 : decode cX11_must 101 = .ok (.iand, 1) := by decide +kernel
theorem dX11_must_102 : decode cX11_must 102 = .ok (.istore_n 2, 1) := by decide +kernel
theorem dX11_must_103 : decode cX11_must 103 = .ok (.iinc 5 1, 3) := by decide +kernel
theorem dX11_must_106 : decode cX11_must 106 = .ok (.goto (-41), 3) := by decide +kernel
theorem dX11_must_109 : decode cX11_must 109 = .ok (.aload_n 0, 1) := by decide +kernel
theorem dX11_must_110 : decode cX11_must 110 = .ok (.aload_n 0, 1) := by decide +kernel
theorem dX11_must_111 : decode cX11_must 111 = .ok (.getfield 58, 3) := by decide +kernel
theorem dX11_must_114 : decode cX11_must 114 = .ok (.invokevirtual 184, 3) := by decide +kernel
theorem dX11_must_117 : decode cX11_must 117 = .ok (.iinc 4 1, 3) := by decide +kernel
theorem dX11_must_120 : decode cX11_must 120 = .ok (.goto (-84), 3) := by decide +kernel
theorem dX11_must_123 : decode cX11_must 123 = .ok (.iload_n 3, 1) := by decide +kernel
theorem dX11_must_124 : decode cX11_must 124 = .ok (.ifCond .eq 7, 3) := by decide +kernel
theorem dX11_must_127 : decode cX11_must 127 = .ok (.iload_n 2, 1) := by decide +kernel
theorem dX11_must_128 : decode cX11_must 128 = .ok (.goto 7, 3) := by decide +kernel
theorem dX11_must_131 : decode cX11_must 131 = .ok (.aload_n 0, 1) := by decide +kernel
theorem dX11_must_132 : decode cX11_must 132 = .ok (.invokevirtual 131, 3) := by decide +kernel
theorem dX11_must_135 : decode cX11_must 135 = .ok (.ireturn, 1) := by decide +kernel
theorem dX11_told_0 : decode cX11_told 0 = .ok (.aload_n 0, 1) := by decide +kernel
theorem dX11_told_1 : decode cX11_told 1 = .ok (.iload_n 1, 1) := by decide +kernel
theorem dX11_told_2 : decode cX11_told 2 = .ok (.invokevirtual 150, 3) := by decide +kernel
theorem dX11_told_5 : decode cX11_told 5 = .ok (.ifCond .ne 10, 3) := by decide +kernel
theorem dX11_told_8 : decode cX11_told 8 = .ok (.aload_n 0, 1) := by decide +kernel
theorem dX11_told_9 : decode cX11_told 9 = .ok (.bipush (-2), 2) := by decide +kernel
theorem dX11_told_11 : decode cX11_told 11 = .ok (.invokevirtual 120, 3) := by decide +kernel
theorem dX11_told_14 : decode cX11_told 14 = .ok (.ireturn, 1) := by decide +kernel
theorem dX11_told_15 : decode cX11_told 15 = .ok (.aload_n 0, 1) := by decide +kernel
theorem dX11_told_16 : decode cX11_told 16 = .ok (.getfield 109, 3) := by decide +kernel
theorem dX11_told_19 : decode cX11_told 19 = .ok (.iconst 3, 1) := by decide +kernel
theorem dX11_told_20 : decode cX11_told 20 = .ok (.if_icmp .ne 8, 3) := by decide +kernel
theorem dX11_told_23 : decode cX11_told 23 = .ok (.aload_n 0, 1) := by decide +kernel
theorem dX11_told_24 : decode cX11_told 24 = .ok (.invokevirtual 139, 3) := by decide +kernel
theorem dX11_told_27 : decode cX11_told 27 = .ok (.ireturn, 1) := by decide +kernel
theorem dX11_told_28 : decode cX11_told 28 = .ok (.aload_n 0, 1) := by decide +kernel
theorem dX11_told_29 : decode cX11_told 29 = .ok (.getfield 40, 3) := by decide +kernel
theorem dX11_told_32 : decode cX11_told 32 = .ok (.aload_n 0, 1) := by decide +kernel
theorem dX11_told_33 : decode cX11_told 33 = .ok (.getfield 109, 3) := by decide +kernel
theorem dX11_told_36 : decode cX11_told 36 = .ok (.iload_n 1, 1) := by decide +kernel
theorem dX11_told_37 : decode cX11_told 37 = .ok (.iastore, 1) := by decide +kernel
theorem dX11_told_38 : decode cX11_told 38 = .ok (.aload_n 0, 1) := by decide +kernel
theorem dX11_told_39 : decode cX11_told 39 = .ok (.dup, 1) := by decide +kernel
theorem dX11_told_40 : decode cX11_told 40 = .ok (.getfield 109, 3) := by decide +kernel
theorem dX11_told_43 : decode cX11_told 43 = .ok (.iconst 1, 1) := by decide +kernel
theorem dX11_told_44 : decode cX11_told 44 = .ok (.iadd, 1) := by decide +kernel
theorem dX11_told_45 : decode cX11_told 45 = .ok (.putfield 109, 3) := by decide +kernel
theorem dX11_told_48 : decode cX11_told 48 = .ok (.aload_n 0, 1) := by decide +kernel
theorem dX11_told_49 : decode cX11_told 49 = .ok (.getfield 109, 3) := by decide +kernel
theorem dX11_told_52 : decode cX11_told 52 = .ok (.iconst 1, 1) := by decide +kernel
theorem dX11_told_53 : decode cX11_told 53 = .ok (.isub, 1) := by decide +kernel
theorem dX11_told_54 : decode cX11_told 54 = .ok (.ireturn, 1) := by decide +kernel
theorem dX11_areWell_0 : decode cX11_areWell 0 = .ok (.aload_n 0, 1) := by decide +kernel
theorem dX11_areWell_1 : decode cX11_areWell 1 = .ok (.aload_n 0, 1) := by decide +kernel
theorem dX11_areWell_2 : decode cX11_areWell 2 = .ok (.getfield 25, 3) := by decide +kernel
theorem dX11_areWell_5 : decode cX11_areWell 5 = .ok (.invokevirtual 170, 3) := by decide +kernel
theorem dX11_areWell_8 : decode cX11_areWell 8 = .ok (.aload_n 0, 1) := by decide +kernel
theorem dX11_areWell_9 : decode cX11_areWell 9 = .ok (.getfield 164, 3) := by decide +kernel
theorem dX11_areWell_12 : decode cX11_areWell 12 = .ok (.aload_n 0, 1) := by decide +kernel
theorem dX11_areWell_13 : decode cX11_areWell 13 = .ok (.getfield 93, 3) := by decide +kernel
theorem dX11_areWell_16 : decode cX11_areWell 16 = .ok (.if_icmp .ne 7, 3) := by decide +kernel
theorem dX11_areWell_19 : decode cX11_areWell 19 = .ok (.iconst 1, 1) := by decide +kernel
theorem dX11_areWell_20 : decode cX11_areWell 20 = .ok (.goto 4, 3) := by decide +kernel
theorem dX11_areWell_23 : decode cX11_areWell 23 = .ok (.iconst 0, 1) := by decide +kernel
theorem dX11_areWell_24 : decode cX11_areWell 24 = .ok (.istore_n 1, 1) := by decide +kernel
theorem dX11_areWell_25 : decode cX11_areWell 25 = .ok (.iconst 0, 1) := by decide +kernel
theorem dX11_areWell_26 : decode cX11_areWell 26 = .ok (.istore_n 2, 1) := by decide +kernel
theorem dX11_areWell_27 : decode cX11_areWell 27 = .ok (.iload_n 2, 1) := by decide +kernel
theorem dX11_areWell_28 : decode cX11_areWell 28 = .ok (.aload_n 0, 1) := by decide +kernel
theorem dX11_areWell_29 : decode cX11_areWell 29 = .ok (.getfield 109, 3) := by decide +kernel
theorem dX11_areWell_32 : decode cX11_areWell 32 = .ok (.if_icmp .ge 52, 3) := by decide +kernel
theorem dX11_areWell_35 : decode cX11_areWell 35 = .ok (.iload_n 1, 1) := by decide +kernel
theorem dX11_areWell_36 : decode cX11_areWell 36 = .ok (.ifCond .eq 48, 3) := by decide +kernel
theorem dX11_areWell_39 : decode cX11_areWell 39 = .ok (.aload_n 0, 1) := by decide +kernel
theorem dX11_areWell_40 : decode cX11_areWell 40 = .ok (.aload_n 0, 1) := by decide +kernel
theorem dX11_areWell_41 : decode cX11_areWell 41 = .ok (.getfield 40, 3) := by decide +kernel
theorem dX11_areWell_44 : decode cX11_areWell 44 = .ok (.iload_n 2, 1) := by decide +kernel
theorem dX11_areWell_45 : decode cX11_areWell 45 = .ok (.iaload, 1) := by decide +kernel
theorem dX11_areWell_46 : decode cX11_areWell 46 = .ok (.aload_n 0, 1) := by decide +kernel
theorem dX11_areWell_47 : decode cX11_areWell 47 = .ok (.getfield 58, 3) := by decide +kernel
theorem dX11_areWell_50 : decode cX11_areWell 50 = .ok (.invokevirtual 157, 3) := by decide +kernel
theorem dX11_areWell_53 : decode cX11_areWell 53 = .ok (.aload_n 0, 1) := by decide +kernel
theorem dX11_areWell_54 : decode cX11_areWell 54 = .ok (.aload_n 0, 1) := by decide +kernel
theorem dX11_areWell_55 : decode cX11_areWell 55 = .ok (.getfield 58, 3) := by decide +kernel
theorem dX11_areWell_58 : decode cX11_areWell 58 = .ok (.invokevirtual 170, 3) := by decide +kernel
theorem dX11_areWell_61 : decode cX11_areWell 61 = .ok (.aload_n 0, 1) := by decide +kernel
theorem dX11_areWell_62 : decode cX11_areWell 62 = .ok (.getfield 164, 3) := by decide +kernel
theorem dX11_areWell_65 : decode cX11_areWell 65 = .ok (.aload_n 0, 1) := by decide +kernel
theorem dX11_areWell_66 : decode cX11_areWell 66 = .ok (.getfield 93, 3) := by decide +kernel
theorem dX11_areWell_69 : decode cX11_areWell 69 = .ok (.if_icmp .ne 7, 3) := by decide +kernel
theorem dX11_areWell_72 : decode cX11_areWell 72 = .ok (.iconst 1, 1) := by decide +kernel
theorem dX11_areWell_73 : decode cX11_areWell 73 = .ok (.goto 4, 3) := by decide +kernel
theorem dX11_areWell_76 : decode cX11_areWell 76 = .ok (.iconst 0, 1) := by decide +kernel
theorem dX11_areWell_77 : decode cX11_areWell 77 = .ok (.istore_n 1, 1) := by decide +kernel
theorem dX11_areWell_78 : decode cX11_areWell 78 = .ok (.iinc 2 1, 3) := by decide +kernel
theorem dX11_areWell_81 : decode cX11_areWell 81 = .ok (.goto (-54), 3) := by decide +kernel
theorem dX11_areWell_84 : decode cX11_areWell 84 = .ok (.iload_n 1, 1) := by decide +kernel
theorem dX11_areWell_85 : decode cX11_areWell 85 = .ok (.ireturn, 1) := by decide +kernel
theorem dX11_adds_0 : decode cX11_adds 0 = .ok (.iload_n 1, 1) := by decide +kernel
theorem dX11_adds_1 : decode cX11_adds 1 = .ok (.bipush 10, 2) := by decide +kernel
theorem dX11_adds_3 : decode cX11_adds 3 = .ok (.idiv, 1) := by decide +kernel
theorem dX11_adds_4 : decode cX11_adds 4 = .ok (.istore_n 2, 1) := by decide +kernel
theorem dX11_adds_5 : decode cX11_adds 5 = .ok (.iload_n 1, 1) := by decide +kernel
theorem dX11_adds_6 : decode cX11_adds 6 = .ok (.bipush 10, 2) := by decide +kernel
theorem dX11_adds_8 : decode cX11_adds 8 = .ok (.irem, 1) := by decide +kernel
theorem dX11_adds_9 : decode cX11_adds 9 = .ok (.istore_n 3, 1) := by decide +kernel
theorem dX11_adds_10 : decode cX11_adds 10 = .ok (.aload_n 0, 1) := by decide +kernel
theorem dX11_adds_11 : decode cX11_adds 11 = .ok (.iload_n 2, 1) := by decide +kernel
theorem dX11_adds_12 : decode cX11_adds 12 = .ok (.invokevirtual 124, 3) := by decide +kernel
theorem dX11_adds_15 : decode cX11_adds 15 = .ok (.ifCond .eq 28, 3) := by decide +kernel
theorem dX11_adds_18 : decode cX11_adds 18 = .ok (.iload_n 3, 1) := by decide +kernel
theorem dX11_adds_19 : decode cX11_adds 19 = .ok (.invokestatic 128, 3) := by decide +kernel
theorem dX11_adds_22 : decode cX11_adds 22 = .ok (.ifCond .eq 21, 3) := by decide +kernel
theorem dX11_adds_25 : decode cX11_adds 25 = .ok (.aload_n 0, 1) := by decide +kernel
theorem dX11_adds_26 : decode cX11_adds 26 = .ok (.iload_n 2, 1) := by decide +kernel
theorem dX11_adds_27 : decode cX11_adds 27 = .ok (.iload_n 3, 1) := by decide +kernel
theorem dX11_adds_28 : decode cX11_adds 28 = .ok (.invokevirtual 135, 3) := by decide +kernel
theorem dX11_adds_31 : decode cX11_adds 31 = .ok (.ifCond .ne 12, 3) := by decide +kernel
theorem dX11_adds_34 : decode cX11_adds 34 = .ok (.aload_n 0, 1) := by decide +kernel
theorem dX11_adds_35 : decode cX11_adds 35 = .ok (.getfield 103, 3) := by decide +kernel
theorem dX11_adds_38 : decode cX11_adds 38 = .ok (.bipush 6, 2) := by decide +kernel
theorem dX11_adds_40 : decode cX11_adds 40 = .ok (.if_icmp .ne 5, 3) := by decide +kernel
theorem dX11_adds_43 : decode cX11_adds 43 = .ok (.iconst 0, 1) := by decide +kernel
theorem dX11_adds_44 : decode cX11_adds 44 = .ok (.ireturn, 1) := by decide +kernel
theorem dX11_adds_45 : decode cX11_adds 45 = .ok (.aload_n 0, 1) := by decide +kernel
theorem dX11_adds_46 : decode cX11_adds 46 = .ok (.getfield 28, 3) := by decide +kernel
theorem dX11_adds_49 : decode cX11_adds 49 = .ok (.aload_n 0, 1) := by decide +kernel
theorem dX11_adds_50 : decode cX11_adds 50 = .ok (.getfield 103, 3) := by decide +kernel
theorem dX11_adds_53 : decode cX11_adds 53 = .ok (.iload_n 2, 1) := by decide +kernel
theorem dX11_adds_54 : decode cX11_adds 54 = .ok (.iastore, 1) := by decide +kernel
theorem dX11_adds_55 : decode cX11_adds 55 = .ok (.aload_n 0, 1) := by decide +kernel
theorem dX11_adds_56 : decode cX11_adds 56 = .ok (.getfield 31, 3) := by decide +kernel
theorem dX11_adds_59 : decode cX11_adds 59 = .ok (.aload_n 0, 1) := by decide +kernel
theorem dX11_adds_60 : decode cX11_adds 60 = .ok (.getfield 103, 3) := by decide +kernel
theorem dX11_adds_63 : decode cX11_adds 63 = .ok (.iload_n 3, 1) := by decide +kernel
theorem dX11_adds_64 : decode cX11_adds 64 = .ok (.iastore, 1) := by decide +kernel
theorem dX11_adds_65 : decode cX11_adds 65 = .ok (.aload_n 0, 1) := by decide +kernel
theorem dX11_adds_66 : decode cX11_adds 66 = .ok (.dup, 1) := by decide +kernel
theorem dX11_adds_67 : decode cX11_adds 67 = .ok (.getfield 103, 3) := by decide +kernel
theorem dX11_adds_70 : decode cX11_adds 70 = .ok (.iconst 1, 1) := by decide +kernel
theorem dX11_adds_71 : decode cX11_adds 71 = .ok (.iadd, 1) := by decide +kernel
theorem dX11_adds_72 : decode cX11_adds 72 = .ok (.putfield 103, 3) := by decide +kernel
theorem dX11_adds_75 : decode cX11_adds 75 = .ok (.iconst 1, 1) := by decide +kernel
theorem dX11_adds_76 : decode cX11_adds 76 = .ok (.ireturn, 1) := by decide +kernel
theorem dX11_fewest_0 : decode cX11_fewest 0 = .ok (.aload_n 0, 1) := by decide +kernel
theorem dX11_fewest_1 : decode cX11_fewest 1 = .ok (.invokevirtual 187, 3) := by decide +kernel
theorem dX11_fewest_4 : decode cX11_fewest 4 = .ok (.ifCond .eq 7, 3) := by decide +kernel
theorem dX11_fewest_7 : decode cX11_fewest 7 = .ok (.sipush 9999, 3) := by decide +kernel
theorem dX11_fewest_10 : decode cX11_fewest 10 = .ok (.ireturn, 1) := by decide +kernel
theorem dX11_fewest_11 : decode cX11_fewest 11 = .ok (.iconst (-1), 1) := by decide +kernel
theorem dX11_fewest_12 : decode cX11_fewest 12 = .ok (.istore_n 1, 1) := by decide +kernel
theorem dX11_fewest_13 : decode cX11_fewest 13 = .ok (.iconst 0, 1) := by decide +kernel
theorem dX11_fewest_14 : decode cX11_fewest 14 = .ok (.istore_n 2, 1) := by decide +kernel
theorem dX11_fewest_15 : decode cX11_fewest 15 = .ok (.iload_n 2, 1) := by decide +kernel
theorem dX11_fewest_16 : decode cX11_fewest 16 = .ok (.bipush 70, 2) := by decide +kernel
theorem dX11_fewest_18 : decode cX11_fewest 18 = .ok (.if_icmp .ge 51, 3) := by decide +kernel
theorem dX11_fewest_21 : decode cX11_fewest 21 = .ok (.iload_n 1, 1) := by decide +kernel
theorem dX11_fewest_22 : decode cX11_fewest 22 = .ok (.iconst (-1), 1) := by decide +kernel
theorem dX11_fewest_23 : decode cX11_fewest 23 = .ok (.if_icmp .ne 46, 3) := by decide +kernel
theorem dX11_fewest_26 : decode cX11_fewest 26 = .ok (.aload_n 0, 1) := by decide +kernel
theorem dX11_fewest_27 : decode cX11_fewest 27 = .ok (.iload_n 2, 1) := by decide +kernel
theorem dX11_fewest_28 : decode cX11_fewest 28 = .ok (.invokevirtual 190, 3) := by decide +kernel
theorem dX11_fewest_31 : decode cX11_fewest 31 = .ok (.ifCond .eq 32, 3) := by decide +kernel
theorem dX11_fewest_34 : decode cX11_fewest 34 = .ok (.aload_n 0, 1) := by decide +kernel
theorem dX11_fewest_35 : decode cX11_fewest 35 = .ok (.invokevirtual 187, 3) := by decide +kernel
theorem dX11_fewest_38 : decode cX11_fewest 38 = .ok (.ifCond .eq 13, 3) := by decide +kernel
theorem dX11_fewest_41 : decode cX11_fewest 41 = .ok (.bipush 100, 2) := by decide +kernel
theorem dX11_fewest_43 : decode cX11_fewest 43 = .ok (.iload_n 2, 1) := by decide +kernel
theorem dX11_fewest_44 : decode cX11_fewest 44 = .ok (.imul, 1) := by decide +kernel
theorem dX11_fewest_45 : decode cX11_fewest 45 = .ok (.bipush 99, 2) := by decide +kernel
theorem dX11_fewest_47 : decode cX11_fewest 47 = .ok (.iadd, 1) := by decide +kernel
theorem dX11_fewest_48 : decode cX11_fewest 48 = .ok (.goto 4, 3) := by decide +kernel
theorem dX11_fewest_51 : decode cX11_fewest 51 = .ok (.iconst (-1), 1) := by decide +kernel
theorem dX11_fewest_52 : decode cX11_fewest 52 = .ok (.istore_n 1, 1) := by decide +kernel
theorem dX11_fewest_53 : decode cX11_fewest 53 = .ok (.aload_n 0, 1) := by decide +kernel
theorem dX11_fewest_54 : decode cX11_fewest 54 = .ok (.dup, 1) := by decide +kernel
theorem dX11_fewest_55 : decode cX11_fewest 55 = .ok (.getfield 103, 3) := by decide +kernel
theorem dX11_fewest_58 : decode cX11_fewest 58 = .ok (.iconst 1, 1) := by decide +kernel
theorem dX11_fewest_59 : decode cX11_fewest 59 = .ok (.isub, 1) := by decide +kernel
theorem dX11_fewest_60 : decode cX11_fewest 60 = .ok (.putfield 103, 3) := by decide +kernel
theorem dX11_fewest_63 : decode cX11_fewest 63 = .ok (.iinc 2 1, 3) := by decide +kernel
theorem dX11_fewest_66 : decode cX11_fewest 66 = .ok (.goto (-51), 3) := by decide +kernel
theorem dX11_fewest_69 : decode cX11_fewest 69 = .ok (.iconst 0, 1) := by decide +kernel
theorem dX11_fewest_70 : decode cX11_fewest 70 = .ok (.istore_n 2, 1) := by decide +kernel
theorem dX11_fewest_71 : decode cX11_fewest 71 = .ok (.iload_n 2, 1) := by decide +kernel
theorem dX11_fewest_72 : decode cX11_fewest 72 = .ok (.bipush 70, 2) := by decide +kernel
theorem dX11_fewest_74 : decode cX11_fewest 74 = .ok (.if_icmp .ge 89, 3) := by decide +kernel
theorem dX11_fewest_77 : decode cX11_fewest 77 = .ok (.iload_n 1, 1) := by decide +kernel
theorem dX11_fewest_78 : decode cX11_fewest 78 = .ok (.iconst (-1), 1) := by decide +kernel
theorem dX11_fewest_79 : decode cX11_fewest 79 = .ok (.if_icmp .ne 84, 3) := by decide +kernel
theorem dX11_fewest_82 : decode cX11_fewest 82 = .ok (.aload_n 0, 1) := by decide +kernel
theorem dX11_fewest_83 : decode cX11_fewest 83 = .ok (.iload_n 2, 1) := by decide +kernel
theorem dX11_fewest_84 : decode cX11_fewest 84 = .ok (.invokevirtual 190, 3) := by decide +kernel
theorem dX11_fewest_87 : decode cX11_fewest 87 = .ok (.ifCond .eq 70, 3) := by decide +kernel
theorem dX11_fewest_90 : decode cX11_fewest 90 = .ok (.iload_n 2, 1) := by decide +kernel
theorem dX11_fewest_91 : decode cX11_fewest 91 = .ok (.iconst 1, 1) := by decide +kernel
theorem dX11_fewest_92 : decode cX11_fewest 92 = .ok (.iadd, 1) := by decide +kernel
theorem dX11_fewest_93 : decode cX11_fewest 93 = .ok (.istore_n 3, 1) := by decide +kernel
theorem dX11_fewest_94 : decode cX11_fewest 94 = .ok (.iload_n 3, 1) := by decide +kernel
theorem dX11_fewest_95 : decode cX11_fewest 95 = .ok (.bipush 70, 2) := by decide +kernel
theorem dX11_fewest_97 : decode cX11_fewest 97 = .ok (.if_icmp .ge 50, 3) := by decide +kernel
theorem dX11_fewest_100 : decode cX11_fewest 100 = .ok (.iload_n 1, 1) := by decide +kernel
theorem dX11_fewest_101 : decode cX11_fewest 101 = .ok (.iconst (-1), 1) := by decide +kernel
theorem dX11_fewest_102 : decode cX11_fewest 102 = .ok (.if_icmp .ne 45, 3) := by decide +kernel
theorem dX11_fewest_105 : decode cX11_fewest 105 = .ok (.aload_n 0, 1) := by decide +kernel
theorem dX11_fewest_106 : decode cX11_fewest 106 = .ok (.iload_n 3, 1) := by decide +kernel
theorem dX11_fewest_107 : decode cX11_fewest 107 = .ok (.invokevirtual 190, 3) := by decide +kernel
theorem dX11_fewest_110 : decode cX11_fewest 110 = .ok (.ifCond .eq 31, 3) := by decide +kernel
theorem dX11_fewest_113 : decode cX11_fewest 113 = .ok (.aload_n 0, 1) := by decide +kernel
theorem dX11_fewest_114 : decode cX11_fewest 114 = .ok (.invokevirtual 187, 3) := by decide +kernel
theorem dX11_fewest_117 : decode cX11_fewest 117 = .ok (.ifCond .eq 12, 3) := by decide +kernel
theorem dX11_fewest_120 : decode cX11_fewest 120 = .ok (.bipush 100, 2) := by decide +kernel
theorem dX11_fewest_122 : decode cX11_fewest 122 = .ok (.iload_n 2, 1) := by decide +kernel
theorem dX11_fewest_123 : decode cX11_fewest 123 = .ok (.imul, 1) := by decide +kernel
theorem dX11_fewest_124 : decode cX11_fewest 124 = .ok (.iload_n 3, 1) := by decide +kernel
theorem dX11_fewest_125 : decode cX11_fewest 125 = .ok (.iadd, 1) := by decide +kernel
theorem dX11_fewest_126 : decode cX11_fewest 126 = .ok (.goto 4, 3) := by decide +kernel
theorem dX11_fewest_129 : decode cX11_fewest 129 = .ok (.iconst (-1), 1) := by decide +kernel
theorem dX11_fewest_130 : decode cX11_fewest 130 = .ok (.istore_n 1, 1) := by decide +kernel
theorem dX11_fewest_131 : decode cX11_fewest 131 = .ok (.aload_n 0, 1) := by decide +kernel
theorem dX11_fewest_132 : decode cX11_fewest 132 = .ok (.dup, 1) := by decide +kernel
theorem dX11_fewest_133 : decode cX11_fewest 133 = .ok (.getfield 103, 3) := by decide +kernel
theorem dX11_fewest_136 : decode cX11_fewest 136 = .ok (.iconst 1, 1) := by decide +kernel
theorem dX11_fewest_137 : decode cX11_fewest 137 = .ok (.isub, 1) := by decide +kernel
theorem dX11_fewest_138 : decode cX11_fewest 138 = .ok (.putfield 103, 3) := by decide +kernel
theorem dX11_fewest_141 : decode cX11_fewest 141 = .ok (.iinc 3 1, 3) := by decide +kernel
theorem dX11_fewest_144 : decode cX11_fewest 144 = .ok (.goto (-50), 3) := by decide +kernel
theorem dX11_fewest_147 : decode cX11_fewest 147 = .ok (.aload_n 0, 1) := by decide +kernel
theorem dX11_fewest_148 : decode cX11_fewest 148 = .ok (.dup, 1) := by decide +kernel
theorem dX11_fewest_149 : decode cX11_fewest 149 = .ok (.getfield 103, 3) := by decide +kernel
theorem dX11_fewest_152 : decode cX11_fewest 152 = .ok (.iconst 1, 1) := by decide +kernel
theorem dX11_fewest_153 : decode cX11_fewest 153 = .ok (.isub, 1) := by decide +kernel
theorem dX11_fewest_154 : decode cX11_fewest 154 = .ok (.putfield 103, 3) := by decide +kernel
theorem dX11_fewest_157 : decode cX11_fewest 157 = .ok (.iinc 2 1, 3) := by decide +kernel
theorem dX11_fewest_160 : decode cX11_fewest 160 = .ok (.goto (-89), 3) := by decide +kernel
theorem dX11_fewest_163 : decode cX11_fewest 163 = .ok (.iload_n 1, 1) := by decide +kernel
theorem dX11_fewest_164 : decode cX11_fewest 164 = .ok (.ireturn, 1) := by decide +kernel
theorem dX11_notes_0 : decode cX11_notes 0 = .ok (.iload_n 1, 1) := by decide +kernel
theorem dX11_notes_1 : decode cX11_notes 1 = .ok (.i2l, 1) := by decide +kernel
theorem dX11_notes_2 : decode cX11_notes 2 = .ok (.lconst 0, 1) := by decide +kernel
theorem dX11_notes_3 : decode cX11_notes 3 = .ok (.ldc2_w 193, 3) := by decide +kernel
theorem dX11_notes_6 : decode cX11_notes 6 = .ok (.invokestatic 97, 3) := by decide +kernel
theorem dX11_notes_9 : decode cX11_notes 9 = .ok (.ifCond .ne 10, 3) := by decide +kernel
theorem dX11_notes_12 : decode cX11_notes 12 = .ok (.aload_n 0, 1) := by decide +kernel
theorem dX11_notes_13 : decode cX11_notes 13 = .ok (.bipush (-10), 2) := by decide +kernel
theorem dX11_notes_15 : decode cX11_notes 15 = .ok (.invokevirtual 120, 3) := by decide +kernel
theorem dX11_notes_18 : decode cX11_notes 18 = .ok (.ireturn, 1) := by decide +kernel
theorem dX11_notes_19 : decode cX11_notes 19 = .ok (.aload_n 0, 1) := by decide +kernel
theorem dX11_notes_20 : decode cX11_notes 20 = .ok (.invokevirtual 195, 3) := by decide +kernel
theorem dX11_notes_23 : decode cX11_notes 23 = .ok (.istore_n 2, 1) := by decide +kernel
theorem dX11_notes_24 : decode cX11_notes 24 = .ok (.iload_n 2, 1) := by decide +kernel
theorem dX11_notes_25 : decode cX11_notes 25 = .ok (.iconst (-1), 1) := by decide +kernel
theorem dX11_notes_26 : decode cX11_notes 26 = .ok (.if_icmp .ne 5, 3) := by decide +kernel
theorem dX11_notes_29 : decode cX11_notes 29 = .ok (.iconst (-1), 1) := by decide +kernel
theorem dX11_notes_30 : decode cX11_notes 30 = .ok (.ireturn, 1) := by decide +kernel
theorem dX11_notes_31 : decode cX11_notes 31 = .ok (.iload_n 2, 1) := by decide +kernel
theorem dX11_notes_32 : decode cX11_notes 32 = .ok (.bipush 100, 2) := by decide +kernel
theorem dX11_notes_34 : decode cX11_notes 34 = .ok (.idiv, 1) := by decide +kernel
theorem dX11_notes_35 : decode cX11_notes 35 = .ok (.istore_n 3, 1) := by decide +kernel
theorem dX11_notes_36 : decode cX11_notes 36 = .ok (.iload_n 2, 1) := by decide +kernel
theorem dX11_notes_37 : decode cX11_notes 37 = .ok (.bipush 100, 2) := by decide +kernel
theorem dX11_notes_39 : decode cX11_notes 39 = .ok (.irem, 1) := by decide +kernel
theorem dX11_notes_40 : decode cX11_notes 40 = .ok (.istore 4, 2) := by decide +kernel
theorem dX11_notes_42 : decode cX11_notes 42 = .ok (.iload_n 1, 1) := by decide +kernel
theorem dX11_notes_43 : decode cX11_notes 43 = .ok (.ifCond .ne 30, 3) := by decide +kernel
theorem dX11_notes_46 : decode cX11_notes 46 = .ok (.iload_n 3, 1) := by decide +kernel
theorem dX11_notes_47 : decode cX11_notes 47 = .ok (.bipush 99, 2) := by decide +kernel
theorem dX11_notes_49 : decode cX11_notes 49 = .ok (.if_icmp .ne 7, 3) := by decide +kernel
theorem dX11_notes_52 : decode cX11_notes 52 = .ok (.iconst 0, 1) := by decide +kernel
theorem dX11_notes_53 : decode cX11_notes 53 = .ok (.goto 4, 3) := by decide +kernel
theorem dX11_notes_56 : decode cX11_notes 56 = .ok (.iconst 1, 1) := by decide +kernel
theorem dX11_notes_57 : decode cX11_notes 57 = .ok (.iload 4, 2) := by decide +kernel
theorem dX11_notes_59 : decode cX11_notes 59 = .ok (.bipush 99, 2) := by decide +kernel
theorem dX11_notes_61 : decode cX11_notes 61 = .ok (.if_icmp .ne 7, 3) := by decide +kernel
theorem dX11_notes_64 : decode cX11_notes 64 = .ok (.iconst 0, 1) := by decide +kernel
theorem dX11_notes_65 : decode cX11_notes 65 = .ok (.goto 4, 3) := by decide +kernel
theorem dX11_notes_68 : decode cX11_notes 68 = .ok (.iconst 1, 1) := by decide +kernel
theorem dX11_notes_69 : decode cX11_notes 69 = .ok (.iadd, 1) := by decide +kernel
theorem dX11_notes_70 : decode cX11_notes 70 = .ok (.goto 35, 3) := by decide +kernel
theorem dX11_notes_73 : decode cX11_notes 73 = .ok (.iload_n 1, 1) := by decide +kernel
theorem dX11_notes_74 : decode cX11_notes 74 = .ok (.iconst 1, 1) := by decide +kernel
theorem dX11_notes_75 : decode cX11_notes 75 = .ok (.if_icmp .ne 17, 3) := by decide +kernel
theorem dX11_notes_78 : decode cX11_notes 78 = .ok (.iload_n 3, 1) := by decide +kernel
theorem dX11_notes_79 : decode cX11_notes 79 = .ok (.bipush 99, 2) := by decide +kernel
theorem dX11_notes_81 : decode cX11_notes 81 = .ok (.if_icmp .ne 7, 3) := by decide +kernel
theorem dX11_notes_84 : decode cX11_notes 84 = .ok (.iconst (-1), 1) := by decide +kernel
theorem dX11_notes_85 : decode cX11_notes 85 = .ok (.goto 20, 3) := by decide +kernel
theorem dX11_notes_88 : decode cX11_notes 88 = .ok (.iload_n 3, 1) := by decide +kernel
theorem dX11_notes_89 : decode cX11_notes 89 = .ok (.goto 16, 3) := by decide +kernel
theorem dX11_notes_92 : decode cX11_notes 92 = .ok (.iload 4, 2) := by decide +kernel
theorem dX11_notes_94 : decode cX11_notes 94 = .ok (.bipush 99, 2) := by decide +kernel
theorem dX11_notes_96 : decode cX11_notes 96 = .ok (.if_icmp .ne 7, 3) := by decide +kernel
theorem dX11_notes_99 : decode cX11_notes 99 = .ok (.iconst (-1), 1) := by decide +kernel
theorem dX11_notes_100 : decode cX11_notes 100 = .ok (.goto 5, 3) := by decide +kernel
theorem dX11_notes_103 : decode cX11_notes 103 = .ok (.iload 4, 2) := by decide +kernel
theorem dX11_notes_105 : decode cX11_notes 105 = .ok (.ireturn, 1) := by decide +kernel
theorem dX11_tells_0 : decode cX11_tells 0 = .ok (.lload_n 1, 1) := by decide +kernel
theorem dX11_tells_1 : decode cX11_tells 1 = .ok (.lstore 5, 2) := by decide +kernel
theorem dX11_tells_3 : decode cX11_tells 3 = .ok (.lload_n 3, 1) := by decide +kernel
theorem dX11_tells_4 : decode cX11_tells 4 = .ok (.lstore 7, 2) := by decide +kernel
theorem dX11_tells_6 : decode cX11_tells 6 = .ok (.lload 7, 2) := by decide +kernel
theorem dX11_tells_8 : decode cX11_tells 8 = .ok (.lconst 0, 1) := by decide +kernel
theorem dX11_tells_9 : decode cX11_tells 9 = .ok (.lcmp, 1) := by decide +kernel
theorem dX11_tells_10 : decode cX11_tells 10 = .ok (.ifCond .eq 21, 3) := by decide +kernel
theorem dX11_tells_13 : decode cX11_tells 13 = .ok (.lload 5, 2) := by decide +kernel
theorem dX11_tells_15 : decode cX11_tells 15 = .ok (.lload 7, 2) := by decide +kernel
theorem dX11_tells_17 : decode cX11_tells 17 = .ok (.lrem, 1) := by decide +kernel
theorem dX11_tells_18 : decode cX11_tells 18 = .ok (.lstore 9, 2) := by decide +kernel
theorem dX11_tells_20 : decode cX11_tells 20 = .ok (.lload 7, 2) := by decide +kernel
theorem dX11_tells_22 : decode cX11_tells 22 = .ok (.lstore 5, 2) := by decide +kernel
theorem dX11_tells_24 : decode cX11_tells 24 = .ok (.lload 9, 2) := by decide +kernel
theorem dX11_tells_26 : decode cX11_tells 26 = .ok (.lstore 7, 2) := by decide +kernel
theorem dX11_tells_28 : decode cX11_tells 28 = .ok (.goto (-22), 3) := by decide +kernel
theorem dX11_tells_31 : decode cX11_tells 31 = .ok (.aload_n 0, 1) := by decide +kernel
theorem dX11_tells_32 : decode cX11_tells 32 = .ok (.lload_n 1, 1) := by decide +kernel
theorem dX11_tells_33 : decode cX11_tells 33 = .ok (.lload 5, 2) := by decide +kernel
theorem dX11_tells_35 : decode cX11_tells 35 = .ok (.ldiv, 1) := by decide +kernel
theorem dX11_tells_36 : decode cX11_tells 36 = .ok (.putfield 86, 3) := by decide +kernel
theorem dX11_tells_39 : decode cX11_tells 39 = .ok (.aload_n 0, 1) := by decide +kernel
theorem dX11_tells_40 : decode cX11_tells 40 = .ok (.lload_n 3, 1) := by decide +kernel
theorem dX11_tells_41 : decode cX11_tells 41 = .ok (.lload 5, 2) := by decide +kernel
theorem dX11_tells_43 : decode cX11_tells 43 = .ok (.ldiv, 1) := by decide +kernel
theorem dX11_tells_44 : decode cX11_tells 44 = .ok (.putfield 90, 3) := by decide +kernel
theorem dX11_tells_47 : decode cX11_tells 47 = .ok (.return_, 1) := by decide +kernel
theorem dX11_mean_0 : decode cX11_mean 0 = .ok (.lconst 0, 1) := by decide +kernel
theorem dX11_mean_1 : decode cX11_mean 1 = .ok (.lstore_n 1, 1) := by decide +kernel
theorem dX11_mean_2 : decode cX11_mean 2 = .ok (.lconst 0, 1) := by decide +kernel
theorem dX11_mean_3 : decode cX11_mean 3 = .ok (.lstore_n 3, 1) := by decide +kernel
theorem dX11_mean_4 : decode cX11_mean 4 = .ok (.aload_n 0, 1) := by decide +kernel
theorem dX11_mean_5 : decode cX11_mean 5 = .ok (.getfield 58, 3) := by decide +kernel
theorem dX11_mean_8 : decode cX11_mean 8 = .ok (.invokestatic 178, 3) := by decide +kernel
theorem dX11_mean_11 : decode cX11_mean 11 = .ok (.iconst 0, 1) := by decide +kernel
theorem dX11_mean_12 : decode cX11_mean 12 = .ok (.istore 5, 2) := by decide +kernel
theorem dX11_mean_14 : decode cX11_mean 14 = .ok (.iload 5, 2) := by decide +kernel
theorem dX11_mean_16 : decode cX11_mean 16 = .ok (.aload_n 0, 1) := by decide +kernel
theorem dX11_mean_17 : decode cX11_mean 17 = .ok (.invokevirtual 147, 3) := by decide +kernel
theorem dX11_mean_20 : decode cX11_mean 20 = .ok (.if_icmp .ge 44, 3) := by decide +kernel
theorem dX11_mean_23 : decode cX11_mean 23 = .ok (.aload_n 0, 1) := by decide +kernel
theorem dX11_mean_24 : decode cX11_mean 24 = .ok (.aload_n 0, 1) := by decide +kernel
theorem dX11_mean_25 : decode cX11_mean 25 = .ok (.getfield 58, 3) := by decide +kernel
theorem dX11_mean_28 : decode cX11_mean 28 = .ok (.invokevirtual 170, 3) := by decide +kernel
theorem dX11_mean_31 : decode cX11_mean 31 = .ok (.aload_n 0, 1) := by decide +kernel
theorem dX11_mean_32 : decode cX11_mean 32 = .ok (.invokevirtual 174, 3) := by decide +kernel
theorem dX11_mean_35 : decode cX11_mean 35 = .ok (.ifCond .eq 15, 3) := by decide +kernel
theorem dX11_mean_38 : decode cX11_mean 38 = .ok (.lload_n 1, 1) := by decide +kernel
theorem dX11_mean_39 : decode cX11_mean 39 = .ok (.aload_n 0, 1) := by decide +kernel
theorem dX11_mean_40 : decode cX11_mean 40 = .ok (.getfield 164, 3) := by decide +kernel
theorem dX11_mean_43 : decode cX11_mean 43 = .ok (.i2l, 1) := by decide +kernel
theorem dX11_mean_44 : decode cX11_mean 44 = .ok (.ladd, 1) := by decide +kernel
theorem dX11_mean_45 : decode cX11_mean 45 = .ok (.lstore_n 1, 1) := by decide +kernel
theorem dX11_mean_46 : decode cX11_mean 46 = .ok (.lload_n 3, 1) := by decide +kernel
theorem dX11_mean_47 : decode cX11_mean 47 = .ok (.lconst 1, 1) := by decide +kernel
theorem dX11_mean_48 : decode cX11_mean 48 = .ok (.ladd, 1) := by decide +kernel
theorem dX11_mean_49 : decode cX11_mean 49 = .ok (.lstore_n 3, 1) := by decide +kernel
theorem dX11_mean_50 : decode cX11_mean 50 = .ok (.aload_n 0, 1) := by decide +kernel
theorem dX11_mean_51 : decode cX11_mean 51 = .ok (.aload_n 0, 1) := by decide +kernel
theorem dX11_mean_52 : decode cX11_mean 52 = .ok (.getfield 58, 3) := by decide +kernel
theorem dX11_mean_55 : decode cX11_mean 55 = .ok (.invokevirtual 184, 3) := by decide +kernel
theorem dX11_mean_58 : decode cX11_mean 58 = .ok (.iinc 5 1, 3) := by decide +kernel
theorem dX11_mean_61 : decode cX11_mean 61 = .ok (.goto (-47), 3) := by decide +kernel
theorem dX11_mean_64 : decode cX11_mean 64 = .ok (.lload_n 3, 1) := by decide +kernel
theorem dX11_mean_65 : decode cX11_mean 65 = .ok (.lconst 0, 1) := by decide +kernel
theorem dX11_mean_66 : decode cX11_mean 66 = .ok (.lcmp, 1) := by decide +kernel
theorem dX11_mean_67 : decode cX11_mean 67 = .ok (.ifCond .ne 8, 3) := by decide +kernel
theorem dX11_mean_70 : decode cX11_mean 70 = .ok (.aload_n 0, 1) := by decide +kernel
theorem dX11_mean_71 : decode cX11_mean 71 = .ok (.invokevirtual 131, 3) := by decide +kernel
theorem dX11_mean_74 : decode cX11_mean 74 = .ok (.ireturn, 1) := by decide +kernel
theorem dX11_mean_75 : decode cX11_mean 75 = .ok (.aload_n 0, 1) := by decide +kernel
theorem dX11_mean_76 : decode cX11_mean 76 = .ok (.lload_n 1, 1) := by decide +kernel
theorem dX11_mean_77 : decode cX11_mean 77 = .ok (.lload_n 3, 1) := by decide +kernel
theorem dX11_mean_78 : decode cX11_mean 78 = .ok (.invokevirtual 198, 3) := by decide +kernel
theorem dX11_mean_81 : decode cX11_mean 81 = .ok (.iconst 1, 1) := by decide +kernel
theorem dX11_mean_82 : decode cX11_mean 82 = .ok (.ireturn, 1) := by decide +kernel
theorem dX11_best_0 : decode cX11_best 0 = .ok (.iconst (-1), 1) := by decide +kernel
theorem dX11_best_1 : decode cX11_best 1 = .ok (.istore_n 1, 1) := by decide +kernel
theorem dX11_best_2 : decode cX11_best 2 = .ok (.iconst (-1), 1) := by decide +kernel
theorem dX11_best_3 : decode cX11_best 3 = .ok (.istore_n 2, 1) := by decide +kernel
theorem dX11_best_4 : decode cX11_best 4 = .ok (.aload_n 0, 1) := by decide +kernel
theorem dX11_best_5 : decode cX11_best 5 = .ok (.getfield 58, 3) := by decide +kernel
theorem dX11_best_8 : decode cX11_best 8 = .ok (.invokestatic 178, 3) := by decide +kernel
theorem dX11_best_11 : decode cX11_best 11 = .ok (.iconst 0, 1) := by decide +kernel
theorem dX11_best_12 : decode cX11_best 12 = .ok (.istore_n 3, 1) := by decide +kernel
theorem dX11_best_13 : decode cX11_best 13 = .ok (.iload_n 3, 1) := by decide +kernel
theorem dX11_best_14 : decode cX11_best 14 = .ok (.aload_n 0, 1) := by decide +kernel
theorem dX11_best_15 : decode cX11_best 15 = .ok (.invokevirtual 147, 3) := by decide +kernel
theorem dX11_best_18 : decode cX11_best 18 = .ok (.if_icmp .ge 47, 3) := by decide +kernel
theorem dX11_best_21 : decode cX11_best 21 = .ok (.aload_n 0, 1) := by decide +kernel
theorem dX11_best_22 : decode cX11_best 22 = .ok (.aload_n 0, 1) := by decide +kernel
theorem dX11_best_23 : decode cX11_best 23 = .ok (.getfield 58, 3) := by decide +kernel
theorem dX11_best_26 : decode cX11_best 26 = .ok (.invokevirtual 170, 3) := by decide +kernel
theorem dX11_best_29 : decode cX11_best 29 = .ok (.aload_n 0, 1) := by decide +kernel
theorem dX11_best_30 : decode cX11_best 30 = .ok (.invokevirtual 174, 3) := by decide +kernel
theorem dX11_best_33 : decode cX11_best 33 = .ok (.ifCond .eq 18, 3) := by decide +kernel
theorem dX11_best_36 : decode cX11_best 36 = .ok (.aload_n 0, 1) := by decide +kernel
theorem dX11_best_37 : decode cX11_best 37 = .ok (.getfield 164, 3) := by decide +kernel
theorem dX11_best_40 : decode cX11_best 40 = .ok (.iload_n 2, 1) := by decide +kernel
theorem dX11_best_41 : decode cX11_best 41 = .ok (.if_icmp .le 10, 3) := by decide +kernel
theorem dX11_best_44 : decode cX11_best 44 = .ok (.iload_n 3, 1) := by decide +kernel
theorem dX11_best_45 : decode cX11_best 45 = .ok (.istore_n 1, 1) := by decide +kernel
theorem dX11_best_46 : decode cX11_best 46 = .ok (.aload_n 0, 1) := by decide +kernel
theorem dX11_best_47 : decode cX11_best 47 = .ok (.getfield 164, 3) := by decide +kernel
theorem dX11_best_50 : decode cX11_best 50 = .ok (.istore_n 2, 1) := by decide +kernel
theorem dX11_best_51 : decode cX11_best 51 = .ok (.aload_n 0, 1) := by decide +kernel
theorem dX11_best_52 : decode cX11_best 52 = .ok (.aload_n 0, 1) := by decide +kernel
theorem dX11_best_53 : decode cX11_best 53 = .ok (.getfield 58, 3) := by decide +kernel
theorem dX11_best_56 : decode cX11_best 56 = .ok (.invokevirtual 184, 3) := by decide +kernel
theorem dX11_best_59 : decode cX11_best 59 = .ok (.iinc 3 1, 3) := by decide +kernel
theorem dX11_best_62 : decode cX11_best 62 = .ok (.goto (-49), 3) := by decide +kernel
theorem dX11_best_65 : decode cX11_best 65 = .ok (.iload_n 1, 1) := by decide +kernel
theorem dX11_best_66 : decode cX11_best 66 = .ok (.iconst (-1), 1) := by decide +kernel
theorem dX11_best_67 : decode cX11_best 67 = .ok (.if_icmp .ne 10, 3) := by decide +kernel
theorem dX11_best_70 : decode cX11_best 70 = .ok (.aload_n 0, 1) := by decide +kernel
theorem dX11_best_71 : decode cX11_best 71 = .ok (.invokevirtual 131, 3) := by decide +kernel
theorem dX11_best_74 : decode cX11_best 74 = .ok (.goto 4, 3) := by decide +kernel
theorem dX11_best_77 : decode cX11_best 77 = .ok (.iload_n 1, 1) := by decide +kernel
theorem dX11_best_78 : decode cX11_best 78 = .ok (.ireturn, 1) := by decide +kernel
theorem dX11_when_0 : decode cX11_when 0 = .ok (.aload_n 0, 1) := by decide +kernel
theorem dX11_when_1 : decode cX11_when 1 = .ok (.iload_n 1, 1) := by decide +kernel
theorem dX11_when_2 : decode cX11_when 2 = .ok (.invokevirtual 124, 3) := by decide +kernel
theorem dX11_when_5 : decode cX11_when 5 = .ok (.ifCond .eq 15, 3) := by decide +kernel
theorem dX11_when_8 : decode cX11_when 8 = .ok (.iload_n 2, 1) := by decide +kernel
theorem dX11_when_9 : decode cX11_when 9 = .ok (.i2l, 1) := by decide +kernel
theorem dX11_when_10 : decode cX11_when 10 = .ok (.lconst 0, 1) := by decide +kernel
theorem dX11_when_11 : decode cX11_when 11 = .ok (.ldc2_w 202, 3) := by decide +kernel
theorem dX11_when_14 : decode cX11_when 14 = .ok (.invokestatic 97, 3) := by decide +kernel
theorem dX11_when_17 : decode cX11_when 17 = .ok (.ifCond .ne 10, 3) := by decide +kernel
theorem dX11_when_20 : decode cX11_when 20 = .ok (.aload_n 0, 1) := by decide +kernel
theorem dX11_when_21 : decode cX11_when 21 = .ok (.bipush (-2), 2) := by decide +kernel
theorem dX11_when_23 : decode cX11_when 23 = .ok (.invokevirtual 120, 3) := by decide +kernel
theorem dX11_when_26 : decode cX11_when 26 = .ok (.ireturn, 1) := by decide +kernel
theorem dX11_when_27 : decode cX11_when 27 = .ok (.iconst 0, 1) := by decide +kernel
theorem dX11_when_28 : decode cX11_when 28 = .ok (.istore_n 3, 1) := by decide +kernel
theorem dX11_when_29 : decode cX11_when 29 = .ok (.aload_n 0, 1) := by decide +kernel
theorem dX11_when_30 : decode cX11_when 30 = .ok (.getfield 58, 3) := by decide +kernel
theorem dX11_when_33 : decode cX11_when 33 = .ok (.invokestatic 178, 3) := by decide +kernel
theorem dX11_when_36 : decode cX11_when 36 = .ok (.iconst 0, 1) := by decide +kernel
theorem dX11_when_37 : decode cX11_when 37 = .ok (.istore 4, 2) := by decide +kernel
theorem dX11_when_39 : decode cX11_when 39 = .ok (.iload 4, 2) := by decide +kernel
theorem dX11_when_41 : decode cX11_when 41 = .ok (.aload_n 0, 1) := by decide +kernel
theorem dX11_when_42 : decode cX11_when 42 = .ok (.invokevirtual 147, 3) := by decide +kernel
theorem dX11_when_45 : decode cX11_when 45 = .ok (.if_icmp .ge 57, 3) := by decide +kernel
theorem dX11_when_48 : decode cX11_when 48 = .ok (.aload_n 0, 1) := by decide +kernel
theorem dX11_when_49 : decode cX11_when 49 = .ok (.aload_n 0, 1) := by decide +kernel
theorem dX11_when_50 : decode cX11_when 50 = .ok (.getfield 58, 3) := by decide +kernel
theorem dX11_when_53 : decode cX11_when 53 = .ok (.invokevirtual 170, 3) := by decide +kernel
theorem dX11_when_56 : decode cX11_when 56 = .ok (.iload_n 3, 1) := by decide +kernel
theorem dX11_when_57 : decode cX11_when 57 = .ok (.aload_n 0, 1) := by decide +kernel
theorem dX11_when_58 : decode cX11_when 58 = .ok (.invokevirtual 174, 3) := by decide +kernel
theorem dX11_when_61 : decode cX11_when 61 = .ok (.ifCond .eq 24, 3) := by decide +kernel
theorem dX11_when_64 : decode cX11_when 64 = .ok (.aload_n 0, 1) := by decide +kernel
theorem dX11_when_65 : decode cX11_when 65 = .ok (.getfield 52, 3) := by decide +kernel
theorem dX11_when_68 : decode cX11_when 68 = .ok (.iload_n 1, 1) := by decide +kernel
theorem dX11_when_69 : decode cX11_when 69 = .ok (.iaload, 1) := by decide +kernel
theorem dX11_when_70 : decode cX11_when 70 = .ok (.iload_n 2, 1) := by decide +kernel
theorem dX11_when_71 : decode cX11_when 71 = .ok (.if_icmp .ne 14, 3) := by decide +kernel
theorem dX11_when_74 : decode cX11_when 74 = .ok (.iconst 1, 1) := by decide +kernel
theorem dX11_when_75 : decode cX11_when 75 = .ok (.aload_n 0, 1) := by decide +kernel
theorem dX11_when_76 : decode cX11_when 76 = .ok (.getfield 55, 3) := by decide +kernel
theorem dX11_when_79 : decode cX11_when 79 = .ok (.iload_n 1, 1) := by decide +kernel
theorem dX11_when_80 : decode cX11_when 80 = .ok (.iaload, 1) := by decide +kernel
theorem dX11_when_81 : decode cX11_when 81 = .ok (.ishl, 1) := by decide +kernel
theorem dX11_when_82 : decode cX11_when 82 = .ok (.goto 4, 3) := by decide +kernel
theorem dX11_when_85 : decode cX11_when 85 = .ok (.iconst 0, 1) := by decide +kernel
theorem dX11_when_86 : decode cX11_when 86 = .ok (.ior, 1) := by decide +kernel
theorem dX11_when_87 : decode cX11_when 87 = .ok (.istore_n 3, 1) := by decide +kernel
theorem dX11_when_88 : decode cX11_when 88 = .ok (.aload_n 0, 1) := by decide +kernel
theorem dX11_when_89 : decode cX11_when 89 = .ok (.aload_n 0, 1) := by decide +kernel
theorem dX11_when_90 : decode cX11_when 90 = .ok (.getfield 58, 3) := by decide +kernel
theorem dX11_when_93 : decode cX11_when 93 = .ok (.invokevirtual 184, 3) := by decide +kernel
theorem dX11_when_96 : decode cX11_when 96 = .ok (.iinc 4 1, 3) := by decide +kernel
theorem dX11_when_99 : decode cX11_when 99 = .ok (.goto (-60), 3) := by decide +kernel
theorem dX11_when_102 : decode cX11_when 102 = .ok (.iload_n 3, 1) := by decide +kernel
theorem dX11_when_103 : decode cX11_when 103 = .ok (.ireturn, 1) := by decide +kernel
theorem dX11_diary_0 : decode cX11_diary 0 = .ok (.aload_n 0, 1) := by decide +kernel
theorem dX11_diary_1 : decode cX11_diary 1 = .ok (.iload_n 1, 1) := by decide +kernel
theorem dX11_diary_2 : decode cX11_diary 2 = .ok (.invokevirtual 124, 3) := by decide +kernel
theorem dX11_diary_5 : decode cX11_diary 5 = .ok (.ifCond .eq 17, 3) := by decide +kernel
theorem dX11_diary_8 : decode cX11_diary 8 = .ok (.iload_n 2, 1) := by decide +kernel
theorem dX11_diary_9 : decode cX11_diary 9 = .ok (.i2l, 1) := by decide +kernel
theorem dX11_diary_10 : decode cX11_diary 10 = .ok (.ldc2_w 204, 3) := by decide +kernel
theorem dX11_diary_13 : decode cX11_diary 13 = .ok (.ldc2_w 202, 3) := by decide +kernel
theorem dX11_diary_16 : decode cX11_diary 16 = .ok (.invokestatic 97, 3) := by decide +kernel
theorem dX11_diary_19 : decode cX11_diary 19 = .ok (.ifCond .ne 10, 3) := by decide +kernel
theorem dX11_diary_22 : decode cX11_diary 22 = .ok (.aload_n 0, 1) := by decide +kernel
theorem dX11_diary_23 : decode cX11_diary 23 = .ok (.bipush (-10), 2) := by decide +kernel
theorem dX11_diary_25 : decode cX11_diary 25 = .ok (.invokevirtual 120, 3) := by decide +kernel
theorem dX11_diary_28 : decode cX11_diary 28 = .ok (.ireturn, 1) := by decide +kernel
theorem dX11_diary_29 : decode cX11_diary 29 = .ok (.aload_n 0, 1) := by decide +kernel
theorem dX11_diary_30 : decode cX11_diary 30 = .ok (.getfield 43, 3) := by decide +kernel
theorem dX11_diary_33 : decode cX11_diary 33 = .ok (.iload_n 1, 1) := by decide +kernel
theorem dX11_diary_34 : decode cX11_diary 34 = .ok (.iaload, 1) := by decide +kernel
theorem dX11_diary_35 : decode cX11_diary 35 = .ok (.istore_n 3, 1) := by decide +kernel
theorem dX11_diary_36 : decode cX11_diary 36 = .ok (.aload_n 0, 1) := by decide +kernel
theorem dX11_diary_37 : decode cX11_diary 37 = .ok (.getfield 43, 3) := by decide +kernel
theorem dX11_diary_40 : decode cX11_diary 40 = .ok (.iload_n 1, 1) := by decide +kernel
theorem dX11_diary_41 : decode cX11_diary 41 = .ok (.iload_n 2, 1) := by decide +kernel
theorem dX11_diary_42 : decode cX11_diary 42 = .ok (.iastore, 1) := by decide +kernel
theorem dX11_diary_43 : decode cX11_diary 43 = .ok (.iload_n 3, 1) := by decide +kernel
theorem dX11_diary_44 : decode cX11_diary 44 = .ok (.ireturn, 1) := by decide +kernel
theorem dX11_torn_0 : decode cX11_torn 0 = .ok (.iload_n 1, 1) := by decide +kernel
theorem dX11_torn_1 : decode cX11_torn 1 = .ok (.i2l, 1) := by decide +kernel
theorem dX11_torn_2 : decode cX11_torn 2 = .ok (.lconst 0, 1) := by decide +kernel
theorem dX11_torn_3 : decode cX11_torn 3 = .ok (.lconst 1, 1) := by decide +kernel
theorem dX11_torn_4 : decode cX11_torn 4 = .ok (.invokestatic 97, 3) := by decide +kernel
theorem dX11_torn_7 : decode cX11_torn 7 = .ok (.ifCond .ne 10, 3) := by decide +kernel
theorem dX11_torn_10 : decode cX11_torn 10 = .ok (.aload_n 0, 1) := by decide +kernel
theorem dX11_torn_11 : decode cX11_torn 11 = .ok (.bipush (-10), 2) := by decide +kernel
theorem dX11_torn_13 : decode cX11_torn 13 = .ok (.invokevirtual 120, 3) := by decide +kernel
theorem dX11_torn_16 : decode cX11_torn 16 = .ok (.ireturn, 1) := by decide +kernel
theorem dX11_torn_17 : decode cX11_torn 17 = .ok (.iconst 0, 1) := by decide +kernel
theorem dX11_torn_18 : decode cX11_torn 18 = .ok (.istore_n 2, 1) := by decide +kernel
theorem dX11_torn_19 : decode cX11_torn 19 = .ok (.iconst (-1), 1) := by decide +kernel
theorem dX11_torn_20 : decode cX11_torn 20 = .ok (.istore_n 3, 1) := by decide +kernel
theorem dX11_torn_21 : decode cX11_torn 21 = .ok (.aload_n 0, 1) := by decide +kernel
theorem dX11_torn_22 : decode cX11_torn 22 = .ok (.getfield 58, 3) := by decide +kernel
theorem dX11_torn_25 : decode cX11_torn 25 = .ok (.invokestatic 178, 3) := by decide +kernel
theorem dX11_torn_28 : decode cX11_torn 28 = .ok (.iconst 0, 1) := by decide +kernel
theorem dX11_torn_29 : decode cX11_torn 29 = .ok (.istore 4, 2) := by decide +kernel
theorem dX11_torn_31 : decode cX11_torn 31 = .ok (.iload 4, 2) := by decide +kernel
theorem dX11_torn_33 : decode cX11_torn 33 = .ok (.aload_n 0, 1) := by decide +kernel
theorem dX11_torn_34 : decode cX11_torn 34 = .ok (.invokevirtual 147, 3) := by decide +kernel
theorem dX11_torn_37 : decode cX11_torn 37 = .ok (.if_icmp .ge 124, 3) := by decide +kernel
theorem dX11_torn_40 : decode cX11_torn 40 = .ok (.aload_n 0, 1) := by decide +kernel
theorem dX11_torn_41 : decode cX11_torn 41 = .ok (.aload_n 0, 1) := by decide +kernel
theorem dX11_torn_42 : decode cX11_torn 42 = .ok (.getfield 58, 3) := by decide +kernel
theorem dX11_torn_45 : decode cX11_torn 45 = .ok (.invokevirtual 170, 3) := by decide +kernel
theorem dX11_torn_48 : decode cX11_torn 48 = .ok (.aload_n 0, 1) := by decide +kernel
theorem dX11_torn_49 : decode cX11_torn 49 = .ok (.invokevirtual 174, 3) := by decide +kernel
theorem dX11_torn_52 : decode cX11_torn 52 = .ok (.istore 5, 2) := by decide +kernel
theorem dX11_torn_54 : decode cX11_torn 54 = .ok (.iconst 0, 1) := by decide +kernel
theorem dX11_torn_55 : decode cX11_torn 55 = .ok (.istore 6, 2) := by decide +kernel
theorem dX11_torn_57 : decode cX11_torn 57 = .ok (.iload 6, 2) := by decide +kernel
theorem dX11_torn_59 : decode cX11_torn 59 = .ok (.aload_n 0, 1) := by decide +kernel
theorem dX11_torn_60 : decode cX11_torn 60 = .ok (.getfield 93, 3) := by decide +kernel
theorem dX11_torn_63 : decode cX11_torn 63 = .ok (.if_icmp .ge 54, 3) := by decide +kernel
theorem dX11_torn_66 : decode cX11_torn 66 = .ok (.iload 5, 2) := by decide +kernel
theorem dX11_torn_68 : decode cX11_torn 68 = .ok (.ifCond .eq 40, 3) := by decide +kernel
theorem dX11_torn_71 : decode cX11_torn 71 = .ok (.aload_n 0, 1) := by decide +kernel
theorem dX11_torn_72 : decode cX11_torn 72 = .ok (.getfield 43, 3) := by decide +kernel
theorem dX11_torn_75 : decode cX11_torn 75 = .ok (.iload 6, 2) := by decide +kernel
theorem dX11_torn_77 : decode cX11_torn 77 = .ok (.iaload, 1) := by decide +kernel
theorem dX11_torn_78 : decode cX11_torn 78 = .ok (.iconst (-1), 1) := by decide +kernel
theorem dX11_torn_79 : decode cX11_torn 79 = .ok (.if_icmp .eq 25, 3) := by decide +kernel
theorem dX11_torn_82 : decode cX11_torn 82 = .ok (.aload_n 0, 1) := by decide +kernel
theorem dX11_torn_83 : decode cX11_torn 83 = .ok (.getfield 52, 3) := by decide +kernel
theorem dX11_torn_86 : decode cX11_torn 86 = .ok (.aload_n 0, 1) := by decide +kernel
theorem dX11_torn_87 : decode cX11_torn 87 = .ok (.getfield 58, 3) := by decide +kernel
theorem dX11_torn_90 : decode cX11_torn 90 = .ok (.iload 6, 2) := by decide +kernel
theorem dX11_torn_92 : decode cX11_torn 92 = .ok (.iaload, 1) := by decide +kernel
theorem dX11_torn_93 : decode cX11_torn 93 = .ok (.iaload, 1) := by decide +kernel
theorem dX11_torn_94 : decode cX11_torn 94 = .ok (.aload_n 0, 1) := by decide +kernel
theorem dX11_torn_95 : decode cX11_torn 95 = .ok (.getfield 43, 3) := by decide +kernel
theorem dX11_torn_98 : decode cX11_torn 98 = .ok (.iload 6, 2) := by decide +kernel
theorem dX11_torn_100 : decode cX11_torn 100 = .ok (.iaload, 1) := by decide +kernel
theorem dX11_torn_101 : decode cX11_torn 101 = .ok (.if_icmp .ne 7, 3) := by decide +kernel
theorem dX11_torn_104 : decode cX11_torn 104 = .ok (.iconst 1, 1) := by decide +kernel
theorem dX11_torn_105 : decode cX11_torn 105 = .ok (.goto 4, 3) := by decide +kernel
theorem dX11_torn_108 : decode cX11_torn 108 = .ok (.iconst 0, 1) := by decide +kernel
theorem dX11_torn_109 : decode cX11_torn 109 = .ok (.istore 5, 2) := by decide +kernel
theorem dX11_torn_111 : decode cX11_torn 111 = .ok (.iinc 6 1, 3) := by decide +kernel
theorem dX11_torn_114 : decode cX11_torn 114 = .ok (.goto (-57), 3) := by decide +kernel
theorem dX11_torn_117 : decode cX11_torn 117 = .ok (.iload 5, 2) := by decide +kernel
theorem dX11_torn_119 : decode cX11_torn 119 = .ok (.ifCond .eq 13, 3) := by decide +kernel
theorem dX11_torn_122 : decode cX11_torn 122 = .ok (.iload_n 3, 1) := by decide +kernel
theorem dX11_torn_123 : decode cX11_torn 123 = .ok (.iconst (-1), 1) := by decide +kernel
theorem dX11_torn_124 : decode cX11_torn 124 = .ok (.if_icmp .ne 8, 3) := by decide +kernel
theorem dX11_torn_127 : decode cX11_torn 127 = .ok (.iload 4, 2) := by decide +kernel
theorem dX11_torn_129 : decode cX11_torn 129 = .ok (.goto 4, 3) := by decide +kernel
theorem dX11_torn_132 : decode cX11_torn 132 = .ok (.iload_n 3, 1) := by decide +kernel
theorem dX11_torn_133 : decode cX11_torn 133 = .ok (.istore_n 3, 1) := by decide +kernel
theorem dX11_torn_134 : decode cX11_torn 134 = .ok (.iload_n 2, 1) := by decide +kernel
theorem dX11_torn_135 : decode cX11_torn 135 = .ok (.iload 5, 2) := by decide +kernel
theorem dX11_torn_137 : decode cX11_torn 137 = .ok (.ifCond .eq 7, 3) := by decide +kernel
theorem dX11_torn_140 : decode cX11_torn 140 = .ok (.iconst 1, 1) := by decide +kernel
theorem dX11_torn_141 : decode cX11_torn 141 = .ok (.goto 4, 3) := by decide +kernel
theorem dX11_torn_144 : decode cX11_torn 144 = .ok (.iconst 0, 1) := by decide +kernel
theorem dX11_torn_145 : decode cX11_torn 145 = .ok (.iadd, 1) := by decide +kernel
theorem dX11_torn_146 : decode cX11_torn 146 = .ok (.istore_n 2, 1) := by decide +kernel
theorem dX11_torn_147 : decode cX11_torn 147 = .ok (.aload_n 0, 1) := by decide +kernel
theorem dX11_torn_148 : decode cX11_torn 148 = .ok (.aload_n 0, 1) := by decide +kernel
theorem dX11_torn_149 : decode cX11_torn 149 = .ok (.getfield 58, 3) := by decide +kernel
theorem dX11_torn_152 : decode cX11_torn 152 = .ok (.invokevirtual 184, 3) := by decide +kernel
theorem dX11_torn_155 : decode cX11_torn 155 = .ok (.iinc 4 1, 3) := by decide +kernel
theorem dX11_torn_158 : decode cX11_torn 158 = .ok (.goto (-127), 3) := by decide +kernel
theorem dX11_torn_161 : decode cX11_torn 161 = .ok (.iload_n 1, 1) := by decide +kernel
theorem dX11_torn_162 : decode cX11_torn 162 = .ok (.ifCond .ne 7, 3) := by decide +kernel
theorem dX11_torn_165 : decode cX11_torn 165 = .ok (.iload_n 2, 1) := by decide +kernel
theorem dX11_torn_166 : decode cX11_torn 166 = .ok (.goto 4, 3) := by decide +kernel
theorem dX11_torn_169 : decode cX11_torn 169 = .ok (.iload_n 3, 1) := by decide +kernel
theorem dX11_torn_170 : decode cX11_torn 170 = .ok (.ireturn, 1) := by decide +kernel
theorem dX11_promise_0 : decode cX11_promise 0 = .ok (.iload_n 1, 1) := by decide +kernel
theorem dX11_promise_1 : decode cX11_promise 1 = .ok (.invokestatic 128, 3) := by decide +kernel
theorem dX11_promise_4 : decode cX11_promise 4 = .ok (.ifCond .eq 24, 3) := by decide +kernel
theorem dX11_promise_7 : decode cX11_promise 7 = .ok (.aload_n 0, 1) := by decide +kernel
theorem dX11_promise_8 : decode cX11_promise 8 = .ok (.iload_n 2, 1) := by decide +kernel
theorem dX11_promise_9 : decode cX11_promise 9 = .ok (.invokevirtual 124, 3) := by decide +kernel
theorem dX11_promise_12 : decode cX11_promise 12 = .ok (.ifCond .eq 16, 3) := by decide +kernel
theorem dX11_promise_15 : decode cX11_promise 15 = .ok (.aload_n 0, 1) := by decide +kernel
theorem dX11_promise_16 : decode cX11_promise 16 = .ok (.iload_n 3, 1) := by decide +kernel
theorem dX11_promise_17 : decode cX11_promise 17 = .ok (.invokevirtual 124, 3) := by decide +kernel
theorem dX11_promise_20 : decode cX11_promise 20 = .ok (.ifCond .eq 8, 3) := by decide +kernel
theorem dX11_promise_23 : decode cX11_promise 23 = .ok (.iload_n 2, 1) := by decide +kernel
theorem dX11_promise_24 : decode cX11_promise 24 = .ok (.iload_n 3, 1) := by decide +kernel
theorem dX11_promise_25 : decode cX11_promise 25 = .ok (.if_icmp .ne 10, 3) := by decide +kernel
theorem dX11_promise_28 : decode cX11_promise 28 = .ok (.aload_n 0, 1) := by decide +kernel
theorem dX11_promise_29 : decode cX11_promise 29 = .ok (.bipush (-2), 2) := by decide +kernel
theorem dX11_promise_31 : decode cX11_promise 31 = .ok (.invokevirtual 120, 3) := by decide +kernel
theorem dX11_promise_34 : decode cX11_promise 34 = .ok (.ireturn, 1) := by decide +kernel
theorem dX11_promise_35 : decode cX11_promise 35 = .ok (.aload_n 0, 1) := by decide +kernel
theorem dX11_promise_36 : decode cX11_promise 36 = .ok (.getfield 19, 3) := by decide +kernel
theorem dX11_promise_39 : decode cX11_promise 39 = .ok (.iload_n 2, 1) := by decide +kernel
theorem dX11_promise_40 : decode cX11_promise 40 = .ok (.iaload, 1) := by decide +kernel
theorem dX11_promise_41 : decode cX11_promise 41 = .ok (.istore 4, 2) := by decide +kernel
theorem dX11_promise_43 : decode cX11_promise 43 = .ok (.aload_n 0, 1) := by decide +kernel
theorem dX11_promise_44 : decode cX11_promise 44 = .ok (.getfield 19, 3) := by decide +kernel
theorem dX11_promise_47 : decode cX11_promise 47 = .ok (.iload_n 2, 1) := by decide +kernel
theorem dX11_promise_48 : decode cX11_promise 48 = .ok (.dup2, 1) := by decide +kernel
theorem dX11_promise_49 : decode cX11_promise 49 = .ok (.iaload, 1) := by decide +kernel
theorem dX11_promise_50 : decode cX11_promise 50 = .ok (.iconst 1, 1) := by decide +kernel
theorem dX11_promise_51 : decode cX11_promise 51 = .ok (.iload_n 1, 1) := by decide +kernel
theorem dX11_promise_52 : decode cX11_promise 52 = .ok (.ishl, 1) := by decide +kernel
theorem dX11_promise_53 : decode cX11_promise 53 = .ok (.ior, 1) := by decide +kernel
theorem dX11_promise_54 : decode cX11_promise 54 = .ok (.iastore, 1) := by decide +kernel
theorem dX11_promise_55 : decode cX11_promise 55 = .ok (.lconst 0, 1) := by decide +kernel
theorem dX11_promise_56 : decode cX11_promise 56 = .ok (.lstore 5, 2) := by decide +kernel
theorem dX11_promise_58 : decode cX11_promise 58 = .ok (.aload_n 0, 1) := by decide +kernel
theorem dX11_promise_59 : decode cX11_promise 59 = .ok (.getfield 58, 3) := by decide +kernel
theorem dX11_promise_62 : decode cX11_promise 62 = .ok (.invokestatic 178, 3) := by decide +kernel
theorem dX11_promise_65 : decode cX11_promise 65 = .ok (.iconst 0, 1) := by decide +kernel
theorem dX11_promise_66 : decode cX11_promise 66 = .ok (.istore 7, 2) := by decide +kernel
theorem dX11_promise_68 : decode cX11_promise 68 = .ok (.iload 7, 2) := by decide +kernel
theorem dX11_promise_70 : decode cX11_promise 70 = .ok (.aload_n 0, 1) := by decide +kernel
theorem dX11_promise_71 : decode cX11_promise 71 = .ok (.invokevirtual 147, 3) := by decide +kernel
theorem dX11_promise_74 : decode cX11_promise 74 = .ok (.if_icmp .ge 41, 3) := by decide +kernel
theorem dX11_promise_77 : decode cX11_promise 77 = .ok (.aload_n 0, 1) := by decide +kernel
theorem dX11_promise_78 : decode cX11_promise 78 = .ok (.aload_n 0, 1) := by decide +kernel
theorem dX11_promise_79 : decode cX11_promise 79 = .ok (.getfield 58, 3) := by decide +kernel
theorem dX11_promise_82 : decode cX11_promise 82 = .ok (.invokevirtual 170, 3) := by decide +kernel
theorem dX11_promise_85 : decode cX11_promise 85 = .ok (.lload 5, 2) := by decide +kernel
theorem dX11_promise_87 : decode cX11_promise 87 = .ok (.aload_n 0, 1) := by decide +kernel
theorem dX11_promise_88 : decode cX11_promise 88 = .ok (.getfield 52, 3) := by decide +kernel
theorem dX11_promise_91 : decode cX11_promise 91 = .ok (.iload_n 3, 1) := by decide +kernel
theorem dX11_promise_92 : decode cX11_promise 92 = .ok (.iaload, 1) := by decide +kernel
theorem dX11_promise_93 : decode cX11_promise 93 = .ok (.iload_n 1, 1) := by decide +kernel
theorem dX11_promise_94 : decode cX11_promise 94 = .ok (.ishr, 1) := by decide +kernel
theorem dX11_promise_95 : decode cX11_promise 95 = .ok (.iconst 1, 1) := by decide +kernel
theorem dX11_promise_96 : decode cX11_promise 96 = .ok (.iand, 1) := by decide +kernel
theorem dX11_promise_97 : decode cX11_promise 97 = .ok (.i2l, 1) := by decide +kernel
theorem dX11_promise_98 : decode cX11_promise 98 = .ok (.ladd, 1) := by decide +kernel
theorem dX11_promise_99 : decode cX11_promise 99 = .ok (.lstore 5, 2) := by decide +kernel
theorem dX11_promise_101 : decode cX11_promise 101 = .ok (.aload_n 0, 1) := by decide +kernel
theorem dX11_promise_102 : decode cX11_promise 102 = .ok (.aload_n 0, 1) := by decide +kernel
theorem dX11_promise_103 : decode cX11_promise 103 = .ok (.getfield 58, 3) := by decide +kernel
theorem dX11_promise_106 : decode cX11_promise 106 = .ok (.invokevirtual 184, 3) := by decide +kernel
theorem dX11_promise_109 : decode cX11_promise 109 = .ok (.iinc 7 1, 3) := by decide +kernel
theorem dX11_promise_112 : decode cX11_promise 112 = .ok (.goto (-44), 3) := by decide +kernel
theorem dX11_promise_115 : decode cX11_promise 115 = .ok (.aload_n 0, 1) := by decide +kernel
theorem dX11_promise_116 : decode cX11_promise 116 = .ok (.getfield 19, 3) := by decide +kernel
theorem dX11_promise_119 : decode cX11_promise 119 = .ok (.iload_n 2, 1) := by decide +kernel
theorem dX11_promise_120 : decode cX11_promise 120 = .ok (.iload 4, 2) := by decide +kernel
theorem dX11_promise_122 : decode cX11_promise 122 = .ok (.iastore, 1) := by decide +kernel
theorem dX11_promise_123 : decode cX11_promise 123 = .ok (.aload_n 0, 1) := by decide +kernel
theorem dX11_promise_124 : decode cX11_promise 124 = .ok (.lload 5, 2) := by decide +kernel
theorem dX11_promise_126 : decode cX11_promise 126 = .ok (.aload_n 0, 1) := by decide +kernel
theorem dX11_promise_127 : decode cX11_promise 127 = .ok (.invokevirtual 147, 3) := by decide +kernel
theorem dX11_promise_130 : decode cX11_promise 130 = .ok (.i2l, 1) := by decide +kernel
theorem dX11_promise_131 : decode cX11_promise 131 = .ok (.invokevirtual 198, 3) := by decide +kernel
theorem dX11_promise_134 : decode cX11_promise 134 = .ok (.iconst 1, 1) := by decide +kernel
theorem dX11_promise_135 : decode cX11_promise 135 = .ok (.ireturn, 1) := by decide +kernel
theorem dX11_other_0 : decode cX11_other 0 = .ok (.aload_n 0, 1) := by decide +kernel
theorem dX11_other_1 : decode cX11_other 1 = .ok (.iload_n 1, 1) := by decide +kernel
theorem dX11_other_2 : decode cX11_other 2 = .ok (.invokevirtual 150, 3) := by decide +kernel
theorem dX11_other_5 : decode cX11_other 5 = .ok (.ifCond .ne 10, 3) := by decide +kernel
theorem dX11_other_8 : decode cX11_other 8 = .ok (.aload_n 0, 1) := by decide +kernel
theorem dX11_other_9 : decode cX11_other 9 = .ok (.bipush (-2), 2) := by decide +kernel
theorem dX11_other_11 : decode cX11_other 11 = .ok (.invokevirtual 120, 3) := by decide +kernel
theorem dX11_other_14 : decode cX11_other 14 = .ok (.ireturn, 1) := by decide +kernel
theorem dX11_other_15 : decode cX11_other 15 = .ok (.aload_n 0, 1) := by decide +kernel
theorem dX11_other_16 : decode cX11_other 16 = .ok (.getfield 112, 3) := by decide +kernel
theorem dX11_other_19 : decode cX11_other 19 = .ok (.istore_n 2, 1) := by decide +kernel
theorem dX11_other_20 : decode cX11_other 20 = .ok (.aload_n 0, 1) := by decide +kernel
theorem dX11_other_21 : decode cX11_other 21 = .ok (.iload_n 1, 1) := by decide +kernel
theorem dX11_other_22 : decode cX11_other 22 = .ok (.putfield 112, 3) := by decide +kernel
theorem dX11_other_25 : decode cX11_other 25 = .ok (.iload_n 2, 1) := by decide +kernel
theorem dX11_other_26 : decode cX11_other 26 = .ok (.ireturn, 1) := by decide +kernel
theorem dX11_both_0 : decode cX11_both 0 = .ok (.aload_n 0, 1) := by decide +kernel
theorem dX11_both_1 : decode cX11_both 1 = .ok (.aload_n 0, 1) := by decide +kernel
theorem dX11_both_2 : decode cX11_both 2 = .ok (.getfield 25, 3) := by decide +kernel
theorem dX11_both_5 : decode cX11_both 5 = .ok (.invokevirtual 170, 3) := by decide +kernel
theorem dX11_both_8 : decode cX11_both 8 = .ok (.iconst 0, 1) := by decide +kernel
theorem dX11_both_9 : decode cX11_both 9 = .ok (.istore_n 1, 1) := by decide +kernel
theorem dX11_both_10 : decode cX11_both 10 = .ok (.iload_n 1, 1) := by decide +kernel
theorem dX11_both_11 : decode cX11_both 11 = .ok (.aload_n 0, 1) := by decide +kernel
theorem dX11_both_12 : decode cX11_both 12 = .ok (.getfield 93, 3) := by decide +kernel
theorem dX11_both_15 : decode cX11_both 15 = .ok (.if_icmp .ge 21, 3) := by decide +kernel
theorem dX11_both_18 : decode cX11_both 18 = .ok (.aload_n 0, 1) := by decide +kernel
theorem dX11_both_19 : decode cX11_both 19 = .ok (.getfield 61, 3) := by decide +kernel
theorem dX11_both_22 : decode cX11_both 22 = .ok (.iload_n 1, 1) := by decide +kernel
theorem dX11_both_23 : decode cX11_both 23 = .ok (.aload_n 0, 1) := by decide +kernel
theorem dX11_both_24 : decode cX11_both 24 = .ok (.getfield 52, 3) := by decide +kernel
theorem dX11_both_27 : decode cX11_both 27 = .ok (.iload_n 1, 1) := by decide +kernel
theorem dX11_both_28 : decode cX11_both 28 = .ok (.iaload, 1) := by decide +kernel
theorem dX11_both_29 : decode cX11_both 29 = .ok (.iastore, 1) := by decide +kernel
theorem dX11_both_30 : decode cX11_both 30 = .ok (.iinc 1 1, 3) := by decide +kernel
theorem dX11_both_33 : decode cX11_both 33 = .ok (.goto (-23), 3) := by decide +kernel
theorem dX11_both_36 : decode cX11_both 36 = .ok (.aload_n 0, 1) := by decide +kernel
theorem dX11_both_37 : decode cX11_both 37 = .ok (.aload_n 0, 1) := by decide +kernel
theorem dX11_both_38 : decode cX11_both 38 = .ok (.getfield 112, 3) := by decide +kernel
theorem dX11_both_41 : decode cX11_both 41 = .ok (.aload_n 0, 1) := by decide +kernel
theorem dX11_both_42 : decode cX11_both 42 = .ok (.getfield 58, 3) := by decide +kernel
theorem dX11_both_45 : decode cX11_both 45 = .ok (.invokevirtual 157, 3) := by decide +kernel
theorem dX11_both_48 : decode cX11_both 48 = .ok (.aload_n 0, 1) := by decide +kernel
theorem dX11_both_49 : decode cX11_both 49 = .ok (.aload_n 0, 1) := by decide +kernel
theorem dX11_both_50 : decode cX11_both 50 = .ok (.getfield 58, 3) := by decide +kernel
theorem dX11_both_53 : decode cX11_both 53 = .ok (.invokevirtual 170, 3) := by decide +kernel
theorem dX11_both_56 : decode cX11_both 56 = .ok (.return_, 1) := by decide +kernel
theorem dX11_two_0 : decode cX11_two 0 = .ok (.aload_n 0, 1) := by decide +kernel
theorem dX11_two_1 : decode cX11_two 1 = .ok (.iload_n 1, 1) := by decide +kernel
theorem dX11_two_2 : decode cX11_two 2 = .ok (.invokevirtual 124, 3) := by decide +kernel
theorem dX11_two_5 : decode cX11_two 5 = .ok (.ifCond .ne 10, 3) := by decide +kernel
theorem dX11_two_8 : decode cX11_two 8 = .ok (.aload_n 0, 1) := by decide +kernel
theorem dX11_two_9 : decode cX11_two 9 = .ok (.bipush (-2), 2) := by decide +kernel
theorem dX11_two_11 : decode cX11_two 11 = .ok (.invokevirtual 120, 3) := by decide +kernel
theorem dX11_two_14 : decode cX11_two 14 = .ok (.ireturn, 1) := by decide +kernel
theorem dX11_two_15 : decode cX11_two 15 = .ok (.aload_n 0, 1) := by decide +kernel
theorem dX11_two_16 : decode cX11_two 16 = .ok (.invokevirtual 206, 3) := by decide +kernel
theorem dX11_two_19 : decode cX11_two 19 = .ok (.aload_n 0, 1) := by decide +kernel
theorem dX11_two_20 : decode cX11_two 20 = .ok (.getfield 61, 3) := by decide +kernel
theorem dX11_two_23 : decode cX11_two 23 = .ok (.iload_n 1, 1) := by decide +kernel
theorem dX11_two_24 : decode cX11_two 24 = .ok (.iaload, 1) := by decide +kernel
theorem dX11_two_25 : decode cX11_two 25 = .ok (.aload_n 0, 1) := by decide +kernel
theorem dX11_two_26 : decode cX11_two 26 = .ok (.getfield 52, 3) := by decide +kernel
theorem dX11_two_29 : decode cX11_two 29 = .ok (.iload_n 1, 1) := by decide +kernel
theorem dX11_two_30 : decode cX11_two 30 = .ok (.iaload, 1) := by decide +kernel
theorem dX11_two_31 : decode cX11_two 31 = .ok (.iand, 1) := by decide +kernel
theorem dX11_two_32 : decode cX11_two 32 = .ok (.ireturn, 1) := by decide +kernel
theorem dX11_settle_0 : decode cX11_settle 0 = .ok (.iload_n 1, 1) := by decide +kernel
theorem dX11_settle_1 : decode cX11_settle 1 = .ok (.invokestatic 128, 3) := by decide +kernel
theorem dX11_settle_4 : decode cX11_settle 4 = .ok (.ifCond .eq 13, 3) := by decide +kernel
theorem dX11_settle_7 : decode cX11_settle 7 = .ok (.iload_n 2, 1) := by decide +kernel
theorem dX11_settle_8 : decode cX11_settle 8 = .ok (.i2l, 1) := by decide +kernel
theorem dX11_settle_9 : decode cX11_settle 9 = .ok (.lconst 0, 1) := by decide +kernel
theorem dX11_settle_10 : decode cX11_settle 10 = .ok (.lconst 1, 1) := by decide +kernel
theorem dX11_settle_11 : decode cX11_settle 11 = .ok (.invokestatic 97, 3) := by decide +kernel
theorem dX11_settle_14 : decode cX11_settle 14 = .ok (.ifCond .ne 10, 3) := by decide +kernel
theorem dX11_settle_17 : decode cX11_settle 17 = .ok (.aload_n 0, 1) := by decide +kernel
theorem dX11_settle_18 : decode cX11_settle 18 = .ok (.bipush (-10), 2) := by decide +kernel
theorem dX11_settle_20 : decode cX11_settle 20 = .ok (.invokevirtual 120, 3) := by decide +kernel
theorem dX11_settle_23 : decode cX11_settle 23 = .ok (.ireturn, 1) := by decide +kernel
theorem dX11_settle_24 : decode cX11_settle 24 = .ok (.aload_n 0, 1) := by decide +kernel
theorem dX11_settle_25 : decode cX11_settle 25 = .ok (.invokevirtual 206, 3) := by decide +kernel
theorem dX11_settle_28 : decode cX11_settle 28 = .ok (.iconst 0, 1) := by decide +kernel
theorem dX11_settle_29 : decode cX11_settle 29 = .ok (.istore_n 3, 1) := by decide +kernel
theorem dX11_settle_30 : decode cX11_settle 30 = .ok (.iconst (-1), 1) := by decide +kernel
theorem dX11_settle_31 : decode cX11_settle 31 = .ok (.istore 4, 2) := by decide +kernel
theorem dX11_settle_33 : decode cX11_settle 33 = .ok (.iconst 0, 1) := by decide +kernel
theorem dX11_settle_34 : decode cX11_settle 34 = .ok (.istore 5, 2) := by decide +kernel
theorem dX11_settle_36 : decode cX11_settle 36 = .ok (.iload 5, 2) := by decide +kernel
theorem dX11_settle_38 : decode cX11_settle 38 = .ok (.aload_n 0, 1) := by decide +kernel
theorem dX11_settle_39 : decode cX11_settle 39 = .ok (.getfield 93, 3) := by decide +kernel
theorem dX11_settle_42 : decode cX11_settle 42 = .ok (.if_icmp .ge 71, 3) := by decide +kernel
theorem dX11_settle_45 : decode cX11_settle 45 = .ok (.aload_n 0, 1) := by decide +kernel
theorem dX11_settle_46 : decode cX11_settle 46 = .ok (.getfield 61, 3) := by decide +kernel
theorem dX11_settle_49 : decode cX11_settle 49 = .ok (.iload 5, 2) := by decide +kernel
theorem dX11_settle_51 : decode cX11_settle 51 = .ok (.iaload, 1) := by decide +kernel
theorem dX11_settle_52 : decode cX11_settle 52 = .ok (.aload_n 0, 1) := by decide +kernel
theorem dX11_settle_53 : decode cX11_settle 53 = .ok (.getfield 52, 3) := by decide +kernel
theorem dX11_settle_56 : decode cX11_settle 56 = .ok (.iload 5, 2) := by decide +kernel
theorem dX11_settle_58 : decode cX11_settle 58 = .ok (.iaload, 1) := by decide +kernel
theorem dX11_settle_59 : decode cX11_settle 59 = .ok (.iand, 1) := by decide +kernel
theorem dX11_settle_60 : decode cX11_settle 60 = .ok (.iconst 1, 1) := by decide +kernel
theorem dX11_settle_61 : decode cX11_settle 61 = .ok (.iload_n 1, 1) := by decide +kernel
theorem dX11_settle_62 : decode cX11_settle 62 = .ok (.ishl, 1) := by decide +kernel
theorem dX11_settle_63 : decode cX11_settle 63 = .ok (.iand, 1) := by decide +kernel
theorem dX11_settle_64 : decode cX11_settle 64 = .ok (.ifCond .eq 7, 3) := by decide +kernel
theorem dX11_settle_67 : decode cX11_settle 67 = .ok (.iconst 1, 1) := by decide +kernel
theorem dX11_settle_68 : decode cX11_settle 68 = .ok (.goto 4, 3) := by decide +kernel
theorem dX11_settle_71 : decode cX11_settle 71 = .ok (.iconst 0, 1) := by decide +kernel
theorem dX11_settle_72 : decode cX11_settle 72 = .ok (.istore 6, 2) := by decide +kernel
theorem dX11_settle_74 : decode cX11_settle 74 = .ok (.iload 6, 2) := by decide +kernel
theorem dX11_settle_76 : decode cX11_settle 76 = .ok (.ifCond .eq 14, 3) := by decide +kernel
theorem dX11_settle_79 : decode cX11_settle 79 = .ok (.iload 4, 2) := by decide +kernel
theorem dX11_settle_81 : decode cX11_settle 81 = .ok (.iconst (-1), 1) := by decide +kernel
theorem dX11_settle_82 : decode cX11_settle 82 = .ok (.if_icmp .ne 8, 3) := by decide +kernel
theorem dX11_settle_85 : decode cX11_settle 85 = .ok (.iload 5, 2) := by decide +kernel
theorem dX11_settle_87 : decode cX11_settle 87 = .ok (.goto 5, 3) := by decide +kernel
theorem dX11_settle_90 : decode cX11_settle 90 = .ok (.iload 4, 2) := by decide +kernel
theorem dX11_settle_92 : decode cX11_settle 92 = .ok (.istore 4, 2) := by decide +kernel
theorem dX11_settle_94 : decode cX11_settle 94 = .ok (.iload_n 3, 1) := by decide +kernel
theorem dX11_settle_95 : decode cX11_settle 95 = .ok (.iload 6, 2) := by decide +kernel
theorem dX11_settle_97 : decode cX11_settle 97 = .ok (.ifCond .eq 7, 3) := by decide +kernel
theorem dX11_settle_100 : decode cX11_settle 100 = .ok (.iconst 1, 1) := by decide +kernel
theorem dX11_settle_101 : decode cX11_settle 101 = .ok (.goto 4, 3) := by decide +kernel
theorem dX11_settle_104 : decode cX11_settle 104 = .ok (.iconst 0, 1) := by decide +kernel
theorem dX11_settle_105 : decode cX11_settle 105 = .ok (.iadd, 1) := by decide +kernel
theorem dX11_settle_106 : decode cX11_settle 106 = .ok (.istore_n 3, 1) := by decide +kernel
theorem dX11_settle_107 : decode cX11_settle 107 = .ok (.iinc 5 1, 3) := by decide +kernel
theorem dX11_settle_110 : decode cX11_settle 110 = .ok (.goto (-74), 3) := by decide +kernel
theorem dX11_settle_113 : decode cX11_settle 113 = .ok (.iload_n 2, 1) := by decide +kernel
theorem dX11_settle_114 : decode cX11_settle 114 = .ok (.ifCond .ne 7, 3) := by decide +kernel
theorem dX11_settle_117 : decode cX11_settle 117 = .ok (.iload_n 3, 1) := by decide +kernel
theorem dX11_settle_118 : decode cX11_settle 118 = .ok (.goto 5, 3) := by decide +kernel
theorem dX11_settle_121 : decode cX11_settle 121 = .ok (.iload 4, 2) := by decide +kernel
theorem dX11_settle_123 : decode cX11_settle 123 = .ok (.ireturn, 1) := by decide +kernel
theorem dX11_size_0 : decode cX11_size 0 = .ok (.iconst 0, 1) := by decide +kernel
theorem dX11_size_1 : decode cX11_size 1 = .ok (.istore_n 1, 1) := by decide +kernel
theorem dX11_size_2 : decode cX11_size 2 = .ok (.iload_n 0, 1) := by decide +kernel
theorem dX11_size_3 : decode cX11_size 3 = .ok (.istore_n 2, 1) := by decide +kernel
theorem dX11_size_4 : decode cX11_size 4 = .ok (.iload_n 2, 1) := by decide +kernel
theorem dX11_size_5 : decode cX11_size 5 = .ok (.ifCond .eq 15, 3) := by decide +kernel
theorem dX11_size_8 : decode cX11_size 8 = .ok (.iinc 1 1, 3) := by decide +kernel
theorem dX11_size_11 : decode cX11_size 11 = .ok (.iload_n 2, 1) := by decide +kernel
theorem dX11_size_12 : decode cX11_size 12 = .ok (.iload_n 2, 1) := by decide +kernel
theorem dX11_size_13 : decode cX11_size 13 = .ok (.iconst 1, 1) := by decide +kernel
theorem dX11_size_14 : decode cX11_size 14 = .ok (.isub, 1) := by decide +kernel
theorem dX11_size_15 : decode cX11_size 15 = .ok (.iand, 1) := by decide +kernel
theorem dX11_size_16 : decode cX11_size 16 = .ok (.istore_n 2, 1) := by decide +kernel
theorem dX11_size_17 : decode cX11_size 17 = .ok (.goto (-13), 3) := by decide +kernel
theorem dX11_size_20 : decode cX11_size 20 = .ok (.iload_n 1, 1) := by decide +kernel
theorem dX11_size_21 : decode cX11_size 21 = .ok (.ireturn, 1) := by decide +kernel
theorem dX11_named_0 : decode cX11_named 0 = .ok (.iconst 0, 1) := by decide +kernel
theorem dX11_named_1 : decode cX11_named 1 = .ok (.istore_n 3, 1) := by decide +kernel
theorem dX11_named_2 : decode cX11_named 2 = .ok (.iconst 0, 1) := by decide +kernel
theorem dX11_named_3 : decode cX11_named 3 = .ok (.istore 4, 2) := by decide +kernel
theorem dX11_named_5 : decode cX11_named 5 = .ok (.iload 4, 2) := by decide +kernel
theorem dX11_named_7 : decode cX11_named 7 = .ok (.aload_n 0, 1) := by decide +kernel
theorem dX11_named_8 : decode cX11_named 8 = .ok (.getfield 93, 3) := by decide +kernel
theorem dX11_named_11 : decode cX11_named 11 = .ok (.if_icmp .ge 33, 3) := by decide +kernel
theorem dX11_named_14 : decode cX11_named 14 = .ok (.iload_n 3, 1) := by decide +kernel
theorem dX11_named_15 : decode cX11_named 15 = .ok (.iload_n 1, 1) := by decide +kernel
theorem dX11_named_16 : decode cX11_named 16 = .ok (.iload 4, 2) := by decide +kernel
theorem dX11_named_18 : decode cX11_named 18 = .ok (.ishr, 1) := by decide +kernel
theorem dX11_named_19 : decode cX11_named 19 = .ok (.iconst 1, 1) := by decide +kernel
theorem dX11_named_20 : decode cX11_named 20 = .ok (.iand, 1) := by decide +kernel
theorem dX11_named_21 : decode cX11_named 21 = .ok (.iconst 1, 1) := by decide +kernel
theorem dX11_named_22 : decode cX11_named 22 = .ok (.if_icmp .ne 13, 3) := by decide +kernel
theorem dX11_named_25 : decode cX11_named 25 = .ok (.aload_n 0, 1) := by decide +kernel
theorem dX11_named_26 : decode cX11_named 26 = .ok (.getfield 19, 3) := by decide +kernel
theorem dX11_named_29 : decode cX11_named 29 = .ok (.iload 4, 2) := by decide +kernel
theorem dX11_named_31 : decode cX11_named 31 = .ok (.iaload, 1) := by decide +kernel
theorem dX11_named_32 : decode cX11_named 32 = .ok (.goto 4, 3) := by decide +kernel
theorem dX11_named_35 : decode cX11_named 35 = .ok (.iconst 0, 1) := by decide +kernel
theorem dX11_named_36 : decode cX11_named 36 = .ok (.ior, 1) := by decide +kernel
theorem dX11_named_37 : decode cX11_named 37 = .ok (.istore_n 3, 1) := by decide +kernel
theorem dX11_named_38 : decode cX11_named 38 = .ok (.iinc 4 1, 3) := by decide +kernel
theorem dX11_named_41 : decode cX11_named 41 = .ok (.goto (-36), 3) := by decide +kernel
theorem dX11_named_44 : decode cX11_named 44 = .ok (.aload_n 0, 1) := by decide +kernel
theorem dX11_named_45 : decode cX11_named 45 = .ok (.getfield 19, 3) := by decide +kernel
theorem dX11_named_48 : decode cX11_named 48 = .ok (.iload_n 2, 1) := by decide +kernel
theorem dX11_named_49 : decode cX11_named 49 = .ok (.iaload, 1) := by decide +kernel
theorem dX11_named_50 : decode cX11_named 50 = .ok (.iload_n 3, 1) := by decide +kernel
theorem dX11_named_51 : decode cX11_named 51 = .ok (.iconst (-1), 1) := by decide +kernel
theorem dX11_named_52 : decode cX11_named 52 = .ok (.ixor, 1) := by decide +kernel
theorem dX11_named_53 : decode cX11_named 53 = .ok (.iand, 1) := by decide +kernel
theorem dX11_named_54 : decode cX11_named 54 = .ok (.invokestatic 209, 3) := by decide +kernel
theorem dX11_named_57 : decode cX11_named 57 = .ok (.aload_n 0, 1) := by decide +kernel
theorem dX11_named_58 : decode cX11_named 58 = .ok (.getfield 64, 3) := by decide +kernel
theorem dX11_named_61 : decode cX11_named 61 = .ok (.iload_n 1, 1) := by decide +kernel
theorem dX11_named_62 : decode cX11_named 62 = .ok (.iconst 1, 1) := by decide +kernel
theorem dX11_named_63 : decode cX11_named 63 = .ok (.iload_n 2, 1) := by decide +kernel
theorem dX11_named_64 : decode cX11_named 64 = .ok (.ishl, 1) := by decide +kernel
theorem dX11_named_65 : decode cX11_named 65 = .ok (.ior, 1) := by decide +kernel
theorem dX11_named_66 : decode cX11_named 66 = .ok (.iaload, 1) := by decide +kernel
theorem dX11_named_67 : decode cX11_named 67 = .ok (.isub, 1) := by decide +kernel
theorem dX11_named_68 : decode cX11_named 68 = .ok (.ireturn, 1) := by decide +kernel
theorem dX11_game_0 : decode cX11_game 0 = .ok (.iload_n 1, 1) := by decide +kernel
theorem dX11_game_1 : decode cX11_game 1 = .ok (.i2l, 1) := by decide +kernel
theorem dX11_game_2 : decode cX11_game 2 = .ok (.lconst 0, 1) := by decide +kernel
theorem dX11_game_3 : decode cX11_game 3 = .ok (.lconst 1, 1) := by decide +kernel
theorem dX11_game_4 : decode cX11_game 4 = .ok (.invokestatic 97, 3) := by decide +kernel
theorem dX11_game_7 : decode cX11_game 7 = .ok (.ifCond .ne 10, 3) := by decide +kernel
theorem dX11_game_10 : decode cX11_game 10 = .ok (.aload_n 0, 1) := by decide +kernel
theorem dX11_game_11 : decode cX11_game 11 = .ok (.bipush (-100), 2) := by decide +kernel
theorem dX11_game_13 : decode cX11_game 13 = .ok (.invokevirtual 120, 3) := by decide +kernel
theorem dX11_game_16 : decode cX11_game 16 = .ok (.ireturn, 1) := by decide +kernel
theorem dX11_game_17 : decode cX11_game 17 = .ok (.aload_n 0, 1) := by decide +kernel
theorem dX11_game_18 : decode cX11_game 18 = .ok (.getfield 64, 3) := by decide +kernel
theorem dX11_game_21 : decode cX11_game 21 = .ok (.iconst 1, 1) := by decide +kernel
theorem dX11_game_22 : decode cX11_game 22 = .ok (.aload_n 0, 1) := by decide +kernel
theorem dX11_game_23 : decode cX11_game 23 = .ok (.getfield 93, 3) := by decide +kernel
theorem dX11_game_26 : decode cX11_game 26 = .ok (.ishl, 1) := by decide +kernel
theorem dX11_game_27 : decode cX11_game 27 = .ok (.iconst 1, 1) := by decide +kernel
theorem dX11_game_28 : decode cX11_game 28 = .ok (.isub, 1) := by decide +kernel
theorem dX11_game_29 : decode cX11_game 29 = .ok (.iconst 0, 1) := by decide +kernel
theorem dX11_game_30 : decode cX11_game 30 = .ok (.iastore, 1) := by decide +kernel
theorem dX11_game_31 : decode cX11_game 31 = .ok (.iconst 0, 1) := by decide +kernel
theorem dX11_game_32 : decode cX11_game 32 = .ok (.istore_n 2, 1) := by decide +kernel
theorem dX11_game_33 : decode cX11_game 33 = .ok (.iconst 1, 1) := by decide +kernel
theorem dX11_game_34 : decode cX11_game 34 = .ok (.aload_n 0, 1) := by decide +kernel
theorem dX11_game_35 : decode cX11_game 35 = .ok (.getfield 93, 3) := by decide +kernel
theorem dX11_game_38 : decode cX11_game 38 = .ok (.ishl, 1) := by decide +kernel
theorem dX11_game_39 : decode cX11_game 39 = .ok (.iconst 2, 1) := by decide +kernel
theorem dX11_game_40 : decode cX11_game 40 = .ok (.isub, 1) := by decide +kernel
theorem dX11_game_41 : decode cX11_game 41 = .ok (.istore_n 3, 1) := by decide +kernel
theorem dX11_game_42 : decode cX11_game 42 = .ok (.iload_n 3, 1) := by decide +kernel
theorem dX11_game_43 : decode cX11_game 43 = .ok (.ifCond .lt 93, 3) := by decide +kernel
theorem dX11_game_46 : decode cX11_game 46 = .ok (.bipush (-99), 2) := by decide +kernel
theorem dX11_game_48 : decode cX11_game 48 = .ok (.istore 4, 2) := by decide +kernel
theorem dX11_game_50 : decode cX11_game 50 = .ok (.iconst 0, 1) := by decide +kernel
theorem dX11_game_51 : decode cX11_game 51 = .ok (.istore 5, 2) := by decide +kernel
theorem dX11_game_53 : decode cX11_game 53 = .ok (.iload 5, 2) := by decide +kernel
theorem dX11_game_55 : decode cX11_game 55 = .ok (.aload_n 0, 1) := by decide +kernel
theorem dX11_game_56 : decode cX11_game 56 = .ok (.getfield 93, 3) := by decide +kernel
theorem dX11_game_59 : decode cX11_game 59 = .ok (.if_icmp .ge 63, 3) := by decide +kernel
theorem dX11_game_62 : decode cX11_game 62 = .ok (.iload_n 3, 1) := by decide +kernel
theorem dX11_game_63 : decode cX11_game 63 = .ok (.iload 5, 2) := by decide +kernel
theorem dX11_game_65 : decode cX11_game 65 = .ok (.ishr, 1) := by decide +kernel
theorem dX11_game_66 : decode cX11_game 66 = .ok (.iconst 1, 1) := by decide +kernel
theorem dX11_game_67 : decode cX11_game 67 = .ok (.iand, 1) := by decide +kernel
theorem dX11_game_68 : decode cX11_game 68 = .ok (.iconst 1, 1) := by decide +kernel
theorem dX11_game_69 : decode cX11_game 69 = .ok (.if_icmp .ne 8, 3) := by decide +kernel
theorem dX11_game_72 : decode cX11_game 72 = .ok (.bipush (-99), 2) := by decide +kernel
theorem dX11_game_74 : decode cX11_game 74 = .ok (.goto 10, 3) := by decide +kernel
theorem dX11_game_77 : decode cX11_game 77 = .ok (.aload_n 0, 1) := by decide +kernel
theorem dX11_game_78 : decode cX11_game 78 = .ok (.iload_n 3, 1) := by decide +kernel
theorem dX11_game_79 : decode cX11_game 79 = .ok (.iload 5, 2) := by decide +kernel
theorem dX11_game_81 : decode cX11_game 81 = .ok (.invokevirtual 212, 3) := by decide +kernel
theorem dX11_game_84 : decode cX11_game 84 = .ok (.istore 6, 2) := by decide +kernel
theorem dX11_game_86 : decode cX11_game 86 = .ok (.iload 6, 2) := by decide +kernel
theorem dX11_game_88 : decode cX11_game 88 = .ok (.iload 4, 2) := by decide +kernel
theorem dX11_game_90 : decode cX11_game 90 = .ok (.if_icmp .le 8, 3) := by decide +kernel
theorem dX11_game_93 : decode cX11_game 93 = .ok (.iload 5, 2) := by decide +kernel
theorem dX11_game_95 : decode cX11_game 95 = .ok (.goto 4, 3) := by decide +kernel
theorem dX11_game_98 : decode cX11_game 98 = .ok (.iload_n 2, 1) := by decide +kernel
theorem dX11_game_99 : decode cX11_game 99 = .ok (.istore_n 2, 1) := by decide +kernel
theorem dX11_game_100 : decode cX11_game 100 = .ok (.iload 6, 2) := by decide +kernel
theorem dX11_game_102 : decode cX11_game 102 = .ok (.iload 4, 2) := by decide +kernel
theorem dX11_game_104 : decode cX11_game 104 = .ok (.if_icmp .le 8, 3) := by decide +kernel
theorem dX11_game_107 : decode cX11_game 107 = .ok (.iload 6, 2) := by decide +kernel
theorem dX11_game_109 : decode cX11_game 109 = .ok (.goto 5, 3) := by decide +kernel
theorem dX11_game_112 : decode cX11_game 112 = .ok (.iload 4, 2) := by decide +kernel
theorem dX11_game_114 : decode cX11_game 114 = .ok (.istore 4, 2) := by decide +kernel
theorem dX11_game_116 : decode cX11_game 116 = .ok (.iinc 5 1, 3) := by decide +kernel
theorem dX11_game_119 : decode cX11_game 119 = .ok (.goto (-66), 3) := by decide +kernel
theorem dX11_game_122 : decode cX11_game 122 = .ok (.aload_n 0, 1) := by decide +kernel
theorem dX11_game_123 : decode cX11_game 123 = .ok (.getfield 64, 3) := by decide +kernel
theorem dX11_game_126 : decode cX11_game 126 = .ok (.iload_n 3, 1) := by decide +kernel
theorem dX11_game_127 : decode cX11_game 127 = .ok (.iload 4, 2) := by decide +kernel
theorem dX11_game_129 : decode cX11_game 129 = .ok (.iastore, 1) := by decide +kernel
theorem dX11_game_130 : decode cX11_game 130 = .ok (.iinc 3 (-1), 3) := by decide +kernel
theorem dX11_game_133 : decode cX11_game 133 = .ok (.goto (-91), 3) := by decide +kernel
theorem dX11_game_136 : decode cX11_game 136 = .ok (.iload_n 1, 1) := by decide +kernel
theorem dX11_game_137 : decode cX11_game 137 = .ok (.ifCond .ne 12, 3) := by decide +kernel
theorem dX11_game_140 : decode cX11_game 140 = .ok (.aload_n 0, 1) := by decide +kernel
theorem dX11_game_141 : decode cX11_game 141 = .ok (.getfield 64, 3) := by decide +kernel
theorem dX11_game_144 : decode cX11_game 144 = .ok (.iconst 0, 1) := by decide +kernel
theorem dX11_game_145 : decode cX11_game 145 = .ok (.iaload, 1) := by decide +kernel
theorem dX11_game_146 : decode cX11_game 146 = .ok (.goto 4, 3) := by decide +kernel
theorem dX11_game_149 : decode cX11_game 149 = .ok (.iload_n 2, 1) := by decide +kernel
theorem dX11_game_150 : decode cX11_game 150 = .ok (.ireturn, 1) := by decide +kernel
theorem dX11_live_0 : decode cX11_live 0 = .ok (.aload_n 0, 1) := by decide +kernel
theorem dX11_live_1 : decode cX11_live 1 = .ok (.getfield 115, 3) := by decide +kernel
theorem dX11_live_4 : decode cX11_live 4 = .ok (.aload_n 0, 1) := by decide +kernel
theorem dX11_live_5 : decode cX11_live 5 = .ok (.getfield 93, 3) := by decide +kernel
theorem dX11_live_8 : decode cX11_live 8 = .ok (.if_icmp .ne 8, 3) := by decide +kernel
theorem dX11_live_11 : decode cX11_live 11 = .ok (.aload_n 0, 1) := by decide +kernel
theorem dX11_live_12 : decode cX11_live 12 = .ok (.invokevirtual 131, 3) := by decide +kernel
theorem dX11_live_15 : decode cX11_live 15 = .ok (.ireturn, 1) := by decide +kernel
theorem dX11_live_16 : decode cX11_live 16 = .ok (.aload_n 0, 1) := by decide +kernel
theorem dX11_live_17 : decode cX11_live 17 = .ok (.aload_n 0, 1) := by decide +kernel
theorem dX11_live_18 : decode cX11_live 18 = .ok (.getfield 25, 3) := by decide +kernel
theorem dX11_live_21 : decode cX11_live 21 = .ok (.invokevirtual 170, 3) := by decide +kernel
theorem dX11_live_24 : decode cX11_live 24 = .ok (.aload_n 0, 1) := by decide +kernel
theorem dX11_live_25 : decode cX11_live 25 = .ok (.getfield 25, 3) := by decide +kernel
theorem dX11_live_28 : decode cX11_live 28 = .ok (.aload_n 0, 1) := by decide +kernel
theorem dX11_live_29 : decode cX11_live 29 = .ok (.getfield 115, 3) := by decide +kernel
theorem dX11_live_32 : decode cX11_live 32 = .ok (.iaload, 1) := by decide +kernel
theorem dX11_live_33 : decode cX11_live 33 = .ok (.istore_n 1, 1) := by decide +kernel
theorem dX11_live_34 : decode cX11_live 34 = .ok (.aload_n 0, 1) := by decide +kernel
theorem dX11_live_35 : decode cX11_live 35 = .ok (.dup, 1) := by decide +kernel
theorem dX11_live_36 : decode cX11_live 36 = .ok (.getfield 115, 3) := by decide +kernel
theorem dX11_live_39 : decode cX11_live 39 = .ok (.iconst 1, 1) := by decide +kernel
theorem dX11_live_40 : decode cX11_live 40 = .ok (.iadd, 1) := by decide +kernel
theorem dX11_live_41 : decode cX11_live 41 = .ok (.putfield 115, 3) := by decide +kernel
theorem dX11_live_44 : decode cX11_live 44 = .ok (.aload_n 0, 1) := by decide +kernel
theorem dX11_live_45 : decode cX11_live 45 = .ok (.iload_n 1, 1) := by decide +kernel
theorem dX11_live_46 : decode cX11_live 46 = .ok (.invokevirtual 167, 3) := by decide +kernel
theorem dX11_live_49 : decode cX11_live 49 = .ok (.aload_n 0, 1) := by decide +kernel
theorem dX11_live_50 : decode cX11_live 50 = .ok (.getfield 52, 3) := by decide +kernel
theorem dX11_live_53 : decode cX11_live 53 = .ok (.iload_n 1, 1) := by decide +kernel
theorem dX11_live_54 : decode cX11_live 54 = .ok (.iaload, 1) := by decide +kernel
theorem dX11_live_55 : decode cX11_live 55 = .ok (.iconst (-1), 1) := by decide +kernel
theorem dX11_live_56 : decode cX11_live 56 = .ok (.ixor, 1) := by decide +kernel
theorem dX11_live_57 : decode cX11_live 57 = .ok (.iand, 1) := by decide +kernel
theorem dX11_live_58 : decode cX11_live 58 = .ok (.ifCond .ne 7, 3) := by decide +kernel
theorem dX11_live_61 : decode cX11_live 61 = .ok (.iconst 1, 1) := by decide +kernel
theorem dX11_live_62 : decode cX11_live 62 = .ok (.goto 4, 3) := by decide +kernel
theorem dX11_live_65 : decode cX11_live 65 = .ok (.iconst 0, 1) := by decide +kernel
theorem dX11_live_66 : decode cX11_live 66 = .ok (.ireturn, 1) := by decide +kernel
theorem dX11_undo_0 : decode cX11_undo 0 = .ok (.aload_n 0, 1) := by decide +kernel
theorem dX11_undo_1 : decode cX11_undo 1 = .ok (.getfield 115, 3) := by decide +kernel
theorem dX11_undo_4 : decode cX11_undo 4 = .ok (.ifCond .ne 8, 3) := by decide +kernel
theorem dX11_undo_7 : decode cX11_undo 7 = .ok (.aload_n 0, 1) := by decide +kernel
theorem dX11_undo_8 : decode cX11_undo 8 = .ok (.invokevirtual 131, 3) := by decide +kernel
theorem dX11_undo_11 : decode cX11_undo 11 = .ok (.ireturn, 1) := by decide +kernel
theorem dX11_undo_12 : decode cX11_undo 12 = .ok (.aload_n 0, 1) := by decide +kernel
theorem dX11_undo_13 : decode cX11_undo 13 = .ok (.dup, 1) := by decide +kernel
theorem dX11_undo_14 : decode cX11_undo 14 = .ok (.getfield 115, 3) := by decide +kernel
theorem dX11_undo_17 : decode cX11_undo 17 = .ok (.iconst 1, 1) := by decide +kernel
theorem dX11_undo_18 : decode cX11_undo 18 = .ok (.isub, 1) := by decide +kernel
theorem dX11_undo_19 : decode cX11_undo 19 = .ok (.putfield 115, 3) := by decide +kernel
theorem dX11_undo_22 : decode cX11_undo 22 = .ok (.aload_n 0, 1) := by decide +kernel
theorem dX11_undo_23 : decode cX11_undo 23 = .ok (.getfield 115, 3) := by decide +kernel
theorem dX11_undo_26 : decode cX11_undo 26 = .ok (.ireturn, 1) := by decide +kernel
theorem dX11_sofar_0 : decode cX11_sofar 0 = .ok (.iload_n 1, 1) := by decide +kernel
theorem dX11_sofar_1 : decode cX11_sofar 1 = .ok (.i2l, 1) := by decide +kernel
theorem dX11_sofar_2 : decode cX11_sofar 2 = .ok (.lconst 0, 1) := by decide +kernel
theorem dX11_sofar_3 : decode cX11_sofar 3 = .ok (.ldc2_w 193, 3) := by decide +kernel
theorem dX11_sofar_6 : decode cX11_sofar 6 = .ok (.invokestatic 97, 3) := by decide +kernel
theorem dX11_sofar_9 : decode cX11_sofar 9 = .ok (.ifCond .ne 10, 3) := by decide +kernel
theorem dX11_sofar_12 : decode cX11_sofar 12 = .ok (.aload_n 0, 1) := by decide +kernel
theorem dX11_sofar_13 : decode cX11_sofar 13 = .ok (.bipush (-2), 2) := by decide +kernel
theorem dX11_sofar_15 : decode cX11_sofar 15 = .ok (.invokevirtual 120, 3) := by decide +kernel
theorem dX11_sofar_18 : decode cX11_sofar 18 = .ok (.ireturn, 1) := by decide +kernel
theorem dX11_sofar_19 : decode cX11_sofar 19 = .ok (.aload_n 0, 1) := by decide +kernel
theorem dX11_sofar_20 : decode cX11_sofar 20 = .ok (.aload_n 0, 1) := by decide +kernel
theorem dX11_sofar_21 : decode cX11_sofar 21 = .ok (.getfield 25, 3) := by decide +kernel
theorem dX11_sofar_24 : decode cX11_sofar 24 = .ok (.invokevirtual 170, 3) := by decide +kernel
theorem dX11_sofar_27 : decode cX11_sofar 27 = .ok (.iconst 0, 1) := by decide +kernel
theorem dX11_sofar_28 : decode cX11_sofar 28 = .ok (.istore_n 2, 1) := by decide +kernel
theorem dX11_sofar_29 : decode cX11_sofar 29 = .ok (.iconst 0, 1) := by decide +kernel
theorem dX11_sofar_30 : decode cX11_sofar 30 = .ok (.istore_n 3, 1) := by decide +kernel
theorem dX11_sofar_31 : decode cX11_sofar 31 = .ok (.iconst 0, 1) := by decide +kernel
theorem dX11_sofar_32 : decode cX11_sofar 32 = .ok (.istore 4, 2) := by decide +kernel
theorem dX11_sofar_34 : decode cX11_sofar 34 = .ok (.iload 4, 2) := by decide +kernel
theorem dX11_sofar_36 : decode cX11_sofar 36 = .ok (.aload_n 0, 1) := by decide +kernel
theorem dX11_sofar_37 : decode cX11_sofar 37 = .ok (.getfield 115, 3) := by decide +kernel
theorem dX11_sofar_40 : decode cX11_sofar 40 = .ok (.if_icmp .ge 54, 3) := by decide +kernel
theorem dX11_sofar_43 : decode cX11_sofar 43 = .ok (.aload_n 0, 1) := by decide +kernel
theorem dX11_sofar_44 : decode cX11_sofar 44 = .ok (.getfield 25, 3) := by decide +kernel
theorem dX11_sofar_47 : decode cX11_sofar 47 = .ok (.iload 4, 2) := by decide +kernel
theorem dX11_sofar_49 : decode cX11_sofar 49 = .ok (.iaload, 1) := by decide +kernel
theorem dX11_sofar_50 : decode cX11_sofar 50 = .ok (.istore 5, 2) := by decide +kernel
theorem dX11_sofar_52 : decode cX11_sofar 52 = .ok (.iload_n 2, 1) := by decide +kernel
theorem dX11_sofar_53 : decode cX11_sofar 53 = .ok (.aload_n 0, 1) := by decide +kernel
theorem dX11_sofar_54 : decode cX11_sofar 54 = .ok (.iload 5, 2) := by decide +kernel
theorem dX11_sofar_56 : decode cX11_sofar 56 = .ok (.invokevirtual 167, 3) := by decide +kernel
theorem dX11_sofar_59 : decode cX11_sofar 59 = .ok (.aload_n 0, 1) := by decide +kernel
theorem dX11_sofar_60 : decode cX11_sofar 60 = .ok (.getfield 52, 3) := by decide +kernel
theorem dX11_sofar_63 : decode cX11_sofar 63 = .ok (.iload 5, 2) := by decide +kernel
theorem dX11_sofar_65 : decode cX11_sofar 65 = .ok (.iaload, 1) := by decide +kernel
theorem dX11_sofar_66 : decode cX11_sofar 66 = .ok (.iconst (-1), 1) := by decide +kernel
theorem dX11_sofar_67 : decode cX11_sofar 67 = .ok (.ixor, 1) := by decide +kernel
theorem dX11_sofar_68 : decode cX11_sofar 68 = .ok (.iand, 1) := by decide +kernel
theorem dX11_sofar_69 : decode cX11_sofar 69 = .ok (.ifCond .ne 7, 3) := by decide +kernel
theorem dX11_sofar_72 : decode cX11_sofar 72 = .ok (.iconst 1, 1) := by decide +kernel
theorem dX11_sofar_73 : decode cX11_sofar 73 = .ok (.goto 4, 3) := by decide +kernel
theorem dX11_sofar_76 : decode cX11_sofar 76 = .ok (.iconst 0, 1) := by decide +kernel
theorem dX11_sofar_77 : decode cX11_sofar 77 = .ok (.iadd, 1) := by decide +kernel
theorem dX11_sofar_78 : decode cX11_sofar 78 = .ok (.istore_n 2, 1) := by decide +kernel
theorem dX11_sofar_79 : decode cX11_sofar 79 = .ok (.iload_n 3, 1) := by decide +kernel
theorem dX11_sofar_80 : decode cX11_sofar 80 = .ok (.aload_n 0, 1) := by decide +kernel
theorem dX11_sofar_81 : decode cX11_sofar 81 = .ok (.iload 5, 2) := by decide +kernel
theorem dX11_sofar_83 : decode cX11_sofar 83 = .ok (.invokevirtual 161, 3) := by decide +kernel
theorem dX11_sofar_86 : decode cX11_sofar 86 = .ok (.ior, 1) := by decide +kernel
theorem dX11_sofar_87 : decode cX11_sofar 87 = .ok (.istore_n 3, 1) := by decide +kernel
theorem dX11_sofar_88 : decode cX11_sofar 88 = .ok (.iinc 4 1, 3) := by decide +kernel
theorem dX11_sofar_91 : decode cX11_sofar 91 = .ok (.goto (-57), 3) := by decide +kernel
theorem dX11_sofar_94 : decode cX11_sofar 94 = .ok (.iload_n 1, 1) := by decide +kernel
theorem dX11_sofar_95 : decode cX11_sofar 95 = .ok (.ifCond .ne 10, 3) := by decide +kernel
theorem dX11_sofar_98 : decode cX11_sofar 98 = .ok (.aload_n 0, 1) := by decide +kernel
theorem dX11_sofar_99 : decode cX11_sofar 99 = .ok (.getfield 115, 3) := by decide +kernel
theorem dX11_sofar_102 : decode cX11_sofar 102 = .ok (.goto 13, 3) := by decide +kernel
theorem dX11_sofar_105 : decode cX11_sofar 105 = .ok (.iload_n 1, 1) := by decide +kernel
theorem dX11_sofar_106 : decode cX11_sofar 106 = .ok (.iconst 1, 1) := by decide +kernel
theorem dX11_sofar_107 : decode cX11_sofar 107 = .ok (.if_icmp .ne 7, 3) := by decide +kernel
theorem dX11_sofar_110 : decode cX11_sofar 110 = .ok (.iload_n 2, 1) := by decide +kernel
theorem dX11_sofar_111 : decode cX11_sofar 111 = .ok (.goto 4, 3) := by decide +kernel
theorem dX11_sofar_114 : decode cX11_sofar 114 = .ok (.iload_n 3, 1) := by decide +kernel
theorem dX11_sofar_115 : decode cX11_sofar 115 = .ok (.ireturn, 1) := by decide +kernel
theorem dX11_type_0 : decode cX11_type 0 = .ok (.iload_n 1, 1) := by decide +kernel
theorem dX11_type_1 : decode cX11_type 1 = .ok (.i2l, 1) := by decide +kernel
theorem dX11_type_2 : decode cX11_type 2 = .ok (.lconst 0, 1) := by decide +kernel
theorem dX11_type_3 : decode cX11_type 3 = .ok (.ldc2_w 216, 3) := by decide +kernel
theorem dX11_type_6 : decode cX11_type 6 = .ok (.invokestatic 97, 3) := by decide +kernel
theorem dX11_type_9 : decode cX11_type 9 = .ok (.ifCond .ne 10, 3) := by decide +kernel
theorem dX11_type_12 : decode cX11_type 12 = .ok (.aload_n 0, 1) := by decide +kernel
theorem dX11_type_13 : decode cX11_type 13 = .ok (.bipush (-2), 2) := by decide +kernel
theorem dX11_type_15 : decode cX11_type 15 = .ok (.invokevirtual 120, 3) := by decide +kernel
theorem dX11_type_18 : decode cX11_type 18 = .ok (.ireturn, 1) := by decide +kernel
theorem dX11_type_19 : decode cX11_type 19 = .ok (.aload_n 0, 1) := by decide +kernel
theorem dX11_type_20 : decode cX11_type 20 = .ok (.getfield 218, 3) := by decide +kernel
theorem dX11_type_23 : decode cX11_type 23 = .ok (.sipush 150, 3) := by decide +kernel
theorem dX11_type_26 : decode cX11_type 26 = .ok (.if_icmp .ne 8, 3) := by decide +kernel
theorem dX11_type_29 : decode cX11_type 29 = .ok (.aload_n 0, 1) := by decide +kernel
theorem dX11_type_30 : decode cX11_type 30 = .ok (.invokevirtual 139, 3) := by decide +kernel
theorem dX11_type_33 : decode cX11_type 33 = .ok (.ireturn, 1) := by decide +kernel
theorem dX11_type_34 : decode cX11_type 34 = .ok (.aload_n 0, 1) := by decide +kernel
theorem dX11_type_35 : decode cX11_type 35 = .ok (.getfield 67, 3) := by decide +kernel
theorem dX11_type_38 : decode cX11_type 38 = .ok (.aload_n 0, 1) := by decide +kernel
theorem dX11_type_39 : decode cX11_type 39 = .ok (.getfield 218, 3) := by decide +kernel
theorem dX11_type_42 : decode cX11_type 42 = .ok (.iload_n 1, 1) := by decide +kernel
theorem dX11_type_43 : decode cX11_type 43 = .ok (.iastore, 1) := by decide +kernel
theorem dX11_type_44 : decode cX11_type 44 = .ok (.aload_n 0, 1) := by decide +kernel
theorem dX11_type_45 : decode cX11_type 45 = .ok (.dup, 1) := by decide +kernel
theorem dX11_type_46 : decode cX11_type 46 = .ok (.getfield 218, 3) := by decide +kernel
theorem dX11_type_49 : decode cX11_type 49 = .ok (.iconst 1, 1) := by decide +kernel
theorem dX11_type_50 : decode cX11_type 50 = .ok (.iadd, 1) := by decide +kernel
theorem dX11_type_51 : decode cX11_type 51 = .ok (.putfield 218, 3) := by decide +kernel
theorem dX11_type_54 : decode cX11_type 54 = .ok (.aload_n 0, 1) := by decide +kernel
theorem dX11_type_55 : decode cX11_type 55 = .ok (.getfield 218, 3) := by decide +kernel
theorem dX11_type_58 : decode cX11_type 58 = .ok (.ireturn, 1) := by decide +kernel
theorem dX11_clear_0 : decode cX11_clear 0 = .ok (.aload_n 0, 1) := by decide +kernel
theorem dX11_clear_1 : decode cX11_clear 1 = .ok (.getfield 218, 3) := by decide +kernel
theorem dX11_clear_4 : decode cX11_clear 4 = .ok (.istore_n 1, 1) := by decide +kernel
theorem dX11_clear_5 : decode cX11_clear 5 = .ok (.aload_n 0, 1) := by decide +kernel
theorem dX11_clear_6 : decode cX11_clear 6 = .ok (.iconst 0, 1) := by decide +kernel
theorem dX11_clear_7 : decode cX11_clear 7 = .ok (.putfield 218, 3) := by decide +kernel
theorem dX11_clear_10 : decode cX11_clear 10 = .ok (.iload_n 1, 1) := by decide +kernel
theorem dX11_clear_11 : decode cX11_clear 11 = .ok (.ireturn, 1) := by decide +kernel
theorem dX11_skips_0 : decode cX11_skips 0 = .ok (.aload_n 0, 1) := by decide +kernel
theorem dX11_skips_1 : decode cX11_skips 1 = .ok (.getfield 221, 3) := by decide +kernel
theorem dX11_skips_4 : decode cX11_skips 4 = .ok (.aload_n 0, 1) := by decide +kernel
theorem dX11_skips_5 : decode cX11_skips 5 = .ok (.getfield 218, 3) := by decide +kernel
theorem dX11_skips_8 : decode cX11_skips 8 = .ok (.if_icmp .ge 30, 3) := by decide +kernel
theorem dX11_skips_11 : decode cX11_skips 11 = .ok (.aload_n 0, 1) := by decide +kernel
theorem dX11_skips_12 : decode cX11_skips 12 = .ok (.getfield 67, 3) := by decide +kernel
theorem dX11_skips_15 : decode cX11_skips 15 = .ok (.aload_n 0, 1) := by decide +kernel
theorem dX11_skips_16 : decode cX11_skips 16 = .ok (.getfield 221, 3) := by decide +kernel
theorem dX11_skips_19 : decode cX11_skips 19 = .ok (.iaload, 1) := by decide +kernel
theorem dX11_skips_20 : decode cX11_skips 20 = .ok (.bipush 32, 2) := by decide +kernel
theorem dX11_skips_22 : decode cX11_skips 22 = .ok (.if_icmp .ne 16, 3) := by decide +kernel
theorem dX11_skips_25 : decode cX11_skips 25 = .ok (.aload_n 0, 1) := by decide +kernel
theorem dX11_skips_26 : decode cX11_skips 26 = .ok (.dup, 1) := by decide +kernel
theorem dX11_skips_27 : decode cX11_skips 27 = .ok (.getfield 221, 3) := by decide +kernel
theorem dX11_skips_30 : decode cX11_skips 30 = .ok (.iconst 1, 1) := by decide +kernel
theorem dX11_skips_31 : decode cX11_skips 31 = .ok (.iadd, 1) := by decide +kernel
theorem dX11_skips_32 : decode cX11_skips 32 = .ok (.putfield 221, 3) := by decide +kernel
theorem dX11_skips_35 : decode cX11_skips 35 = .ok (.goto (-35), 3) := by decide +kernel
theorem dX11_skips_38 : decode cX11_skips 38 = .ok (.aload_n 0, 1) := by decide +kernel
theorem dX11_skips_39 : decode cX11_skips 39 = .ok (.aload_n 0, 1) := by decide +kernel
theorem dX11_skips_40 : decode cX11_skips 40 = .ok (.getfield 221, 3) := by decide +kernel
theorem dX11_skips_43 : decode cX11_skips 43 = .ok (.putfield 224, 3) := by decide +kernel
theorem dX11_skips_46 : decode cX11_skips 46 = .ok (.return_, 1) := by decide +kernel
theorem dX11_word_0 : decode cX11_word 0 = .ok (.aload_n 0, 1) := by decide +kernel
theorem dX11_word_1 : decode cX11_word 1 = .ok (.invokevirtual 227, 3) := by decide +kernel
theorem dX11_word_4 : decode cX11_word 4 = .ok (.lconst 0, 1) := by decide +kernel
theorem dX11_word_5 : decode cX11_word 5 = .ok (.lstore_n 1, 1) := by decide +kernel
theorem dX11_word_6 : decode cX11_word 6 = .ok (.aload_n 0, 1) := by decide +kernel
theorem dX11_word_7 : decode cX11_word 7 = .ok (.getfield 221, 3) := by decide +kernel
theorem dX11_word_10 : decode cX11_word 10 = .ok (.aload_n 0, 1) := by decide +kernel
theorem dX11_word_11 : decode cX11_word 11 = .ok (.getfield 218, 3) := by decide +kernel
theorem dX11_word_14 : decode cX11_word 14 = .ok (.if_icmp .ge 75, 3) := by decide +kernel
theorem dX11_word_17 : decode cX11_word 17 = .ok (.aload_n 0, 1) := by decide +kernel
theorem dX11_word_18 : decode cX11_word 18 = .ok (.getfield 67, 3) := by decide +kernel
theorem dX11_word_21 : decode cX11_word 21 = .ok (.aload_n 0, 1) := by decide +kernel
theorem dX11_word_22 : decode cX11_word 22 = .ok (.getfield 221, 3) := by decide +kernel
theorem dX11_word_25 : decode cX11_word 25 = .ok (.iaload, 1) := by decide +kernel
theorem dX11_word_26 : decode cX11_word 26 = .ok (.i2l, 1) := by decide +kernel
theorem dX11_word_27 : decode cX11_word 27 = .ok (.ldc2_w 230, 3) := by decide +kernel
theorem dX11_word_30 : decode cX11_word 30 = .ok (.ldc2_w 232, 3) := by decide +kernel
theorem dX11_word_33 : decode cX11_word 33 = .ok (.invokestatic 97, 3) := by decide +kernel
theorem dX11_word_36 : decode cX11_word 36 = .ok (.ifCond .eq 53, 3) := by decide +kernel
theorem dX11_word_39 : decode cX11_word 39 = .ok (.aload_n 0, 1) := by decide +kernel
theorem dX11_word_40 : decode cX11_word 40 = .ok (.getfield 221, 3) := by decide +kernel
theorem dX11_word_43 : decode cX11_word 43 = .ok (.aload_n 0, 1) := by decide +kernel
theorem dX11_word_44 : decode cX11_word 44 = .ok (.getfield 224, 3) := by decide +kernel
theorem dX11_word_47 : decode cX11_word 47 = .ok (.isub, 1) := by decide +kernel
theorem dX11_word_48 : decode cX11_word 48 = .ok (.bipush 7, 2) := by decide +kernel
theorem dX11_word_50 : decode cX11_word 50 = .ok (.if_icmp .le 9, 3) := by decide +kernel
theorem dX11_word_53 : decode cX11_word 53 = .ok (.ldc2_w 204, 3) := by decide +kernel
theorem dX11_word_56 : decode cX11_word 56 = .ok (.goto 19, 3) := by decide +kernel
theorem dX11_word_59 : decode cX11_word 59 = .ok (.lload_n 1, 1) := by decide +kernel
theorem dX11_word_60 : decode cX11_word 60 = .ok (.ldc2_w 234, 3) := by decide +kernel
theorem dX11_word_63 : decode cX11_word 63 = .ok (.lmul, 1) := by decide +kernel
theorem dX11_word_64 : decode cX11_word 64 = .ok (.aload_n 0, 1) := by decide +kernel
theorem dX11_word_65 : decode cX11_word 65 = .ok (.getfield 67, 3) := by decide +kernel
theorem dX11_word_68 : decode cX11_word 68 = .ok (.aload_n 0, 1) := by decide +kernel
theorem dX11_word_69 : decode cX11_word 69 = .ok (.getfield 221, 3) := by decide +kernel
theorem dX11_word_72 : decode cX11_word 72 = .ok (.iaload, 1) := by decide +kernel
theorem dX11_word_73 : decode cX11_word 73 = .ok (.i2l, 1) := by decide +kernel
theorem dX11_word_74 : decode cX11_word 74 = .ok (.ladd, 1) := by decide +kernel
theorem dX11_word_75 : decode cX11_word 75 = .ok (.lstore_n 1, 1) := by decide +kernel
theorem dX11_word_76 : decode cX11_word 76 = .ok (.aload_n 0, 1) := by decide +kernel
theorem dX11_word_77 : decode cX11_word 77 = .ok (.dup, 1) := by decide +kernel
theorem dX11_word_78 : decode cX11_word 78 = .ok (.getfield 221, 3) := by decide +kernel
theorem dX11_word_81 : decode cX11_word 81 = .ok (.iconst 1, 1) := by decide +kernel
theorem dX11_word_82 : decode cX11_word 82 = .ok (.iadd, 1) := by decide +kernel
theorem dX11_word_83 : decode cX11_word 83 = .ok (.putfield 221, 3) := by decide +kernel
theorem dX11_word_86 : decode cX11_word 86 = .ok (.goto (-80), 3) := by decide +kernel
theorem dX11_word_89 : decode cX11_word 89 = .ok (.lload_n 1, 1) := by decide +kernel
theorem dX11_word_90 : decode cX11_word 90 = .ok (.ldc2_w 236, 3) := by decide +kernel
theorem dX11_word_93 : decode cX11_word 93 = .ok (.lcmp, 1) := by decide +kernel
theorem dX11_word_94 : decode cX11_word 94 = .ok (.ifCond .ne 7, 3) := by decide +kernel
theorem dX11_word_97 : decode cX11_word 97 = .ok (.iconst 0, 1) := by decide +kernel
theorem dX11_word_98 : decode cX11_word 98 = .ok (.goto 77, 3) := by decide +kernel
theorem dX11_word_101 : decode cX11_word 101 = .ok (.lload_n 1, 1) := by decide +kernel
theorem dX11_word_102 : decode cX11_word 102 = .ok (.ldc2_w 238, 3) := by decide +kernel
theorem dX11_word_105 : decode cX11_word 105 = .ok (.lcmp, 1) := by decide +kernel
theorem dX11_word_106 : decode cX11_word 106 = .ok (.ifCond .ne 7, 3) := by decide +kernel
theorem dX11_word_109 : decode cX11_word 109 = .ok (.iconst 1, 1) := by decide +kernel
theorem dX11_word_110 : decode cX11_word 110 = .ok (.goto 65, 3) := by decide +kernel
theorem dX11_word_113 : decode cX11_word 113 = .ok (.lload_n 1, 1) := by decide +kernel
theorem dX11_word_114 : decode cX11_word 114 = .ok (.ldc2_w 240, 3) := by decide +kernel
theorem dX11_word_117 : decode cX11_word 117 = .ok (.lcmp, 1) := by decide +kernel
theorem dX11_word_118 : decode cX11_word 118 = .ok (.ifCond .ne 7, 3) := by decide +kernel
theorem dX11_word_121 : decode cX11_word 121 = .ok (.iconst 2, 1) := by decide +kernel
theorem dX11_word_122 : decode cX11_word 122 = .ok (.goto 53, 3) := by decide +kernel
theorem dX11_word_125 : decode cX11_word 125 = .ok (.lload_n 1, 1) := by decide +kernel
theorem dX11_word_126 : decode cX11_word 126 = .ok (.ldc2_w 242, 3) := by decide +kernel
theorem dX11_word_129 : decode cX11_word 129 = .ok (.lcmp, 1) := by decide +kernel
theorem dX11_word_130 : decode cX11_word 130 = .ok (.ifCond .ne 7, 3) := by decide +kernel
theorem dX11_word_133 : decode cX11_word 133 = .ok (.iconst 3, 1) := by decide +kernel
theorem dX11_word_134 : decode cX11_word 134 = .ok (.goto 41, 3) := by decide +kernel
theorem dX11_word_137 : decode cX11_word 137 = .ok (.lload_n 1, 1) := by decide +kernel
theorem dX11_word_138 : decode cX11_word 138 = .ok (.ldc2_w 244, 3) := by decide +kernel
theorem dX11_word_141 : decode cX11_word 141 = .ok (.lcmp, 1) := by decide +kernel
theorem dX11_word_142 : decode cX11_word 142 = .ok (.ifCond .ne 7, 3) := by decide +kernel
theorem dX11_word_145 : decode cX11_word 145 = .ok (.iconst 4, 1) := by decide +kernel
theorem dX11_word_146 : decode cX11_word 146 = .ok (.goto 29, 3) := by decide +kernel
theorem dX11_word_149 : decode cX11_word 149 = .ok (.lload_n 1, 1) := by decide +kernel
theorem dX11_word_150 : decode cX11_word 150 = .ok (.ldc2_w 246, 3) := by decide +kernel
theorem dX11_word_153 : decode cX11_word 153 = .ok (.lcmp, 1) := by decide +kernel
theorem dX11_word_154 : decode cX11_word 154 = .ok (.ifCond .ne 7, 3) := by decide +kernel
theorem dX11_word_157 : decode cX11_word 157 = .ok (.iconst 5, 1) := by decide +kernel
theorem dX11_word_158 : decode cX11_word 158 = .ok (.goto 17, 3) := by decide +kernel
theorem dX11_word_161 : decode cX11_word 161 = .ok (.lload_n 1, 1) := by decide +kernel
theorem dX11_word_162 : decode cX11_word 162 = .ok (.ldc2_w 248, 3) := by decide +kernel
theorem dX11_word_165 : decode cX11_word 165 = .ok (.lcmp, 1) := by decide +kernel
theorem dX11_word_166 : decode cX11_word 166 = .ok (.ifCond .ne 8, 3) := by decide +kernel
theorem dX11_word_169 : decode cX11_word 169 = .ok (.bipush 6, 2) := by decide +kernel
theorem dX11_word_171 : decode cX11_word 171 = .ok (.goto 4, 3) := by decide +kernel
theorem dX11_word_174 : decode cX11_word 174 = .ok (.iconst (-1), 1) := by decide +kernel
theorem dX11_word_175 : decode cX11_word 175 = .ok (.ireturn, 1) := by decide +kernel
theorem dX11_isFigure_0 : decode cX11_isFigure 0 = .ok (.iload_n 1, 1) := by decide +kernel
theorem dX11_isFigure_1 : decode cX11_isFigure 1 = .ok (.aload_n 0, 1) := by decide +kernel
theorem dX11_isFigure_2 : decode cX11_isFigure 2 = .ok (.getfield 218, 3) := by decide +kernel
theorem dX11_isFigure_5 : decode cX11_isFigure 5 = .ok (.if_icmp .ge 26, 3) := by decide +kernel
theorem dX11_isFigure_8 : decode cX11_isFigure 8 = .ok (.aload_n 0, 1) := by decide +kernel
theorem dX11_isFigure_9 : decode cX11_isFigure 9 = .ok (.getfield 67, 3) := by decide +kernel
theorem dX11_isFigure_12 : decode cX11_isFigure 12 = .ok (.iload_n 1, 1) := by decide +kernel
theorem dX11_isFigure_13 : decode cX11_isFigure 13 = .ok (.iaload, 1) := by decide +kernel
theorem dX11_isFigure_14 : decode cX11_isFigure 14 = .ok (.i2l, 1) := by decide +kernel
theorem dX11_isFigure_15 : decode cX11_isFigure 15 = .ok (.ldc2_w 250, 3) := by decide +kernel
theorem dX11_isFigure_18 : decode cX11_isFigure 18 = .ok (.ldc2_w 252, 3) := by decide +kernel
theorem dX11_isFigure_21 : decode cX11_isFigure 21 = .ok (.invokestatic 97, 3) := by decide +kernel
theorem dX11_isFigure_24 : decode cX11_isFigure 24 = .ok (.ifCond .eq 7, 3) := by decide +kernel
theorem dX11_isFigure_27 : decode cX11_isFigure 27 = .ok (.iconst 1, 1) := by decide +kernel
theorem dX11_isFigure_28 : decode cX11_isFigure 28 = .ok (.goto 4, 3) := by decide +kernel
theorem dX11_isFigure_31 : decode cX11_isFigure 31 = .ok (.iconst 0, 1) := by decide +kernel
theorem dX11_isFigure_32 : decode cX11_isFigure 32 = .ok (.ireturn, 1) := by decide +kernel
theorem dX11_figure_0 : decode cX11_figure 0 = .ok (.aload_n 0, 1) := by decide +kernel
theorem dX11_figure_1 : decode cX11_figure 1 = .ok (.invokevirtual 227, 3) := by decide +kernel
theorem dX11_figure_4 : decode cX11_figure 4 = .ok (.aload_n 0, 1) := by decide +kernel
theorem dX11_figure_5 : decode cX11_figure 5 = .ok (.aload_n 0, 1) := by decide +kernel
theorem dX11_figure_6 : decode cX11_figure 6 = .ok (.getfield 254, 3) := by decide +kernel
theorem dX11_figure_9 : decode cX11_figure 9 = .ok (.ifCond .ne 27, 3) := by decide +kernel
theorem dX11_figure_12 : decode cX11_figure 12 = .ok (.aload_n 0, 1) := by decide +kernel
theorem dX11_figure_13 : decode cX11_figure 13 = .ok (.aload_n 0, 1) := by decide +kernel
theorem dX11_figure_14 : decode cX11_figure 14 = .ok (.getfield 221, 3) := by decide +kernel
theorem dX11_figure_17 : decode cX11_figure 17 = .ok (.invokevirtual 258, 3) := by decide +kernel
theorem dX11_figure_20 : decode cX11_figure 20 = .ok (.ifCond .eq 16, 3) := by decide +kernel
theorem dX11_figure_23 : decode cX11_figure 23 = .ok (.aload_n 0, 1) := by decide +kernel
theorem dX11_figure_24 : decode cX11_figure 24 = .ok (.aload_n 0, 1) := by decide +kernel
theorem dX11_figure_25 : decode cX11_figure 25 = .ok (.getfield 221, 3) := by decide +kernel
theorem dX11_figure_28 : decode cX11_figure 28 = .ok (.iconst 1, 1) := by decide +kernel
theorem dX11_figure_29 : decode cX11_figure 29 = .ok (.iadd, 1) := by decide +kernel
theorem dX11_figure_30 : decode cX11_figure 30 = .ok (.invokevirtual 258, 3) := by decide +kernel
theorem dX11_figure_33 : decode cX11_figure 33 = .ok (.ifCond .eq 7, 3) := by decide +kernel
theorem dX11_figure_36 : decode cX11_figure 36 = .ok (.iconst 1, 1) := by decide +kernel
theorem dX11_figure_37 : decode cX11_figure 37 = .ok (.goto 4, 3) := by decide +kernel
theorem dX11_figure_40 : decode cX11_figure 40 = .ok (.iconst 0, 1) := by decide +kernel
theorem dX11_figure_41 : decode cX11_figure 41 = .ok (.putfield 254, 3) := by decide +kernel
theorem dX11_figure_44 : decode cX11_figure 44 = .ok (.aload_n 0, 1) := by decide +kernel
theorem dX11_figure_45 : decode cX11_figure 45 = .ok (.dup, 1) := by decide +kernel
theorem dX11_figure_46 : decode cX11_figure 46 = .ok (.getfield 221, 3) := by decide +kernel
theorem dX11_figure_49 : decode cX11_figure 49 = .ok (.aload_n 0, 1) := by decide +kernel
theorem dX11_figure_50 : decode cX11_figure 50 = .ok (.getfield 254, 3) := by decide +kernel
theorem dX11_figure_53 : decode cX11_figure 53 = .ok (.ifCond .eq 7, 3) := by decide +kernel
theorem dX11_figure_56 : decode cX11_figure 56 = .ok (.iconst 0, 1) := by decide +kernel
theorem dX11_figure_57 : decode cX11_figure 57 = .ok (.goto 4, 3) := by decide +kernel
theorem dX11_figure_60 : decode cX11_figure 60 = .ok (.iconst 1, 1) := by decide +kernel
theorem dX11_figure_61 : decode cX11_figure 61 = .ok (.iadd, 1) := by decide +kernel
theorem dX11_figure_62 : decode cX11_figure 62 = .ok (.putfield 221, 3) := by decide +kernel
theorem dX11_figure_65 : decode cX11_figure 65 = .ok (.aload_n 0, 1) := by decide +kernel
theorem dX11_figure_66 : decode cX11_figure 66 = .ok (.getfield 254, 3) := by decide +kernel
theorem dX11_figure_69 : decode cX11_figure 69 = .ok (.ifCond .eq 7, 3) := by decide +kernel
theorem dX11_figure_72 : decode cX11_figure 72 = .ok (.iconst 0, 1) := by decide +kernel
theorem dX11_figure_73 : decode cX11_figure 73 = .ok (.goto 17, 3) := by decide +kernel
theorem dX11_figure_76 : decode cX11_figure 76 = .ok (.aload_n 0, 1) := by decide +kernel
theorem dX11_figure_77 : decode cX11_figure 77 = .ok (.getfield 67, 3) := by decide +kernel
theorem dX11_figure_80 : decode cX11_figure 80 = .ok (.aload_n 0, 1) := by decide +kernel
theorem dX11_figure_81 : decode cX11_figure 81 = .ok (.getfield 221, 3) := by decide +kernel
theorem dX11_figure_84 : decode cX11_figure 84 = .ok (.iconst 1, 1) := by decide +kernel
theorem dX11_figure_85 : decode cX11_figure 85 = .ok (.isub, 1) := by decide +kernel
theorem dX11_figure_86 : decode cX11_figure 86 = .ok (.iaload, 1) := by decide +kernel
theorem dX11_figure_87 : decode cX11_figure 87 = .ok (.bipush 48, 2) := by decide +kernel
theorem dX11_figure_89 : decode cX11_figure 89 = .ok (.isub, 1) := by decide +kernel
theorem dX11_figure_90 : decode cX11_figure 90 = .ok (.ireturn, 1) := by decide +kernel
theorem dX11_readItem_0 : decode cX11_readItem 0 = .ok (.aload_n 0, 1) := by decide +kernel
theorem dX11_readItem_1 : decode cX11_readItem 1 = .ok (.invokevirtual 261, 3) := by decide +kernel
theorem dX11_readItem_4 : decode cX11_readItem 4 = .ok (.istore_n 1, 1) := by decide +kernel
theorem dX11_readItem_5 : decode cX11_readItem 5 = .ok (.aload_n 0, 1) := by decide +kernel
theorem dX11_readItem_6 : decode cX11_readItem 6 = .ok (.iload_n 1, 1) := by decide +kernel
theorem dX11_readItem_7 : decode cX11_readItem 7 = .ok (.iconst (-1), 1) := by decide +kernel
theorem dX11_readItem_8 : decode cX11_readItem 8 = .ok (.if_icmp .eq 27, 3) := by decide +kernel
theorem dX11_readItem_11 : decode cX11_readItem 11 = .ok (.iload_n 1, 1) := by decide +kernel
theorem dX11_readItem_12 : decode cX11_readItem 12 = .ok (.ifCond .ne 7, 3) := by decide +kernel
theorem dX11_readItem_15 : decode cX11_readItem 15 = .ok (.iconst 1, 1) := by decide +kernel
theorem dX11_readItem_16 : decode cX11_readItem 16 = .ok (.goto 4, 3) := by decide +kernel
theorem dX11_readItem_19 : decode cX11_readItem 19 = .ok (.iconst 0, 1) := by decide +kernel
theorem dX11_readItem_20 : decode cX11_readItem 20 = .ok (.aload_n 0, 1) := by decide +kernel
theorem dX11_readItem_21 : decode cX11_readItem 21 = .ok (.getfield 264, 3) := by decide +kernel
theorem dX11_readItem_24 : decode cX11_readItem 24 = .ok (.ifCond .ne 7, 3) := by decide +kernel
theorem dX11_readItem_27 : decode cX11_readItem 27 = .ok (.iconst 1, 1) := by decide +kernel
theorem dX11_readItem_28 : decode cX11_readItem 28 = .ok (.goto 4, 3) := by decide +kernel
theorem dX11_readItem_31 : decode cX11_readItem 31 = .ok (.iconst 0, 1) := by decide +kernel
theorem dX11_readItem_32 : decode cX11_readItem 32 = .ok (.if_icmp .eq 7, 3) := by decide +kernel
theorem dX11_readItem_35 : decode cX11_readItem 35 = .ok (.iconst 1, 1) := by decide +kernel
theorem dX11_readItem_36 : decode cX11_readItem 36 = .ok (.goto 4, 3) := by decide +kernel
theorem dX11_readItem_39 : decode cX11_readItem 39 = .ok (.iconst 0, 1) := by decide +kernel
theorem dX11_readItem_40 : decode cX11_readItem 40 = .ok (.putfield 254, 3) := by decide +kernel
theorem dX11_readItem_43 : decode cX11_readItem 43 = .ok (.aload_n 0, 1) := by decide +kernel
theorem dX11_readItem_44 : decode cX11_readItem 44 = .ok (.getfield 254, 3) := by decide +kernel
theorem dX11_readItem_47 : decode cX11_readItem 47 = .ok (.ifCond .ne 64, 3) := by decide +kernel
theorem dX11_readItem_50 : decode cX11_readItem 50 = .ok (.aload_n 0, 1) := by decide +kernel
theorem dX11_readItem_51 : decode cX11_readItem 51 = .ok (.getfield 70, 3) := by decide +kernel
theorem dX11_readItem_54 : decode cX11_readItem 54 = .ok (.iconst 3, 1) := by decide +kernel
theorem dX11_readItem_55 : decode cX11_readItem 55 = .ok (.aload_n 0, 1) := by decide +kernel
theorem dX11_readItem_56 : decode cX11_readItem 56 = .ok (.getfield 264, 3) := by decide +kernel
theorem dX11_readItem_59 : decode cX11_readItem 59 = .ok (.imul, 1) := by decide +kernel
theorem dX11_readItem_60 : decode cX11_readItem 60 = .ok (.iload_n 1, 1) := by decide +kernel
theorem dX11_readItem_61 : decode cX11_readItem 61 = .ok (.iastore, 1) := by decide +kernel
theorem dX11_readItem_62 : decode cX11_readItem 62 = .ok (.aload_n 0, 1) := by decide +kernel
theorem dX11_readItem_63 : decode cX11_readItem 63 = .ok (.getfield 70, 3) := by decide +kernel
theorem dX11_readItem_66 : decode cX11_readItem 66 = .ok (.iconst 3, 1) := by decide +kernel
theorem dX11_readItem_67 : decode cX11_readItem 67 = .ok (.aload_n 0, 1) := by decide +kernel
theorem dX11_readItem_68 : decode cX11_readItem 68 = .ok (.getfield 264, 3) := by decide +kernel
theorem dX11_readItem_71 : decode cX11_readItem 71 = .ok (.imul, 1) := by decide +kernel
theorem dX11_readItem_72 : decode cX11_readItem 72 = .ok (.iconst 1, 1) := by decide +kernel
theorem dX11_readItem_73 : decode cX11_readItem 73 = .ok (.iadd, 1) := by decide +kernel
theorem dX11_readItem_74 : decode cX11_readItem 74 = .ok (.aload_n 0, 1) := by decide +kernel
theorem dX11_readItem_75 : decode cX11_readItem 75 = .ok (.invokevirtual 267, 3) := by decide +kernel
theorem dX11_readItem_78 : decode cX11_readItem 78 = .ok (.iastore, 1) := by decide +kernel
theorem dX11_readItem_79 : decode cX11_readItem 79 = .ok (.aload_n 0, 1) := by decide +kernel
theorem dX11_readItem_80 : decode cX11_readItem 80 = .ok (.getfield 70, 3) := by decide +kernel
theorem dX11_readItem_83 : decode cX11_readItem 83 = .ok (.iconst 3, 1) := by decide +kernel
theorem dX11_readItem_84 : decode cX11_readItem 84 = .ok (.aload_n 0, 1) := by decide +kernel
theorem dX11_readItem_85 : decode cX11_readItem 85 = .ok (.getfield 264, 3) := by decide +kernel
theorem dX11_readItem_88 : decode cX11_readItem 88 = .ok (.imul, 1) := by decide +kernel
theorem dX11_readItem_89 : decode cX11_readItem 89 = .ok (.iconst 2, 1) := by decide +kernel
theorem dX11_readItem_90 : decode cX11_readItem 90 = .ok (.iadd, 1) := by decide +kernel
theorem dX11_readItem_91 : decode cX11_readItem 91 = .ok (.iload_n 1, 1) := by decide +kernel
theorem dX11_readItem_92 : decode cX11_readItem 92 = .ok (.ifCond .eq 10, 3) := by decide +kernel
theorem dX11_readItem_95 : decode cX11_readItem 95 = .ok (.aload_n 0, 1) := by decide +kernel
theorem dX11_readItem_96 : decode cX11_readItem 96 = .ok (.getfield 254, 3) := by decide +kernel
theorem dX11_readItem_99 : decode cX11_readItem 99 = .ok (.ifCond .eq 7, 3) := by decide +kernel
theorem dX11_readItem_102 : decode cX11_readItem 102 = .ok (.iconst 0, 1) := by decide +kernel
theorem dX11_readItem_103 : decode cX11_readItem 103 = .ok (.goto 7, 3) := by decide +kernel
theorem dX11_readItem_106 : decode cX11_readItem 106 = .ok (.aload_n 0, 1) := by decide +kernel
theorem dX11_readItem_107 : decode cX11_readItem 107 = .ok (.invokevirtual 267, 3) := by decide +kernel
theorem dX11_readItem_110 : decode cX11_readItem 110 = .ok (.iastore, 1) := by decide +kernel
theorem dX11_readItem_111 : decode cX11_readItem 111 = .ok (.aload_n 0, 1) := by decide +kernel
theorem dX11_readItem_112 : decode cX11_readItem 112 = .ok (.getfield 254, 3) := by decide +kernel
theorem dX11_readItem_115 : decode cX11_readItem 115 = .ok (.ifCond .ne 72, 3) := by decide +kernel
theorem dX11_readItem_118 : decode cX11_readItem 118 = .ok (.aload_n 0, 1) := by decide +kernel
theorem dX11_readItem_119 : decode cX11_readItem 119 = .ok (.invokevirtual 227, 3) := by decide +kernel
theorem dX11_readItem_122 : decode cX11_readItem 122 = .ok (.aload_n 0, 1) := by decide +kernel
theorem dX11_readItem_123 : decode cX11_readItem 123 = .ok (.aload_n 0, 1) := by decide +kernel
theorem dX11_readItem_124 : decode cX11_readItem 124 = .ok (.getfield 221, 3) := by decide +kernel
theorem dX11_readItem_127 : decode cX11_readItem 127 = .ok (.aload_n 0, 1) := by decide +kernel
theorem dX11_readItem_128 : decode cX11_readItem 128 = .ok (.getfield 218, 3) := by decide +kernel
theorem dX11_readItem_131 : decode cX11_readItem 131 = .ok (.if_icmp .eq 17, 3) := by decide +kernel
theorem dX11_readItem_134 : decode cX11_readItem 134 = .ok (.aload_n 0, 1) := by decide +kernel
theorem dX11_readItem_135 : decode cX11_readItem 135 = .ok (.getfield 67, 3) := by decide +kernel
theorem dX11_readItem_138 : decode cX11_readItem 138 = .ok (.aload_n 0, 1) := by decide +kernel
theorem dX11_readItem_139 : decode cX11_readItem 139 = .ok (.getfield 221, 3) := by decide +kernel
theorem dX11_readItem_142 : decode cX11_readItem 142 = .ok (.iaload, 1) := by decide +kernel
theorem dX11_readItem_143 : decode cX11_readItem 143 = .ok (.bipush 59, 2) := by decide +kernel
theorem dX11_readItem_145 : decode cX11_readItem 145 = .ok (.if_icmp .eq 7, 3) := by decide +kernel
theorem dX11_readItem_148 : decode cX11_readItem 148 = .ok (.iconst 1, 1) := by decide +kernel
theorem dX11_readItem_149 : decode cX11_readItem 149 = .ok (.goto 4, 3) := by decide +kernel
theorem dX11_readItem_152 : decode cX11_readItem 152 = .ok (.iconst 0, 1) := by decide +kernel
theorem dX11_readItem_153 : decode cX11_readItem 153 = .ok (.putfield 254, 3) := by decide +kernel
theorem dX11_readItem_156 : decode cX11_readItem 156 = .ok (.aload_n 0, 1) := by decide +kernel
theorem dX11_readItem_157 : decode cX11_readItem 157 = .ok (.dup, 1) := by decide +kernel
theorem dX11_readItem_158 : decode cX11_readItem 158 = .ok (.getfield 221, 3) := by decide +kernel
theorem dX11_readItem_161 : decode cX11_readItem 161 = .ok (.aload_n 0, 1) := by decide +kernel
theorem dX11_readItem_162 : decode cX11_readItem 162 = .ok (.getfield 254, 3) := by decide +kernel
theorem dX11_readItem_165 : decode cX11_readItem 165 = .ok (.ifCond .eq 7, 3) := by decide +kernel
theorem dX11_readItem_168 : decode cX11_readItem 168 = .ok (.iconst 0, 1) := by decide +kernel
theorem dX11_readItem_169 : decode cX11_readItem 169 = .ok (.goto 4, 3) := by decide +kernel
theorem dX11_readItem_172 : decode cX11_readItem 172 = .ok (.iconst 1, 1) := by decide +kernel
theorem dX11_readItem_173 : decode cX11_readItem 173 = .ok (.iadd, 1) := by decide +kernel
theorem dX11_readItem_174 : decode cX11_readItem 174 = .ok (.putfield 221, 3) := by decide +kernel
theorem dX11_readItem_177 : decode cX11_readItem 177 = .ok (.aload_n 0, 1) := by decide +kernel
theorem dX11_readItem_178 : decode cX11_readItem 178 = .ok (.dup, 1) := by decide +kernel
theorem dX11_readItem_179 : decode cX11_readItem 179 = .ok (.getfield 264, 3) := by decide +kernel
theorem dX11_readItem_182 : decode cX11_readItem 182 = .ok (.iconst 1, 1) := by decide +kernel
theorem dX11_readItem_183 : decode cX11_readItem 183 = .ok (.iadd, 1) := by decide +kernel
theorem dX11_readItem_184 : decode cX11_readItem 184 = .ok (.putfield 264, 3) := by decide +kernel
theorem dX11_readItem_187 : decode cX11_readItem 187 = .ok (.return_, 1) := by decide +kernel
theorem dX11_does_0 : decode cX11_does 0 = .ok (.aload_n 0, 1) := by decide +kernel
theorem dX11_does_1 : decode cX11_does 1 = .ok (.getfield 70, 3) := by decide +kernel
theorem dX11_does_4 : decode cX11_does 4 = .ok (.iconst 3, 1) := by decide +kernel
theorem dX11_does_5 : decode cX11_does 5 = .ok (.iload_n 1, 1) := by decide +kernel
theorem dX11_does_6 : decode cX11_does 6 = .ok (.imul, 1) := by decide +kernel
theorem dX11_does_7 : decode cX11_does 7 = .ok (.iconst 1, 1) := by decide +kernel
theorem dX11_does_8 : decode cX11_does 8 = .ok (.iadd, 1) := by decide +kernel
theorem dX11_does_9 : decode cX11_does 9 = .ok (.iaload, 1) := by decide +kernel
theorem dX11_does_10 : decode cX11_does 10 = .ok (.istore_n 2, 1) := by decide +kernel
theorem dX11_does_11 : decode cX11_does 11 = .ok (.aload_n 0, 1) := by decide +kernel
theorem dX11_does_12 : decode cX11_does 12 = .ok (.getfield 70, 3) := by decide +kernel
theorem dX11_does_15 : decode cX11_does 15 = .ok (.iconst 3, 1) := by decide +kernel
theorem dX11_does_16 : decode cX11_does 16 = .ok (.iload_n 1, 1) := by decide +kernel
theorem dX11_does_17 : decode cX11_does 17 = .ok (.imul, 1) := by decide +kernel
theorem dX11_does_18 : decode cX11_does 18 = .ok (.iconst 2, 1) := by decide +kernel
theorem dX11_does_19 : decode cX11_does 19 = .ok (.iadd, 1) := by decide +kernel
theorem dX11_does_20 : decode cX11_does 20 = .ok (.iaload, 1) := by decide +kernel
theorem dX11_does_21 : decode cX11_does 21 = .ok (.istore_n 3, 1) := by decide +kernel
theorem dX11_does_22 : decode cX11_does 22 = .ok (.aload_n 0, 1) := by decide +kernel
theorem dX11_does_23 : decode cX11_does 23 = .ok (.getfield 70, 3) := by decide +kernel
theorem dX11_does_26 : decode cX11_does 26 = .ok (.iconst 3, 1) := by decide +kernel
theorem dX11_does_27 : decode cX11_does 27 = .ok (.iload_n 1, 1) := by decide +kernel
theorem dX11_does_28 : decode cX11_does 28 = .ok (.imul, 1) := by decide +kernel
theorem dX11_does_29 : decode cX11_does 29 = .ok (.iaload, 1) := by decide +kernel
theorem dX11_does_30 : decode cX11_does 30 = .ok (.tableswitch 123 0 5 #[38, 52, 67, 67, 93, 108], 38) := by decide +kernel
theorem dX11_does_68 : decode cX11_does 68 = .ok (.aload_n 0, 1) := by decide +kernel
theorem dX11_does_69 : decode cX11_does 69 = .ok (.iload_n 2, 1) := by decide +kernel
theorem dX11_does_70 : decode cX11_does 70 = .ok (.invokevirtual 270, 3) := by decide +kernel
theorem dX11_does_73 : decode cX11_does 73 = .ok (.ifCond .le 7, 3) := by decide +kernel
theorem dX11_does_76 : decode cX11_does 76 = .ok (.iconst 1, 1) := by decide +kernel
theorem dX11_does_77 : decode cX11_does 77 = .ok (.goto 4, 3) := by decide +kernel
theorem dX11_does_80 : decode cX11_does 80 = .ok (.iconst 0, 1) := by decide +kernel
theorem dX11_does_81 : decode cX11_does 81 = .ok (.ireturn, 1) := by decide +kernel
theorem dX11_does_82 : decode cX11_does 82 = .ok (.aload_n 0, 1) := by decide +kernel
theorem dX11_does_83 : decode cX11_does 83 = .ok (.iload_n 2, 1) := by decide +kernel
theorem dX11_does_84 : decode cX11_does 84 = .ok (.iload_n 3, 1) := by decide +kernel
theorem dX11_does_85 : decode cX11_does 85 = .ok (.invokevirtual 273, 3) := by decide +kernel
theorem dX11_does_88 : decode cX11_does 88 = .ok (.ifCond .lt 7, 3) := by decide +kernel
theorem dX11_does_91 : decode cX11_does 91 = .ok (.iconst 1, 1) := by decide +kernel
theorem dX11_does_92 : decode cX11_does 92 = .ok (.goto 4, 3) := by decide +kernel
theorem dX11_does_95 : decode cX11_does 95 = .ok (.iconst 0, 1) := by decide +kernel
theorem dX11_does_96 : decode cX11_does 96 = .ok (.ireturn, 1) := by decide +kernel
theorem dX11_does_97 : decode cX11_does 97 = .ok (.aload_n 0, 1) := by decide +kernel
theorem dX11_does_98 : decode cX11_does 98 = .ok (.iload_n 2, 1) := by decide +kernel
theorem dX11_does_99 : decode cX11_does 99 = .ok (.aload_n 0, 1) := by decide +kernel
theorem dX11_does_100 : decode cX11_does 100 = .ok (.getfield 70, 3) := by decide +kernel
theorem dX11_does_103 : decode cX11_does 103 = .ok (.iconst 3, 1) := by decide +kernel
theorem dX11_does_104 : decode cX11_does 104 = .ok (.iload_n 1, 1) := by decide +kernel
theorem dX11_does_105 : decode cX11_does 105 = .ok (.imul, 1) := by decide +kernel
theorem dX11_does_106 : decode cX11_does 106 = .ok (.iaload, 1) := by decide +kernel
theorem dX11_does_107 : decode cX11_does 107 = .ok (.iconst 2, 1) := by decide +kernel
theorem dX11_does_108 : decode cX11_does 108 = .ok (.isub, 1) := by decide +kernel
theorem dX11_does_109 : decode cX11_does 109 = .ok (.iload_n 3, 1) := by decide +kernel
theorem dX11_does_110 : decode cX11_does 110 = .ok (.iconst 1, 1) := by decide +kernel
theorem dX11_does_111 : decode cX11_does 111 = .ok (.invokevirtual 276, 3) := by decide +kernel
theorem dX11_does_114 : decode cX11_does 114 = .ok (.ifCond .le 7, 3) := by decide +kernel
theorem dX11_does_117 : decode cX11_does 117 = .ok (.iconst 1, 1) := by decide +kernel
theorem dX11_does_118 : decode cX11_does 118 = .ok (.goto 4, 3) := by decide +kernel
theorem dX11_does_121 : decode cX11_does 121 = .ok (.iconst 0, 1) := by decide +kernel
theorem dX11_does_122 : decode cX11_does 122 = .ok (.ireturn, 1) := by decide +kernel
theorem dX11_does_123 : decode cX11_does 123 = .ok (.aload_n 0, 1) := by decide +kernel
theorem dX11_does_124 : decode cX11_does 124 = .ok (.iload_n 2, 1) := by decide +kernel
theorem dX11_does_125 : decode cX11_does 125 = .ok (.iload_n 3, 1) := by decide +kernel
theorem dX11_does_126 : decode cX11_does 126 = .ok (.invokevirtual 280, 3) := by decide +kernel
theorem dX11_does_129 : decode cX11_does 129 = .ok (.ifCond .lt 7, 3) := by decide +kernel
theorem dX11_does_132 : decode cX11_does 132 = .ok (.iconst 1, 1) := by decide +kernel
theorem dX11_does_133 : decode cX11_does 133 = .ok (.goto 4, 3) := by decide +kernel
theorem dX11_does_136 : decode cX11_does 136 = .ok (.iconst 0, 1) := by decide +kernel
theorem dX11_does_137 : decode cX11_does 137 = .ok (.ireturn, 1) := by decide +kernel
theorem dX11_does_138 : decode cX11_does 138 = .ok (.aload_n 0, 1) := by decide +kernel
theorem dX11_does_139 : decode cX11_does 139 = .ok (.iload_n 2, 1) := by decide +kernel
theorem dX11_does_140 : decode cX11_does 140 = .ok (.iload_n 3, 1) := by decide +kernel
theorem dX11_does_141 : decode cX11_does 141 = .ok (.invokevirtual 283, 3) := by decide +kernel
theorem dX11_does_144 : decode cX11_does 144 = .ok (.ifCond .lt 7, 3) := by decide +kernel
theorem dX11_does_147 : decode cX11_does 147 = .ok (.iconst 1, 1) := by decide +kernel
theorem dX11_does_148 : decode cX11_does 148 = .ok (.goto 4, 3) := by decide +kernel
theorem dX11_does_151 : decode cX11_does 151 = .ok (.iconst 0, 1) := by decide +kernel
theorem dX11_does_152 : decode cX11_does 152 = .ok (.ireturn, 1) := by decide +kernel
theorem dX11_does_153 : decode cX11_does 153 = .ok (.aload_n 0, 1) := by decide +kernel
theorem dX11_does_154 : decode cX11_does 154 = .ok (.iload_n 2, 1) := by decide +kernel
theorem dX11_does_155 : decode cX11_does 155 = .ok (.iload_n 3, 1) := by decide +kernel
theorem dX11_does_156 : decode cX11_does 156 = .ok (.invokevirtual 285, 3) := by decide +kernel
theorem dX11_does_159 : decode cX11_does 159 = .ok (.bipush (-2), 2) := by decide +kernel
theorem dX11_does_161 : decode cX11_does 161 = .ok (.if_icmp .le 7, 3) := by decide +kernel
theorem dX11_does_164 : decode cX11_does 164 = .ok (.iconst 1, 1) := by decide +kernel
theorem dX11_does_165 : decode cX11_does 165 = .ok (.goto 4, 3) := by decide +kernel
theorem dX11_does_168 : decode cX11_does 168 = .ok (.iconst 0, 1) := by decide +kernel
theorem dX11_does_169 : decode cX11_does 169 = .ok (.ireturn, 1) := by decide +kernel
theorem dX11_read_0 : decode cX11_read 0 = .ok (.aload_n 0, 1) := by decide +kernel
theorem dX11_read_1 : decode cX11_read 1 = .ok (.iconst 0, 1) := by decide +kernel
theorem dX11_read_2 : decode cX11_read 2 = .ok (.putfield 221, 3) := by decide +kernel
theorem dX11_read_5 : decode cX11_read 5 = .ok (.aload_n 0, 1) := by decide +kernel
theorem dX11_read_6 : decode cX11_read 6 = .ok (.iconst 0, 1) := by decide +kernel
theorem dX11_read_7 : decode cX11_read 7 = .ok (.putfield 264, 3) := by decide +kernel
theorem dX11_read_10 : decode cX11_read 10 = .ok (.aload_n 0, 1) := by decide +kernel
theorem dX11_read_11 : decode cX11_read 11 = .ok (.iconst 0, 1) := by decide +kernel
theorem dX11_read_12 : decode cX11_read 12 = .ok (.putfield 254, 3) := by decide +kernel
theorem dX11_read_15 : decode cX11_read 15 = .ok (.aload_n 0, 1) := by decide +kernel
theorem dX11_read_16 : decode cX11_read 16 = .ok (.invokevirtual 227, 3) := by decide +kernel
theorem dX11_read_19 : decode cX11_read 19 = .ok (.iconst 1, 1) := by decide +kernel
theorem dX11_read_20 : decode cX11_read 20 = .ok (.istore_n 1, 1) := by decide +kernel
theorem dX11_read_21 : decode cX11_read 21 = .ok (.iload_n 1, 1) := by decide +kernel
theorem dX11_read_22 : decode cX11_read 22 = .ok (.ifCond .eq 48, 3) := by decide +kernel
theorem dX11_read_25 : decode cX11_read 25 = .ok (.aload_n 0, 1) := by decide +kernel
theorem dX11_read_26 : decode cX11_read 26 = .ok (.invokevirtual 288, 3) := by decide +kernel
theorem dX11_read_29 : decode cX11_read 29 = .ok (.aload_n 0, 1) := by decide +kernel
theorem dX11_read_30 : decode cX11_read 30 = .ok (.getfield 254, 3) := by decide +kernel
theorem dX11_read_33 : decode cX11_read 33 = .ok (.ifCond .ne 7, 3) := by decide +kernel
theorem dX11_read_36 : decode cX11_read 36 = .ok (.iconst 1, 1) := by decide +kernel
theorem dX11_read_37 : decode cX11_read 37 = .ok (.goto 4, 3) := by decide +kernel
theorem dX11_read_40 : decode cX11_read 40 = .ok (.iconst 0, 1) := by decide +kernel
theorem dX11_read_41 : decode cX11_read 41 = .ok (.istore_n 1, 1) := by decide +kernel
theorem dX11_read_42 : decode cX11_read 42 = .ok (.iload_n 1, 1) := by decide +kernel
theorem dX11_read_43 : decode cX11_read 43 = .ok (.ifCond .eq (-22), 3) := by decide +kernel
theorem dX11_read_46 : decode cX11_read 46 = .ok (.aload_n 0, 1) := by decide +kernel
theorem dX11_read_47 : decode cX11_read 47 = .ok (.invokevirtual 227, 3) := by decide +kernel
theorem dX11_read_50 : decode cX11_read 50 = .ok (.aload_n 0, 1) := by decide +kernel
theorem dX11_read_51 : decode cX11_read 51 = .ok (.getfield 221, 3) := by decide +kernel
theorem dX11_read_54 : decode cX11_read 54 = .ok (.aload_n 0, 1) := by decide +kernel
theorem dX11_read_55 : decode cX11_read 55 = .ok (.getfield 218, 3) := by decide +kernel
theorem dX11_read_58 : decode cX11_read 58 = .ok (.if_icmp .ge 7, 3) := by decide +kernel
theorem dX11_read_61 : decode cX11_read 61 = .ok (.iconst 1, 1) := by decide +kernel
theorem dX11_read_62 : decode cX11_read 62 = .ok (.goto 4, 3) := by decide +kernel
theorem dX11_read_65 : decode cX11_read 65 = .ok (.iconst 0, 1) := by decide +kernel
theorem dX11_read_66 : decode cX11_read 66 = .ok (.istore_n 1, 1) := by decide +kernel
theorem dX11_read_67 : decode cX11_read 67 = .ok (.goto (-46), 3) := by decide +kernel
theorem dX11_read_70 : decode cX11_read 70 = .ok (.aload_n 0, 1) := by decide +kernel
theorem dX11_read_71 : decode cX11_read 71 = .ok (.getfield 254, 3) := by decide +kernel
theorem dX11_read_74 : decode cX11_read 74 = .ok (.ifCond .eq 11, 3) := by decide +kernel
theorem dX11_read_77 : decode cX11_read 77 = .ok (.bipush (-10), 2) := by decide +kernel
theorem dX11_read_79 : decode cX11_read 79 = .ok (.aload_n 0, 1) := by decide +kernel
theorem dX11_read_80 : decode cX11_read 80 = .ok (.getfield 224, 3) := by decide +kernel
theorem dX11_read_83 : decode cX11_read 83 = .ok (.isub, 1) := by decide +kernel
theorem dX11_read_84 : decode cX11_read 84 = .ok (.ireturn, 1) := by decide +kernel
theorem dX11_read_85 : decode cX11_read 85 = .ok (.iconst 0, 1) := by decide +kernel
theorem dX11_read_86 : decode cX11_read 86 = .ok (.istore_n 2, 1) := by decide +kernel
theorem dX11_read_87 : decode cX11_read 87 = .ok (.iload_n 2, 1) := by decide +kernel
theorem dX11_read_88 : decode cX11_read 88 = .ok (.iconst 3, 1) := by decide +kernel
theorem dX11_read_89 : decode cX11_read 89 = .ok (.if_icmp .ge 21, 3) := by decide +kernel
theorem dX11_read_92 : decode cX11_read 92 = .ok (.aload_n 0, 1) := by decide +kernel
theorem dX11_read_93 : decode cX11_read 93 = .ok (.getfield 73, 3) := by decide +kernel
theorem dX11_read_96 : decode cX11_read 96 = .ok (.iload_n 2, 1) := by decide +kernel
theorem dX11_read_97 : decode cX11_read 97 = .ok (.aload_n 0, 1) := by decide +kernel
theorem dX11_read_98 : decode cX11_read 98 = .ok (.getfield 7, 3) := by decide +kernel
theorem dX11_read_101 : decode cX11_read 101 = .ok (.iload_n 2, 1) := by decide +kernel
theorem dX11_read_102 : decode cX11_read 102 = .ok (.iaload, 1) := by decide +kernel
theorem dX11_read_103 : decode cX11_read 103 = .ok (.iastore, 1) := by decide +kernel
theorem dX11_read_104 : decode cX11_read 104 = .ok (.iinc 2 1, 3) := by decide +kernel
theorem dX11_read_107 : decode cX11_read 107 = .ok (.goto (-20), 3) := by decide +kernel
theorem dX11_read_110 : decode cX11_read 110 = .ok (.aload_n 0, 1) := by decide +kernel
theorem dX11_read_111 : decode cX11_read 111 = .ok (.iconst 2, 1) := by decide +kernel
theorem dX11_read_112 : decode cX11_read 112 = .ok (.invokevirtual 291, 3) := by decide +kernel
theorem dX11_read_115 : decode cX11_read 115 = .ok (.iconst 0, 1) := by decide +kernel
theorem dX11_read_116 : decode cX11_read 116 = .ok (.istore_n 2, 1) := by decide +kernel
theorem dX11_read_117 : decode cX11_read 117 = .ok (.iload_n 2, 1) := by decide +kernel
theorem dX11_read_118 : decode cX11_read 118 = .ok (.aload_n 0, 1) := by decide +kernel
theorem dX11_read_119 : decode cX11_read 119 = .ok (.getfield 264, 3) := by decide +kernel
theorem dX11_read_122 : decode cX11_read 122 = .ok (.if_icmp .ge 17, 3) := by decide +kernel
theorem dX11_read_125 : decode cX11_read 125 = .ok (.aload_n 0, 1) := by decide +kernel
theorem dX11_read_126 : decode cX11_read 126 = .ok (.iload_n 2, 1) := by decide +kernel
theorem dX11_read_127 : decode cX11_read 127 = .ok (.invokevirtual 294, 3) := by decide +kernel
theorem dX11_read_130 : decode cX11_read 130 = .ok (.ifCond .eq 9, 3) := by decide +kernel
theorem dX11_read_133 : decode cX11_read 133 = .ok (.iinc 2 1, 3) := by decide +kernel
theorem dX11_read_136 : decode cX11_read 136 = .ok (.goto (-19), 3) := by decide +kernel
theorem dX11_read_139 : decode cX11_read 139 = .ok (.iconst 0, 1) := by decide +kernel
theorem dX11_read_140 : decode cX11_read 140 = .ok (.istore_n 3, 1) := by decide +kernel
theorem dX11_read_141 : decode cX11_read 141 = .ok (.iload_n 3, 1) := by decide +kernel
theorem dX11_read_142 : decode cX11_read 142 = .ok (.iconst 3, 1) := by decide +kernel
theorem dX11_read_143 : decode cX11_read 143 = .ok (.if_icmp .ge 21, 3) := by decide +kernel
theorem dX11_read_146 : decode cX11_read 146 = .ok (.aload_n 0, 1) := by decide +kernel
theorem dX11_read_147 : decode cX11_read 147 = .ok (.getfield 7, 3) := by decide +kernel
theorem dX11_read_150 : decode cX11_read 150 = .ok (.iload_n 3, 1) := by decide +kernel
theorem dX11_read_151 : decode cX11_read 151 = .ok (.aload_n 0, 1) := by decide +kernel
theorem dX11_read_152 : decode cX11_read 152 = .ok (.getfield 73, 3) := by decide +kernel
theorem dX11_read_155 : decode cX11_read 155 = .ok (.iload_n 3, 1) := by decide +kernel
theorem dX11_read_156 : decode cX11_read 156 = .ok (.iaload, 1) := by decide +kernel
theorem dX11_read_157 : decode cX11_read 157 = .ok (.iastore, 1) := by decide +kernel
theorem dX11_read_158 : decode cX11_read 158 = .ok (.iinc 3 1, 3) := by decide +kernel
theorem dX11_read_161 : decode cX11_read 161 = .ok (.goto (-20), 3) := by decide +kernel
theorem dX11_read_164 : decode cX11_read 164 = .ok (.iload_n 2, 1) := by decide +kernel
theorem dX11_read_165 : decode cX11_read 165 = .ok (.aload_n 0, 1) := by decide +kernel
theorem dX11_read_166 : decode cX11_read 166 = .ok (.getfield 264, 3) := by decide +kernel
theorem dX11_read_169 : decode cX11_read 169 = .ok (.if_icmp .ge 14, 3) := by decide +kernel
theorem dX11_read_172 : decode cX11_read 172 = .ok (.aload_n 0, 1) := by decide +kernel
theorem dX11_read_173 : decode cX11_read 173 = .ok (.iconst 2, 1) := by decide +kernel
theorem dX11_read_174 : decode cX11_read 174 = .ok (.invokevirtual 297, 3) := by decide +kernel
theorem dX11_read_177 : decode cX11_read 177 = .ok (.sipush (-1000), 3) := by decide +kernel
theorem dX11_read_180 : decode cX11_read 180 = .ok (.iload_n 2, 1) := by decide +kernel
theorem dX11_read_181 : decode cX11_read 181 = .ok (.isub, 1) := by decide +kernel
theorem dX11_read_182 : decode cX11_read 182 = .ok (.ireturn, 1) := by decide +kernel
theorem dX11_read_183 : decode cX11_read 183 = .ok (.aload_n 0, 1) := by decide +kernel
theorem dX11_read_184 : decode cX11_read 184 = .ok (.getfield 264, 3) := by decide +kernel
theorem dX11_read_187 : decode cX11_read 187 = .ok (.ireturn, 1) := by decide +kernel
theorem dX11_lay_0 : decode cX11_lay 0 = .ok (.iconst 0, 1) := by decide +kernel
theorem dX11_lay_1 : decode cX11_lay 1 = .ok (.istore 4, 2) := by decide +kernel
theorem dX11_lay_3 : decode cX11_lay 3 = .ok (.iload 4, 2) := by decide +kernel
theorem dX11_lay_5 : decode cX11_lay 5 = .ok (.iload_n 2, 1) := by decide +kernel
theorem dX11_lay_6 : decode cX11_lay 6 = .ok (.if_icmp .ge 22, 3) := by decide +kernel
theorem dX11_lay_9 : decode cX11_lay 9 = .ok (.aload_n 0, 1) := by decide +kernel
theorem dX11_lay_10 : decode cX11_lay 10 = .ok (.getfield 76, 3) := by decide +kernel
theorem dX11_lay_13 : decode cX11_lay 13 = .ok (.iload_n 3, 1) := by decide +kernel
theorem dX11_lay_14 : decode cX11_lay 14 = .ok (.iload 4, 2) := by decide +kernel
theorem dX11_lay_16 : decode cX11_lay 16 = .ok (.iadd, 1) := by decide +kernel
theorem dX11_lay_17 : decode cX11_lay 17 = .ok (.aload_n 1, 1) := by decide +kernel
theorem dX11_lay_18 : decode cX11_lay 18 = .ok (.iload 4, 2) := by decide +kernel
theorem dX11_lay_20 : decode cX11_lay 20 = .ok (.iaload, 1) := by decide +kernel
theorem dX11_lay_21 : decode cX11_lay 21 = .ok (.iastore, 1) := by decide +kernel
theorem dX11_lay_22 : decode cX11_lay 22 = .ok (.iinc 4 1, 3) := by decide +kernel
theorem dX11_lay_25 : decode cX11_lay 25 = .ok (.goto (-22), 3) := by decide +kernel
theorem dX11_lay_28 : decode cX11_lay 28 = .ok (.iload_n 3, 1) := by decide +kernel
theorem dX11_lay_29 : decode cX11_lay 29 = .ok (.iload_n 2, 1) := by decide +kernel
theorem dX11_lay_30 : decode cX11_lay 30 = .ok (.iadd, 1) := by decide +kernel
theorem dX11_lay_31 : decode cX11_lay 31 = .ok (.ireturn, 1) := by decide +kernel
theorem dX11_gives_0 : decode cX11_gives 0 = .ok (.iconst 0, 1) := by decide +kernel
theorem dX11_gives_1 : decode cX11_gives 1 = .ok (.istore 4, 2) := by decide +kernel
theorem dX11_gives_3 : decode cX11_gives 3 = .ok (.iload 4, 2) := by decide +kernel
theorem dX11_gives_5 : decode cX11_gives 5 = .ok (.iload_n 3, 1) := by decide +kernel
theorem dX11_gives_6 : decode cX11_gives 6 = .ok (.if_icmp .ge 22, 3) := by decide +kernel
theorem dX11_gives_9 : decode cX11_gives 9 = .ok (.aload_n 2, 1) := by decide +kernel
theorem dX11_gives_10 : decode cX11_gives 10 = .ok (.iload 4, 2) := by decide +kernel
theorem dX11_gives_12 : decode cX11_gives 12 = .ok (.aload_n 0, 1) := by decide +kernel
theorem dX11_gives_13 : decode cX11_gives 13 = .ok (.getfield 76, 3) := by decide +kernel
theorem dX11_gives_16 : decode cX11_gives 16 = .ok (.iload_n 1, 1) := by decide +kernel
theorem dX11_gives_17 : decode cX11_gives 17 = .ok (.iload 4, 2) := by decide +kernel
theorem dX11_gives_19 : decode cX11_gives 19 = .ok (.iadd, 1) := by decide +kernel
theorem dX11_gives_20 : decode cX11_gives 20 = .ok (.iaload, 1) := by decide +kernel
theorem dX11_gives_21 : decode cX11_gives 21 = .ok (.iastore, 1) := by decide +kernel
theorem dX11_gives_22 : decode cX11_gives 22 = .ok (.iinc 4 1, 3) := by decide +kernel
theorem dX11_gives_25 : decode cX11_gives 25 = .ok (.goto (-22), 3) := by decide +kernel
theorem dX11_gives_28 : decode cX11_gives 28 = .ok (.iload_n 1, 1) := by decide +kernel
theorem dX11_gives_29 : decode cX11_gives 29 = .ok (.iload_n 3, 1) := by decide +kernel
theorem dX11_gives_30 : decode cX11_gives 30 = .ok (.iadd, 1) := by decide +kernel
theorem dX11_gives_31 : decode cX11_gives 31 = .ok (.ireturn, 1) := by decide +kernel
theorem dX11_keeps_0 : decode cX11_keeps 0 = .ok (.bipush 72, 2) := by decide +kernel
theorem dX11_keeps_2 : decode cX11_keeps 2 = .ok (.iload_n 1, 1) := by decide +kernel
theorem dX11_keeps_3 : decode cX11_keeps 3 = .ok (.imul, 1) := by decide +kernel
theorem dX11_keeps_4 : decode cX11_keeps 4 = .ok (.istore_n 2, 1) := by decide +kernel
theorem dX11_keeps_5 : decode cX11_keeps 5 = .ok (.aload_n 0, 1) := by decide +kernel
theorem dX11_keeps_6 : decode cX11_keeps 6 = .ok (.getfield 76, 3) := by decide +kernel
theorem dX11_keeps_9 : decode cX11_keeps 9 = .ok (.iload_n 2, 1) := by decide +kernel
theorem dX11_keeps_10 : decode cX11_keeps 10 = .ok (.aload_n 0, 1) := by decide +kernel
theorem dX11_keeps_11 : decode cX11_keeps 11 = .ok (.getfield 93, 3) := by decide +kernel
theorem dX11_keeps_14 : decode cX11_keeps 14 = .ok (.iastore, 1) := by decide +kernel
theorem dX11_keeps_15 : decode cX11_keeps 15 = .ok (.aload_n 0, 1) := by decide +kernel
theorem dX11_keeps_16 : decode cX11_keeps 16 = .ok (.getfield 76, 3) := by decide +kernel
theorem dX11_keeps_19 : decode cX11_keeps 19 = .ok (.iload_n 2, 1) := by decide +kernel
theorem dX11_keeps_20 : decode cX11_keeps 20 = .ok (.iconst 1, 1) := by decide +kernel
theorem dX11_keeps_21 : decode cX11_keeps 21 = .ok (.iadd, 1) := by decide +kernel
theorem dX11_keeps_22 : decode cX11_keeps 22 = .ok (.aload_n 0, 1) := by decide +kernel
theorem dX11_keeps_23 : decode cX11_keeps 23 = .ok (.getfield 103, 3) := by decide +kernel
theorem dX11_keeps_26 : decode cX11_keeps 26 = .ok (.iastore, 1) := by decide +kernel
theorem dX11_keeps_27 : decode cX11_keeps 27 = .ok (.aload_n 0, 1) := by decide +kernel
theorem dX11_keeps_28 : decode cX11_keeps 28 = .ok (.getfield 76, 3) := by decide +kernel
theorem dX11_keeps_31 : decode cX11_keeps 31 = .ok (.iload_n 2, 1) := by decide +kernel
theorem dX11_keeps_32 : decode cX11_keeps 32 = .ok (.iconst 2, 1) := by decide +kernel
theorem dX11_keeps_33 : decode cX11_keeps 33 = .ok (.iadd, 1) := by decide +kernel
theorem dX11_keeps_34 : decode cX11_keeps 34 = .ok (.aload_n 0, 1) := by decide +kernel
theorem dX11_keeps_35 : decode cX11_keeps 35 = .ok (.getfield 106, 3) := by decide +kernel
theorem dX11_keeps_38 : decode cX11_keeps 38 = .ok (.iastore, 1) := by decide +kernel
theorem dX11_keeps_39 : decode cX11_keeps 39 = .ok (.aload_n 0, 1) := by decide +kernel
theorem dX11_keeps_40 : decode cX11_keeps 40 = .ok (.getfield 76, 3) := by decide +kernel
theorem dX11_keeps_43 : decode cX11_keeps 43 = .ok (.iload_n 2, 1) := by decide +kernel
theorem dX11_keeps_44 : decode cX11_keeps 44 = .ok (.iconst 3, 1) := by decide +kernel
theorem dX11_keeps_45 : decode cX11_keeps 45 = .ok (.iadd, 1) := by decide +kernel
theorem dX11_keeps_46 : decode cX11_keeps 46 = .ok (.aload_n 0, 1) := by decide +kernel
theorem dX11_keeps_47 : decode cX11_keeps 47 = .ok (.getfield 109, 3) := by decide +kernel
theorem dX11_keeps_50 : decode cX11_keeps 50 = .ok (.iastore, 1) := by decide +kernel
theorem dX11_keeps_51 : decode cX11_keeps 51 = .ok (.aload_n 0, 1) := by decide +kernel
theorem dX11_keeps_52 : decode cX11_keeps 52 = .ok (.getfield 76, 3) := by decide +kernel
theorem dX11_keeps_55 : decode cX11_keeps 55 = .ok (.iload_n 2, 1) := by decide +kernel
theorem dX11_keeps_56 : decode cX11_keeps 56 = .ok (.iconst 4, 1) := by decide +kernel
theorem dX11_keeps_57 : decode cX11_keeps 57 = .ok (.iadd, 1) := by decide +kernel
theorem dX11_keeps_58 : decode cX11_keeps 58 = .ok (.aload_n 0, 1) := by decide +kernel
theorem dX11_keeps_59 : decode cX11_keeps 59 = .ok (.getfield 112, 3) := by decide +kernel
theorem dX11_keeps_62 : decode cX11_keeps 62 = .ok (.iastore, 1) := by decide +kernel
theorem dX11_keeps_63 : decode cX11_keeps 63 = .ok (.aload_n 0, 1) := by decide +kernel
theorem dX11_keeps_64 : decode cX11_keeps 64 = .ok (.getfield 76, 3) := by decide +kernel
theorem dX11_keeps_67 : decode cX11_keeps 67 = .ok (.iload_n 2, 1) := by decide +kernel
theorem dX11_keeps_68 : decode cX11_keeps 68 = .ok (.iconst 5, 1) := by decide +kernel
theorem dX11_keeps_69 : decode cX11_keeps 69 = .ok (.iadd, 1) := by decide +kernel
theorem dX11_keeps_70 : decode cX11_keeps 70 = .ok (.aload_n 0, 1) := by decide +kernel
theorem dX11_keeps_71 : decode cX11_keeps 71 = .ok (.getfield 115, 3) := by decide +kernel
theorem dX11_keeps_74 : decode cX11_keeps 74 = .ok (.iastore, 1) := by decide +kernel
theorem dX11_keeps_75 : decode cX11_keeps 75 = .ok (.aload_n 0, 1) := by decide +kernel
theorem dX11_keeps_76 : decode cX11_keeps 76 = .ok (.aload_n 0, 1) := by decide +kernel
theorem dX11_keeps_77 : decode cX11_keeps 77 = .ok (.getfield 13, 3) := by decide +kernel
theorem dX11_keeps_80 : decode cX11_keeps 80 = .ok (.bipush 7, 2) := by decide +kernel
theorem dX11_keeps_82 : decode cX11_keeps 82 = .ok (.iload_n 2, 1) := by decide +kernel
theorem dX11_keeps_83 : decode cX11_keeps 83 = .ok (.bipush 6, 2) := by decide +kernel
theorem dX11_keeps_85 : decode cX11_keeps 85 = .ok (.iadd, 1) := by decide +kernel
theorem dX11_keeps_86 : decode cX11_keeps 86 = .ok (.invokevirtual 300, 3) := by decide +kernel
theorem dX11_keeps_89 : decode cX11_keeps 89 = .ok (.istore_n 2, 1) := by decide +kernel
theorem dX11_keeps_90 : decode cX11_keeps 90 = .ok (.aload_n 0, 1) := by decide +kernel
theorem dX11_keeps_91 : decode cX11_keeps 91 = .ok (.aload_n 0, 1) := by decide +kernel
theorem dX11_keeps_92 : decode cX11_keeps 92 = .ok (.getfield 16, 3) := by decide +kernel
theorem dX11_keeps_95 : decode cX11_keeps 95 = .ok (.bipush 7, 2) := by decide +kernel
theorem dX11_keeps_97 : decode cX11_keeps 97 = .ok (.iload_n 2, 1) := by decide +kernel
theorem dX11_keeps_98 : decode cX11_keeps 98 = .ok (.invokevirtual 300, 3) := by decide +kernel
theorem dX11_keeps_101 : decode cX11_keeps 101 = .ok (.istore_n 2, 1) := by decide +kernel
theorem dX11_keeps_102 : decode cX11_keeps 102 = .ok (.aload_n 0, 1) := by decide +kernel
theorem dX11_keeps_103 : decode cX11_keeps 103 = .ok (.aload_n 0, 1) := by decide +kernel
theorem dX11_keeps_104 : decode cX11_keeps 104 = .ok (.getfield 19, 3) := by decide +kernel
theorem dX11_keeps_107 : decode cX11_keeps 107 = .ok (.bipush 7, 2) := by decide +kernel
theorem dX11_keeps_109 : decode cX11_keeps 109 = .ok (.iload_n 2, 1) := by decide +kernel
theorem dX11_keeps_110 : decode cX11_keeps 110 = .ok (.invokevirtual 300, 3) := by decide +kernel
theorem dX11_keeps_113 : decode cX11_keeps 113 = .ok (.istore_n 2, 1) := by decide +kernel
theorem dX11_keeps_114 : decode cX11_keeps 114 = .ok (.aload_n 0, 1) := by decide +kernel
theorem dX11_keeps_115 : decode cX11_keeps 115 = .ok (.aload_n 0, 1) := by decide +kernel
theorem dX11_keeps_116 : decode cX11_keeps 116 = .ok (.getfield 22, 3) := by decide +kernel
theorem dX11_keeps_119 : decode cX11_keeps 119 = .ok (.bipush 7, 2) := by decide +kernel
theorem dX11_keeps_121 : decode cX11_keeps 121 = .ok (.iload_n 2, 1) := by decide +kernel
theorem dX11_keeps_122 : decode cX11_keeps 122 = .ok (.invokevirtual 300, 3) := by decide +kernel
theorem dX11_keeps_125 : decode cX11_keeps 125 = .ok (.istore_n 2, 1) := by decide +kernel
theorem dX11_keeps_126 : decode cX11_keeps 126 = .ok (.aload_n 0, 1) := by decide +kernel
theorem dX11_keeps_127 : decode cX11_keeps 127 = .ok (.aload_n 0, 1) := by decide +kernel
theorem dX11_keeps_128 : decode cX11_keeps 128 = .ok (.getfield 25, 3) := by decide +kernel
theorem dX11_keeps_131 : decode cX11_keeps 131 = .ok (.bipush 7, 2) := by decide +kernel
theorem dX11_keeps_133 : decode cX11_keeps 133 = .ok (.iload_n 2, 1) := by decide +kernel
theorem dX11_keeps_134 : decode cX11_keeps 134 = .ok (.invokevirtual 300, 3) := by decide +kernel
theorem dX11_keeps_137 : decode cX11_keeps 137 = .ok (.istore_n 2, 1) := by decide +kernel
theorem dX11_keeps_138 : decode cX11_keeps 138 = .ok (.aload_n 0, 1) := by decide +kernel
theorem dX11_keeps_139 : decode cX11_keeps 139 = .ok (.aload_n 0, 1) := by decide +kernel
theorem dX11_keeps_140 : decode cX11_keeps 140 = .ok (.getfield 43, 3) := by decide +kernel
theorem dX11_keeps_143 : decode cX11_keeps 143 = .ok (.bipush 7, 2) := by decide +kernel
theorem dX11_keeps_145 : decode cX11_keeps 145 = .ok (.iload_n 2, 1) := by decide +kernel
theorem dX11_keeps_146 : decode cX11_keeps 146 = .ok (.invokevirtual 300, 3) := by decide +kernel
theorem dX11_keeps_149 : decode cX11_keeps 149 = .ok (.istore_n 2, 1) := by decide +kernel
theorem dX11_keeps_150 : decode cX11_keeps 150 = .ok (.aload_n 0, 1) := by decide +kernel
theorem dX11_keeps_151 : decode cX11_keeps 151 = .ok (.aload_n 0, 1) := by decide +kernel
theorem dX11_keeps_152 : decode cX11_keeps 152 = .ok (.getfield 28, 3) := by decide +kernel
theorem dX11_keeps_155 : decode cX11_keeps 155 = .ok (.bipush 6, 2) := by decide +kernel
theorem dX11_keeps_157 : decode cX11_keeps 157 = .ok (.iload_n 2, 1) := by decide +kernel
theorem dX11_keeps_158 : decode cX11_keeps 158 = .ok (.invokevirtual 300, 3) := by decide +kernel
theorem dX11_keeps_161 : decode cX11_keeps 161 = .ok (.istore_n 2, 1) := by decide +kernel
theorem dX11_keeps_162 : decode cX11_keeps 162 = .ok (.aload_n 0, 1) := by decide +kernel
theorem dX11_keeps_163 : decode cX11_keeps 163 = .ok (.aload_n 0, 1) := by decide +kernel
theorem dX11_keeps_164 : decode cX11_keeps 164 = .ok (.getfield 31, 3) := by decide +kernel
theorem dX11_keeps_167 : decode cX11_keeps 167 = .ok (.bipush 6, 2) := by decide +kernel
theorem dX11_keeps_169 : decode cX11_keeps 169 = .ok (.iload_n 2, 1) := by decide +kernel
theorem dX11_keeps_170 : decode cX11_keeps 170 = .ok (.invokevirtual 300, 3) := by decide +kernel
theorem dX11_keeps_173 : decode cX11_keeps 173 = .ok (.istore_n 2, 1) := by decide +kernel
theorem dX11_keeps_174 : decode cX11_keeps 174 = .ok (.aload_n 0, 1) := by decide +kernel
theorem dX11_keeps_175 : decode cX11_keeps 175 = .ok (.aload_n 0, 1) := by decide +kernel
theorem dX11_keeps_176 : decode cX11_keeps 176 = .ok (.getfield 34, 3) := by decide +kernel
theorem dX11_keeps_179 : decode cX11_keeps 179 = .ok (.bipush 6, 2) := by decide +kernel
theorem dX11_keeps_181 : decode cX11_keeps 181 = .ok (.iload_n 2, 1) := by decide +kernel
theorem dX11_keeps_182 : decode cX11_keeps 182 = .ok (.invokevirtual 300, 3) := by decide +kernel
theorem dX11_keeps_185 : decode cX11_keeps 185 = .ok (.istore_n 2, 1) := by decide +kernel
theorem dX11_keeps_186 : decode cX11_keeps 186 = .ok (.aload_n 0, 1) := by decide +kernel
theorem dX11_keeps_187 : decode cX11_keeps 187 = .ok (.aload_n 0, 1) := by decide +kernel
theorem dX11_keeps_188 : decode cX11_keeps 188 = .ok (.getfield 37, 3) := by decide +kernel
theorem dX11_keeps_191 : decode cX11_keeps 191 = .ok (.bipush 6, 2) := by decide +kernel
theorem dX11_keeps_193 : decode cX11_keeps 193 = .ok (.iload_n 2, 1) := by decide +kernel
theorem dX11_keeps_194 : decode cX11_keeps 194 = .ok (.invokevirtual 300, 3) := by decide +kernel
theorem dX11_keeps_197 : decode cX11_keeps 197 = .ok (.pop, 1) := by decide +kernel
theorem dX11_keeps_198 : decode cX11_keeps 198 = .ok (.aload_n 0, 1) := by decide +kernel
theorem dX11_keeps_199 : decode cX11_keeps 199 = .ok (.iload_n 1, 1) := by decide +kernel
theorem dX11_keeps_200 : decode cX11_keeps 200 = .ok (.iconst 1, 1) := by decide +kernel
theorem dX11_keeps_201 : decode cX11_keeps 201 = .ok (.invokevirtual 304, 3) := by decide +kernel
theorem dX11_keeps_204 : decode cX11_keeps 204 = .ok (.return_, 1) := by decide +kernel
theorem dX11_toldAside_0 : decode cX11_toldAside 0 = .ok (.iconst 0, 1) := by decide +kernel
theorem dX11_toldAside_1 : decode cX11_toldAside 1 = .ok (.istore_n 3, 1) := by decide +kernel
theorem dX11_toldAside_2 : decode cX11_toldAside 2 = .ok (.iload_n 3, 1) := by decide +kernel
theorem dX11_toldAside_3 : decode cX11_toldAside 3 = .ok (.iconst 3, 1) := by decide +kernel
theorem dX11_toldAside_4 : decode cX11_toldAside 4 = .ok (.if_icmp .ge 48, 3) := by decide +kernel
theorem dX11_toldAside_7 : decode cX11_toldAside 7 = .ok (.iload_n 2, 1) := by decide +kernel
theorem dX11_toldAside_8 : decode cX11_toldAside 8 = .ok (.ifCond .eq 22, 3) := by decide +kernel
theorem dX11_toldAside_11 : decode cX11_toldAside 11 = .ok (.aload_n 0, 1) := by decide +kernel
theorem dX11_toldAside_12 : decode cX11_toldAside 12 = .ok (.getfield 79, 3) := by decide +kernel
theorem dX11_toldAside_15 : decode cX11_toldAside 15 = .ok (.iconst 3, 1) := by decide +kernel
theorem dX11_toldAside_16 : decode cX11_toldAside 16 = .ok (.iload_n 1, 1) := by decide +kernel
theorem dX11_toldAside_17 : decode cX11_toldAside 17 = .ok (.imul, 1) := by decide +kernel
theorem dX11_toldAside_18 : decode cX11_toldAside 18 = .ok (.iload_n 3, 1) := by decide +kernel
theorem dX11_toldAside_19 : decode cX11_toldAside 19 = .ok (.iadd, 1) := by decide +kernel
theorem dX11_toldAside_20 : decode cX11_toldAside 20 = .ok (.aload_n 0, 1) := by decide +kernel
theorem dX11_toldAside_21 : decode cX11_toldAside 21 = .ok (.getfield 40, 3) := by decide +kernel
theorem dX11_toldAside_24 : decode cX11_toldAside 24 = .ok (.iload_n 3, 1) := by decide +kernel
theorem dX11_toldAside_25 : decode cX11_toldAside 25 = .ok (.iaload, 1) := by decide +kernel
theorem dX11_toldAside_26 : decode cX11_toldAside 26 = .ok (.iastore, 1) := by decide +kernel
theorem dX11_toldAside_27 : decode cX11_toldAside 27 = .ok (.goto 19, 3) := by decide +kernel
theorem dX11_toldAside_30 : decode cX11_toldAside 30 = .ok (.aload_n 0, 1) := by decide +kernel
theorem dX11_toldAside_31 : decode cX11_toldAside 31 = .ok (.getfield 40, 3) := by decide +kernel
theorem dX11_toldAside_34 : decode cX11_toldAside 34 = .ok (.iload_n 3, 1) := by decide +kernel
theorem dX11_toldAside_35 : decode cX11_toldAside 35 = .ok (.aload_n 0, 1) := by decide +kernel
theorem dX11_toldAside_36 : decode cX11_toldAside 36 = .ok (.getfield 79, 3) := by decide +kernel
theorem dX11_toldAside_39 : decode cX11_toldAside 39 = .ok (.iconst 3, 1) := by decide +kernel
theorem dX11_toldAside_40 : decode cX11_toldAside 40 = .ok (.iload_n 1, 1) := by decide +kernel
theorem dX11_toldAside_41 : decode cX11_toldAside 41 = .ok (.imul, 1) := by decide +kernel
theorem dX11_toldAside_42 : decode cX11_toldAside 42 = .ok (.iload_n 3, 1) := by decide +kernel
theorem dX11_toldAside_43 : decode cX11_toldAside 43 = .ok (.iadd, 1) := by decide +kernel
theorem dX11_toldAside_44 : decode cX11_toldAside 44 = .ok (.iaload, 1) := by decide +kernel
theorem dX11_toldAside_45 : decode cX11_toldAside 45 = .ok (.iastore, 1) := by decide +kernel
theorem dX11_toldAside_46 : decode cX11_toldAside 46 = .ok (.iinc 3 1, 3) := by decide +kernel
theorem dX11_toldAside_49 : decode cX11_toldAside 49 = .ok (.goto (-47), 3) := by decide +kernel
theorem dX11_toldAside_52 : decode cX11_toldAside 52 = .ok (.return_, 1) := by decide +kernel
theorem dX11_goesOn_0 : decode cX11_goesOn 0 = .ok (.bipush 72, 2) := by decide +kernel
theorem dX11_goesOn_2 : decode cX11_goesOn 2 = .ok (.iload_n 1, 1) := by decide +kernel
theorem dX11_goesOn_3 : decode cX11_goesOn 3 = .ok (.imul, 1) := by decide +kernel
theorem dX11_goesOn_4 : decode cX11_goesOn 4 = .ok (.istore_n 2, 1) := by decide +kernel
theorem dX11_goesOn_5 : decode cX11_goesOn 5 = .ok (.aload_n 0, 1) := by decide +kernel
theorem dX11_goesOn_6 : decode cX11_goesOn 6 = .ok (.aload_n 0, 1) := by decide +kernel
theorem dX11_goesOn_7 : decode cX11_goesOn 7 = .ok (.getfield 76, 3) := by decide +kernel
theorem dX11_goesOn_10 : decode cX11_goesOn 10 = .ok (.iload_n 2, 1) := by decide +kernel
theorem dX11_goesOn_11 : decode cX11_goesOn 11 = .ok (.iaload, 1) := by decide +kernel
theorem dX11_goesOn_12 : decode cX11_goesOn 12 = .ok (.putfield 93, 3) := by decide +kernel
theorem dX11_goesOn_15 : decode cX11_goesOn 15 = .ok (.aload_n 0, 1) := by decide +kernel
theorem dX11_goesOn_16 : decode cX11_goesOn 16 = .ok (.aload_n 0, 1) := by decide +kernel
theorem dX11_goesOn_17 : decode cX11_goesOn 17 = .ok (.getfield 76, 3) := by decide +kernel
theorem dX11_goesOn_20 : decode cX11_goesOn 20 = .ok (.iload_n 2, 1) := by decide +kernel
theorem dX11_goesOn_21 : decode cX11_goesOn 21 = .ok (.iconst 1, 1) := by decide +kernel
theorem dX11_goesOn_22 : decode cX11_goesOn 22 = .ok (.iadd, 1) := by decide +kernel
theorem dX11_goesOn_23 : decode cX11_goesOn 23 = .ok (.iaload, 1) := by decide +kernel
theorem dX11_goesOn_24 : decode cX11_goesOn 24 = .ok (.putfield 103, 3) := by decide +kernel
theorem dX11_goesOn_27 : decode cX11_goesOn 27 = .ok (.aload_n 0, 1) := by decide +kernel
theorem dX11_goesOn_28 : decode cX11_goesOn 28 = .ok (.aload_n 0, 1) := by decide +kernel
theorem dX11_goesOn_29 : decode cX11_goesOn 29 = .ok (.getfield 76, 3) := by decide +kernel
theorem dX11_goesOn_32 : decode cX11_goesOn 32 = .ok (.iload_n 2, 1) := by decide +kernel
theorem dX11_goesOn_33 : decode cX11_goesOn 33 = .ok (.iconst 2, 1) := by decide +kernel
theorem dX11_goesOn_34 : decode cX11_goesOn 34 = .ok (.iadd, 1) := by decide +kernel
theorem dX11_goesOn_35 : decode cX11_goesOn 35 = .ok (.iaload, 1) := by decide +kernel
theorem dX11_goesOn_36 : decode cX11_goesOn 36 = .ok (.putfield 106, 3) := by decide +kernel
theorem dX11_goesOn_39 : decode cX11_goesOn 39 = .ok (.aload_n 0, 1) := by decide +kernel
theorem dX11_goesOn_40 : decode cX11_goesOn 40 = .ok (.aload_n 0, 1) := by decide +kernel
theorem dX11_goesOn_41 : decode cX11_goesOn 41 = .ok (.getfield 76, 3) := by decide +kernel
theorem dX11_goesOn_44 : decode cX11_goesOn 44 = .ok (.iload_n 2, 1) := by decide +kernel
theorem dX11_goesOn_45 : decode cX11_goesOn 45 = .ok (.iconst 3, 1) := by decide +kernel
theorem dX11_goesOn_46 : decode cX11_goesOn 46 = .ok (.iadd, 1) := by decide +kernel
theorem dX11_goesOn_47 : decode cX11_goesOn 47 = .ok (.iaload, 1) := by decide +kernel
theorem dX11_goesOn_48 : decode cX11_goesOn 48 = .ok (.putfield 109, 3) := by decide +kernel
theorem dX11_goesOn_51 : decode cX11_goesOn 51 = .ok (.aload_n 0, 1) := by decide +kernel
theorem dX11_goesOn_52 : decode cX11_goesOn 52 = .ok (.aload_n 0, 1) := by decide +kernel
theorem dX11_goesOn_53 : decode cX11_goesOn 53 = .ok (.getfield 76, 3) := by decide +kernel
theorem dX11_goesOn_56 : decode cX11_goesOn 56 = .ok (.iload_n 2, 1) := by decide +kernel
theorem dX11_goesOn_57 : decode cX11_goesOn 57 = .ok (.iconst 4, 1) := by decide +kernel
theorem dX11_goesOn_58 : decode cX11_goesOn 58 = .ok (.iadd, 1) := by decide +kernel
theorem dX11_goesOn_59 : decode cX11_goesOn 59 = .ok (.iaload, 1) := by decide +kernel
theorem dX11_goesOn_60 : decode cX11_goesOn 60 = .ok (.putfield 112, 3) := by decide +kernel
theorem dX11_goesOn_63 : decode cX11_goesOn 63 = .ok (.aload_n 0, 1) := by decide +kernel
theorem dX11_goesOn_64 : decode cX11_goesOn 64 = .ok (.aload_n 0, 1) := by decide +kernel
theorem dX11_goesOn_65 : decode cX11_goesOn 65 = .ok (.getfield 76, 3) := by decide +kernel
theorem dX11_goesOn_68 : decode cX11_goesOn 68 = .ok (.iload_n 2, 1) := by decide +kernel
theorem dX11_goesOn_69 : decode cX11_goesOn 69 = .ok (.iconst 5, 1) := by decide +kernel
theorem dX11_goesOn_70 : decode cX11_goesOn 70 = .ok (.iadd, 1) := by decide +kernel
theorem dX11_goesOn_71 : decode cX11_goesOn 71 = .ok (.iaload, 1) := by decide +kernel
theorem dX11_goesOn_72 : decode cX11_goesOn 72 = .ok (.putfield 115, 3) := by decide +kernel
theorem dX11_goesOn_75 : decode cX11_goesOn 75 = .ok (.aload_n 0, 1) := by decide +kernel
theorem dX11_goesOn_76 : decode cX11_goesOn 76 = .ok (.iload_n 2, 1) := by decide +kernel
theorem dX11_goesOn_77 : decode cX11_goesOn 77 = .ok (.bipush 6, 2) := by decide +kernel
theorem dX11_goesOn_79 : decode cX11_goesOn 79 = .ok (.iadd, 1) := by decide +kernel
theorem dX11_goesOn_80 : decode cX11_goesOn 80 = .ok (.aload_n 0, 1) := by decide +kernel
theorem dX11_goesOn_81 : decode cX11_goesOn 81 = .ok (.getfield 13, 3) := by decide +kernel
theorem dX11_goesOn_84 : decode cX11_goesOn 84 = .ok (.bipush 7, 2) := by decide +kernel
theorem dX11_goesOn_86 : decode cX11_goesOn 86 = .ok (.invokevirtual 308, 3) := by decide +kernel
theorem dX11_goesOn_89 : decode cX11_goesOn 89 = .ok (.istore_n 2, 1) := by decide +kernel
theorem dX11_goesOn_90 : decode cX11_goesOn 90 = .ok (.aload_n 0, 1) := by decide +kernel
theorem dX11_goesOn_91 : decode cX11_goesOn 91 = .ok (.iload_n 2, 1) := by decide +kernel
theorem dX11_goesOn_92 : decode cX11_goesOn 92 = .ok (.aload_n 0, 1) := by decide +kernel
theorem dX11_goesOn_93 : decode cX11_goesOn 93 = .ok (.getfield 16, 3) := by decide +kernel
theorem dX11_goesOn_96 : decode cX11_goesOn 96 = .ok (.bipush 7, 2) := by decide +kernel
theorem dX11_goesOn_98 : decode cX11_goesOn 98 = .ok (.invokevirtual 308, 3) := by decide +kernel
theorem dX11_goesOn_101 : decode cX11_goesOn 101 = .ok (.istore_n 2, 1) := by decide +kernel
theorem dX11_goesOn_102 : decode cX11_goesOn 102 = .ok (.aload_n 0, 1) := by decide +kernel
theorem dX11_goesOn_103 : decode cX11_goesOn 103 = .ok (.iload_n 2, 1) := by decide +kernel
theorem dX11_goesOn_104 : decode cX11_goesOn 104 = .ok (.aload_n 0, 1) := by decide +kernel
theorem dX11_goesOn_105 : decode cX11_goesOn 105 = .ok (.getfield 19, 3) := by decide +kernel
theorem dX11_goesOn_108 : decode cX11_goesOn 108 = .ok (.bipush 7, 2) := by decide +kernel
theorem dX11_goesOn_110 : decode cX11_goesOn 110 = .ok (.invokevirtual 308, 3) := by decide +kernel
theorem dX11_goesOn_113 : decode cX11_goesOn 113 = .ok (.istore_n 2, 1) := by decide +kernel
theorem dX11_goesOn_114 : decode cX11_goesOn 114 = .ok (.aload_n 0, 1) := by decide +kernel
theorem dX11_goesOn_115 : decode cX11_goesOn 115 = .ok (.iload_n 2, 1) := by decide +kernel
theorem dX11_goesOn_116 : decode cX11_goesOn 116 = .ok (.aload_n 0, 1) := by decide +kernel
theorem dX11_goesOn_117 : decode cX11_goesOn 117 = .ok (.getfield 22, 3) := by decide +kernel
theorem dX11_goesOn_120 : decode cX11_goesOn 120 = .ok (.bipush 7, 2) := by decide +kernel
theorem dX11_goesOn_122 : decode cX11_goesOn 122 = .ok (.invokevirtual 308, 3) := by decide +kernel
theorem dX11_goesOn_125 : decode cX11_goesOn 125 = .ok (.istore_n 2, 1) := by decide +kernel
theorem dX11_goesOn_126 : decode cX11_goesOn 126 = .ok (.aload_n 0, 1) := by decide +kernel
theorem dX11_goesOn_127 : decode cX11_goesOn 127 = .ok (.iload_n 2, 1) := by decide +kernel
theorem dX11_goesOn_128 : decode cX11_goesOn 128 = .ok (.aload_n 0, 1) := by decide +kernel
theorem dX11_goesOn_129 : decode cX11_goesOn 129 = .ok (.getfield 25, 3) := by decide +kernel
theorem dX11_goesOn_132 : decode cX11_goesOn 132 = .ok (.bipush 7, 2) := by decide +kernel
theorem dX11_goesOn_134 : decode cX11_goesOn 134 = .ok (.invokevirtual 308, 3) := by decide +kernel
theorem dX11_goesOn_137 : decode cX11_goesOn 137 = .ok (.istore_n 2, 1) := by decide +kernel
theorem dX11_goesOn_138 : decode cX11_goesOn 138 = .ok (.aload_n 0, 1) := by decide +kernel
theorem dX11_goesOn_139 : decode cX11_goesOn 139 = .ok (.iload_n 2, 1) := by decide +kernel
theorem dX11_goesOn_140 : decode cX11_goesOn 140 = .ok (.aload_n 0, 1) := by decide +kernel
theorem dX11_goesOn_141 : decode cX11_goesOn 141 = .ok (.getfield 43, 3) := by decide +kernel
theorem dX11_goesOn_144 : decode cX11_goesOn 144 = .ok (.bipush 7, 2) := by decide +kernel
theorem dX11_goesOn_146 : decode cX11_goesOn 146 = .ok (.invokevirtual 308, 3) := by decide +kernel
theorem dX11_goesOn_149 : decode cX11_goesOn 149 = .ok (.istore_n 2, 1) := by decide +kernel
theorem dX11_goesOn_150 : decode cX11_goesOn 150 = .ok (.aload_n 0, 1) := by decide +kernel
theorem dX11_goesOn_151 : decode cX11_goesOn 151 = .ok (.iload_n 2, 1) := by decide +kernel
theorem dX11_goesOn_152 : decode cX11_goesOn 152 = .ok (.aload_n 0, 1) := by decide +kernel
theorem dX11_goesOn_153 : decode cX11_goesOn 153 = .ok (.getfield 28, 3) := by decide +kernel
theorem dX11_goesOn_156 : decode cX11_goesOn 156 = .ok (.bipush 6, 2) := by decide +kernel
theorem dX11_goesOn_158 : decode cX11_goesOn 158 = .ok (.invokevirtual 308, 3) := by decide +kernel
theorem dX11_goesOn_161 : decode cX11_goesOn 161 = .ok (.istore_n 2, 1) := by decide +kernel
theorem dX11_goesOn_162 : decode cX11_goesOn 162 = .ok (.aload_n 0, 1) := by decide +kernel
theorem dX11_goesOn_163 : decode cX11_goesOn 163 = .ok (.iload_n 2, 1) := by decide +kernel
theorem dX11_goesOn_164 : decode cX11_goesOn 164 = .ok (.aload_n 0, 1) := by decide +kernel
theorem dX11_goesOn_165 : decode cX11_goesOn 165 = .ok (.getfield 31, 3) := by decide +kernel
theorem dX11_goesOn_168 : decode cX11_goesOn 168 = .ok (.bipush 6, 2) := by decide +kernel
theorem dX11_goesOn_170 : decode cX11_goesOn 170 = .ok (.invokevirtual 308, 3) := by decide +kernel
theorem dX11_goesOn_173 : decode cX11_goesOn 173 = .ok (.istore_n 2, 1) := by decide +kernel
theorem dX11_goesOn_174 : decode cX11_goesOn 174 = .ok (.aload_n 0, 1) := by decide +kernel
theorem dX11_goesOn_175 : decode cX11_goesOn 175 = .ok (.iload_n 2, 1) := by decide +kernel
theorem dX11_goesOn_176 : decode cX11_goesOn 176 = .ok (.aload_n 0, 1) := by decide +kernel
theorem dX11_goesOn_177 : decode cX11_goesOn 177 = .ok (.getfield 34, 3) := by decide +kernel
theorem dX11_goesOn_180 : decode cX11_goesOn 180 = .ok (.bipush 6, 2) := by decide +kernel
theorem dX11_goesOn_182 : decode cX11_goesOn 182 = .ok (.invokevirtual 308, 3) := by decide +kernel
theorem dX11_goesOn_185 : decode cX11_goesOn 185 = .ok (.istore_n 2, 1) := by decide +kernel
theorem dX11_goesOn_186 : decode cX11_goesOn 186 = .ok (.aload_n 0, 1) := by decide +kernel
theorem dX11_goesOn_187 : decode cX11_goesOn 187 = .ok (.iload_n 2, 1) := by decide +kernel
theorem dX11_goesOn_188 : decode cX11_goesOn 188 = .ok (.aload_n 0, 1) := by decide +kernel
theorem dX11_goesOn_189 : decode cX11_goesOn 189 = .ok (.getfield 37, 3) := by decide +kernel
theorem dX11_goesOn_192 : decode cX11_goesOn 192 = .ok (.bipush 6, 2) := by decide +kernel
theorem dX11_goesOn_194 : decode cX11_goesOn 194 = .ok (.invokevirtual 308, 3) := by decide +kernel
theorem dX11_goesOn_197 : decode cX11_goesOn 197 = .ok (.pop, 1) := by decide +kernel
theorem dX11_goesOn_198 : decode cX11_goesOn 198 = .ok (.aload_n 0, 1) := by decide +kernel
theorem dX11_goesOn_199 : decode cX11_goesOn 199 = .ok (.iload_n 1, 1) := by decide +kernel
theorem dX11_goesOn_200 : decode cX11_goesOn 200 = .ok (.iconst 0, 1) := by decide +kernel
theorem dX11_goesOn_201 : decode cX11_goesOn 201 = .ok (.invokevirtual 304, 3) := by decide +kernel
theorem dX11_goesOn_204 : decode cX11_goesOn 204 = .ok (.return_, 1) := by decide +kernel
theorem dX11_image_0 : decode cX11_image 0 = .ok (.iload_n 1, 1) := by decide +kernel
theorem dX11_image_1 : decode cX11_image 1 = .ok (.i2l, 1) := by decide +kernel
theorem dX11_image_2 : decode cX11_image 2 = .ok (.lconst 0, 1) := by decide +kernel
theorem dX11_image_3 : decode cX11_image 3 = .ok (.lconst 1, 1) := by decide +kernel
theorem dX11_image_4 : decode cX11_image 4 = .ok (.invokestatic 97, 3) := by decide +kernel
theorem dX11_image_7 : decode cX11_image 7 = .ok (.ifCond .ne 10, 3) := by decide +kernel
theorem dX11_image_10 : decode cX11_image 10 = .ok (.aload_n 0, 1) := by decide +kernel
theorem dX11_image_11 : decode cX11_image 11 = .ok (.bipush (-2), 2) := by decide +kernel
theorem dX11_image_13 : decode cX11_image 13 = .ok (.invokevirtual 120, 3) := by decide +kernel
theorem dX11_image_16 : decode cX11_image 16 = .ok (.ireturn, 1) := by decide +kernel
theorem dX11_image_17 : decode cX11_image 17 = .ok (.aload_n 0, 1) := by decide +kernel
theorem dX11_image_18 : decode cX11_image 18 = .ok (.iload_n 1, 1) := by decide +kernel
theorem dX11_image_19 : decode cX11_image 19 = .ok (.invokevirtual 291, 3) := by decide +kernel
theorem dX11_image_22 : decode cX11_image 22 = .ok (.iconst 1, 1) := by decide +kernel
theorem dX11_image_23 : decode cX11_image 23 = .ok (.ireturn, 1) := by decide +kernel
theorem dX11_from_0 : decode cX11_from 0 = .ok (.iload_n 1, 1) := by decide +kernel
theorem dX11_from_1 : decode cX11_from 1 = .ok (.i2l, 1) := by decide +kernel
theorem dX11_from_2 : decode cX11_from 2 = .ok (.lconst 0, 1) := by decide +kernel
theorem dX11_from_3 : decode cX11_from 3 = .ok (.lconst 1, 1) := by decide +kernel
theorem dX11_from_4 : decode cX11_from 4 = .ok (.invokestatic 97, 3) := by decide +kernel
theorem dX11_from_7 : decode cX11_from 7 = .ok (.ifCond .ne 10, 3) := by decide +kernel
theorem dX11_from_10 : decode cX11_from 10 = .ok (.aload_n 0, 1) := by decide +kernel
theorem dX11_from_11 : decode cX11_from 11 = .ok (.bipush (-2), 2) := by decide +kernel
theorem dX11_from_13 : decode cX11_from 13 = .ok (.invokevirtual 120, 3) := by decide +kernel
theorem dX11_from_16 : decode cX11_from 16 = .ok (.ireturn, 1) := by decide +kernel
theorem dX11_from_17 : decode cX11_from 17 = .ok (.aload_n 0, 1) := by decide +kernel
theorem dX11_from_18 : decode cX11_from 18 = .ok (.getfield 76, 3) := by decide +kernel
theorem dX11_from_21 : decode cX11_from 21 = .ok (.bipush 72, 2) := by decide +kernel
theorem dX11_from_23 : decode cX11_from 23 = .ok (.iload_n 1, 1) := by decide +kernel
theorem dX11_from_24 : decode cX11_from 24 = .ok (.imul, 1) := by decide +kernel
theorem dX11_from_25 : decode cX11_from 25 = .ok (.iaload, 1) := by decide +kernel
theorem dX11_from_26 : decode cX11_from 26 = .ok (.ifCond .ne 8, 3) := by decide +kernel
theorem dX11_from_29 : decode cX11_from 29 = .ok (.aload_n 0, 1) := by decide +kernel
theorem dX11_from_30 : decode cX11_from 30 = .ok (.invokevirtual 131, 3) := by decide +kernel
theorem dX11_from_33 : decode cX11_from 33 = .ok (.ireturn, 1) := by decide +kernel
theorem dX11_from_34 : decode cX11_from 34 = .ok (.aload_n 0, 1) := by decide +kernel
theorem dX11_from_35 : decode cX11_from 35 = .ok (.iload_n 1, 1) := by decide +kernel
theorem dX11_from_36 : decode cX11_from 36 = .ok (.invokevirtual 297, 3) := by decide +kernel
theorem dX11_from_39 : decode cX11_from 39 = .ok (.iconst 1, 1) := by decide +kernel
theorem dX11_from_40 : decode cX11_from 40 = .ok (.ireturn, 1) := by decide +kernel
theorem dX11_part_0 : decode cX11_part 0 = .ok (.iload_n 1, 1) := by decide +kernel
theorem dX11_part_1 : decode cX11_part 1 = .ok (.ifCond .ne 10, 3) := by decide +kernel
theorem dX11_part_4 : decode cX11_part 4 = .ok (.aload_n 0, 1) := by decide +kernel
theorem dX11_part_5 : decode cX11_part 5 = .ok (.getfield 86, 3) := by decide +kernel
theorem dX11_part_8 : decode cX11_part 8 = .ok (.goto 22, 3) := by decide +kernel
theorem dX11_part_11 : decode cX11_part 11 = .ok (.iload_n 1, 1) := by decide +kernel
theorem dX11_part_12 : decode cX11_part 12 = .ok (.iconst 1, 1) := by decide +kernel
theorem dX11_part_13 : decode cX11_part 13 = .ok (.if_icmp .ne 10, 3) := by decide +kernel
theorem dX11_part_16 : decode cX11_part 16 = .ok (.aload_n 0, 1) := by decide +kernel
theorem dX11_part_17 : decode cX11_part 17 = .ok (.getfield 90, 3) := by decide +kernel
theorem dX11_part_20 : decode cX11_part 20 = .ok (.goto 10, 3) := by decide +kernel
theorem dX11_part_23 : decode cX11_part 23 = .ok (.aload_n 0, 1) := by decide +kernel
theorem dX11_part_24 : decode cX11_part 24 = .ok (.bipush (-2), 2) := by decide +kernel
theorem dX11_part_26 : decode cX11_part 26 = .ok (.invokevirtual 120, 3) := by decide +kernel
theorem dX11_part_29 : decode cX11_part 29 = .ok (.i2l, 1) := by decide +kernel
theorem dX11_part_30 : decode cX11_part 30 = .ok (.lreturn, 1) := by decide +kernel
theorem dX11_status_0 : decode cX11_status 0 = .ok (.iload_n 1, 1) := by decide +kernel
theorem dX11_status_1 : decode cX11_status 1 = .ok (.i2l, 1) := by decide +kernel
theorem dX11_status_2 : decode cX11_status 2 = .ok (.lconst 0, 1) := by decide +kernel
theorem dX11_status_3 : decode cX11_status 3 = .ok (.ldc2_w 193, 3) := by decide +kernel
theorem dX11_status_6 : decode cX11_status 6 = .ok (.invokestatic 97, 3) := by decide +kernel
theorem dX11_status_9 : decode cX11_status 9 = .ok (.ifCond .eq 12, 3) := by decide +kernel
theorem dX11_status_12 : decode cX11_status 12 = .ok (.aload_n 0, 1) := by decide +kernel
theorem dX11_status_13 : decode cX11_status 13 = .ok (.getfield 7, 3) := by decide +kernel
theorem dX11_status_16 : decode cX11_status 16 = .ok (.iload_n 1, 1) := by decide +kernel
theorem dX11_status_17 : decode cX11_status 17 = .ok (.iaload, 1) := by decide +kernel
theorem dX11_status_18 : decode cX11_status 18 = .ok (.goto 8, 3) := by decide +kernel
theorem dX11_status_21 : decode cX11_status 21 = .ok (.aload_n 0, 1) := by decide +kernel
theorem dX11_status_22 : decode cX11_status 22 = .ok (.iconst (-1), 1) := by decide +kernel
theorem dX11_status_23 : decode cX11_status 23 = .ok (.invokevirtual 120, 3) := by decide +kernel
theorem dX11_status_26 : decode cX11_status 26 = .ok (.ireturn, 1) := by decide +kernel
theorem dX11_counts_0 : decode cX11_counts 0 = .ok (.iload_n 1, 1) := by decide +kernel
theorem dX11_counts_1 : decode cX11_counts 1 = .ok (.ifCond .ne 10, 3) := by decide +kernel
theorem dX11_counts_4 : decode cX11_counts 4 = .ok (.aload_n 0, 1) := by decide +kernel
theorem dX11_counts_5 : decode cX11_counts 5 = .ok (.getfield 93, 3) := by decide +kernel
theorem dX11_counts_8 : decode cX11_counts 8 = .ok (.goto 71, 3) := by decide +kernel
theorem dX11_counts_11 : decode cX11_counts 11 = .ok (.iload_n 1, 1) := by decide +kernel
theorem dX11_counts_12 : decode cX11_counts 12 = .ok (.iconst 1, 1) := by decide +kernel
theorem dX11_counts_13 : decode cX11_counts 13 = .ok (.if_icmp .ne 10, 3) := by decide +kernel
theorem dX11_counts_16 : decode cX11_counts 16 = .ok (.aload_n 0, 1) := by decide +kernel
theorem dX11_counts_17 : decode cX11_counts 17 = .ok (.getfield 103, 3) := by decide +kernel
theorem dX11_counts_20 : decode cX11_counts 20 = .ok (.goto 59, 3) := by decide +kernel
theorem dX11_counts_23 : decode cX11_counts 23 = .ok (.iload_n 1, 1) := by decide +kernel
theorem dX11_counts_24 : decode cX11_counts 24 = .ok (.iconst 2, 1) := by decide +kernel
theorem dX11_counts_25 : decode cX11_counts 25 = .ok (.if_icmp .ne 10, 3) := by decide +kernel
theorem dX11_counts_28 : decode cX11_counts 28 = .ok (.aload_n 0, 1) := by decide +kernel
theorem dX11_counts_29 : decode cX11_counts 29 = .ok (.getfield 106, 3) := by decide +kernel
theorem dX11_counts_32 : decode cX11_counts 32 = .ok (.goto 47, 3) := by decide +kernel
theorem dX11_counts_35 : decode cX11_counts 35 = .ok (.iload_n 1, 1) := by decide +kernel
theorem dX11_counts_36 : decode cX11_counts 36 = .ok (.iconst 3, 1) := by decide +kernel
theorem dX11_counts_37 : decode cX11_counts 37 = .ok (.if_icmp .ne 10, 3) := by decide +kernel
theorem dX11_counts_40 : decode cX11_counts 40 = .ok (.aload_n 0, 1) := by decide +kernel
theorem dX11_counts_41 : decode cX11_counts 41 = .ok (.invokevirtual 144, 3) := by decide +kernel
theorem dX11_counts_44 : decode cX11_counts 44 = .ok (.goto 35, 3) := by decide +kernel
theorem dX11_counts_47 : decode cX11_counts 47 = .ok (.iload_n 1, 1) := by decide +kernel
theorem dX11_counts_48 : decode cX11_counts 48 = .ok (.iconst 4, 1) := by decide +kernel
theorem dX11_counts_49 : decode cX11_counts 49 = .ok (.if_icmp .ne 10, 3) := by decide +kernel
theorem dX11_counts_52 : decode cX11_counts 52 = .ok (.aload_n 0, 1) := by decide +kernel
theorem dX11_counts_53 : decode cX11_counts 53 = .ok (.getfield 109, 3) := by decide +kernel
theorem dX11_counts_56 : decode cX11_counts 56 = .ok (.goto 23, 3) := by decide +kernel
theorem dX11_counts_59 : decode cX11_counts 59 = .ok (.iload_n 1, 1) := by decide +kernel
theorem dX11_counts_60 : decode cX11_counts 60 = .ok (.iconst 5, 1) := by decide +kernel
theorem dX11_counts_61 : decode cX11_counts 61 = .ok (.if_icmp .ne 10, 3) := by decide +kernel
theorem dX11_counts_64 : decode cX11_counts 64 = .ok (.aload_n 0, 1) := by decide +kernel
theorem dX11_counts_65 : decode cX11_counts 65 = .ok (.getfield 218, 3) := by decide +kernel
theorem dX11_counts_68 : decode cX11_counts 68 = .ok (.goto 11, 3) := by decide +kernel
theorem dX11_counts_71 : decode cX11_counts 71 = .ok (.aload_n 0, 1) := by decide +kernel
theorem dX11_counts_72 : decode cX11_counts 72 = .ok (.aload_n 0, 1) := by decide +kernel
theorem dX11_counts_73 : decode cX11_counts 73 = .ok (.getfield 25, 3) := by decide +kernel
theorem dX11_counts_76 : decode cX11_counts 76 = .ok (.invokevirtual 153, 3) := by decide +kernel
theorem dX11_counts_79 : decode cX11_counts 79 = .ok (.ireturn, 1) := by decide +kernel
theorem dX11_count_0 : decode cX11_count 0 = .ok (.iload_n 1, 1) := by decide +kernel
theorem dX11_count_1 : decode cX11_count 1 = .ok (.i2l, 1) := by decide +kernel
theorem dX11_count_2 : decode cX11_count 2 = .ok (.lconst 0, 1) := by decide +kernel
theorem dX11_count_3 : decode cX11_count 3 = .ok (.ldc2_w 312, 3) := by decide +kernel
theorem dX11_count_6 : decode cX11_count 6 = .ok (.invokestatic 97, 3) := by decide +kernel
theorem dX11_count_9 : decode cX11_count 9 = .ok (.ifCond .eq 11, 3) := by decide +kernel
theorem dX11_count_12 : decode cX11_count 12 = .ok (.aload_n 0, 1) := by decide +kernel
theorem dX11_count_13 : decode cX11_count 13 = .ok (.iload_n 1, 1) := by decide +kernel
theorem dX11_count_14 : decode cX11_count 14 = .ok (.invokevirtual 314, 3) := by decide +kernel
theorem dX11_count_17 : decode cX11_count 17 = .ok (.goto 9, 3) := by decide +kernel
theorem dX11_count_20 : decode cX11_count 20 = .ok (.aload_n 0, 1) := by decide +kernel
theorem dX11_count_21 : decode cX11_count 21 = .ok (.bipush (-2), 2) := by decide +kernel
theorem dX11_count_23 : decode cX11_count 23 = .ok (.invokevirtual 120, 3) := by decide +kernel
theorem dX11_count_26 : decode cX11_count 26 = .ok (.ireturn, 1) := by decide +kernel
theorem dX11_hashes_0 : decode cX11_hashes 0 = .ok (.aload_n 0, 1) := by decide +kernel
theorem dX11_hashes_1 : decode cX11_hashes 1 = .ok (.ldc2_w 317, 3) := by decide +kernel
theorem dX11_hashes_4 : decode cX11_hashes 4 = .ok (.aload_n 0, 1) := by decide +kernel
theorem dX11_hashes_5 : decode cX11_hashes 5 = .ok (.getfield 319, 3) := by decide +kernel
theorem dX11_hashes_8 : decode cX11_hashes 8 = .ok (.lmul, 1) := by decide +kernel
theorem dX11_hashes_9 : decode cX11_hashes 9 = .ok (.lload_n 1, 1) := by decide +kernel
theorem dX11_hashes_10 : decode cX11_hashes 10 = .ok (.ladd, 1) := by decide +kernel
theorem dX11_hashes_11 : decode cX11_hashes 11 = .ok (.putfield 319, 3) := by decide +kernel
theorem dX11_hashes_14 : decode cX11_hashes 14 = .ok (.return_, 1) := by decide +kernel
theorem dX11_digest_0 : decode cX11_digest 0 = .ok (.aload_n 0, 1) := by decide +kernel
theorem dX11_digest_1 : decode cX11_digest 1 = .ok (.ldc2_w 322, 3) := by decide +kernel
theorem dX11_digest_4 : decode cX11_digest 4 = .ok (.putfield 319, 3) := by decide +kernel
theorem dX11_digest_7 : decode cX11_digest 7 = .ok (.iconst 0, 1) := by decide +kernel
theorem dX11_digest_8 : decode cX11_digest 8 = .ok (.istore_n 1, 1) := by decide +kernel
theorem dX11_digest_9 : decode cX11_digest 9 = .ok (.iload_n 1, 1) := by decide +kernel
theorem dX11_digest_10 : decode cX11_digest 10 = .ok (.bipush 7, 2) := by decide +kernel
theorem dX11_digest_12 : decode cX11_digest 12 = .ok (.if_icmp .ge 19, 3) := by decide +kernel
theorem dX11_digest_15 : decode cX11_digest 15 = .ok (.aload_n 0, 1) := by decide +kernel
theorem dX11_digest_16 : decode cX11_digest 16 = .ok (.aload_n 0, 1) := by decide +kernel
theorem dX11_digest_17 : decode cX11_digest 17 = .ok (.iload_n 1, 1) := by decide +kernel
theorem dX11_digest_18 : decode cX11_digest 18 = .ok (.invokevirtual 314, 3) := by decide +kernel
theorem dX11_digest_21 : decode cX11_digest 21 = .ok (.i2l, 1) := by decide +kernel
theorem dX11_digest_22 : decode cX11_digest 22 = .ok (.invokevirtual 324, 3) := by decide +kernel
theorem dX11_digest_25 : decode cX11_digest 25 = .ok (.iinc 1 1, 3) := by decide +kernel
theorem dX11_digest_28 : decode cX11_digest 28 = .ok (.goto (-19), 3) := by decide +kernel
theorem dX11_digest_31 : decode cX11_digest 31 = .ok (.iconst 0, 1) := by decide +kernel
theorem dX11_digest_32 : decode cX11_digest 32 = .ok (.istore_n 1, 1) := by decide +kernel
theorem dX11_digest_33 : decode cX11_digest 33 = .ok (.iload_n 1, 1) := by decide +kernel
theorem dX11_digest_34 : decode cX11_digest 34 = .ok (.aload_n 0, 1) := by decide +kernel
theorem dX11_digest_35 : decode cX11_digest 35 = .ok (.getfield 93, 3) := by decide +kernel
theorem dX11_digest_38 : decode cX11_digest 38 = .ok (.if_icmp .ge 53, 3) := by decide +kernel
theorem dX11_digest_41 : decode cX11_digest 41 = .ok (.aload_n 0, 1) := by decide +kernel
theorem dX11_digest_42 : decode cX11_digest 42 = .ok (.aload_n 0, 1) := by decide +kernel
theorem dX11_digest_43 : decode cX11_digest 43 = .ok (.getfield 13, 3) := by decide +kernel
theorem dX11_digest_46 : decode cX11_digest 46 = .ok (.iload_n 1, 1) := by decide +kernel
theorem dX11_digest_47 : decode cX11_digest 47 = .ok (.iaload, 1) := by decide +kernel
theorem dX11_digest_48 : decode cX11_digest 48 = .ok (.i2l, 1) := by decide +kernel
theorem dX11_digest_49 : decode cX11_digest 49 = .ok (.invokevirtual 324, 3) := by decide +kernel
theorem dX11_digest_52 : decode cX11_digest 52 = .ok (.aload_n 0, 1) := by decide +kernel
theorem dX11_digest_53 : decode cX11_digest 53 = .ok (.aload_n 0, 1) := by decide +kernel
theorem dX11_digest_54 : decode cX11_digest 54 = .ok (.getfield 16, 3) := by decide +kernel
theorem dX11_digest_57 : decode cX11_digest 57 = .ok (.iload_n 1, 1) := by decide +kernel
theorem dX11_digest_58 : decode cX11_digest 58 = .ok (.iaload, 1) := by decide +kernel
theorem dX11_digest_59 : decode cX11_digest 59 = .ok (.i2l, 1) := by decide +kernel
theorem dX11_digest_60 : decode cX11_digest 60 = .ok (.invokevirtual 324, 3) := by decide +kernel
theorem dX11_digest_63 : decode cX11_digest 63 = .ok (.aload_n 0, 1) := by decide +kernel
theorem dX11_digest_64 : decode cX11_digest 64 = .ok (.aload_n 0, 1) := by decide +kernel
theorem dX11_digest_65 : decode cX11_digest 65 = .ok (.getfield 19, 3) := by decide +kernel
theorem dX11_digest_68 : decode cX11_digest 68 = .ok (.iload_n 1, 1) := by decide +kernel
theorem dX11_digest_69 : decode cX11_digest 69 = .ok (.iaload, 1) := by decide +kernel
theorem dX11_digest_70 : decode cX11_digest 70 = .ok (.i2l, 1) := by decide +kernel
theorem dX11_digest_71 : decode cX11_digest 71 = .ok (.invokevirtual 324, 3) := by decide +kernel
theorem dX11_digest_74 : decode cX11_digest 74 = .ok (.aload_n 0, 1) := by decide +kernel
theorem dX11_digest_75 : decode cX11_digest 75 = .ok (.aload_n 0, 1) := by decide +kernel
theorem dX11_digest_76 : decode cX11_digest 76 = .ok (.getfield 22, 3) := by decide +kernel
theorem dX11_digest_79 : decode cX11_digest 79 = .ok (.iload_n 1, 1) := by decide +kernel
theorem dX11_digest_80 : decode cX11_digest 80 = .ok (.iaload, 1) := by decide +kernel
theorem dX11_digest_81 : decode cX11_digest 81 = .ok (.i2l, 1) := by decide +kernel
theorem dX11_digest_82 : decode cX11_digest 82 = .ok (.invokevirtual 324, 3) := by decide +kernel
theorem dX11_digest_85 : decode cX11_digest 85 = .ok (.iinc 1 1, 3) := by decide +kernel
theorem dX11_digest_88 : decode cX11_digest 88 = .ok (.goto (-55), 3) := by decide +kernel
theorem dX11_digest_91 : decode cX11_digest 91 = .ok (.iconst 0, 1) := by decide +kernel
theorem dX11_digest_92 : decode cX11_digest 92 = .ok (.istore_n 1, 1) := by decide +kernel
theorem dX11_digest_93 : decode cX11_digest 93 = .ok (.iload_n 1, 1) := by decide +kernel
theorem dX11_digest_94 : decode cX11_digest 94 = .ok (.aload_n 0, 1) := by decide +kernel
theorem dX11_digest_95 : decode cX11_digest 95 = .ok (.getfield 103, 3) := by decide +kernel
theorem dX11_digest_98 : decode cX11_digest 98 = .ok (.if_icmp .ge 31, 3) := by decide +kernel
theorem dX11_digest_101 : decode cX11_digest 101 = .ok (.aload_n 0, 1) := by decide +kernel
theorem dX11_digest_102 : decode cX11_digest 102 = .ok (.aload_n 0, 1) := by decide +kernel
theorem dX11_digest_103 : decode cX11_digest 103 = .ok (.getfield 28, 3) := by decide +kernel
theorem dX11_digest_106 : decode cX11_digest 106 = .ok (.iload_n 1, 1) := by decide +kernel
theorem dX11_digest_107 : decode cX11_digest 107 = .ok (.iaload, 1) := by decide +kernel
theorem dX11_digest_108 : decode cX11_digest 108 = .ok (.i2l, 1) := by decide +kernel
theorem dX11_digest_109 : decode cX11_digest 109 = .ok (.invokevirtual 324, 3) := by decide +kernel
theorem dX11_digest_112 : decode cX11_digest 112 = .ok (.aload_n 0, 1) := by decide +kernel
theorem dX11_digest_113 : decode cX11_digest 113 = .ok (.aload_n 0, 1) := by decide +kernel
theorem dX11_digest_114 : decode cX11_digest 114 = .ok (.getfield 31, 3) := by decide +kernel
theorem dX11_digest_117 : decode cX11_digest 117 = .ok (.iload_n 1, 1) := by decide +kernel
theorem dX11_digest_118 : decode cX11_digest 118 = .ok (.iaload, 1) := by decide +kernel
theorem dX11_digest_119 : decode cX11_digest 119 = .ok (.i2l, 1) := by decide +kernel
theorem dX11_digest_120 : decode cX11_digest 120 = .ok (.invokevirtual 324, 3) := by decide +kernel
theorem dX11_digest_123 : decode cX11_digest 123 = .ok (.iinc 1 1, 3) := by decide +kernel
theorem dX11_digest_126 : decode cX11_digest 126 = .ok (.goto (-33), 3) := by decide +kernel
theorem dX11_digest_129 : decode cX11_digest 129 = .ok (.iconst 0, 1) := by decide +kernel
theorem dX11_digest_130 : decode cX11_digest 130 = .ok (.istore_n 1, 1) := by decide +kernel
theorem dX11_digest_131 : decode cX11_digest 131 = .ok (.iload_n 1, 1) := by decide +kernel
theorem dX11_digest_132 : decode cX11_digest 132 = .ok (.aload_n 0, 1) := by decide +kernel
theorem dX11_digest_133 : decode cX11_digest 133 = .ok (.getfield 106, 3) := by decide +kernel
theorem dX11_digest_136 : decode cX11_digest 136 = .ok (.if_icmp .ge 31, 3) := by decide +kernel
theorem dX11_digest_139 : decode cX11_digest 139 = .ok (.aload_n 0, 1) := by decide +kernel
theorem dX11_digest_140 : decode cX11_digest 140 = .ok (.aload_n 0, 1) := by decide +kernel
theorem dX11_digest_141 : decode cX11_digest 141 = .ok (.getfield 34, 3) := by decide +kernel
theorem dX11_digest_144 : decode cX11_digest 144 = .ok (.iload_n 1, 1) := by decide +kernel
theorem dX11_digest_145 : decode cX11_digest 145 = .ok (.iaload, 1) := by decide +kernel
theorem dX11_digest_146 : decode cX11_digest 146 = .ok (.i2l, 1) := by decide +kernel
theorem dX11_digest_147 : decode cX11_digest 147 = .ok (.invokevirtual 324, 3) := by decide +kernel
theorem dX11_digest_150 : decode cX11_digest 150 = .ok (.aload_n 0, 1) := by decide +kernel
theorem dX11_digest_151 : decode cX11_digest 151 = .ok (.aload_n 0, 1) := by decide +kernel
theorem dX11_digest_152 : decode cX11_digest 152 = .ok (.getfield 37, 3) := by decide +kernel
theorem dX11_digest_155 : decode cX11_digest 155 = .ok (.iload_n 1, 1) := by decide +kernel
theorem dX11_digest_156 : decode cX11_digest 156 = .ok (.iaload, 1) := by decide +kernel
theorem dX11_digest_157 : decode cX11_digest 157 = .ok (.i2l, 1) := by decide +kernel
theorem dX11_digest_158 : decode cX11_digest 158 = .ok (.invokevirtual 324, 3) := by decide +kernel
theorem dX11_digest_161 : decode cX11_digest 161 = .ok (.iinc 1 1, 3) := by decide +kernel
theorem dX11_digest_164 : decode cX11_digest 164 = .ok (.goto (-33), 3) := by decide +kernel
theorem dX11_digest_167 : decode cX11_digest 167 = .ok (.iconst 0, 1) := by decide +kernel
theorem dX11_digest_168 : decode cX11_digest 168 = .ok (.istore_n 1, 1) := by decide +kernel
theorem dX11_digest_169 : decode cX11_digest 169 = .ok (.iload_n 1, 1) := by decide +kernel
theorem dX11_digest_170 : decode cX11_digest 170 = .ok (.aload_n 0, 1) := by decide +kernel
theorem dX11_digest_171 : decode cX11_digest 171 = .ok (.getfield 93, 3) := by decide +kernel
theorem dX11_digest_174 : decode cX11_digest 174 = .ok (.if_icmp .ge 20, 3) := by decide +kernel
theorem dX11_digest_177 : decode cX11_digest 177 = .ok (.aload_n 0, 1) := by decide +kernel
theorem dX11_digest_178 : decode cX11_digest 178 = .ok (.aload_n 0, 1) := by decide +kernel
theorem dX11_digest_179 : decode cX11_digest 179 = .ok (.getfield 43, 3) := by decide +kernel
theorem dX11_digest_182 : decode cX11_digest 182 = .ok (.iload_n 1, 1) := by decide +kernel
theorem dX11_digest_183 : decode cX11_digest 183 = .ok (.iaload, 1) := by decide +kernel
theorem dX11_digest_184 : decode cX11_digest 184 = .ok (.i2l, 1) := by decide +kernel
theorem dX11_digest_185 : decode cX11_digest 185 = .ok (.invokevirtual 324, 3) := by decide +kernel
theorem dX11_digest_188 : decode cX11_digest 188 = .ok (.iinc 1 1, 3) := by decide +kernel
theorem dX11_digest_191 : decode cX11_digest 191 = .ok (.goto (-22), 3) := by decide +kernel
theorem dX11_digest_194 : decode cX11_digest 194 = .ok (.iconst 0, 1) := by decide +kernel
theorem dX11_digest_195 : decode cX11_digest 195 = .ok (.istore_n 1, 1) := by decide +kernel
theorem dX11_digest_196 : decode cX11_digest 196 = .ok (.iload_n 1, 1) := by decide +kernel
theorem dX11_digest_197 : decode cX11_digest 197 = .ok (.aload_n 0, 1) := by decide +kernel
theorem dX11_digest_198 : decode cX11_digest 198 = .ok (.getfield 109, 3) := by decide +kernel
theorem dX11_digest_201 : decode cX11_digest 201 = .ok (.if_icmp .ge 20, 3) := by decide +kernel
theorem dX11_digest_204 : decode cX11_digest 204 = .ok (.aload_n 0, 1) := by decide +kernel
theorem dX11_digest_205 : decode cX11_digest 205 = .ok (.aload_n 0, 1) := by decide +kernel
theorem dX11_digest_206 : decode cX11_digest 206 = .ok (.getfield 40, 3) := by decide +kernel
theorem dX11_digest_209 : decode cX11_digest 209 = .ok (.iload_n 1, 1) := by decide +kernel
theorem dX11_digest_210 : decode cX11_digest 210 = .ok (.iaload, 1) := by decide +kernel
theorem dX11_digest_211 : decode cX11_digest 211 = .ok (.i2l, 1) := by decide +kernel
theorem dX11_digest_212 : decode cX11_digest 212 = .ok (.invokevirtual 324, 3) := by decide +kernel
theorem dX11_digest_215 : decode cX11_digest 215 = .ok (.iinc 1 1, 3) := by decide +kernel
theorem dX11_digest_218 : decode cX11_digest 218 = .ok (.goto (-22), 3) := by decide +kernel
theorem dX11_digest_221 : decode cX11_digest 221 = .ok (.aload_n 0, 1) := by decide +kernel
theorem dX11_digest_222 : decode cX11_digest 222 = .ok (.aload_n 0, 1) := by decide +kernel
theorem dX11_digest_223 : decode cX11_digest 223 = .ok (.getfield 112, 3) := by decide +kernel
theorem dX11_digest_226 : decode cX11_digest 226 = .ok (.i2l, 1) := by decide +kernel
theorem dX11_digest_227 : decode cX11_digest 227 = .ok (.invokevirtual 324, 3) := by decide +kernel
theorem dX11_digest_230 : decode cX11_digest 230 = .ok (.aload_n 0, 1) := by decide +kernel
theorem dX11_digest_231 : decode cX11_digest 231 = .ok (.aload_n 0, 1) := by decide +kernel
theorem dX11_digest_232 : decode cX11_digest 232 = .ok (.getfield 115, 3) := by decide +kernel
theorem dX11_digest_235 : decode cX11_digest 235 = .ok (.i2l, 1) := by decide +kernel
theorem dX11_digest_236 : decode cX11_digest 236 = .ok (.invokevirtual 324, 3) := by decide +kernel
theorem dX11_digest_239 : decode cX11_digest 239 = .ok (.aload_n 0, 1) := by decide +kernel
theorem dX11_digest_240 : decode cX11_digest 240 = .ok (.aload_n 0, 1) := by decide +kernel
theorem dX11_digest_241 : decode cX11_digest 241 = .ok (.getfield 86, 3) := by decide +kernel
theorem dX11_digest_244 : decode cX11_digest 244 = .ok (.invokevirtual 324, 3) := by decide +kernel
theorem dX11_digest_247 : decode cX11_digest 247 = .ok (.aload_n 0, 1) := by decide +kernel
theorem dX11_digest_248 : decode cX11_digest 248 = .ok (.aload_n 0, 1) := by decide +kernel
theorem dX11_digest_249 : decode cX11_digest 249 = .ok (.getfield 90, 3) := by decide +kernel
theorem dX11_digest_252 : decode cX11_digest 252 = .ok (.invokevirtual 324, 3) := by decide +kernel
theorem dX11_digest_255 : decode cX11_digest 255 = .ok (.aload_n 0, 1) := by decide +kernel
theorem dX11_digest_256 : decode cX11_digest 256 = .ok (.getfield 319, 3) := by decide +kernel
theorem dX11_digest_259 : decode cX11_digest 259 = .ok (.lreturn, 1) := by decide +kernel
