-- decode rows, printed (claim/NAMES.whole)
theorem dX0_init_0 : decode cX0_init 0 = .ok (.aload_n 0, 1) := by decide +kernel
theorem dX0_init_1 : decode cX0_init 1 = .ok (.invokespecial 3, 3) := by decide +kernel
theorem dX0_init_4 : decode cX0_init 4 = .ok (.aload_n 0, 1) := by decide +kernel
theorem dX0_init_5 : decode cX0_init 5 = .ok (.bipush 12, 2) := by decide +kernel
theorem dX0_init_7 : decode cX0_init 7 = .ok (.anewarray 11, 3) := by decide +kernel
theorem dX0_init_10 : decode cX0_init 10 = .ok (.putfield 13, 3) := by decide +kernel
theorem dX0_init_13 : decode cX0_init 13 = .ok (.iconst 0, 1) := by decide +kernel
theorem dX0_init_14 : decode cX0_init 14 = .ok (.istore_n 1, 1) := by decide +kernel
theorem dX0_init_15 : decode cX0_init 15 = .ok (.iload_n 1, 1) := by decide +kernel
theorem dX0_init_16 : decode cX0_init 16 = .ok (.aload_n 0, 1) := by decide +kernel
theorem dX0_init_17 : decode cX0_init 17 = .ok (.getfield 13, 3) := by decide +kernel
theorem dX0_init_20 : decode cX0_init 20 = .ok (.arraylength, 1) := by decide +kernel
theorem dX0_init_21 : decode cX0_init 21 = .ok (.if_icmp .ge 22, 3) := by decide +kernel
theorem dX0_init_24 : decode cX0_init 24 = .ok (.aload_n 0, 1) := by decide +kernel
theorem dX0_init_25 : decode cX0_init 25 = .ok (.getfield 13, 3) := by decide +kernel
theorem dX0_init_28 : decode cX0_init 28 = .ok (.iload_n 1, 1) := by decide +kernel
theorem dX0_init_29 : decode cX0_init 29 = .ok (.new 11, 3) := by decide +kernel
theorem dX0_init_32 : decode cX0_init 32 = .ok (.dup, 1) := by decide +kernel
theorem dX0_init_33 : decode cX0_init 33 = .ok (.invokespecial 17, 3) := by decide +kernel
theorem dX0_init_36 : decode cX0_init 36 = .ok (.aastore, 1) := by decide +kernel
theorem dX0_init_37 : decode cX0_init 37 = .ok (.iinc 1 1, 3) := by decide +kernel
theorem dX0_init_40 : decode cX0_init 40 = .ok (.goto (-25), 3) := by decide +kernel
theorem dX0_init_43 : decode cX0_init 43 = .ok (.aload_n 0, 1) := by decide +kernel
theorem dX0_init_44 : decode cX0_init 44 = .ok (.bipush 8, 2) := by decide +kernel
theorem dX0_init_46 : decode cX0_init 46 = .ok (.anewarray 18, 3) := by decide +kernel
theorem dX0_init_49 : decode cX0_init 49 = .ok (.putfield 20, 3) := by decide +kernel
theorem dX0_init_52 : decode cX0_init 52 = .ok (.iconst 0, 1) := by decide +kernel
theorem dX0_init_53 : decode cX0_init 53 = .ok (.istore_n 1, 1) := by decide +kernel
theorem dX0_init_54 : decode cX0_init 54 = .ok (.iload_n 1, 1) := by decide +kernel
theorem dX0_init_55 : decode cX0_init 55 = .ok (.aload_n 0, 1) := by decide +kernel
theorem dX0_init_56 : decode cX0_init 56 = .ok (.getfield 20, 3) := by decide +kernel
theorem dX0_init_59 : decode cX0_init 59 = .ok (.arraylength, 1) := by decide +kernel
theorem dX0_init_60 : decode cX0_init 60 = .ok (.if_icmp .ge 22, 3) := by decide +kernel
theorem dX0_init_63 : decode cX0_init 63 = .ok (.aload_n 0, 1) := by decide +kernel
theorem dX0_init_64 : decode cX0_init 64 = .ok (.getfield 20, 3) := by decide +kernel
theorem dX0_init_67 : decode cX0_init 67 = .ok (.iload_n 1, 1) := by decide +kernel
theorem dX0_init_68 : decode cX0_init 68 = .ok (.new 18, 3) := by decide +kernel
theorem dX0_init_71 : decode cX0_init 71 = .ok (.dup, 1) := by decide +kernel
theorem dX0_init_72 : decode cX0_init 72 = .ok (.invokespecial 24, 3) := by decide +kernel
theorem dX0_init_75 : decode cX0_init 75 = .ok (.aastore, 1) := by decide +kernel
theorem dX0_init_76 : decode cX0_init 76 = .ok (.iinc 1 1, 3) := by decide +kernel
theorem dX0_init_79 : decode cX0_init 79 = .ok (.goto (-25), 3) := by decide +kernel
theorem dX0_init_82 : decode cX0_init 82 = .ok (.aload_n 0, 1) := by decide +kernel
theorem dX0_init_83 : decode cX0_init 83 = .ok (.bipush 8, 2) := by decide +kernel
theorem dX0_init_85 : decode cX0_init 85 = .ok (.anewarray 18, 3) := by decide +kernel
theorem dX0_init_88 : decode cX0_init 88 = .ok (.putfield 25, 3) := by decide +kernel
theorem dX0_init_91 : decode cX0_init 91 = .ok (.iconst 0, 1) := by decide +kernel
theorem dX0_init_92 : decode cX0_init 92 = .ok (.istore_n 1, 1) := by decide +kernel
theorem dX0_init_93 : decode cX0_init 93 = .ok (.iload_n 1, 1) := by decide +kernel
theorem dX0_init_94 : decode cX0_init 94 = .ok (.aload_n 0, 1) := by decide +kernel
theorem dX0_init_95 : decode cX0_init 95 = .ok (.getfield 25, 3) := by decide +kernel
theorem dX0_init_98 : decode cX0_init 98 = .ok (.arraylength, 1) := by decide +kernel
theorem dX0_init_99 : decode cX0_init 99 = .ok (.if_icmp .ge 22, 3) := by decide +kernel
theorem dX0_init_102 : decode cX0_init 102 = .ok (.aload_n 0, 1) := by decide +kernel
theorem dX0_init_103 : decode cX0_init 103 = .ok (.getfield 25, 3) := by decide +kernel
theorem dX0_init_106 : decode cX0_init 106 = .ok (.iload_n 1, 1) := by decide +kernel
theorem dX0_init_107 : decode cX0_init 107 = .ok (.new 18, 3) := by decide +kernel
theorem dX0_init_110 : decode cX0_init 110 = .ok (.dup, 1) := by decide +kernel
theorem dX0_init_111 : decode cX0_init 111 = .ok (.invokespecial 24, 3) := by decide +kernel
theorem dX0_init_114 : decode cX0_init 114 = .ok (.aastore, 1) := by decide +kernel
theorem dX0_init_115 : decode cX0_init 115 = .ok (.iinc 1 1, 3) := by decide +kernel
theorem dX0_init_118 : decode cX0_init 118 = .ok (.goto (-25), 3) := by decide +kernel
theorem dX0_init_121 : decode cX0_init 121 = .ok (.aload_n 0, 1) := by decide +kernel
theorem dX0_init_122 : decode cX0_init 122 = .ok (.iconst 4, 1) := by decide +kernel
theorem dX0_init_123 : decode cX0_init 123 = .ok (.newarray .int, 2) := by decide +kernel
theorem dX0_init_125 : decode cX0_init 125 = .ok (.putfield 28, 3) := by decide +kernel
theorem dX0_init_128 : decode cX0_init 128 = .ok (.aload_n 0, 1) := by decide +kernel
theorem dX0_init_129 : decode cX0_init 129 = .ok (.iconst 3, 1) := by decide +kernel
theorem dX0_init_130 : decode cX0_init 130 = .ok (.newarray .int, 2) := by decide +kernel
theorem dX0_init_132 : decode cX0_init 132 = .ok (.dup, 1) := by decide +kernel
theorem dX0_init_133 : decode cX0_init 133 = .ok (.iconst 0, 1) := by decide +kernel
theorem dX0_init_134 : decode cX0_init 134 = .ok (.iconst 3, 1) := by decide +kernel
theorem dX0_init_135 : decode cX0_init 135 = .ok (.iastore, 1) := by decide +kernel
theorem dX0_init_136 : decode cX0_init 136 = .ok (.dup, 1) := by decide +kernel
theorem dX0_init_137 : decode cX0_init 137 = .ok (.iconst 1, 1) := by decide +kernel
theorem dX0_init_138 : decode cX0_init 138 = .ok (.iconst 3, 1) := by decide +kernel
theorem dX0_init_139 : decode cX0_init 139 = .ok (.iastore, 1) := by decide +kernel
theorem dX0_init_140 : decode cX0_init 140 = .ok (.dup, 1) := by decide +kernel
theorem dX0_init_141 : decode cX0_init 141 = .ok (.iconst 2, 1) := by decide +kernel
theorem dX0_init_142 : decode cX0_init 142 = .ok (.iconst 3, 1) := by decide +kernel
theorem dX0_init_143 : decode cX0_init 143 = .ok (.iastore, 1) := by decide +kernel
theorem dX0_init_144 : decode cX0_init 144 = .ok (.putfield 32, 3) := by decide +kernel
theorem dX0_init_147 : decode cX0_init 147 = .ok (.aload_n 0, 1) := by decide +kernel
theorem dX0_init_148 : decode cX0_init 148 = .ok (.new 18, 3) := by decide +kernel
theorem dX0_init_151 : decode cX0_init 151 = .ok (.dup, 1) := by decide +kernel
theorem dX0_init_152 : decode cX0_init 152 = .ok (.invokespecial 24, 3) := by decide +kernel
theorem dX0_init_155 : decode cX0_init 155 = .ok (.putfield 35, 3) := by decide +kernel
theorem dX0_init_158 : decode cX0_init 158 = .ok (.return_, 1) := by decide +kernel
theorem dX0_copyFrom_0 : decode cX0_copyFrom 0 = .ok (.aload_n 0, 1) := by decide +kernel
theorem dX0_copyFrom_1 : decode cX0_copyFrom 1 = .ok (.aload_n 1, 1) := by decide +kernel
theorem dX0_copyFrom_2 : decode cX0_copyFrom 2 = .ok (.getfield 39, 3) := by decide +kernel
theorem dX0_copyFrom_5 : decode cX0_copyFrom 5 = .ok (.putfield 39, 3) := by decide +kernel
theorem dX0_copyFrom_8 : decode cX0_copyFrom 8 = .ok (.iconst 0, 1) := by decide +kernel
theorem dX0_copyFrom_9 : decode cX0_copyFrom 9 = .ok (.istore_n 2, 1) := by decide +kernel
theorem dX0_copyFrom_10 : decode cX0_copyFrom 10 = .ok (.iload_n 2, 1) := by decide +kernel
theorem dX0_copyFrom_11 : decode cX0_copyFrom 11 = .ok (.aload_n 0, 1) := by decide +kernel
theorem dX0_copyFrom_12 : decode cX0_copyFrom 12 = .ok (.getfield 39, 3) := by decide +kernel
theorem dX0_copyFrom_15 : decode cX0_copyFrom 15 = .ok (.if_icmp .ge 24, 3) := by decide +kernel
theorem dX0_copyFrom_18 : decode cX0_copyFrom 18 = .ok (.aload_n 0, 1) := by decide +kernel
theorem dX0_copyFrom_19 : decode cX0_copyFrom 19 = .ok (.getfield 13, 3) := by decide +kernel
theorem dX0_copyFrom_22 : decode cX0_copyFrom 22 = .ok (.iload_n 2, 1) := by decide +kernel
theorem dX0_copyFrom_23 : decode cX0_copyFrom 23 = .ok (.aaload, 1) := by decide +kernel
theorem dX0_copyFrom_24 : decode cX0_copyFrom 24 = .ok (.aload_n 1, 1) := by decide +kernel
theorem dX0_copyFrom_25 : decode cX0_copyFrom 25 = .ok (.getfield 13, 3) := by decide +kernel
theorem dX0_copyFrom_28 : decode cX0_copyFrom 28 = .ok (.iload_n 2, 1) := by decide +kernel
theorem dX0_copyFrom_29 : decode cX0_copyFrom 29 = .ok (.aaload, 1) := by decide +kernel
theorem dX0_copyFrom_30 : decode cX0_copyFrom 30 = .ok (.invokevirtual 43, 3) := by decide +kernel
theorem dX0_copyFrom_33 : decode cX0_copyFrom 33 = .ok (.iinc 2 1, 3) := by decide +kernel
theorem dX0_copyFrom_36 : decode cX0_copyFrom 36 = .ok (.goto (-26), 3) := by decide +kernel
theorem dX0_copyFrom_39 : decode cX0_copyFrom 39 = .ok (.aload_n 0, 1) := by decide +kernel
theorem dX0_copyFrom_40 : decode cX0_copyFrom 40 = .ok (.aload_n 1, 1) := by decide +kernel
theorem dX0_copyFrom_41 : decode cX0_copyFrom 41 = .ok (.getfield 47, 3) := by decide +kernel
theorem dX0_copyFrom_44 : decode cX0_copyFrom 44 = .ok (.putfield 47, 3) := by decide +kernel
theorem dX0_copyFrom_47 : decode cX0_copyFrom 47 = .ok (.iconst 0, 1) := by decide +kernel
theorem dX0_copyFrom_48 : decode cX0_copyFrom 48 = .ok (.istore_n 2, 1) := by decide +kernel
theorem dX0_copyFrom_49 : decode cX0_copyFrom 49 = .ok (.iload_n 2, 1) := by decide +kernel
theorem dX0_copyFrom_50 : decode cX0_copyFrom 50 = .ok (.aload_n 0, 1) := by decide +kernel
theorem dX0_copyFrom_51 : decode cX0_copyFrom 51 = .ok (.getfield 47, 3) := by decide +kernel
theorem dX0_copyFrom_54 : decode cX0_copyFrom 54 = .ok (.if_icmp .ge 24, 3) := by decide +kernel
theorem dX0_copyFrom_57 : decode cX0_copyFrom 57 = .ok (.aload_n 0, 1) := by decide +kernel
theorem dX0_copyFrom_58 : decode cX0_copyFrom 58 = .ok (.getfield 20, 3) := by decide +kernel
theorem dX0_copyFrom_61 : decode cX0_copyFrom 61 = .ok (.iload_n 2, 1) := by decide +kernel
theorem dX0_copyFrom_62 : decode cX0_copyFrom 62 = .ok (.aaload, 1) := by decide +kernel
theorem dX0_copyFrom_63 : decode cX0_copyFrom 63 = .ok (.aload_n 1, 1) := by decide +kernel
theorem dX0_copyFrom_64 : decode cX0_copyFrom 64 = .ok (.getfield 20, 3) := by decide +kernel
theorem dX0_copyFrom_67 : decode cX0_copyFrom 67 = .ok (.iload_n 2, 1) := by decide +kernel
theorem dX0_copyFrom_68 : decode cX0_copyFrom 68 = .ok (.aaload, 1) := by decide +kernel
theorem dX0_copyFrom_69 : decode cX0_copyFrom 69 = .ok (.invokevirtual 50, 3) := by decide +kernel
theorem dX0_copyFrom_72 : decode cX0_copyFrom 72 = .ok (.iinc 2 1, 3) := by decide +kernel
theorem dX0_copyFrom_75 : decode cX0_copyFrom 75 = .ok (.goto (-26), 3) := by decide +kernel
theorem dX0_copyFrom_78 : decode cX0_copyFrom 78 = .ok (.aload_n 0, 1) := by decide +kernel
theorem dX0_copyFrom_79 : decode cX0_copyFrom 79 = .ok (.aload_n 1, 1) := by decide +kernel
theorem dX0_copyFrom_80 : decode cX0_copyFrom 80 = .ok (.getfield 53, 3) := by decide +kernel
theorem dX0_copyFrom_83 : decode cX0_copyFrom 83 = .ok (.putfield 53, 3) := by decide +kernel
theorem dX0_copyFrom_86 : decode cX0_copyFrom 86 = .ok (.iconst 0, 1) := by decide +kernel
theorem dX0_copyFrom_87 : decode cX0_copyFrom 87 = .ok (.istore_n 2, 1) := by decide +kernel
theorem dX0_copyFrom_88 : decode cX0_copyFrom 88 = .ok (.iload_n 2, 1) := by decide +kernel
theorem dX0_copyFrom_89 : decode cX0_copyFrom 89 = .ok (.aload_n 0, 1) := by decide +kernel
theorem dX0_copyFrom_90 : decode cX0_copyFrom 90 = .ok (.getfield 53, 3) := by decide +kernel
theorem dX0_copyFrom_93 : decode cX0_copyFrom 93 = .ok (.if_icmp .ge 24, 3) := by decide +kernel
theorem dX0_copyFrom_96 : decode cX0_copyFrom 96 = .ok (.aload_n 0, 1) := by decide +kernel
theorem dX0_copyFrom_97 : decode cX0_copyFrom 97 = .ok (.getfield 25, 3) := by decide +kernel
theorem dX0_copyFrom_100 : decode cX0_copyFrom 100 = .ok (.iload_n 2, 1) := by decide +kernel
theorem dX0_copyFrom_101 : decode cX0_copyFrom 101 = .ok (.aaload, 1) := by decide +kernel
theorem dX0_copyFrom_102 : decode cX0_copyFrom 102 = .ok (.aload_n 1, 1) := by decide +kernel
theorem dX0_copyFrom_103 : decode cX0_copyFrom 103 = .ok (.getfield 25, 3) := by decide +kernel
theorem dX0_copyFrom_106 : decode cX0_copyFrom 106 = .ok (.iload_n 2, 1) := by decide +kernel
theorem dX0_copyFrom_107 : decode cX0_copyFrom 107 = .ok (.aaload, 1) := by decide +kernel
theorem dX0_copyFrom_108 : decode cX0_copyFrom 108 = .ok (.invokevirtual 50, 3) := by decide +kernel
theorem dX0_copyFrom_111 : decode cX0_copyFrom 111 = .ok (.iinc 2 1, 3) := by decide +kernel
theorem dX0_copyFrom_114 : decode cX0_copyFrom 114 = .ok (.goto (-26), 3) := by decide +kernel
theorem dX0_copyFrom_117 : decode cX0_copyFrom 117 = .ok (.aload_n 0, 1) := by decide +kernel
theorem dX0_copyFrom_118 : decode cX0_copyFrom 118 = .ok (.aload_n 1, 1) := by decide +kernel
theorem dX0_copyFrom_119 : decode cX0_copyFrom 119 = .ok (.getfield 56, 3) := by decide +kernel
theorem dX0_copyFrom_122 : decode cX0_copyFrom 122 = .ok (.putfield 56, 3) := by decide +kernel
theorem dX0_copyFrom_125 : decode cX0_copyFrom 125 = .ok (.aload_n 0, 1) := by decide +kernel
theorem dX0_copyFrom_126 : decode cX0_copyFrom 126 = .ok (.getfield 35, 3) := by decide +kernel
theorem dX0_copyFrom_129 : decode cX0_copyFrom 129 = .ok (.aload_n 1, 1) := by decide +kernel
theorem dX0_copyFrom_130 : decode cX0_copyFrom 130 = .ok (.getfield 35, 3) := by decide +kernel
theorem dX0_copyFrom_133 : decode cX0_copyFrom 133 = .ok (.invokevirtual 50, 3) := by decide +kernel
theorem dX0_copyFrom_136 : decode cX0_copyFrom 136 = .ok (.aload_n 1, 1) := by decide +kernel
theorem dX0_copyFrom_137 : decode cX0_copyFrom 137 = .ok (.getfield 28, 3) := by decide +kernel
theorem dX0_copyFrom_140 : decode cX0_copyFrom 140 = .ok (.iconst 0, 1) := by decide +kernel
theorem dX0_copyFrom_141 : decode cX0_copyFrom 141 = .ok (.aload_n 0, 1) := by decide +kernel
theorem dX0_copyFrom_142 : decode cX0_copyFrom 142 = .ok (.getfield 28, 3) := by decide +kernel
theorem dX0_copyFrom_145 : decode cX0_copyFrom 145 = .ok (.iconst 0, 1) := by decide +kernel
theorem dX0_copyFrom_146 : decode cX0_copyFrom 146 = .ok (.aload_n 0, 1) := by decide +kernel
theorem dX0_copyFrom_147 : decode cX0_copyFrom 147 = .ok (.getfield 28, 3) := by decide +kernel
theorem dX0_copyFrom_150 : decode cX0_copyFrom 150 = .ok (.arraylength, 1) := by decide +kernel
theorem dX0_copyFrom_151 : decode cX0_copyFrom 151 = .ok (.invokestatic 60, 3) := by decide +kernel
theorem dX0_copyFrom_154 : decode cX0_copyFrom 154 = .ok (.aload_n 1, 1) := by decide +kernel
theorem dX0_copyFrom_155 : decode cX0_copyFrom 155 = .ok (.getfield 32, 3) := by decide +kernel
theorem dX0_copyFrom_158 : decode cX0_copyFrom 158 = .ok (.iconst 0, 1) := by decide +kernel
theorem dX0_copyFrom_159 : decode cX0_copyFrom 159 = .ok (.aload_n 0, 1) := by decide +kernel
theorem dX0_copyFrom_160 : decode cX0_copyFrom 160 = .ok (.getfield 32, 3) := by decide +kernel
theorem dX0_copyFrom_163 : decode cX0_copyFrom 163 = .ok (.iconst 0, 1) := by decide +kernel
theorem dX0_copyFrom_164 : decode cX0_copyFrom 164 = .ok (.aload_n 0, 1) := by decide +kernel
theorem dX0_copyFrom_165 : decode cX0_copyFrom 165 = .ok (.getfield 32, 3) := by decide +kernel
theorem dX0_copyFrom_168 : decode cX0_copyFrom 168 = .ok (.arraylength, 1) := by decide +kernel
theorem dX0_copyFrom_169 : decode cX0_copyFrom 169 = .ok (.invokestatic 60, 3) := by decide +kernel
theorem dX0_copyFrom_172 : decode cX0_copyFrom 172 = .ok (.aload_n 0, 1) := by decide +kernel
theorem dX0_copyFrom_173 : decode cX0_copyFrom 173 = .ok (.aload_n 1, 1) := by decide +kernel
theorem dX0_copyFrom_174 : decode cX0_copyFrom 174 = .ok (.getfield 66, 3) := by decide +kernel
theorem dX0_copyFrom_177 : decode cX0_copyFrom 177 = .ok (.putfield 66, 3) := by decide +kernel
theorem dX0_copyFrom_180 : decode cX0_copyFrom 180 = .ok (.aload_n 0, 1) := by decide +kernel
theorem dX0_copyFrom_181 : decode cX0_copyFrom 181 = .ok (.aload_n 1, 1) := by decide +kernel
theorem dX0_copyFrom_182 : decode cX0_copyFrom 182 = .ok (.getfield 69, 3) := by decide +kernel
theorem dX0_copyFrom_185 : decode cX0_copyFrom 185 = .ok (.putfield 69, 3) := by decide +kernel
theorem dX0_copyFrom_188 : decode cX0_copyFrom 188 = .ok (.aload_n 0, 1) := by decide +kernel
theorem dX0_copyFrom_189 : decode cX0_copyFrom 189 = .ok (.aload_n 1, 1) := by decide +kernel
theorem dX0_copyFrom_190 : decode cX0_copyFrom 190 = .ok (.getfield 72, 3) := by decide +kernel
theorem dX0_copyFrom_193 : decode cX0_copyFrom 193 = .ok (.putfield 72, 3) := by decide +kernel
theorem dX0_copyFrom_196 : decode cX0_copyFrom 196 = .ok (.aload_n 0, 1) := by decide +kernel
theorem dX0_copyFrom_197 : decode cX0_copyFrom 197 = .ok (.aload_n 1, 1) := by decide +kernel
theorem dX0_copyFrom_198 : decode cX0_copyFrom 198 = .ok (.getfield 75, 3) := by decide +kernel
theorem dX0_copyFrom_201 : decode cX0_copyFrom 201 = .ok (.putfield 75, 3) := by decide +kernel
theorem dX0_copyFrom_204 : decode cX0_copyFrom 204 = .ok (.aload_n 0, 1) := by decide +kernel
theorem dX0_copyFrom_205 : decode cX0_copyFrom 205 = .ok (.aload_n 1, 1) := by decide +kernel
theorem dX0_copyFrom_206 : decode cX0_copyFrom 206 = .ok (.getfield 78, 3) := by decide +kernel
theorem dX0_copyFrom_209 : decode cX0_copyFrom 209 = .ok (.putfield 78, 3) := by decide +kernel
theorem dX0_copyFrom_212 : decode cX0_copyFrom 212 = .ok (.aload_n 0, 1) := by decide +kernel
theorem dX0_copyFrom_213 : decode cX0_copyFrom 213 = .ok (.aload_n 1, 1) := by decide +kernel
theorem dX0_copyFrom_214 : decode cX0_copyFrom 214 = .ok (.getfield 81, 3) := by decide +kernel
theorem dX0_copyFrom_217 : decode cX0_copyFrom 217 = .ok (.putfield 81, 3) := by decide +kernel
theorem dX0_copyFrom_220 : decode cX0_copyFrom 220 = .ok (.aload_n 0, 1) := by decide +kernel
theorem dX0_copyFrom_221 : decode cX0_copyFrom 221 = .ok (.aload_n 1, 1) := by decide +kernel
theorem dX0_copyFrom_222 : decode cX0_copyFrom 222 = .ok (.getfield 84, 3) := by decide +kernel
theorem dX0_copyFrom_225 : decode cX0_copyFrom 225 = .ok (.putfield 84, 3) := by decide +kernel
theorem dX0_copyFrom_228 : decode cX0_copyFrom 228 = .ok (.return_, 1) := by decide +kernel
theorem dX0_hasBidder_0 : decode cX0_hasBidder 0 = .ok (.iload_n 1, 1) := by decide +kernel
theorem dX0_hasBidder_1 : decode cX0_hasBidder 1 = .ok (.ifCond .lt 15, 3) := by decide +kernel
theorem dX0_hasBidder_4 : decode cX0_hasBidder 4 = .ok (.iload_n 1, 1) := by decide +kernel
theorem dX0_hasBidder_5 : decode cX0_hasBidder 5 = .ok (.aload_n 0, 1) := by decide +kernel
theorem dX0_hasBidder_6 : decode cX0_hasBidder 6 = .ok (.getfield 39, 3) := by decide +kernel
theorem dX0_hasBidder_9 : decode cX0_hasBidder 9 = .ok (.if_icmp .ge 7, 3) := by decide +kernel
theorem dX0_hasBidder_12 : decode cX0_hasBidder 12 = .ok (.iconst 1, 1) := by decide +kernel
theorem dX0_hasBidder_13 : decode cX0_hasBidder 13 = .ok (.goto 4, 3) := by decide +kernel
theorem dX0_hasBidder_16 : decode cX0_hasBidder 16 = .ok (.iconst 0, 1) := by decide +kernel
theorem dX0_hasBidder_17 : decode cX0_hasBidder 17 = .ok (.ireturn, 1) := by decide +kernel
theorem dX0_findSeated_0 : decode cX0_findSeated 0 = .ok (.iconst 0, 1) := by decide +kernel
theorem dX0_findSeated_1 : decode cX0_findSeated 1 = .ok (.istore_n 3, 1) := by decide +kernel
theorem dX0_findSeated_2 : decode cX0_findSeated 2 = .ok (.iload_n 3, 1) := by decide +kernel
theorem dX0_findSeated_3 : decode cX0_findSeated 3 = .ok (.aload_n 0, 1) := by decide +kernel
theorem dX0_findSeated_4 : decode cX0_findSeated 4 = .ok (.getfield 39, 3) := by decide +kernel
theorem dX0_findSeated_7 : decode cX0_findSeated 7 = .ok (.if_icmp .ge 37, 3) := by decide +kernel
theorem dX0_findSeated_10 : decode cX0_findSeated 10 = .ok (.aload_n 0, 1) := by decide +kernel
theorem dX0_findSeated_11 : decode cX0_findSeated 11 = .ok (.getfield 13, 3) := by decide +kernel
theorem dX0_findSeated_14 : decode cX0_findSeated 14 = .ok (.iload_n 3, 1) := by decide +kernel
theorem dX0_findSeated_15 : decode cX0_findSeated 15 = .ok (.aaload, 1) := by decide +kernel
theorem dX0_findSeated_16 : decode cX0_findSeated 16 = .ok (.getfield 87, 3) := by decide +kernel
theorem dX0_findSeated_19 : decode cX0_findSeated 19 = .ok (.iload_n 1, 1) := by decide +kernel
theorem dX0_findSeated_20 : decode cX0_findSeated 20 = .ok (.if_icmp .ne 18, 3) := by decide +kernel
theorem dX0_findSeated_23 : decode cX0_findSeated 23 = .ok (.aload_n 0, 1) := by decide +kernel
theorem dX0_findSeated_24 : decode cX0_findSeated 24 = .ok (.getfield 13, 3) := by decide +kernel
theorem dX0_findSeated_27 : decode cX0_findSeated 27 = .ok (.iload_n 3, 1) := by decide +kernel
theorem dX0_findSeated_28 : decode cX0_findSeated 28 = .ok (.aaload, 1) := by decide +kernel
theorem dX0_findSeated_29 : decode cX0_findSeated 29 = .ok (.getfield 90, 3) := by decide +kernel
theorem dX0_findSeated_32 : decode cX0_findSeated 32 = .ok (.iload_n 2, 1) := by decide +kernel
theorem dX0_findSeated_33 : decode cX0_findSeated 33 = .ok (.if_icmp .ne 5, 3) := by decide +kernel
theorem dX0_findSeated_36 : decode cX0_findSeated 36 = .ok (.iload_n 3, 1) := by decide +kernel
theorem dX0_findSeated_37 : decode cX0_findSeated 37 = .ok (.ireturn, 1) := by decide +kernel
theorem dX0_findSeated_38 : decode cX0_findSeated 38 = .ok (.iinc 3 1, 3) := by decide +kernel
theorem dX0_findSeated_41 : decode cX0_findSeated 41 = .ok (.goto (-39), 3) := by decide +kernel
theorem dX0_findSeated_44 : decode cX0_findSeated 44 = .ok (.ldc 93, 2) := by decide +kernel
theorem dX0_findSeated_46 : decode cX0_findSeated 46 = .ok (.ireturn, 1) := by decide +kernel
theorem dX0_seatBidder_0 : decode cX0_seatBidder 0 = .ok (.iload_n 1, 1) := by decide +kernel
theorem dX0_seatBidder_1 : decode cX0_seatBidder 1 = .ok (.iload_n 2, 1) := by decide +kernel
theorem dX0_seatBidder_2 : decode cX0_seatBidder 2 = .ok (.invokestatic 94, 3) := by decide +kernel
theorem dX0_seatBidder_5 : decode cX0_seatBidder 5 = .ok (.ifCond .eq 25, 3) := by decide +kernel
theorem dX0_seatBidder_8 : decode cX0_seatBidder 8 = .ok (.iload_n 3, 1) := by decide +kernel
theorem dX0_seatBidder_9 : decode cX0_seatBidder 9 = .ok (.iconst 0, 1) := by decide +kernel
theorem dX0_seatBidder_10 : decode cX0_seatBidder 10 = .ok (.sipush 999, 3) := by decide +kernel
theorem dX0_seatBidder_13 : decode cX0_seatBidder 13 = .ok (.invokestatic 98, 3) := by decide +kernel
theorem dX0_seatBidder_16 : decode cX0_seatBidder 16 = .ok (.ifCond .eq 14, 3) := by decide +kernel
theorem dX0_seatBidder_19 : decode cX0_seatBidder 19 = .ok (.iload 4, 2) := by decide +kernel
theorem dX0_seatBidder_21 : decode cX0_seatBidder 21 = .ok (.iconst 1, 1) := by decide +kernel
theorem dX0_seatBidder_22 : decode cX0_seatBidder 22 = .ok (.bipush 9, 2) := by decide +kernel
theorem dX0_seatBidder_24 : decode cX0_seatBidder 24 = .ok (.invokestatic 98, 3) := by decide +kernel
theorem dX0_seatBidder_27 : decode cX0_seatBidder 27 = .ok (.ifCond .ne 6, 3) := by decide +kernel
theorem dX0_seatBidder_30 : decode cX0_seatBidder 30 = .ok (.ldc 102, 2) := by decide +kernel
theorem dX0_seatBidder_32 : decode cX0_seatBidder 32 = .ok (.ireturn, 1) := by decide +kernel
theorem dX0_seatBidder_33 : decode cX0_seatBidder 33 = .ok (.aload_n 0, 1) := by decide +kernel
theorem dX0_seatBidder_34 : decode cX0_seatBidder 34 = .ok (.iload_n 1, 1) := by decide +kernel
theorem dX0_seatBidder_35 : decode cX0_seatBidder 35 = .ok (.iload_n 2, 1) := by decide +kernel
theorem dX0_seatBidder_36 : decode cX0_seatBidder 36 = .ok (.invokevirtual 103, 3) := by decide +kernel
theorem dX0_seatBidder_39 : decode cX0_seatBidder 39 = .ok (.ldc 93, 2) := by decide +kernel
theorem dX0_seatBidder_41 : decode cX0_seatBidder 41 = .ok (.if_icmp .eq 6, 3) := by decide +kernel
theorem dX0_seatBidder_44 : decode cX0_seatBidder 44 = .ok (.ldc 107, 2) := by decide +kernel
theorem dX0_seatBidder_46 : decode cX0_seatBidder 46 = .ok (.ireturn, 1) := by decide +kernel
theorem dX0_seatBidder_47 : decode cX0_seatBidder 47 = .ok (.aload_n 0, 1) := by decide +kernel
theorem dX0_seatBidder_48 : decode cX0_seatBidder 48 = .ok (.getfield 39, 3) := by decide +kernel
theorem dX0_seatBidder_51 : decode cX0_seatBidder 51 = .ok (.aload_n 0, 1) := by decide +kernel
theorem dX0_seatBidder_52 : decode cX0_seatBidder 52 = .ok (.getfield 13, 3) := by decide +kernel
theorem dX0_seatBidder_55 : decode cX0_seatBidder 55 = .ok (.arraylength, 1) := by decide +kernel
theorem dX0_seatBidder_56 : decode cX0_seatBidder 56 = .ok (.if_icmp .lt 6, 3) := by decide +kernel
theorem dX0_seatBidder_59 : decode cX0_seatBidder 59 = .ok (.ldc 108, 2) := by decide +kernel
theorem dX0_seatBidder_61 : decode cX0_seatBidder 61 = .ok (.ireturn, 1) := by decide +kernel
theorem dX0_seatBidder_62 : decode cX0_seatBidder 62 = .ok (.aload_n 0, 1) := by decide +kernel
theorem dX0_seatBidder_63 : decode cX0_seatBidder 63 = .ok (.getfield 13, 3) := by decide +kernel
theorem dX0_seatBidder_66 : decode cX0_seatBidder 66 = .ok (.aload_n 0, 1) := by decide +kernel
theorem dX0_seatBidder_67 : decode cX0_seatBidder 67 = .ok (.getfield 39, 3) := by decide +kernel
theorem dX0_seatBidder_70 : decode cX0_seatBidder 70 = .ok (.aaload, 1) := by decide +kernel
theorem dX0_seatBidder_71 : decode cX0_seatBidder 71 = .ok (.iload_n 1, 1) := by decide +kernel
theorem dX0_seatBidder_72 : decode cX0_seatBidder 72 = .ok (.iload_n 2, 1) := by decide +kernel
theorem dX0_seatBidder_73 : decode cX0_seatBidder 73 = .ok (.iload_n 3, 1) := by decide +kernel
theorem dX0_seatBidder_74 : decode cX0_seatBidder 74 = .ok (.iload 4, 2) := by decide +kernel
theorem dX0_seatBidder_76 : decode cX0_seatBidder 76 = .ok (.invokevirtual 109, 3) := by decide +kernel
theorem dX0_seatBidder_79 : decode cX0_seatBidder 79 = .ok (.aload_n 0, 1) := by decide +kernel
theorem dX0_seatBidder_80 : decode cX0_seatBidder 80 = .ok (.dup, 1) := by decide +kernel
theorem dX0_seatBidder_81 : decode cX0_seatBidder 81 = .ok (.getfield 39, 3) := by decide +kernel
theorem dX0_seatBidder_84 : decode cX0_seatBidder 84 = .ok (.iconst 1, 1) := by decide +kernel
theorem dX0_seatBidder_85 : decode cX0_seatBidder 85 = .ok (.iadd, 1) := by decide +kernel
theorem dX0_seatBidder_86 : decode cX0_seatBidder 86 = .ok (.putfield 39, 3) := by decide +kernel
theorem dX0_seatBidder_89 : decode cX0_seatBidder 89 = .ok (.aload_n 0, 1) := by decide +kernel
theorem dX0_seatBidder_90 : decode cX0_seatBidder 90 = .ok (.getfield 39, 3) := by decide +kernel
theorem dX0_seatBidder_93 : decode cX0_seatBidder 93 = .ok (.iconst 1, 1) := by decide +kernel
theorem dX0_seatBidder_94 : decode cX0_seatBidder 94 = .ok (.isub, 1) := by decide +kernel
theorem dX0_seatBidder_95 : decode cX0_seatBidder 95 = .ok (.ireturn, 1) := by decide +kernel
theorem dX0_changeCold_0 : decode cX0_changeCold 0 = .ok (.aload_n 0, 1) := by decide +kernel
theorem dX0_changeCold_1 : decode cX0_changeCold 1 = .ok (.iload_n 1, 1) := by decide +kernel
theorem dX0_changeCold_2 : decode cX0_changeCold 2 = .ok (.invokevirtual 113, 3) := by decide +kernel
theorem dX0_changeCold_5 : decode cX0_changeCold 5 = .ok (.ifCond .eq 12, 3) := by decide +kernel
theorem dX0_changeCold_8 : decode cX0_changeCold 8 = .ok (.iload_n 2, 1) := by decide +kernel
theorem dX0_changeCold_9 : decode cX0_changeCold 9 = .ok (.iconst 0, 1) := by decide +kernel
theorem dX0_changeCold_10 : decode cX0_changeCold 10 = .ok (.iconst 5, 1) := by decide +kernel
theorem dX0_changeCold_11 : decode cX0_changeCold 11 = .ok (.invokestatic 98, 3) := by decide +kernel
theorem dX0_changeCold_14 : decode cX0_changeCold 14 = .ok (.ifCond .ne 6, 3) := by decide +kernel
theorem dX0_changeCold_17 : decode cX0_changeCold 17 = .ok (.ldc 102, 2) := by decide +kernel
theorem dX0_changeCold_19 : decode cX0_changeCold 19 = .ok (.ireturn, 1) := by decide +kernel
theorem dX0_changeCold_20 : decode cX0_changeCold 20 = .ok (.aload_n 0, 1) := by decide +kernel
theorem dX0_changeCold_21 : decode cX0_changeCold 21 = .ok (.getfield 13, 3) := by decide +kernel
theorem dX0_changeCold_24 : decode cX0_changeCold 24 = .ok (.iload_n 1, 1) := by decide +kernel
theorem dX0_changeCold_25 : decode cX0_changeCold 25 = .ok (.aaload, 1) := by decide +kernel
theorem dX0_changeCold_26 : decode cX0_changeCold 26 = .ok (.getfield 117, 3) := by decide +kernel
theorem dX0_changeCold_29 : decode cX0_changeCold 29 = .ok (.istore_n 3, 1) := by decide +kernel
theorem dX0_changeCold_30 : decode cX0_changeCold 30 = .ok (.aload_n 0, 1) := by decide +kernel
theorem dX0_changeCold_31 : decode cX0_changeCold 31 = .ok (.getfield 13, 3) := by decide +kernel
theorem dX0_changeCold_34 : decode cX0_changeCold 34 = .ok (.iload_n 1, 1) := by decide +kernel
theorem dX0_changeCold_35 : decode cX0_changeCold 35 = .ok (.aaload, 1) := by decide +kernel
theorem dX0_changeCold_36 : decode cX0_changeCold 36 = .ok (.iload_n 2, 1) := by decide +kernel
theorem dX0_changeCold_37 : decode cX0_changeCold 37 = .ok (.putfield 117, 3) := by decide +kernel
theorem dX0_changeCold_40 : decode cX0_changeCold 40 = .ok (.iload_n 3, 1) := by decide +kernel
theorem dX0_changeCold_41 : decode cX0_changeCold 41 = .ok (.ireturn, 1) := by decide +kernel
theorem dX0_changeMuffler_0 : decode cX0_changeMuffler 0 = .ok (.aload_n 0, 1) := by decide +kernel
theorem dX0_changeMuffler_1 : decode cX0_changeMuffler 1 = .ok (.iload_n 1, 1) := by decide +kernel
theorem dX0_changeMuffler_2 : decode cX0_changeMuffler 2 = .ok (.invokevirtual 113, 3) := by decide +kernel
theorem dX0_changeMuffler_5 : decode cX0_changeMuffler 5 = .ok (.ifCond .eq 12, 3) := by decide +kernel
theorem dX0_changeMuffler_8 : decode cX0_changeMuffler 8 = .ok (.iload_n 2, 1) := by decide +kernel
theorem dX0_changeMuffler_9 : decode cX0_changeMuffler 9 = .ok (.iconst 0, 1) := by decide +kernel
theorem dX0_changeMuffler_10 : decode cX0_changeMuffler 10 = .ok (.iconst 5, 1) := by decide +kernel
theorem dX0_changeMuffler_11 : decode cX0_changeMuffler 11 = .ok (.invokestatic 98, 3) := by decide +kernel
theorem dX0_changeMuffler_14 : decode cX0_changeMuffler 14 = .ok (.ifCond .ne 6, 3) := by decide +kernel
theorem dX0_changeMuffler_17 : decode cX0_changeMuffler 17 = .ok (.ldc 102, 2) := by decide +kernel
theorem dX0_changeMuffler_19 : decode cX0_changeMuffler 19 = .ok (.ireturn, 1) := by decide +kernel
theorem dX0_changeMuffler_20 : decode cX0_changeMuffler 20 = .ok (.aload_n 0, 1) := by decide +kernel
theorem dX0_changeMuffler_21 : decode cX0_changeMuffler 21 = .ok (.getfield 13, 3) := by decide +kernel
theorem dX0_changeMuffler_24 : decode cX0_changeMuffler 24 = .ok (.iload_n 1, 1) := by decide +kernel
theorem dX0_changeMuffler_25 : decode cX0_changeMuffler 25 = .ok (.aaload, 1) := by decide +kernel
theorem dX0_changeMuffler_26 : decode cX0_changeMuffler 26 = .ok (.getfield 120, 3) := by decide +kernel
theorem dX0_changeMuffler_29 : decode cX0_changeMuffler 29 = .ok (.istore_n 3, 1) := by decide +kernel
theorem dX0_changeMuffler_30 : decode cX0_changeMuffler 30 = .ok (.aload_n 0, 1) := by decide +kernel
theorem dX0_changeMuffler_31 : decode cX0_changeMuffler 31 = .ok (.getfield 13, 3) := by decide +kernel
theorem dX0_changeMuffler_34 : decode cX0_changeMuffler 34 = .ok (.iload_n 1, 1) := by decide +kernel
theorem dX0_changeMuffler_35 : decode cX0_changeMuffler 35 = .ok (.aaload, 1) := by decide +kernel
theorem dX0_changeMuffler_36 : decode cX0_changeMuffler 36 = .ok (.iload_n 2, 1) := by decide +kernel
theorem dX0_changeMuffler_37 : decode cX0_changeMuffler 37 = .ok (.putfield 120, 3) := by decide +kernel
theorem dX0_changeMuffler_40 : decode cX0_changeMuffler 40 = .ok (.iload_n 3, 1) := by decide +kernel
theorem dX0_changeMuffler_41 : decode cX0_changeMuffler 41 = .ok (.ireturn, 1) := by decide +kernel
theorem dX0_bidderSetWithCold_0 : decode cX0_bidderSetWithCold 0 = .ok (.iconst 0, 1) := by decide +kernel
theorem dX0_bidderSetWithCold_1 : decode cX0_bidderSetWithCold 1 = .ok (.istore_n 1, 1) := by decide +kernel
theorem dX0_bidderSetWithCold_2 : decode cX0_bidderSetWithCold 2 = .ok (.iconst 0, 1) := by decide +kernel
theorem dX0_bidderSetWithCold_3 : decode cX0_bidderSetWithCold 3 = .ok (.istore_n 2, 1) := by decide +kernel
theorem dX0_bidderSetWithCold_4 : decode cX0_bidderSetWithCold 4 = .ok (.iload_n 2, 1) := by decide +kernel
theorem dX0_bidderSetWithCold_5 : decode cX0_bidderSetWithCold 5 = .ok (.aload_n 0, 1) := by decide +kernel
theorem dX0_bidderSetWithCold_6 : decode cX0_bidderSetWithCold 6 = .ok (.getfield 39, 3) := by decide +kernel
theorem dX0_bidderSetWithCold_9 : decode cX0_bidderSetWithCold 9 = .ok (.if_icmp .ge 27, 3) := by decide +kernel
theorem dX0_bidderSetWithCold_12 : decode cX0_bidderSetWithCold 12 = .ok (.aload_n 0, 1) := by decide +kernel
theorem dX0_bidderSetWithCold_13 : decode cX0_bidderSetWithCold 13 = .ok (.getfield 13, 3) := by decide +kernel
theorem dX0_bidderSetWithCold_16 : decode cX0_bidderSetWithCold 16 = .ok (.iload_n 2, 1) := by decide +kernel
theorem dX0_bidderSetWithCold_17 : decode cX0_bidderSetWithCold 17 = .ok (.aaload, 1) := by decide +kernel
theorem dX0_bidderSetWithCold_18 : decode cX0_bidderSetWithCold 18 = .ok (.getfield 117, 3) := by decide +kernel
theorem dX0_bidderSetWithCold_21 : decode cX0_bidderSetWithCold 21 = .ok (.ifCond .le 9, 3) := by decide +kernel
theorem dX0_bidderSetWithCold_24 : decode cX0_bidderSetWithCold 24 = .ok (.iload_n 1, 1) := by decide +kernel
theorem dX0_bidderSetWithCold_25 : decode cX0_bidderSetWithCold 25 = .ok (.iconst 1, 1) := by decide +kernel
theorem dX0_bidderSetWithCold_26 : decode cX0_bidderSetWithCold 26 = .ok (.iload_n 2, 1) := by decide +kernel
theorem dX0_bidderSetWithCold_27 : decode cX0_bidderSetWithCold 27 = .ok (.ishl, 1) := by decide +kernel
theorem dX0_bidderSetWithCold_28 : decode cX0_bidderSetWithCold 28 = .ok (.ior, 1) := by decide +kernel
theorem dX0_bidderSetWithCold_29 : decode cX0_bidderSetWithCold 29 = .ok (.istore_n 1, 1) := by decide +kernel
theorem dX0_bidderSetWithCold_30 : decode cX0_bidderSetWithCold 30 = .ok (.iinc 2 1, 3) := by decide +kernel
theorem dX0_bidderSetWithCold_33 : decode cX0_bidderSetWithCold 33 = .ok (.goto (-29), 3) := by decide +kernel
theorem dX0_bidderSetWithCold_36 : decode cX0_bidderSetWithCold 36 = .ok (.iload_n 1, 1) := by decide +kernel
theorem dX0_bidderSetWithCold_37 : decode cX0_bidderSetWithCold 37 = .ok (.ireturn, 1) := by decide +kernel
theorem dX0_changeSetting_0 : decode cX0_changeSetting 0 = .ok (.iload_n 1, 1) := by decide +kernel
theorem dX0_changeSetting_1 : decode cX0_changeSetting 1 = .ok (.iconst 0, 1) := by decide +kernel
theorem dX0_changeSetting_2 : decode cX0_changeSetting 2 = .ok (.aload_n 0, 1) := by decide +kernel
theorem dX0_changeSetting_3 : decode cX0_changeSetting 3 = .ok (.getfield 32, 3) := by decide +kernel
theorem dX0_changeSetting_6 : decode cX0_changeSetting 6 = .ok (.arraylength, 1) := by decide +kernel
theorem dX0_changeSetting_7 : decode cX0_changeSetting 7 = .ok (.iconst 1, 1) := by decide +kernel
theorem dX0_changeSetting_8 : decode cX0_changeSetting 8 = .ok (.isub, 1) := by decide +kernel
theorem dX0_changeSetting_9 : decode cX0_changeSetting 9 = .ok (.invokestatic 98, 3) := by decide +kernel
theorem dX0_changeSetting_12 : decode cX0_changeSetting 12 = .ok (.ifCond .eq 13, 3) := by decide +kernel
theorem dX0_changeSetting_15 : decode cX0_changeSetting 15 = .ok (.iload_n 2, 1) := by decide +kernel
theorem dX0_changeSetting_16 : decode cX0_changeSetting 16 = .ok (.iconst 1, 1) := by decide +kernel
theorem dX0_changeSetting_17 : decode cX0_changeSetting 17 = .ok (.bipush 9, 2) := by decide +kernel
theorem dX0_changeSetting_19 : decode cX0_changeSetting 19 = .ok (.invokestatic 98, 3) := by decide +kernel
theorem dX0_changeSetting_22 : decode cX0_changeSetting 22 = .ok (.ifCond .ne 6, 3) := by decide +kernel
theorem dX0_changeSetting_25 : decode cX0_changeSetting 25 = .ok (.ldc 102, 2) := by decide +kernel
theorem dX0_changeSetting_27 : decode cX0_changeSetting 27 = .ok (.ireturn, 1) := by decide +kernel
theorem dX0_changeSetting_28 : decode cX0_changeSetting 28 = .ok (.aload_n 0, 1) := by decide +kernel
theorem dX0_changeSetting_29 : decode cX0_changeSetting 29 = .ok (.getfield 32, 3) := by decide +kernel
theorem dX0_changeSetting_32 : decode cX0_changeSetting 32 = .ok (.iload_n 1, 1) := by decide +kernel
theorem dX0_changeSetting_33 : decode cX0_changeSetting 33 = .ok (.iaload, 1) := by decide +kernel
theorem dX0_changeSetting_34 : decode cX0_changeSetting 34 = .ok (.istore_n 3, 1) := by decide +kernel
theorem dX0_changeSetting_35 : decode cX0_changeSetting 35 = .ok (.aload_n 0, 1) := by decide +kernel
theorem dX0_changeSetting_36 : decode cX0_changeSetting 36 = .ok (.getfield 32, 3) := by decide +kernel
theorem dX0_changeSetting_39 : decode cX0_changeSetting 39 = .ok (.iload_n 1, 1) := by decide +kernel
theorem dX0_changeSetting_40 : decode cX0_changeSetting 40 = .ok (.iload_n 2, 1) := by decide +kernel
theorem dX0_changeSetting_41 : decode cX0_changeSetting 41 = .ok (.iastore, 1) := by decide +kernel
theorem dX0_changeSetting_42 : decode cX0_changeSetting 42 = .ok (.iload_n 3, 1) := by decide +kernel
theorem dX0_changeSetting_43 : decode cX0_changeSetting 43 = .ok (.ireturn, 1) := by decide +kernel
theorem dX0_addLot_0 : decode cX0_addLot 0 = .ok (.iload_n 1, 1) := by decide +kernel
theorem dX0_addLot_1 : decode cX0_addLot 1 = .ok (.iconst 1, 1) := by decide +kernel
theorem dX0_addLot_2 : decode cX0_addLot 2 = .ok (.bipush 99, 2) := by decide +kernel
theorem dX0_addLot_4 : decode cX0_addLot 4 = .ok (.invokestatic 98, 3) := by decide +kernel
theorem dX0_addLot_7 : decode cX0_addLot 7 = .ok (.ifCond .eq 13, 3) := by decide +kernel
theorem dX0_addLot_10 : decode cX0_addLot 10 = .ok (.iload_n 2, 1) := by decide +kernel
theorem dX0_addLot_11 : decode cX0_addLot 11 = .ok (.iconst 1, 1) := by decide +kernel
theorem dX0_addLot_12 : decode cX0_addLot 12 = .ok (.bipush 20, 2) := by decide +kernel
theorem dX0_addLot_14 : decode cX0_addLot 14 = .ok (.invokestatic 98, 3) := by decide +kernel
theorem dX0_addLot_17 : decode cX0_addLot 17 = .ok (.ifCond .ne 6, 3) := by decide +kernel
theorem dX0_addLot_20 : decode cX0_addLot 20 = .ok (.ldc 102, 2) := by decide +kernel
theorem dX0_addLot_22 : decode cX0_addLot 22 = .ok (.ireturn, 1) := by decide +kernel
theorem dX0_addLot_23 : decode cX0_addLot 23 = .ok (.aload_n 0, 1) := by decide +kernel
theorem dX0_addLot_24 : decode cX0_addLot 24 = .ok (.getfield 47, 3) := by decide +kernel
theorem dX0_addLot_27 : decode cX0_addLot 27 = .ok (.aload_n 0, 1) := by decide +kernel
theorem dX0_addLot_28 : decode cX0_addLot 28 = .ok (.getfield 20, 3) := by decide +kernel
theorem dX0_addLot_31 : decode cX0_addLot 31 = .ok (.arraylength, 1) := by decide +kernel
theorem dX0_addLot_32 : decode cX0_addLot 32 = .ok (.if_icmp .lt 6, 3) := by decide +kernel
theorem dX0_addLot_35 : decode cX0_addLot 35 = .ok (.ldc 108, 2) := by decide +kernel
theorem dX0_addLot_37 : decode cX0_addLot 37 = .ok (.ireturn, 1) := by decide +kernel
theorem dX0_addLot_38 : decode cX0_addLot 38 = .ok (.aload_n 0, 1) := by decide +kernel
theorem dX0_addLot_39 : decode cX0_addLot 39 = .ok (.getfield 20, 3) := by decide +kernel
theorem dX0_addLot_42 : decode cX0_addLot 42 = .ok (.aload_n 0, 1) := by decide +kernel
theorem dX0_addLot_43 : decode cX0_addLot 43 = .ok (.getfield 47, 3) := by decide +kernel
theorem dX0_addLot_46 : decode cX0_addLot 46 = .ok (.aaload, 1) := by decide +kernel
theorem dX0_addLot_47 : decode cX0_addLot 47 = .ok (.iload_n 1, 1) := by decide +kernel
theorem dX0_addLot_48 : decode cX0_addLot 48 = .ok (.iload_n 2, 1) := by decide +kernel
theorem dX0_addLot_49 : decode cX0_addLot 49 = .ok (.invokevirtual 123, 3) := by decide +kernel
theorem dX0_addLot_52 : decode cX0_addLot 52 = .ok (.aload_n 0, 1) := by decide +kernel
theorem dX0_addLot_53 : decode cX0_addLot 53 = .ok (.dup, 1) := by decide +kernel
theorem dX0_addLot_54 : decode cX0_addLot 54 = .ok (.getfield 47, 3) := by decide +kernel
theorem dX0_addLot_57 : decode cX0_addLot 57 = .ok (.iconst 1, 1) := by decide +kernel
theorem dX0_addLot_58 : decode cX0_addLot 58 = .ok (.iadd, 1) := by decide +kernel
theorem dX0_addLot_59 : decode cX0_addLot 59 = .ok (.putfield 47, 3) := by decide +kernel
theorem dX0_addLot_62 : decode cX0_addLot 62 = .ok (.aload_n 0, 1) := by decide +kernel
theorem dX0_addLot_63 : decode cX0_addLot 63 = .ok (.dup, 1) := by decide +kernel
theorem dX0_addLot_64 : decode cX0_addLot 64 = .ok (.getfield 72, 3) := by decide +kernel
theorem dX0_addLot_67 : decode cX0_addLot 67 = .ok (.iconst 1, 1) := by decide +kernel
theorem dX0_addLot_68 : decode cX0_addLot 68 = .ok (.iadd, 1) := by decide +kernel
theorem dX0_addLot_69 : decode cX0_addLot 69 = .ok (.putfield 72, 3) := by decide +kernel
theorem dX0_addLot_72 : decode cX0_addLot 72 = .ok (.aload_n 0, 1) := by decide +kernel
theorem dX0_addLot_73 : decode cX0_addLot 73 = .ok (.getfield 47, 3) := by decide +kernel
theorem dX0_addLot_76 : decode cX0_addLot 76 = .ok (.ireturn, 1) := by decide +kernel
theorem dX0_raiseNextLot_0 : decode cX0_raiseNextLot 0 = .ok (.aload_n 0, 1) := by decide +kernel
theorem dX0_raiseNextLot_1 : decode cX0_raiseNextLot 1 = .ok (.getfield 56, 3) := by decide +kernel
theorem dX0_raiseNextLot_4 : decode cX0_raiseNextLot 4 = .ok (.ifCond .ne 10, 3) := by decide +kernel
theorem dX0_raiseNextLot_7 : decode cX0_raiseNextLot 7 = .ok (.aload_n 0, 1) := by decide +kernel
theorem dX0_raiseNextLot_8 : decode cX0_raiseNextLot 8 = .ok (.getfield 47, 3) := by decide +kernel
theorem dX0_raiseNextLot_11 : decode cX0_raiseNextLot 11 = .ok (.ifCond .ne 6, 3) := by decide +kernel
theorem dX0_raiseNextLot_14 : decode cX0_raiseNextLot 14 = .ok (.ldc 107, 2) := by decide +kernel
theorem dX0_raiseNextLot_16 : decode cX0_raiseNextLot 16 = .ok (.ireturn, 1) := by decide +kernel
theorem dX0_raiseNextLot_17 : decode cX0_raiseNextLot 17 = .ok (.aload_n 0, 1) := by decide +kernel
theorem dX0_raiseNextLot_18 : decode cX0_raiseNextLot 18 = .ok (.getfield 35, 3) := by decide +kernel
theorem dX0_raiseNextLot_21 : decode cX0_raiseNextLot 21 = .ok (.astore_n 1, 1) := by decide +kernel
theorem dX0_raiseNextLot_22 : decode cX0_raiseNextLot 22 = .ok (.aload_n 0, 1) := by decide +kernel
theorem dX0_raiseNextLot_23 : decode cX0_raiseNextLot 23 = .ok (.aload_n 0, 1) := by decide +kernel
theorem dX0_raiseNextLot_24 : decode cX0_raiseNextLot 24 = .ok (.getfield 20, 3) := by decide +kernel
theorem dX0_raiseNextLot_27 : decode cX0_raiseNextLot 27 = .ok (.iconst 0, 1) := by decide +kernel
theorem dX0_raiseNextLot_28 : decode cX0_raiseNextLot 28 = .ok (.aaload, 1) := by decide +kernel
theorem dX0_raiseNextLot_29 : decode cX0_raiseNextLot 29 = .ok (.putfield 35, 3) := by decide +kernel
theorem dX0_raiseNextLot_32 : decode cX0_raiseNextLot 32 = .ok (.iconst 1, 1) := by decide +kernel
theorem dX0_raiseNextLot_33 : decode cX0_raiseNextLot 33 = .ok (.istore_n 2, 1) := by decide +kernel
theorem dX0_raiseNextLot_34 : decode cX0_raiseNextLot 34 = .ok (.iload_n 2, 1) := by decide +kernel
theorem dX0_raiseNextLot_35 : decode cX0_raiseNextLot 35 = .ok (.aload_n 0, 1) := by decide +kernel
theorem dX0_raiseNextLot_36 : decode cX0_raiseNextLot 36 = .ok (.getfield 20, 3) := by decide +kernel
theorem dX0_raiseNextLot_39 : decode cX0_raiseNextLot 39 = .ok (.arraylength, 1) := by decide +kernel
theorem dX0_raiseNextLot_40 : decode cX0_raiseNextLot 40 = .ok (.if_icmp .ge 23, 3) := by decide +kernel
theorem dX0_raiseNextLot_43 : decode cX0_raiseNextLot 43 = .ok (.aload_n 0, 1) := by decide +kernel
theorem dX0_raiseNextLot_44 : decode cX0_raiseNextLot 44 = .ok (.getfield 20, 3) := by decide +kernel
theorem dX0_raiseNextLot_47 : decode cX0_raiseNextLot 47 = .ok (.iload_n 2, 1) := by decide +kernel
theorem dX0_raiseNextLot_48 : decode cX0_raiseNextLot 48 = .ok (.iconst 1, 1) := by decide +kernel
theorem dX0_raiseNextLot_49 : decode cX0_raiseNextLot 49 = .ok (.isub, 1) := by decide +kernel
theorem dX0_raiseNextLot_50 : decode cX0_raiseNextLot 50 = .ok (.aload_n 0, 1) := by decide +kernel
theorem dX0_raiseNextLot_51 : decode cX0_raiseNextLot 51 = .ok (.getfield 20, 3) := by decide +kernel
theorem dX0_raiseNextLot_54 : decode cX0_raiseNextLot 54 = .ok (.iload_n 2, 1) := by decide +kernel
theorem dX0_raiseNextLot_55 : decode cX0_raiseNextLot 55 = .ok (.aaload, 1) := by decide +kernel
theorem dX0_raiseNextLot_56 : decode cX0_raiseNextLot 56 = .ok (.aastore, 1) := by decide +kernel
theorem dX0_raiseNextLot_57 : decode cX0_raiseNextLot 57 = .ok (.iinc 2 1, 3) := by decide +kernel
theorem dX0_raiseNextLot_60 : decode cX0_raiseNextLot 60 = .ok (.goto (-26), 3) := by decide +kernel
theorem dX0_raiseNextLot_63 : decode cX0_raiseNextLot 63 = .ok (.aload_n 0, 1) := by decide +kernel
theorem dX0_raiseNextLot_64 : decode cX0_raiseNextLot 64 = .ok (.getfield 20, 3) := by decide +kernel
theorem dX0_raiseNextLot_67 : decode cX0_raiseNextLot 67 = .ok (.aload_n 0, 1) := by decide +kernel
theorem dX0_raiseNextLot_68 : decode cX0_raiseNextLot 68 = .ok (.getfield 20, 3) := by decide +kernel
theorem dX0_raiseNextLot_71 : decode cX0_raiseNextLot 71 = .ok (.arraylength, 1) := by decide +kernel
theorem dX0_raiseNextLot_72 : decode cX0_raiseNextLot 72 = .ok (.iconst 1, 1) := by decide +kernel
theorem dX0_raiseNextLot_73 : decode cX0_raiseNextLot 73 = .ok (.isub, 1) := by decide +kernel
theorem dX0_raiseNextLot_74 : decode cX0_raiseNextLot 74 = .ok (.aload_n 1, 1) := by decide +kernel
theorem dX0_raiseNextLot_75 : decode cX0_raiseNextLot 75 = .ok (.aastore, 1) := by decide +kernel
theorem dX0_raiseNextLot_76 : decode cX0_raiseNextLot 76 = .ok (.aload_n 0, 1) := by decide +kernel
theorem dX0_raiseNextLot_77 : decode cX0_raiseNextLot 77 = .ok (.dup, 1) := by decide +kernel
theorem dX0_raiseNextLot_78 : decode cX0_raiseNextLot 78 = .ok (.getfield 47, 3) := by decide +kernel
theorem dX0_raiseNextLot_81 : decode cX0_raiseNextLot 81 = .ok (.iconst 1, 1) := by decide +kernel
theorem dX0_raiseNextLot_82 : decode cX0_raiseNextLot 82 = .ok (.isub, 1) := by decide +kernel
theorem dX0_raiseNextLot_83 : decode cX0_raiseNextLot 83 = .ok (.putfield 47, 3) := by decide +kernel
theorem dX0_raiseNextLot_86 : decode cX0_raiseNextLot 86 = .ok (.aload_n 0, 1) := by decide +kernel
theorem dX0_raiseNextLot_87 : decode cX0_raiseNextLot 87 = .ok (.iconst 1, 1) := by decide +kernel
theorem dX0_raiseNextLot_88 : decode cX0_raiseNextLot 88 = .ok (.putfield 56, 3) := by decide +kernel
theorem dX0_raiseNextLot_91 : decode cX0_raiseNextLot 91 = .ok (.aload_n 0, 1) := by decide +kernel
theorem dX0_raiseNextLot_92 : decode cX0_raiseNextLot 92 = .ok (.getfield 35, 3) := by decide +kernel
theorem dX0_raiseNextLot_95 : decode cX0_raiseNextLot 95 = .ok (.getfield 127, 3) := by decide +kernel
theorem dX0_raiseNextLot_98 : decode cX0_raiseNextLot 98 = .ok (.ireturn, 1) := by decide +kernel
theorem dX0_close_0 : decode cX0_close 0 = .ok (.aload_n 0, 1) := by decide +kernel
theorem dX0_close_1 : decode cX0_close 1 = .ok (.getfield 25, 3) := by decide +kernel
theorem dX0_close_4 : decode cX0_close 4 = .ok (.aload_n 0, 1) := by decide +kernel
theorem dX0_close_5 : decode cX0_close 5 = .ok (.getfield 25, 3) := by decide +kernel
theorem dX0_close_8 : decode cX0_close 8 = .ok (.arraylength, 1) := by decide +kernel
theorem dX0_close_9 : decode cX0_close 9 = .ok (.iconst 1, 1) := by decide +kernel
theorem dX0_close_10 : decode cX0_close 10 = .ok (.isub, 1) := by decide +kernel
theorem dX0_close_11 : decode cX0_close 11 = .ok (.aaload, 1) := by decide +kernel
theorem dX0_close_12 : decode cX0_close 12 = .ok (.astore_n 2, 1) := by decide +kernel
theorem dX0_close_13 : decode cX0_close 13 = .ok (.aload_n 0, 1) := by decide +kernel
theorem dX0_close_14 : decode cX0_close 14 = .ok (.getfield 25, 3) := by decide +kernel
theorem dX0_close_17 : decode cX0_close 17 = .ok (.arraylength, 1) := by decide +kernel
theorem dX0_close_18 : decode cX0_close 18 = .ok (.iconst 1, 1) := by decide +kernel
theorem dX0_close_19 : decode cX0_close 19 = .ok (.isub, 1) := by decide +kernel
theorem dX0_close_20 : decode cX0_close 20 = .ok (.istore_n 3, 1) := by decide +kernel
theorem dX0_close_21 : decode cX0_close 21 = .ok (.iload_n 3, 1) := by decide +kernel
theorem dX0_close_22 : decode cX0_close 22 = .ok (.ifCond .le 23, 3) := by decide +kernel
theorem dX0_close_25 : decode cX0_close 25 = .ok (.aload_n 0, 1) := by decide +kernel
theorem dX0_close_26 : decode cX0_close 26 = .ok (.getfield 25, 3) := by decide +kernel
theorem dX0_close_29 : decode cX0_close 29 = .ok (.iload_n 3, 1) := by decide +kernel
theorem dX0_close_30 : decode cX0_close 30 = .ok (.aload_n 0, 1) := by decide +kernel
theorem dX0_close_31 : decode cX0_close 31 = .ok (.getfield 25, 3) := by decide +kernel
theorem dX0_close_34 : decode cX0_close 34 = .ok (.iload_n 3, 1) := by decide +kernel
theorem dX0_close_35 : decode cX0_close 35 = .ok (.iconst 1, 1) := by decide +kernel
theorem dX0_close_36 : decode cX0_close 36 = .ok (.isub, 1) := by decide +kernel
theorem dX0_close_37 : decode cX0_close 37 = .ok (.aaload, 1) := by decide +kernel
theorem dX0_close_38 : decode cX0_close 38 = .ok (.aastore, 1) := by decide +kernel
theorem dX0_close_39 : decode cX0_close 39 = .ok (.iinc 3 (-1), 3) := by decide +kernel
theorem dX0_close_42 : decode cX0_close 42 = .ok (.goto (-21), 3) := by decide +kernel
theorem dX0_close_45 : decode cX0_close 45 = .ok (.aload_n 0, 1) := by decide +kernel
theorem dX0_close_46 : decode cX0_close 46 = .ok (.getfield 25, 3) := by decide +kernel
theorem dX0_close_49 : decode cX0_close 49 = .ok (.iconst 0, 1) := by decide +kernel
theorem dX0_close_50 : decode cX0_close 50 = .ok (.aload_n 0, 1) := by decide +kernel
theorem dX0_close_51 : decode cX0_close 51 = .ok (.getfield 35, 3) := by decide +kernel
theorem dX0_close_54 : decode cX0_close 54 = .ok (.aastore, 1) := by decide +kernel
theorem dX0_close_55 : decode cX0_close 55 = .ok (.aload_n 0, 1) := by decide +kernel
theorem dX0_close_56 : decode cX0_close 56 = .ok (.getfield 35, 3) := by decide +kernel
theorem dX0_close_59 : decode cX0_close 59 = .ok (.iload_n 1, 1) := by decide +kernel
theorem dX0_close_60 : decode cX0_close 60 = .ok (.putfield 130, 3) := by decide +kernel
theorem dX0_close_63 : decode cX0_close 63 = .ok (.aload_n 0, 1) := by decide +kernel
theorem dX0_close_64 : decode cX0_close 64 = .ok (.aload_n 2, 1) := by decide +kernel
theorem dX0_close_65 : decode cX0_close 65 = .ok (.putfield 35, 3) := by decide +kernel
theorem dX0_close_68 : decode cX0_close 68 = .ok (.aload_n 0, 1) := by decide +kernel
theorem dX0_close_69 : decode cX0_close 69 = .ok (.iconst 0, 1) := by decide +kernel
theorem dX0_close_70 : decode cX0_close 70 = .ok (.putfield 56, 3) := by decide +kernel
theorem dX0_close_73 : decode cX0_close 73 = .ok (.aload_n 0, 1) := by decide +kernel
theorem dX0_close_74 : decode cX0_close 74 = .ok (.getfield 28, 3) := by decide +kernel
theorem dX0_close_77 : decode cX0_close 77 = .ok (.iload_n 1, 1) := by decide +kernel
theorem dX0_close_78 : decode cX0_close 78 = .ok (.dup2, 1) := by decide +kernel
theorem dX0_close_79 : decode cX0_close 79 = .ok (.iaload, 1) := by decide +kernel
theorem dX0_close_80 : decode cX0_close 80 = .ok (.iconst 1, 1) := by decide +kernel
theorem dX0_close_81 : decode cX0_close 81 = .ok (.iadd, 1) := by decide +kernel
theorem dX0_close_82 : decode cX0_close 82 = .ok (.iastore, 1) := by decide +kernel
theorem dX0_close_83 : decode cX0_close 83 = .ok (.aload_n 0, 1) := by decide +kernel
theorem dX0_close_84 : decode cX0_close 84 = .ok (.getfield 53, 3) := by decide +kernel
theorem dX0_close_87 : decode cX0_close 87 = .ok (.aload_n 0, 1) := by decide +kernel
theorem dX0_close_88 : decode cX0_close 88 = .ok (.getfield 25, 3) := by decide +kernel
theorem dX0_close_91 : decode cX0_close 91 = .ok (.arraylength, 1) := by decide +kernel
theorem dX0_close_92 : decode cX0_close 92 = .ok (.if_icmp .ge 13, 3) := by decide +kernel
theorem dX0_close_95 : decode cX0_close 95 = .ok (.aload_n 0, 1) := by decide +kernel
theorem dX0_close_96 : decode cX0_close 96 = .ok (.dup, 1) := by decide +kernel
theorem dX0_close_97 : decode cX0_close 97 = .ok (.getfield 53, 3) := by decide +kernel
theorem dX0_close_100 : decode cX0_close 100 = .ok (.iconst 1, 1) := by decide +kernel
theorem dX0_close_101 : decode cX0_close 101 = .ok (.iadd, 1) := by decide +kernel
theorem dX0_close_102 : decode cX0_close 102 = .ok (.putfield 53, 3) := by decide +kernel
theorem dX0_close_105 : decode cX0_close 105 = .ok (.return_, 1) := by decide +kernel
theorem dX0_reasonAgainst_0 : decode cX0_reasonAgainst 0 = .ok (.aload_n 0, 1) := by decide +kernel
theorem dX0_reasonAgainst_1 : decode cX0_reasonAgainst 1 = .ok (.getfield 56, 3) := by decide +kernel
theorem dX0_reasonAgainst_4 : decode cX0_reasonAgainst 4 = .ok (.ifCond .ne 5, 3) := by decide +kernel
theorem dX0_reasonAgainst_7 : decode cX0_reasonAgainst 7 = .ok (.iconst 1, 1) := by decide +kernel
theorem dX0_reasonAgainst_8 : decode cX0_reasonAgainst 8 = .ok (.ireturn, 1) := by decide +kernel
theorem dX0_reasonAgainst_9 : decode cX0_reasonAgainst 9 = .ok (.aload_n 0, 1) := by decide +kernel
theorem dX0_reasonAgainst_10 : decode cX0_reasonAgainst 10 = .ok (.getfield 13, 3) := by decide +kernel
theorem dX0_reasonAgainst_13 : decode cX0_reasonAgainst 13 = .ok (.iload_n 1, 1) := by decide +kernel
theorem dX0_reasonAgainst_14 : decode cX0_reasonAgainst 14 = .ok (.aaload, 1) := by decide +kernel
theorem dX0_reasonAgainst_15 : decode cX0_reasonAgainst 15 = .ok (.invokevirtual 133, 3) := by decide +kernel
theorem dX0_reasonAgainst_18 : decode cX0_reasonAgainst 18 = .ok (.aload_n 0, 1) := by decide +kernel
theorem dX0_reasonAgainst_19 : decode cX0_reasonAgainst 19 = .ok (.getfield 32, 3) := by decide +kernel
theorem dX0_reasonAgainst_22 : decode cX0_reasonAgainst 22 = .ok (.iconst 0, 1) := by decide +kernel
theorem dX0_reasonAgainst_23 : decode cX0_reasonAgainst 23 = .ok (.iaload, 1) := by decide +kernel
theorem dX0_reasonAgainst_24 : decode cX0_reasonAgainst 24 = .ok (.if_icmp .ge 5, 3) := by decide +kernel
theorem dX0_reasonAgainst_27 : decode cX0_reasonAgainst 27 = .ok (.iconst 2, 1) := by decide +kernel
theorem dX0_reasonAgainst_28 : decode cX0_reasonAgainst 28 = .ok (.ireturn, 1) := by decide +kernel
theorem dX0_reasonAgainst_29 : decode cX0_reasonAgainst 29 = .ok (.aload_n 0, 1) := by decide +kernel
theorem dX0_reasonAgainst_30 : decode cX0_reasonAgainst 30 = .ok (.getfield 35, 3) := by decide +kernel
theorem dX0_reasonAgainst_33 : decode cX0_reasonAgainst 33 = .ok (.invokevirtual 137, 3) := by decide +kernel
theorem dX0_reasonAgainst_36 : decode cX0_reasonAgainst 36 = .ok (.ifCond .eq 16, 3) := by decide +kernel
theorem dX0_reasonAgainst_39 : decode cX0_reasonAgainst 39 = .ok (.aload_n 0, 1) := by decide +kernel
theorem dX0_reasonAgainst_40 : decode cX0_reasonAgainst 40 = .ok (.getfield 35, 3) := by decide +kernel
theorem dX0_reasonAgainst_43 : decode cX0_reasonAgainst 43 = .ok (.getfield 141, 3) := by decide +kernel
theorem dX0_reasonAgainst_46 : decode cX0_reasonAgainst 46 = .ok (.iload_n 1, 1) := by decide +kernel
theorem dX0_reasonAgainst_47 : decode cX0_reasonAgainst 47 = .ok (.if_icmp .ne 5, 3) := by decide +kernel
theorem dX0_reasonAgainst_50 : decode cX0_reasonAgainst 50 = .ok (.iconst 3, 1) := by decide +kernel
theorem dX0_reasonAgainst_51 : decode cX0_reasonAgainst 51 = .ok (.ireturn, 1) := by decide +kernel
theorem dX0_reasonAgainst_52 : decode cX0_reasonAgainst 52 = .ok (.aload_n 0, 1) := by decide +kernel
theorem dX0_reasonAgainst_53 : decode cX0_reasonAgainst 53 = .ok (.getfield 13, 3) := by decide +kernel
theorem dX0_reasonAgainst_56 : decode cX0_reasonAgainst 56 = .ok (.iload_n 1, 1) := by decide +kernel
theorem dX0_reasonAgainst_57 : decode cX0_reasonAgainst 57 = .ok (.aaload, 1) := by decide +kernel
theorem dX0_reasonAgainst_58 : decode cX0_reasonAgainst 58 = .ok (.getfield 144, 3) := by decide +kernel
theorem dX0_reasonAgainst_61 : decode cX0_reasonAgainst 61 = .ok (.aload_n 0, 1) := by decide +kernel
theorem dX0_reasonAgainst_62 : decode cX0_reasonAgainst 62 = .ok (.getfield 35, 3) := by decide +kernel
theorem dX0_reasonAgainst_65 : decode cX0_reasonAgainst 65 = .ok (.invokevirtual 147, 3) := by decide +kernel
theorem dX0_reasonAgainst_68 : decode cX0_reasonAgainst 68 = .ok (.if_icmp .ge 5, 3) := by decide +kernel
theorem dX0_reasonAgainst_71 : decode cX0_reasonAgainst 71 = .ok (.iconst 4, 1) := by decide +kernel
theorem dX0_reasonAgainst_72 : decode cX0_reasonAgainst 72 = .ok (.ireturn, 1) := by decide +kernel
theorem dX0_reasonAgainst_73 : decode cX0_reasonAgainst 73 = .ok (.iconst 0, 1) := by decide +kernel
theorem dX0_reasonAgainst_74 : decode cX0_reasonAgainst 74 = .ok (.ireturn, 1) := by decide +kernel
theorem dX0_takeCough_0 : decode cX0_takeCough 0 = .ok (.aload_n 0, 1) := by decide +kernel
theorem dX0_takeCough_1 : decode cX0_takeCough 1 = .ok (.iload_n 1, 1) := by decide +kernel
theorem dX0_takeCough_2 : decode cX0_takeCough 2 = .ok (.invokevirtual 113, 3) := by decide +kernel
theorem dX0_takeCough_5 : decode cX0_takeCough 5 = .ok (.ifCond .ne 6, 3) := by decide +kernel
theorem dX0_takeCough_8 : decode cX0_takeCough 8 = .ok (.ldc 102, 2) := by decide +kernel
theorem dX0_takeCough_10 : decode cX0_takeCough 10 = .ok (.ireturn, 1) := by decide +kernel
theorem dX0_takeCough_11 : decode cX0_takeCough 11 = .ok (.aload_n 0, 1) := by decide +kernel
theorem dX0_takeCough_12 : decode cX0_takeCough 12 = .ok (.dup, 1) := by decide +kernel
theorem dX0_takeCough_13 : decode cX0_takeCough 13 = .ok (.getfield 78, 3) := by decide +kernel
theorem dX0_takeCough_16 : decode cX0_takeCough 16 = .ok (.iconst 1, 1) := by decide +kernel
theorem dX0_takeCough_17 : decode cX0_takeCough 17 = .ok (.iadd, 1) := by decide +kernel
theorem dX0_takeCough_18 : decode cX0_takeCough 18 = .ok (.putfield 78, 3) := by decide +kernel
theorem dX0_takeCough_21 : decode cX0_takeCough 21 = .ok (.aload_n 0, 1) := by decide +kernel
theorem dX0_takeCough_22 : decode cX0_takeCough 22 = .ok (.getfield 13, 3) := by decide +kernel
theorem dX0_takeCough_25 : decode cX0_takeCough 25 = .ok (.iload_n 1, 1) := by decide +kernel
theorem dX0_takeCough_26 : decode cX0_takeCough 26 = .ok (.aaload, 1) := by decide +kernel
theorem dX0_takeCough_27 : decode cX0_takeCough 27 = .ok (.dup, 1) := by decide +kernel
theorem dX0_takeCough_28 : decode cX0_takeCough 28 = .ok (.getfield 150, 3) := by decide +kernel
theorem dX0_takeCough_31 : decode cX0_takeCough 31 = .ok (.iconst 1, 1) := by decide +kernel
theorem dX0_takeCough_32 : decode cX0_takeCough 32 = .ok (.iadd, 1) := by decide +kernel
theorem dX0_takeCough_33 : decode cX0_takeCough 33 = .ok (.putfield 150, 3) := by decide +kernel
theorem dX0_takeCough_36 : decode cX0_takeCough 36 = .ok (.aload_n 0, 1) := by decide +kernel
theorem dX0_takeCough_37 : decode cX0_takeCough 37 = .ok (.iload_n 1, 1) := by decide +kernel
theorem dX0_takeCough_38 : decode cX0_takeCough 38 = .ok (.invokevirtual 151, 3) := by decide +kernel
theorem dX0_takeCough_41 : decode cX0_takeCough 41 = .ok (.ifCond .eq 5, 3) := by decide +kernel
theorem dX0_takeCough_44 : decode cX0_takeCough 44 = .ok (.iconst 0, 1) := by decide +kernel
theorem dX0_takeCough_45 : decode cX0_takeCough 45 = .ok (.ireturn, 1) := by decide +kernel
theorem dX0_takeCough_46 : decode cX0_takeCough 46 = .ok (.aload_n 0, 1) := by decide +kernel
theorem dX0_takeCough_47 : decode cX0_takeCough 47 = .ok (.getfield 35, 3) := by decide +kernel
theorem dX0_takeCough_50 : decode cX0_takeCough 50 = .ok (.invokevirtual 147, 3) := by decide +kernel
theorem dX0_takeCough_53 : decode cX0_takeCough 53 = .ok (.istore_n 3, 1) := by decide +kernel
theorem dX0_takeCough_54 : decode cX0_takeCough 54 = .ok (.aload_n 0, 1) := by decide +kernel
theorem dX0_takeCough_55 : decode cX0_takeCough 55 = .ok (.getfield 35, 3) := by decide +kernel
theorem dX0_takeCough_58 : decode cX0_takeCough 58 = .ok (.iload_n 3, 1) := by decide +kernel
theorem dX0_takeCough_59 : decode cX0_takeCough 59 = .ok (.iload_n 1, 1) := by decide +kernel
theorem dX0_takeCough_60 : decode cX0_takeCough 60 = .ok (.iload_n 2, 1) := by decide +kernel
theorem dX0_takeCough_61 : decode cX0_takeCough 61 = .ok (.invokevirtual 155, 3) := by decide +kernel
theorem dX0_takeCough_64 : decode cX0_takeCough 64 = .ok (.aload_n 0, 1) := by decide +kernel
theorem dX0_takeCough_65 : decode cX0_takeCough 65 = .ok (.dup, 1) := by decide +kernel
theorem dX0_takeCough_66 : decode cX0_takeCough 66 = .ok (.getfield 81, 3) := by decide +kernel
theorem dX0_takeCough_69 : decode cX0_takeCough 69 = .ok (.iconst 1, 1) := by decide +kernel
theorem dX0_takeCough_70 : decode cX0_takeCough 70 = .ok (.iadd, 1) := by decide +kernel
theorem dX0_takeCough_71 : decode cX0_takeCough 71 = .ok (.putfield 81, 3) := by decide +kernel
theorem dX0_takeCough_74 : decode cX0_takeCough 74 = .ok (.aload_n 0, 1) := by decide +kernel
theorem dX0_takeCough_75 : decode cX0_takeCough 75 = .ok (.getfield 13, 3) := by decide +kernel
theorem dX0_takeCough_78 : decode cX0_takeCough 78 = .ok (.iload_n 1, 1) := by decide +kernel
theorem dX0_takeCough_79 : decode cX0_takeCough 79 = .ok (.aaload, 1) := by decide +kernel
theorem dX0_takeCough_80 : decode cX0_takeCough 80 = .ok (.dup, 1) := by decide +kernel
theorem dX0_takeCough_81 : decode cX0_takeCough 81 = .ok (.getfield 159, 3) := by decide +kernel
theorem dX0_takeCough_84 : decode cX0_takeCough 84 = .ok (.iconst 1, 1) := by decide +kernel
theorem dX0_takeCough_85 : decode cX0_takeCough 85 = .ok (.iadd, 1) := by decide +kernel
theorem dX0_takeCough_86 : decode cX0_takeCough 86 = .ok (.putfield 159, 3) := by decide +kernel
theorem dX0_takeCough_89 : decode cX0_takeCough 89 = .ok (.aload_n 0, 1) := by decide +kernel
theorem dX0_takeCough_90 : decode cX0_takeCough 90 = .ok (.getfield 13, 3) := by decide +kernel
theorem dX0_takeCough_93 : decode cX0_takeCough 93 = .ok (.iload_n 1, 1) := by decide +kernel
theorem dX0_takeCough_94 : decode cX0_takeCough 94 = .ok (.aaload, 1) := by decide +kernel
theorem dX0_takeCough_95 : decode cX0_takeCough 95 = .ok (.getfield 117, 3) := by decide +kernel
theorem dX0_takeCough_98 : decode cX0_takeCough 98 = .ok (.aload_n 0, 1) := by decide +kernel
theorem dX0_takeCough_99 : decode cX0_takeCough 99 = .ok (.getfield 13, 3) := by decide +kernel
theorem dX0_takeCough_102 : decode cX0_takeCough 102 = .ok (.iload_n 1, 1) := by decide +kernel
theorem dX0_takeCough_103 : decode cX0_takeCough 103 = .ok (.aaload, 1) := by decide +kernel
theorem dX0_takeCough_104 : decode cX0_takeCough 104 = .ok (.getfield 160, 3) := by decide +kernel
theorem dX0_takeCough_107 : decode cX0_takeCough 107 = .ok (.if_icmp .le 7, 3) := by decide +kernel
theorem dX0_takeCough_110 : decode cX0_takeCough 110 = .ok (.aload_n 0, 1) := by decide +kernel
theorem dX0_takeCough_111 : decode cX0_takeCough 111 = .ok (.invokevirtual 163, 3) := by decide +kernel
theorem dX0_takeCough_114 : decode cX0_takeCough 114 = .ok (.iload_n 3, 1) := by decide +kernel
theorem dX0_takeCough_115 : decode cX0_takeCough 115 = .ok (.ireturn, 1) := by decide +kernel
theorem dX0_doubtBid_0 : decode cX0_doubtBid 0 = .ok (.aload_n 0, 1) := by decide +kernel
theorem dX0_doubtBid_1 : decode cX0_doubtBid 1 = .ok (.dup, 1) := by decide +kernel
theorem dX0_doubtBid_2 : decode cX0_doubtBid 2 = .ok (.getfield 84, 3) := by decide +kernel
theorem dX0_doubtBid_5 : decode cX0_doubtBid 5 = .ok (.iconst 1, 1) := by decide +kernel
theorem dX0_doubtBid_6 : decode cX0_doubtBid 6 = .ok (.iadd, 1) := by decide +kernel
theorem dX0_doubtBid_7 : decode cX0_doubtBid 7 = .ok (.putfield 84, 3) := by decide +kernel
theorem dX0_doubtBid_10 : decode cX0_doubtBid 10 = .ok (.aload_n 0, 1) := by decide +kernel
theorem dX0_doubtBid_11 : decode cX0_doubtBid 11 = .ok (.getfield 35, 3) := by decide +kernel
theorem dX0_doubtBid_14 : decode cX0_doubtBid 14 = .ok (.dup, 1) := by decide +kernel
theorem dX0_doubtBid_15 : decode cX0_doubtBid 15 = .ok (.getfield 166, 3) := by decide +kernel
theorem dX0_doubtBid_18 : decode cX0_doubtBid 18 = .ok (.iconst 1, 1) := by decide +kernel
theorem dX0_doubtBid_19 : decode cX0_doubtBid 19 = .ok (.iadd, 1) := by decide +kernel
theorem dX0_doubtBid_20 : decode cX0_doubtBid 20 = .ok (.putfield 166, 3) := by decide +kernel
theorem dX0_doubtBid_23 : decode cX0_doubtBid 23 = .ok (.aload_n 0, 1) := by decide +kernel
theorem dX0_doubtBid_24 : decode cX0_doubtBid 24 = .ok (.getfield 35, 3) := by decide +kernel
theorem dX0_doubtBid_27 : decode cX0_doubtBid 27 = .ok (.getfield 166, 3) := by decide +kernel
theorem dX0_doubtBid_30 : decode cX0_doubtBid 30 = .ok (.aload_n 0, 1) := by decide +kernel
theorem dX0_doubtBid_31 : decode cX0_doubtBid 31 = .ok (.getfield 32, 3) := by decide +kernel
theorem dX0_doubtBid_34 : decode cX0_doubtBid 34 = .ok (.iconst 1, 1) := by decide +kernel
theorem dX0_doubtBid_35 : decode cX0_doubtBid 35 = .ok (.iaload, 1) := by decide +kernel
theorem dX0_doubtBid_36 : decode cX0_doubtBid 36 = .ok (.if_icmp .lt 8, 3) := by decide +kernel
theorem dX0_doubtBid_39 : decode cX0_doubtBid 39 = .ok (.aload_n 0, 1) := by decide +kernel
theorem dX0_doubtBid_40 : decode cX0_doubtBid 40 = .ok (.iconst 1, 1) := by decide +kernel
theorem dX0_doubtBid_41 : decode cX0_doubtBid 41 = .ok (.invokevirtual 167, 3) := by decide +kernel
theorem dX0_doubtBid_44 : decode cX0_doubtBid 44 = .ok (.return_, 1) := by decide +kernel
theorem dX0_isDueToCough_0 : decode cX0_isDueToCough 0 = .ok (.aload_n 0, 1) := by decide +kernel
theorem dX0_isDueToCough_1 : decode cX0_isDueToCough 1 = .ok (.getfield 13, 3) := by decide +kernel
theorem dX0_isDueToCough_4 : decode cX0_isDueToCough 4 = .ok (.iload_n 1, 1) := by decide +kernel
theorem dX0_isDueToCough_5 : decode cX0_isDueToCough 5 = .ok (.aaload, 1) := by decide +kernel
theorem dX0_isDueToCough_6 : decode cX0_isDueToCough 6 = .ok (.getfield 117, 3) := by decide +kernel
theorem dX0_isDueToCough_9 : decode cX0_isDueToCough 9 = .ok (.istore_n 2, 1) := by decide +kernel
theorem dX0_isDueToCough_10 : decode cX0_isDueToCough 10 = .ok (.bipush 7, 2) := by decide +kernel
theorem dX0_isDueToCough_12 : decode cX0_isDueToCough 12 = .ok (.iload_n 2, 1) := by decide +kernel
theorem dX0_isDueToCough_13 : decode cX0_isDueToCough 13 = .ok (.isub, 1) := by decide +kernel
theorem dX0_isDueToCough_14 : decode cX0_isDueToCough 14 = .ok (.istore_n 3, 1) := by decide +kernel
theorem dX0_isDueToCough_15 : decode cX0_isDueToCough 15 = .ok (.iload_n 2, 1) := by decide +kernel
theorem dX0_isDueToCough_16 : decode cX0_isDueToCough 16 = .ok (.ifCond .le 22, 3) := by decide +kernel
theorem dX0_isDueToCough_19 : decode cX0_isDueToCough 19 = .ok (.iload_n 3, 1) := by decide +kernel
theorem dX0_isDueToCough_20 : decode cX0_isDueToCough 20 = .ok (.ifCond .le 18, 3) := by decide +kernel
theorem dX0_isDueToCough_23 : decode cX0_isDueToCough 23 = .ok (.aload_n 0, 1) := by decide +kernel
theorem dX0_isDueToCough_24 : decode cX0_isDueToCough 24 = .ok (.getfield 66, 3) := by decide +kernel
theorem dX0_isDueToCough_27 : decode cX0_isDueToCough 27 = .ok (.iload_n 1, 1) := by decide +kernel
theorem dX0_isDueToCough_28 : decode cX0_isDueToCough 28 = .ok (.iadd, 1) := by decide +kernel
theorem dX0_isDueToCough_29 : decode cX0_isDueToCough 29 = .ok (.iload_n 3, 1) := by decide +kernel
theorem dX0_isDueToCough_30 : decode cX0_isDueToCough 30 = .ok (.irem, 1) := by decide +kernel
theorem dX0_isDueToCough_31 : decode cX0_isDueToCough 31 = .ok (.ifCond .ne 7, 3) := by decide +kernel
theorem dX0_isDueToCough_34 : decode cX0_isDueToCough 34 = .ok (.iconst 1, 1) := by decide +kernel
theorem dX0_isDueToCough_35 : decode cX0_isDueToCough 35 = .ok (.goto 4, 3) := by decide +kernel
theorem dX0_isDueToCough_38 : decode cX0_isDueToCough 38 = .ok (.iconst 0, 1) := by decide +kernel
theorem dX0_isDueToCough_39 : decode cX0_isDueToCough 39 = .ok (.ireturn, 1) := by decide +kernel
theorem dX0_passBeats_0 : decode cX0_passBeats 0 = .ok (.iload_n 1, 1) := by decide +kernel
theorem dX0_passBeats_1 : decode cX0_passBeats 1 = .ok (.iconst 1, 1) := by decide +kernel
theorem dX0_passBeats_2 : decode cX0_passBeats 2 = .ok (.bipush 50, 2) := by decide +kernel
theorem dX0_passBeats_4 : decode cX0_passBeats 4 = .ok (.invokestatic 98, 3) := by decide +kernel
theorem dX0_passBeats_7 : decode cX0_passBeats 7 = .ok (.ifCond .ne 6, 3) := by decide +kernel
theorem dX0_passBeats_10 : decode cX0_passBeats 10 = .ok (.ldc 102, 2) := by decide +kernel
theorem dX0_passBeats_12 : decode cX0_passBeats 12 = .ok (.ireturn, 1) := by decide +kernel
theorem dX0_passBeats_13 : decode cX0_passBeats 13 = .ok (.aload_n 0, 1) := by decide +kernel
theorem dX0_passBeats_14 : decode cX0_passBeats 14 = .ok (.getfield 66, 3) := by decide +kernel
theorem dX0_passBeats_17 : decode cX0_passBeats 17 = .ok (.iload_n 1, 1) := by decide +kernel
theorem dX0_passBeats_18 : decode cX0_passBeats 18 = .ok (.iadd, 1) := by decide +kernel
theorem dX0_passBeats_19 : decode cX0_passBeats 19 = .ok (.sipush 9999, 3) := by decide +kernel
theorem dX0_passBeats_22 : decode cX0_passBeats 22 = .ok (.if_icmp .le 6, 3) := by decide +kernel
theorem dX0_passBeats_25 : decode cX0_passBeats 25 = .ok (.ldc 108, 2) := by decide +kernel
theorem dX0_passBeats_27 : decode cX0_passBeats 27 = .ok (.ireturn, 1) := by decide +kernel
theorem dX0_passBeats_28 : decode cX0_passBeats 28 = .ok (.aload_n 0, 1) := by decide +kernel
theorem dX0_passBeats_29 : decode cX0_passBeats 29 = .ok (.getfield 56, 3) := by decide +kernel
theorem dX0_passBeats_32 : decode cX0_passBeats 32 = .ok (.istore_n 2, 1) := by decide +kernel
theorem dX0_passBeats_33 : decode cX0_passBeats 33 = .ok (.iconst 0, 1) := by decide +kernel
theorem dX0_passBeats_34 : decode cX0_passBeats 34 = .ok (.istore_n 3, 1) := by decide +kernel
theorem dX0_passBeats_35 : decode cX0_passBeats 35 = .ok (.iload_n 3, 1) := by decide +kernel
theorem dX0_passBeats_36 : decode cX0_passBeats 36 = .ok (.iload_n 1, 1) := by decide +kernel
theorem dX0_passBeats_37 : decode cX0_passBeats 37 = .ok (.if_icmp .ge 13, 3) := by decide +kernel
theorem dX0_passBeats_40 : decode cX0_passBeats 40 = .ok (.aload_n 0, 1) := by decide +kernel
theorem dX0_passBeats_41 : decode cX0_passBeats 41 = .ok (.invokevirtual 171, 3) := by decide +kernel
theorem dX0_passBeats_44 : decode cX0_passBeats 44 = .ok (.iinc 3 1, 3) := by decide +kernel
theorem dX0_passBeats_47 : decode cX0_passBeats 47 = .ok (.goto (-12), 3) := by decide +kernel
theorem dX0_passBeats_50 : decode cX0_passBeats 50 = .ok (.iload_n 2, 1) := by decide +kernel
theorem dX0_passBeats_51 : decode cX0_passBeats 51 = .ok (.ifCond .eq 14, 3) := by decide +kernel
theorem dX0_passBeats_54 : decode cX0_passBeats 54 = .ok (.aload_n 0, 1) := by decide +kernel
theorem dX0_passBeats_55 : decode cX0_passBeats 55 = .ok (.getfield 56, 3) := by decide +kernel
theorem dX0_passBeats_58 : decode cX0_passBeats 58 = .ok (.ifCond .ne 7, 3) := by decide +kernel
theorem dX0_passBeats_61 : decode cX0_passBeats 61 = .ok (.iconst 1, 1) := by decide +kernel
theorem dX0_passBeats_62 : decode cX0_passBeats 62 = .ok (.goto 4, 3) := by decide +kernel
theorem dX0_passBeats_65 : decode cX0_passBeats 65 = .ok (.iconst 0, 1) := by decide +kernel
theorem dX0_passBeats_66 : decode cX0_passBeats 66 = .ok (.ireturn, 1) := by decide +kernel
theorem dX0_passBeat_0 : decode cX0_passBeat 0 = .ok (.aload_n 0, 1) := by decide +kernel
theorem dX0_passBeat_1 : decode cX0_passBeat 1 = .ok (.getfield 56, 3) := by decide +kernel
theorem dX0_passBeat_4 : decode cX0_passBeat 4 = .ok (.ifCond .eq 34, 3) := by decide +kernel
theorem dX0_passBeat_7 : decode cX0_passBeat 7 = .ok (.iconst 0, 1) := by decide +kernel
theorem dX0_passBeat_8 : decode cX0_passBeat 8 = .ok (.istore_n 1, 1) := by decide +kernel
theorem dX0_passBeat_9 : decode cX0_passBeat 9 = .ok (.iload_n 1, 1) := by decide +kernel
theorem dX0_passBeat_10 : decode cX0_passBeat 10 = .ok (.aload_n 0, 1) := by decide +kernel
theorem dX0_passBeat_11 : decode cX0_passBeat 11 = .ok (.getfield 39, 3) := by decide +kernel
theorem dX0_passBeat_14 : decode cX0_passBeat 14 = .ok (.if_icmp .ge 24, 3) := by decide +kernel
theorem dX0_passBeat_17 : decode cX0_passBeat 17 = .ok (.aload_n 0, 1) := by decide +kernel
theorem dX0_passBeat_18 : decode cX0_passBeat 18 = .ok (.iload_n 1, 1) := by decide +kernel
theorem dX0_passBeat_19 : decode cX0_passBeat 19 = .ok (.invokevirtual 174, 3) := by decide +kernel
theorem dX0_passBeat_22 : decode cX0_passBeat 22 = .ok (.ifCond .eq 10, 3) := by decide +kernel
theorem dX0_passBeat_25 : decode cX0_passBeat 25 = .ok (.aload_n 0, 1) := by decide +kernel
theorem dX0_passBeat_26 : decode cX0_passBeat 26 = .ok (.iload_n 1, 1) := by decide +kernel
theorem dX0_passBeat_27 : decode cX0_passBeat 27 = .ok (.iconst 1, 1) := by decide +kernel
theorem dX0_passBeat_28 : decode cX0_passBeat 28 = .ok (.invokevirtual 177, 3) := by decide +kernel
theorem dX0_passBeat_31 : decode cX0_passBeat 31 = .ok (.pop, 1) := by decide +kernel
theorem dX0_passBeat_32 : decode cX0_passBeat 32 = .ok (.iinc 1 1, 3) := by decide +kernel
theorem dX0_passBeat_35 : decode cX0_passBeat 35 = .ok (.goto (-26), 3) := by decide +kernel
theorem dX0_passBeat_38 : decode cX0_passBeat 38 = .ok (.aload_n 0, 1) := by decide +kernel
theorem dX0_passBeat_39 : decode cX0_passBeat 39 = .ok (.dup, 1) := by decide +kernel
theorem dX0_passBeat_40 : decode cX0_passBeat 40 = .ok (.getfield 66, 3) := by decide +kernel
theorem dX0_passBeat_43 : decode cX0_passBeat 43 = .ok (.iconst 1, 1) := by decide +kernel
theorem dX0_passBeat_44 : decode cX0_passBeat 44 = .ok (.iadd, 1) := by decide +kernel
theorem dX0_passBeat_45 : decode cX0_passBeat 45 = .ok (.putfield 66, 3) := by decide +kernel
theorem dX0_passBeat_48 : decode cX0_passBeat 48 = .ok (.aload_n 0, 1) := by decide +kernel
theorem dX0_passBeat_49 : decode cX0_passBeat 49 = .ok (.getfield 56, 3) := by decide +kernel
theorem dX0_passBeat_52 : decode cX0_passBeat 52 = .ok (.ifCond .eq 7, 3) := by decide +kernel
theorem dX0_passBeat_55 : decode cX0_passBeat 55 = .ok (.aload_n 0, 1) := by decide +kernel
theorem dX0_passBeat_56 : decode cX0_passBeat 56 = .ok (.invokevirtual 181, 3) := by decide +kernel
theorem dX0_passBeat_59 : decode cX0_passBeat 59 = .ok (.return_, 1) := by decide +kernel
theorem dX0_hushOrHammer_0 : decode cX0_hushOrHammer 0 = .ok (.aload_n 0, 1) := by decide +kernel
theorem dX0_hushOrHammer_1 : decode cX0_hushOrHammer 1 = .ok (.getfield 35, 3) := by decide +kernel
theorem dX0_hushOrHammer_4 : decode cX0_hushOrHammer 4 = .ok (.aload_n 0, 1) := by decide +kernel
theorem dX0_hushOrHammer_5 : decode cX0_hushOrHammer 5 = .ok (.getfield 35, 3) := by decide +kernel
theorem dX0_hushOrHammer_8 : decode cX0_hushOrHammer 8 = .ok (.getfield 184, 3) := by decide +kernel
theorem dX0_hushOrHammer_11 : decode cX0_hushOrHammer 11 = .ok (.ifCond .eq 7, 3) := by decide +kernel
theorem dX0_hushOrHammer_14 : decode cX0_hushOrHammer 14 = .ok (.iconst 0, 1) := by decide +kernel
theorem dX0_hushOrHammer_15 : decode cX0_hushOrHammer 15 = .ok (.goto 12, 3) := by decide +kernel
theorem dX0_hushOrHammer_18 : decode cX0_hushOrHammer 18 = .ok (.aload_n 0, 1) := by decide +kernel
theorem dX0_hushOrHammer_19 : decode cX0_hushOrHammer 19 = .ok (.getfield 35, 3) := by decide +kernel
theorem dX0_hushOrHammer_22 : decode cX0_hushOrHammer 22 = .ok (.getfield 187, 3) := by decide +kernel
theorem dX0_hushOrHammer_25 : decode cX0_hushOrHammer 25 = .ok (.iconst 1, 1) := by decide +kernel
theorem dX0_hushOrHammer_26 : decode cX0_hushOrHammer 26 = .ok (.iadd, 1) := by decide +kernel
theorem dX0_hushOrHammer_27 : decode cX0_hushOrHammer 27 = .ok (.putfield 187, 3) := by decide +kernel
theorem dX0_hushOrHammer_30 : decode cX0_hushOrHammer 30 = .ok (.aload_n 0, 1) := by decide +kernel
theorem dX0_hushOrHammer_31 : decode cX0_hushOrHammer 31 = .ok (.getfield 35, 3) := by decide +kernel
theorem dX0_hushOrHammer_34 : decode cX0_hushOrHammer 34 = .ok (.iconst 0, 1) := by decide +kernel
theorem dX0_hushOrHammer_35 : decode cX0_hushOrHammer 35 = .ok (.putfield 184, 3) := by decide +kernel
theorem dX0_hushOrHammer_38 : decode cX0_hushOrHammer 38 = .ok (.aload_n 0, 1) := by decide +kernel
theorem dX0_hushOrHammer_39 : decode cX0_hushOrHammer 39 = .ok (.getfield 35, 3) := by decide +kernel
theorem dX0_hushOrHammer_42 : decode cX0_hushOrHammer 42 = .ok (.getfield 187, 3) := by decide +kernel
theorem dX0_hushOrHammer_45 : decode cX0_hushOrHammer 45 = .ok (.aload_n 0, 1) := by decide +kernel
theorem dX0_hushOrHammer_46 : decode cX0_hushOrHammer 46 = .ok (.getfield 32, 3) := by decide +kernel
theorem dX0_hushOrHammer_49 : decode cX0_hushOrHammer 49 = .ok (.iconst 2, 1) := by decide +kernel
theorem dX0_hushOrHammer_50 : decode cX0_hushOrHammer 50 = .ok (.iaload, 1) := by decide +kernel
theorem dX0_hushOrHammer_51 : decode cX0_hushOrHammer 51 = .ok (.if_icmp .lt 7, 3) := by decide +kernel
theorem dX0_hushOrHammer_54 : decode cX0_hushOrHammer 54 = .ok (.aload_n 0, 1) := by decide +kernel
theorem dX0_hushOrHammer_55 : decode cX0_hushOrHammer 55 = .ok (.invokevirtual 190, 3) := by decide +kernel
theorem dX0_hushOrHammer_58 : decode cX0_hushOrHammer 58 = .ok (.return_, 1) := by decide +kernel
theorem dX0_letHammerFall_0 : decode cX0_letHammerFall 0 = .ok (.aload_n 0, 1) := by decide +kernel
theorem dX0_letHammerFall_1 : decode cX0_letHammerFall 1 = .ok (.getfield 35, 3) := by decide +kernel
theorem dX0_letHammerFall_4 : decode cX0_letHammerFall 4 = .ok (.invokevirtual 137, 3) := by decide +kernel
theorem dX0_letHammerFall_7 : decode cX0_letHammerFall 7 = .ok (.ifCond .eq 17, 3) := by decide +kernel
theorem dX0_letHammerFall_10 : decode cX0_letHammerFall 10 = .ok (.aload_n 0, 1) := by decide +kernel
theorem dX0_letHammerFall_11 : decode cX0_letHammerFall 11 = .ok (.aload_n 0, 1) := by decide +kernel
theorem dX0_letHammerFall_12 : decode cX0_letHammerFall 12 = .ok (.getfield 35, 3) := by decide +kernel
theorem dX0_letHammerFall_15 : decode cX0_letHammerFall 15 = .ok (.getfield 141, 3) := by decide +kernel
theorem dX0_letHammerFall_18 : decode cX0_letHammerFall 18 = .ok (.invokevirtual 113, 3) := by decide +kernel
theorem dX0_letHammerFall_21 : decode cX0_letHammerFall 21 = .ok (.ifCond .ne 11, 3) := by decide +kernel
theorem dX0_letHammerFall_24 : decode cX0_letHammerFall 24 = .ok (.aload_n 0, 1) := by decide +kernel
theorem dX0_letHammerFall_25 : decode cX0_letHammerFall 25 = .ok (.iconst 2, 1) := by decide +kernel
theorem dX0_letHammerFall_26 : decode cX0_letHammerFall 26 = .ok (.invokevirtual 167, 3) := by decide +kernel
theorem dX0_letHammerFall_29 : decode cX0_letHammerFall 29 = .ok (.goto 64, 3) := by decide +kernel
theorem dX0_letHammerFall_32 : decode cX0_letHammerFall 32 = .ok (.aload_n 0, 1) := by decide +kernel
theorem dX0_letHammerFall_33 : decode cX0_letHammerFall 33 = .ok (.getfield 35, 3) := by decide +kernel
theorem dX0_letHammerFall_36 : decode cX0_letHammerFall 36 = .ok (.getfield 193, 3) := by decide +kernel
theorem dX0_letHammerFall_39 : decode cX0_letHammerFall 39 = .ok (.ifCond .eq 11, 3) := by decide +kernel
theorem dX0_letHammerFall_42 : decode cX0_letHammerFall 42 = .ok (.aload_n 0, 1) := by decide +kernel
theorem dX0_letHammerFall_43 : decode cX0_letHammerFall 43 = .ok (.iconst 3, 1) := by decide +kernel
theorem dX0_letHammerFall_44 : decode cX0_letHammerFall 44 = .ok (.invokevirtual 167, 3) := by decide +kernel
theorem dX0_letHammerFall_47 : decode cX0_letHammerFall 47 = .ok (.goto 46, 3) := by decide +kernel
theorem dX0_letHammerFall_50 : decode cX0_letHammerFall 50 = .ok (.aload_n 0, 1) := by decide +kernel
theorem dX0_letHammerFall_51 : decode cX0_letHammerFall 51 = .ok (.dup, 1) := by decide +kernel
theorem dX0_letHammerFall_52 : decode cX0_letHammerFall 52 = .ok (.getfield 75, 3) := by decide +kernel
theorem dX0_letHammerFall_55 : decode cX0_letHammerFall 55 = .ok (.aload_n 0, 1) := by decide +kernel
theorem dX0_letHammerFall_56 : decode cX0_letHammerFall 56 = .ok (.getfield 35, 3) := by decide +kernel
theorem dX0_letHammerFall_59 : decode cX0_letHammerFall 59 = .ok (.getfield 196, 3) := by decide +kernel
theorem dX0_letHammerFall_62 : decode cX0_letHammerFall 62 = .ok (.iadd, 1) := by decide +kernel
theorem dX0_letHammerFall_63 : decode cX0_letHammerFall 63 = .ok (.putfield 75, 3) := by decide +kernel
theorem dX0_letHammerFall_66 : decode cX0_letHammerFall 66 = .ok (.aload_n 0, 1) := by decide +kernel
theorem dX0_letHammerFall_67 : decode cX0_letHammerFall 67 = .ok (.getfield 13, 3) := by decide +kernel
theorem dX0_letHammerFall_70 : decode cX0_letHammerFall 70 = .ok (.aload_n 0, 1) := by decide +kernel
theorem dX0_letHammerFall_71 : decode cX0_letHammerFall 71 = .ok (.getfield 35, 3) := by decide +kernel
theorem dX0_letHammerFall_74 : decode cX0_letHammerFall 74 = .ok (.getfield 141, 3) := by decide +kernel
theorem dX0_letHammerFall_77 : decode cX0_letHammerFall 77 = .ok (.aaload, 1) := by decide +kernel
theorem dX0_letHammerFall_78 : decode cX0_letHammerFall 78 = .ok (.aload_n 0, 1) := by decide +kernel
theorem dX0_letHammerFall_79 : decode cX0_letHammerFall 79 = .ok (.getfield 35, 3) := by decide +kernel
theorem dX0_letHammerFall_82 : decode cX0_letHammerFall 82 = .ok (.getfield 196, 3) := by decide +kernel
theorem dX0_letHammerFall_85 : decode cX0_letHammerFall 85 = .ok (.invokevirtual 199, 3) := by decide +kernel
theorem dX0_letHammerFall_88 : decode cX0_letHammerFall 88 = .ok (.aload_n 0, 1) := by decide +kernel
theorem dX0_letHammerFall_89 : decode cX0_letHammerFall 89 = .ok (.iconst 0, 1) := by decide +kernel
theorem dX0_letHammerFall_90 : decode cX0_letHammerFall 90 = .ok (.invokevirtual 167, 3) := by decide +kernel
theorem dX0_letHammerFall_93 : decode cX0_letHammerFall 93 = .ok (.return_, 1) := by decide +kernel
theorem dX0_passNight_0 : decode cX0_passNight 0 = .ok (.aload_n 0, 1) := by decide +kernel
theorem dX0_passNight_1 : decode cX0_passNight 1 = .ok (.getfield 56, 3) := by decide +kernel
theorem dX0_passNight_4 : decode cX0_passNight 4 = .ok (.ifCond .eq 6, 3) := by decide +kernel
theorem dX0_passNight_7 : decode cX0_passNight 7 = .ok (.ldc 107, 2) := by decide +kernel
theorem dX0_passNight_9 : decode cX0_passNight 9 = .ok (.ireturn, 1) := by decide +kernel
theorem dX0_passNight_10 : decode cX0_passNight 10 = .ok (.aload_n 0, 1) := by decide +kernel
theorem dX0_passNight_11 : decode cX0_passNight 11 = .ok (.getfield 69, 3) := by decide +kernel
theorem dX0_passNight_14 : decode cX0_passNight 14 = .ok (.sipush 999, 3) := by decide +kernel
theorem dX0_passNight_17 : decode cX0_passNight 17 = .ok (.if_icmp .lt 6, 3) := by decide +kernel
theorem dX0_passNight_20 : decode cX0_passNight 20 = .ok (.ldc 108, 2) := by decide +kernel
theorem dX0_passNight_22 : decode cX0_passNight 22 = .ok (.ireturn, 1) := by decide +kernel
theorem dX0_passNight_23 : decode cX0_passNight 23 = .ok (.aload_n 0, 1) := by decide +kernel
theorem dX0_passNight_24 : decode cX0_passNight 24 = .ok (.invokevirtual 202, 3) := by decide +kernel
theorem dX0_passNight_27 : decode cX0_passNight 27 = .ok (.aload_n 0, 1) := by decide +kernel
theorem dX0_passNight_28 : decode cX0_passNight 28 = .ok (.dup, 1) := by decide +kernel
theorem dX0_passNight_29 : decode cX0_passNight 29 = .ok (.getfield 69, 3) := by decide +kernel
theorem dX0_passNight_32 : decode cX0_passNight 32 = .ok (.iconst 1, 1) := by decide +kernel
theorem dX0_passNight_33 : decode cX0_passNight 33 = .ok (.iadd, 1) := by decide +kernel
theorem dX0_passNight_34 : decode cX0_passNight 34 = .ok (.putfield 69, 3) := by decide +kernel
theorem dX0_passNight_37 : decode cX0_passNight 37 = .ok (.aload_n 0, 1) := by decide +kernel
theorem dX0_passNight_38 : decode cX0_passNight 38 = .ok (.invokevirtual 205, 3) := by decide +kernel
theorem dX0_passNight_41 : decode cX0_passNight 41 = .ok (.invokestatic 208, 3) := by decide +kernel
theorem dX0_passNight_44 : decode cX0_passNight 44 = .ok (.ireturn, 1) := by decide +kernel
theorem dX0_spreadColds_0 : decode cX0_spreadColds 0 = .ok (.iconst 0, 1) := by decide +kernel
theorem dX0_spreadColds_1 : decode cX0_spreadColds 1 = .ok (.istore_n 1, 1) := by decide +kernel
theorem dX0_spreadColds_2 : decode cX0_spreadColds 2 = .ok (.iconst 0, 1) := by decide +kernel
theorem dX0_spreadColds_3 : decode cX0_spreadColds 3 = .ok (.istore_n 2, 1) := by decide +kernel
theorem dX0_spreadColds_4 : decode cX0_spreadColds 4 = .ok (.iload_n 2, 1) := by decide +kernel
theorem dX0_spreadColds_5 : decode cX0_spreadColds 5 = .ok (.aload_n 0, 1) := by decide +kernel
theorem dX0_spreadColds_6 : decode cX0_spreadColds 6 = .ok (.getfield 39, 3) := by decide +kernel
theorem dX0_spreadColds_9 : decode cX0_spreadColds 9 = .ok (.if_icmp .ge 28, 3) := by decide +kernel
theorem dX0_spreadColds_12 : decode cX0_spreadColds 12 = .ok (.aload_n 0, 1) := by decide +kernel
theorem dX0_spreadColds_13 : decode cX0_spreadColds 13 = .ok (.aload_n 0, 1) := by decide +kernel
theorem dX0_spreadColds_14 : decode cX0_spreadColds 14 = .ok (.getfield 13, 3) := by decide +kernel
theorem dX0_spreadColds_17 : decode cX0_spreadColds 17 = .ok (.iload_n 2, 1) := by decide +kernel
theorem dX0_spreadColds_18 : decode cX0_spreadColds 18 = .ok (.aaload, 1) := by decide +kernel
theorem dX0_spreadColds_19 : decode cX0_spreadColds 19 = .ok (.invokevirtual 213, 3) := by decide +kernel
theorem dX0_spreadColds_22 : decode cX0_spreadColds 22 = .ok (.ifCond .eq 9, 3) := by decide +kernel
theorem dX0_spreadColds_25 : decode cX0_spreadColds 25 = .ok (.iload_n 1, 1) := by decide +kernel
theorem dX0_spreadColds_26 : decode cX0_spreadColds 26 = .ok (.iconst 1, 1) := by decide +kernel
theorem dX0_spreadColds_27 : decode cX0_spreadColds 27 = .ok (.iload_n 2, 1) := by decide +kernel
theorem dX0_spreadColds_28 : decode cX0_spreadColds 28 = .ok (.ishl, 1) := by decide +kernel
theorem dX0_spreadColds_29 : decode cX0_spreadColds 29 = .ok (.ior, 1) := by decide +kernel
theorem dX0_spreadColds_30 : decode cX0_spreadColds 30 = .ok (.istore_n 1, 1) := by decide +kernel
theorem dX0_spreadColds_31 : decode cX0_spreadColds 31 = .ok (.iinc 2 1, 3) := by decide +kernel
theorem dX0_spreadColds_34 : decode cX0_spreadColds 34 = .ok (.goto (-30), 3) := by decide +kernel
theorem dX0_spreadColds_37 : decode cX0_spreadColds 37 = .ok (.iconst 0, 1) := by decide +kernel
theorem dX0_spreadColds_38 : decode cX0_spreadColds 38 = .ok (.istore_n 2, 1) := by decide +kernel
theorem dX0_spreadColds_39 : decode cX0_spreadColds 39 = .ok (.iload_n 2, 1) := by decide +kernel
theorem dX0_spreadColds_40 : decode cX0_spreadColds 40 = .ok (.aload_n 0, 1) := by decide +kernel
theorem dX0_spreadColds_41 : decode cX0_spreadColds 41 = .ok (.getfield 39, 3) := by decide +kernel
theorem dX0_spreadColds_44 : decode cX0_spreadColds 44 = .ok (.if_icmp .ge 63, 3) := by decide +kernel
theorem dX0_spreadColds_47 : decode cX0_spreadColds 47 = .ok (.aload_n 0, 1) := by decide +kernel
theorem dX0_spreadColds_48 : decode cX0_spreadColds 48 = .ok (.getfield 13, 3) := by decide +kernel
theorem dX0_spreadColds_51 : decode cX0_spreadColds 51 = .ok (.iload_n 2, 1) := by decide +kernel
theorem dX0_spreadColds_52 : decode cX0_spreadColds 52 = .ok (.aaload, 1) := by decide +kernel
theorem dX0_spreadColds_53 : decode cX0_spreadColds 53 = .ok (.getfield 117, 3) := by decide +kernel
theorem dX0_spreadColds_56 : decode cX0_spreadColds 56 = .ok (.istore_n 3, 1) := by decide +kernel
theorem dX0_spreadColds_57 : decode cX0_spreadColds 57 = .ok (.iload_n 1, 1) := by decide +kernel
theorem dX0_spreadColds_58 : decode cX0_spreadColds 58 = .ok (.iload_n 2, 1) := by decide +kernel
theorem dX0_spreadColds_59 : decode cX0_spreadColds 59 = .ok (.ishr, 1) := by decide +kernel
theorem dX0_spreadColds_60 : decode cX0_spreadColds 60 = .ok (.iconst 1, 1) := by decide +kernel
theorem dX0_spreadColds_61 : decode cX0_spreadColds 61 = .ok (.iand, 1) := by decide +kernel
theorem dX0_spreadColds_62 : decode cX0_spreadColds 62 = .ok (.iconst 1, 1) := by decide +kernel
theorem dX0_spreadColds_63 : decode cX0_spreadColds 63 = .ok (.if_icmp .ne 22, 3) := by decide +kernel
theorem dX0_spreadColds_66 : decode cX0_spreadColds 66 = .ok (.aload_n 0, 1) := by decide +kernel
theorem dX0_spreadColds_67 : decode cX0_spreadColds 67 = .ok (.getfield 13, 3) := by decide +kernel
theorem dX0_spreadColds_70 : decode cX0_spreadColds 70 = .ok (.iload_n 2, 1) := by decide +kernel
theorem dX0_spreadColds_71 : decode cX0_spreadColds 71 = .ok (.aaload, 1) := by decide +kernel
theorem dX0_spreadColds_72 : decode cX0_spreadColds 72 = .ok (.iload_n 3, 1) := by decide +kernel
theorem dX0_spreadColds_73 : decode cX0_spreadColds 73 = .ok (.iconst 1, 1) := by decide +kernel
theorem dX0_spreadColds_74 : decode cX0_spreadColds 74 = .ok (.iadd, 1) := by decide +kernel
theorem dX0_spreadColds_75 : decode cX0_spreadColds 75 = .ok (.iconst 5, 1) := by decide +kernel
theorem dX0_spreadColds_76 : decode cX0_spreadColds 76 = .ok (.invokestatic 217, 3) := by decide +kernel
theorem dX0_spreadColds_79 : decode cX0_spreadColds 79 = .ok (.putfield 117, 3) := by decide +kernel
theorem dX0_spreadColds_82 : decode cX0_spreadColds 82 = .ok (.goto 19, 3) := by decide +kernel
theorem dX0_spreadColds_85 : decode cX0_spreadColds 85 = .ok (.aload_n 0, 1) := by decide +kernel
theorem dX0_spreadColds_86 : decode cX0_spreadColds 86 = .ok (.getfield 13, 3) := by decide +kernel
theorem dX0_spreadColds_89 : decode cX0_spreadColds 89 = .ok (.iload_n 2, 1) := by decide +kernel
theorem dX0_spreadColds_90 : decode cX0_spreadColds 90 = .ok (.aaload, 1) := by decide +kernel
theorem dX0_spreadColds_91 : decode cX0_spreadColds 91 = .ok (.iload_n 3, 1) := by decide +kernel
theorem dX0_spreadColds_92 : decode cX0_spreadColds 92 = .ok (.iconst 1, 1) := by decide +kernel
theorem dX0_spreadColds_93 : decode cX0_spreadColds 93 = .ok (.isub, 1) := by decide +kernel
theorem dX0_spreadColds_94 : decode cX0_spreadColds 94 = .ok (.iconst 0, 1) := by decide +kernel
theorem dX0_spreadColds_95 : decode cX0_spreadColds 95 = .ok (.invokestatic 222, 3) := by decide +kernel
theorem dX0_spreadColds_98 : decode cX0_spreadColds 98 = .ok (.putfield 117, 3) := by decide +kernel
theorem dX0_spreadColds_101 : decode cX0_spreadColds 101 = .ok (.iinc 2 1, 3) := by decide +kernel
theorem dX0_spreadColds_104 : decode cX0_spreadColds 104 = .ok (.goto (-65), 3) := by decide +kernel
theorem dX0_spreadColds_107 : decode cX0_spreadColds 107 = .ok (.return_, 1) := by decide +kernel
theorem dX0_sitsBesideCold_0 : decode cX0_sitsBesideCold 0 = .ok (.iconst 0, 1) := by decide +kernel
theorem dX0_sitsBesideCold_1 : decode cX0_sitsBesideCold 1 = .ok (.istore_n 2, 1) := by decide +kernel
theorem dX0_sitsBesideCold_2 : decode cX0_sitsBesideCold 2 = .ok (.iload_n 2, 1) := by decide +kernel
theorem dX0_sitsBesideCold_3 : decode cX0_sitsBesideCold 3 = .ok (.aload_n 0, 1) := by decide +kernel
theorem dX0_sitsBesideCold_4 : decode cX0_sitsBesideCold 4 = .ok (.getfield 39, 3) := by decide +kernel
theorem dX0_sitsBesideCold_7 : decode cX0_sitsBesideCold 7 = .ok (.if_icmp .ge 39, 3) := by decide +kernel
theorem dX0_sitsBesideCold_10 : decode cX0_sitsBesideCold 10 = .ok (.aload_n 0, 1) := by decide +kernel
theorem dX0_sitsBesideCold_11 : decode cX0_sitsBesideCold 11 = .ok (.getfield 13, 3) := by decide +kernel
theorem dX0_sitsBesideCold_14 : decode cX0_sitsBesideCold 14 = .ok (.iload_n 2, 1) := by decide +kernel
theorem dX0_sitsBesideCold_15 : decode cX0_sitsBesideCold 15 = .ok (.aaload, 1) := by decide +kernel
theorem dX0_sitsBesideCold_16 : decode cX0_sitsBesideCold 16 = .ok (.astore_n 3, 1) := by decide +kernel
theorem dX0_sitsBesideCold_17 : decode cX0_sitsBesideCold 17 = .ok (.aload_n 3, 1) := by decide +kernel
theorem dX0_sitsBesideCold_18 : decode cX0_sitsBesideCold 18 = .ok (.aload_n 1, 1) := by decide +kernel
theorem dX0_sitsBesideCold_19 : decode cX0_sitsBesideCold 19 = .ok (.invokevirtual 225, 3) := by decide +kernel
theorem dX0_sitsBesideCold_22 : decode cX0_sitsBesideCold 22 = .ok (.ifCond .eq 18, 3) := by decide +kernel
theorem dX0_sitsBesideCold_25 : decode cX0_sitsBesideCold 25 = .ok (.aload_n 3, 1) := by decide +kernel
theorem dX0_sitsBesideCold_26 : decode cX0_sitsBesideCold 26 = .ok (.getfield 117, 3) := by decide +kernel
theorem dX0_sitsBesideCold_29 : decode cX0_sitsBesideCold 29 = .ok (.aload_n 3, 1) := by decide +kernel
theorem dX0_sitsBesideCold_30 : decode cX0_sitsBesideCold 30 = .ok (.getfield 120, 3) := by decide +kernel
theorem dX0_sitsBesideCold_33 : decode cX0_sitsBesideCold 33 = .ok (.isub, 1) := by decide +kernel
theorem dX0_sitsBesideCold_34 : decode cX0_sitsBesideCold 34 = .ok (.iconst 2, 1) := by decide +kernel
theorem dX0_sitsBesideCold_35 : decode cX0_sitsBesideCold 35 = .ok (.if_icmp .lt 5, 3) := by decide +kernel
theorem dX0_sitsBesideCold_38 : decode cX0_sitsBesideCold 38 = .ok (.iconst 1, 1) := by decide +kernel
theorem dX0_sitsBesideCold_39 : decode cX0_sitsBesideCold 39 = .ok (.ireturn, 1) := by decide +kernel
theorem dX0_sitsBesideCold_40 : decode cX0_sitsBesideCold 40 = .ok (.iinc 2 1, 3) := by decide +kernel
theorem dX0_sitsBesideCold_43 : decode cX0_sitsBesideCold 43 = .ok (.goto (-41), 3) := by decide +kernel
theorem dX0_sitsBesideCold_46 : decode cX0_sitsBesideCold 46 = .ok (.iconst 0, 1) := by decide +kernel
theorem dX0_sitsBesideCold_47 : decode cX0_sitsBesideCold 47 = .ok (.ireturn, 1) := by decide +kernel
theorem dX0_coinsGoneFromPurses_0 : decode cX0_coinsGoneFromPurses 0 = .ok (.iconst 0, 1) := by decide +kernel
theorem dX0_coinsGoneFromPurses_1 : decode cX0_coinsGoneFromPurses 1 = .ok (.istore_n 1, 1) := by decide +kernel
theorem dX0_coinsGoneFromPurses_2 : decode cX0_coinsGoneFromPurses 2 = .ok (.iconst 0, 1) := by decide +kernel
theorem dX0_coinsGoneFromPurses_3 : decode cX0_coinsGoneFromPurses 3 = .ok (.istore_n 2, 1) := by decide +kernel
theorem dX0_coinsGoneFromPurses_4 : decode cX0_coinsGoneFromPurses 4 = .ok (.iload_n 2, 1) := by decide +kernel
theorem dX0_coinsGoneFromPurses_5 : decode cX0_coinsGoneFromPurses 5 = .ok (.aload_n 0, 1) := by decide +kernel
theorem dX0_coinsGoneFromPurses_6 : decode cX0_coinsGoneFromPurses 6 = .ok (.getfield 39, 3) := by decide +kernel
theorem dX0_coinsGoneFromPurses_9 : decode cX0_coinsGoneFromPurses 9 = .ok (.if_icmp .ge 31, 3) := by decide +kernel
theorem dX0_coinsGoneFromPurses_12 : decode cX0_coinsGoneFromPurses 12 = .ok (.iload_n 1, 1) := by decide +kernel
theorem dX0_coinsGoneFromPurses_13 : decode cX0_coinsGoneFromPurses 13 = .ok (.aload_n 0, 1) := by decide +kernel
theorem dX0_coinsGoneFromPurses_14 : decode cX0_coinsGoneFromPurses 14 = .ok (.getfield 13, 3) := by decide +kernel
theorem dX0_coinsGoneFromPurses_17 : decode cX0_coinsGoneFromPurses 17 = .ok (.iload_n 2, 1) := by decide +kernel
theorem dX0_coinsGoneFromPurses_18 : decode cX0_coinsGoneFromPurses 18 = .ok (.aaload, 1) := by decide +kernel
theorem dX0_coinsGoneFromPurses_19 : decode cX0_coinsGoneFromPurses 19 = .ok (.getfield 228, 3) := by decide +kernel
theorem dX0_coinsGoneFromPurses_22 : decode cX0_coinsGoneFromPurses 22 = .ok (.aload_n 0, 1) := by decide +kernel
theorem dX0_coinsGoneFromPurses_23 : decode cX0_coinsGoneFromPurses 23 = .ok (.getfield 13, 3) := by decide +kernel
theorem dX0_coinsGoneFromPurses_26 : decode cX0_coinsGoneFromPurses 26 = .ok (.iload_n 2, 1) := by decide +kernel
theorem dX0_coinsGoneFromPurses_27 : decode cX0_coinsGoneFromPurses 27 = .ok (.aaload, 1) := by decide +kernel
theorem dX0_coinsGoneFromPurses_28 : decode cX0_coinsGoneFromPurses 28 = .ok (.getfield 144, 3) := by decide +kernel
theorem dX0_coinsGoneFromPurses_31 : decode cX0_coinsGoneFromPurses 31 = .ok (.isub, 1) := by decide +kernel
theorem dX0_coinsGoneFromPurses_32 : decode cX0_coinsGoneFromPurses 32 = .ok (.iadd, 1) := by decide +kernel
theorem dX0_coinsGoneFromPurses_33 : decode cX0_coinsGoneFromPurses 33 = .ok (.istore_n 1, 1) := by decide +kernel
theorem dX0_coinsGoneFromPurses_34 : decode cX0_coinsGoneFromPurses 34 = .ok (.iinc 2 1, 3) := by decide +kernel
theorem dX0_coinsGoneFromPurses_37 : decode cX0_coinsGoneFromPurses 37 = .ok (.goto (-33), 3) := by decide +kernel
theorem dX0_coinsGoneFromPurses_40 : decode cX0_coinsGoneFromPurses 40 = .ok (.iload_n 1, 1) := by decide +kernel
theorem dX0_coinsGoneFromPurses_41 : decode cX0_coinsGoneFromPurses 41 = .ok (.ireturn, 1) := by decide +kernel
theorem dX0_total_0 : decode cX0_total 0 = .ok (.iload_n 1, 1) := by decide +kernel
theorem dX0_total_1 : decode cX0_total 1 = .ok (.tableswitch 229 0 22 #[107, 112, 117, 122, 135, 140, 147, 154, 161, 166, 171, 176, 181, 186, 191, 196, 229, 229, 201, 229, 208, 215, 222], 107) := by decide +kernel
theorem dX0_total_108 : decode cX0_total 108 = .ok (.aload_n 0, 1) := by decide +kernel
theorem dX0_total_109 : decode cX0_total 109 = .ok (.getfield 66, 3) := by decide +kernel
theorem dX0_total_112 : decode cX0_total 112 = .ok (.ireturn, 1) := by decide +kernel
theorem dX0_total_113 : decode cX0_total 113 = .ok (.aload_n 0, 1) := by decide +kernel
theorem dX0_total_114 : decode cX0_total 114 = .ok (.getfield 39, 3) := by decide +kernel
theorem dX0_total_117 : decode cX0_total 117 = .ok (.ireturn, 1) := by decide +kernel
theorem dX0_total_118 : decode cX0_total 118 = .ok (.aload_n 0, 1) := by decide +kernel
theorem dX0_total_119 : decode cX0_total 119 = .ok (.getfield 47, 3) := by decide +kernel
theorem dX0_total_122 : decode cX0_total 122 = .ok (.ireturn, 1) := by decide +kernel
theorem dX0_total_123 : decode cX0_total 123 = .ok (.aload_n 0, 1) := by decide +kernel
theorem dX0_total_124 : decode cX0_total 124 = .ok (.getfield 56, 3) := by decide +kernel
theorem dX0_total_127 : decode cX0_total 127 = .ok (.ifCond .eq 7, 3) := by decide +kernel
theorem dX0_total_130 : decode cX0_total 130 = .ok (.iconst 1, 1) := by decide +kernel
theorem dX0_total_131 : decode cX0_total 131 = .ok (.goto 4, 3) := by decide +kernel
theorem dX0_total_134 : decode cX0_total 134 = .ok (.iconst 0, 1) := by decide +kernel
theorem dX0_total_135 : decode cX0_total 135 = .ok (.ireturn, 1) := by decide +kernel
theorem dX0_total_136 : decode cX0_total 136 = .ok (.aload_n 0, 1) := by decide +kernel
theorem dX0_total_137 : decode cX0_total 137 = .ok (.getfield 72, 3) := by decide +kernel
theorem dX0_total_140 : decode cX0_total 140 = .ok (.ireturn, 1) := by decide +kernel
theorem dX0_total_141 : decode cX0_total 141 = .ok (.aload_n 0, 1) := by decide +kernel
theorem dX0_total_142 : decode cX0_total 142 = .ok (.getfield 28, 3) := by decide +kernel
theorem dX0_total_145 : decode cX0_total 145 = .ok (.iconst 0, 1) := by decide +kernel
theorem dX0_total_146 : decode cX0_total 146 = .ok (.iaload, 1) := by decide +kernel
theorem dX0_total_147 : decode cX0_total 147 = .ok (.ireturn, 1) := by decide +kernel
theorem dX0_total_148 : decode cX0_total 148 = .ok (.aload_n 0, 1) := by decide +kernel
theorem dX0_total_149 : decode cX0_total 149 = .ok (.getfield 28, 3) := by decide +kernel
theorem dX0_total_152 : decode cX0_total 152 = .ok (.iconst 1, 1) := by decide +kernel
theorem dX0_total_153 : decode cX0_total 153 = .ok (.iaload, 1) := by decide +kernel
theorem dX0_total_154 : decode cX0_total 154 = .ok (.ireturn, 1) := by decide +kernel
theorem dX0_total_155 : decode cX0_total 155 = .ok (.aload_n 0, 1) := by decide +kernel
theorem dX0_total_156 : decode cX0_total 156 = .ok (.getfield 28, 3) := by decide +kernel
theorem dX0_total_159 : decode cX0_total 159 = .ok (.iconst 2, 1) := by decide +kernel
theorem dX0_total_160 : decode cX0_total 160 = .ok (.iaload, 1) := by decide +kernel
theorem dX0_total_161 : decode cX0_total 161 = .ok (.ireturn, 1) := by decide +kernel
theorem dX0_total_162 : decode cX0_total 162 = .ok (.aload_n 0, 1) := by decide +kernel
theorem dX0_total_163 : decode cX0_total 163 = .ok (.getfield 75, 3) := by decide +kernel
theorem dX0_total_166 : decode cX0_total 166 = .ok (.ireturn, 1) := by decide +kernel
theorem dX0_total_167 : decode cX0_total 167 = .ok (.aload_n 0, 1) := by decide +kernel
theorem dX0_total_168 : decode cX0_total 168 = .ok (.invokevirtual 231, 3) := by decide +kernel
theorem dX0_total_171 : decode cX0_total 171 = .ok (.ireturn, 1) := by decide +kernel
theorem dX0_total_172 : decode cX0_total 172 = .ok (.aload_n 0, 1) := by decide +kernel
theorem dX0_total_173 : decode cX0_total 173 = .ok (.getfield 78, 3) := by decide +kernel
theorem dX0_total_176 : decode cX0_total 176 = .ok (.ireturn, 1) := by decide +kernel
theorem dX0_total_177 : decode cX0_total 177 = .ok (.aload_n 0, 1) := by decide +kernel
theorem dX0_total_178 : decode cX0_total 178 = .ok (.getfield 81, 3) := by decide +kernel
theorem dX0_total_181 : decode cX0_total 181 = .ok (.ireturn, 1) := by decide +kernel
theorem dX0_total_182 : decode cX0_total 182 = .ok (.aload_n 0, 1) := by decide +kernel
theorem dX0_total_183 : decode cX0_total 183 = .ok (.getfield 84, 3) := by decide +kernel
theorem dX0_total_186 : decode cX0_total 186 = .ok (.ireturn, 1) := by decide +kernel
theorem dX0_total_187 : decode cX0_total 187 = .ok (.aload_n 0, 1) := by decide +kernel
theorem dX0_total_188 : decode cX0_total 188 = .ok (.invokevirtual 205, 3) := by decide +kernel
theorem dX0_total_191 : decode cX0_total 191 = .ok (.ireturn, 1) := by decide +kernel
theorem dX0_total_192 : decode cX0_total 192 = .ok (.aload_n 0, 1) := by decide +kernel
theorem dX0_total_193 : decode cX0_total 193 = .ok (.getfield 69, 3) := by decide +kernel
theorem dX0_total_196 : decode cX0_total 196 = .ok (.ireturn, 1) := by decide +kernel
theorem dX0_total_197 : decode cX0_total 197 = .ok (.aload_n 0, 1) := by decide +kernel
theorem dX0_total_198 : decode cX0_total 198 = .ok (.getfield 53, 3) := by decide +kernel
theorem dX0_total_201 : decode cX0_total 201 = .ok (.ireturn, 1) := by decide +kernel
theorem dX0_total_202 : decode cX0_total 202 = .ok (.aload_n 0, 1) := by decide +kernel
theorem dX0_total_203 : decode cX0_total 203 = .ok (.getfield 28, 3) := by decide +kernel
theorem dX0_total_206 : decode cX0_total 206 = .ok (.iconst 3, 1) := by decide +kernel
theorem dX0_total_207 : decode cX0_total 207 = .ok (.iaload, 1) := by decide +kernel
theorem dX0_total_208 : decode cX0_total 208 = .ok (.ireturn, 1) := by decide +kernel
theorem dX0_total_209 : decode cX0_total 209 = .ok (.aload_n 0, 1) := by decide +kernel
theorem dX0_total_210 : decode cX0_total 210 = .ok (.getfield 32, 3) := by decide +kernel
theorem dX0_total_213 : decode cX0_total 213 = .ok (.iconst 0, 1) := by decide +kernel
theorem dX0_total_214 : decode cX0_total 214 = .ok (.iaload, 1) := by decide +kernel
theorem dX0_total_215 : decode cX0_total 215 = .ok (.ireturn, 1) := by decide +kernel
theorem dX0_total_216 : decode cX0_total 216 = .ok (.aload_n 0, 1) := by decide +kernel
theorem dX0_total_217 : decode cX0_total 217 = .ok (.getfield 32, 3) := by decide +kernel
theorem dX0_total_220 : decode cX0_total 220 = .ok (.iconst 1, 1) := by decide +kernel
theorem dX0_total_221 : decode cX0_total 221 = .ok (.iaload, 1) := by decide +kernel
theorem dX0_total_222 : decode cX0_total 222 = .ok (.ireturn, 1) := by decide +kernel
theorem dX0_total_223 : decode cX0_total 223 = .ok (.aload_n 0, 1) := by decide +kernel
theorem dX0_total_224 : decode cX0_total 224 = .ok (.getfield 32, 3) := by decide +kernel
theorem dX0_total_227 : decode cX0_total 227 = .ok (.iconst 2, 1) := by decide +kernel
theorem dX0_total_228 : decode cX0_total 228 = .ok (.iaload, 1) := by decide +kernel
theorem dX0_total_229 : decode cX0_total 229 = .ok (.ireturn, 1) := by decide +kernel
theorem dX0_total_230 : decode cX0_total 230 = .ok (.ldc 102, 2) := by decide +kernel
theorem dX0_total_232 : decode cX0_total 232 = .ok (.ireturn, 1) := by decide +kernel
theorem dX1_init_0 : decode cX1_init 0 = .ok (.aload_n 0, 1) := by decide +kernel
theorem dX1_init_1 : decode cX1_init 1 = .ok (.invokespecial 3, 3) := by decide +kernel
theorem dX1_init_4 : decode cX1_init 4 = .ok (.return_, 1) := by decide +kernel
theorem dX1_sitDown_0 : decode cX1_sitDown 0 = .ok (.aload_n 0, 1) := by decide +kernel
theorem dX1_sitDown_1 : decode cX1_sitDown 1 = .ok (.iload_n 1, 1) := by decide +kernel
theorem dX1_sitDown_2 : decode cX1_sitDown 2 = .ok (.putfield 9, 3) := by decide +kernel
theorem dX1_sitDown_5 : decode cX1_sitDown 5 = .ok (.aload_n 0, 1) := by decide +kernel
theorem dX1_sitDown_6 : decode cX1_sitDown 6 = .ok (.iload_n 2, 1) := by decide +kernel
theorem dX1_sitDown_7 : decode cX1_sitDown 7 = .ok (.putfield 15, 3) := by decide +kernel
theorem dX1_sitDown_10 : decode cX1_sitDown 10 = .ok (.aload_n 0, 1) := by decide +kernel
theorem dX1_sitDown_11 : decode cX1_sitDown 11 = .ok (.iload_n 3, 1) := by decide +kernel
theorem dX1_sitDown_12 : decode cX1_sitDown 12 = .ok (.putfield 18, 3) := by decide +kernel
theorem dX1_sitDown_15 : decode cX1_sitDown 15 = .ok (.aload_n 0, 1) := by decide +kernel
theorem dX1_sitDown_16 : decode cX1_sitDown 16 = .ok (.iload_n 3, 1) := by decide +kernel
theorem dX1_sitDown_17 : decode cX1_sitDown 17 = .ok (.putfield 21, 3) := by decide +kernel
theorem dX1_sitDown_20 : decode cX1_sitDown 20 = .ok (.aload_n 0, 1) := by decide +kernel
theorem dX1_sitDown_21 : decode cX1_sitDown 21 = .ok (.iload 4, 2) := by decide +kernel
theorem dX1_sitDown_23 : decode cX1_sitDown 23 = .ok (.putfield 24, 3) := by decide +kernel
theorem dX1_sitDown_26 : decode cX1_sitDown 26 = .ok (.aload_n 0, 1) := by decide +kernel
theorem dX1_sitDown_27 : decode cX1_sitDown 27 = .ok (.iconst 0, 1) := by decide +kernel
theorem dX1_sitDown_28 : decode cX1_sitDown 28 = .ok (.putfield 27, 3) := by decide +kernel
theorem dX1_sitDown_31 : decode cX1_sitDown 31 = .ok (.aload_n 0, 1) := by decide +kernel
theorem dX1_sitDown_32 : decode cX1_sitDown 32 = .ok (.iconst 0, 1) := by decide +kernel
theorem dX1_sitDown_33 : decode cX1_sitDown 33 = .ok (.putfield 30, 3) := by decide +kernel
theorem dX1_sitDown_36 : decode cX1_sitDown 36 = .ok (.aload_n 0, 1) := by decide +kernel
theorem dX1_sitDown_37 : decode cX1_sitDown 37 = .ok (.iconst 0, 1) := by decide +kernel
theorem dX1_sitDown_38 : decode cX1_sitDown 38 = .ok (.putfield 33, 3) := by decide +kernel
theorem dX1_sitDown_41 : decode cX1_sitDown 41 = .ok (.aload_n 0, 1) := by decide +kernel
theorem dX1_sitDown_42 : decode cX1_sitDown 42 = .ok (.iconst 0, 1) := by decide +kernel
theorem dX1_sitDown_43 : decode cX1_sitDown 43 = .ok (.putfield 36, 3) := by decide +kernel
theorem dX1_sitDown_46 : decode cX1_sitDown 46 = .ok (.aload_n 0, 1) := by decide +kernel
theorem dX1_sitDown_47 : decode cX1_sitDown 47 = .ok (.iconst 0, 1) := by decide +kernel
theorem dX1_sitDown_48 : decode cX1_sitDown 48 = .ok (.putfield 39, 3) := by decide +kernel
theorem dX1_sitDown_51 : decode cX1_sitDown 51 = .ok (.aload_n 0, 1) := by decide +kernel
theorem dX1_sitDown_52 : decode cX1_sitDown 52 = .ok (.iconst 0, 1) := by decide +kernel
theorem dX1_sitDown_53 : decode cX1_sitDown 53 = .ok (.putfield 42, 3) := by decide +kernel
theorem dX1_sitDown_56 : decode cX1_sitDown 56 = .ok (.return_, 1) := by decide +kernel
theorem dX1_copyFrom_0 : decode cX1_copyFrom 0 = .ok (.aload_n 0, 1) := by decide +kernel
theorem dX1_copyFrom_1 : decode cX1_copyFrom 1 = .ok (.aload_n 1, 1) := by decide +kernel
theorem dX1_copyFrom_2 : decode cX1_copyFrom 2 = .ok (.getfield 9, 3) := by decide +kernel
theorem dX1_copyFrom_5 : decode cX1_copyFrom 5 = .ok (.putfield 9, 3) := by decide +kernel
theorem dX1_copyFrom_8 : decode cX1_copyFrom 8 = .ok (.aload_n 0, 1) := by decide +kernel
theorem dX1_copyFrom_9 : decode cX1_copyFrom 9 = .ok (.aload_n 1, 1) := by decide +kernel
theorem dX1_copyFrom_10 : decode cX1_copyFrom 10 = .ok (.getfield 15, 3) := by decide +kernel
theorem dX1_copyFrom_13 : decode cX1_copyFrom 13 = .ok (.putfield 15, 3) := by decide +kernel
theorem dX1_copyFrom_16 : decode cX1_copyFrom 16 = .ok (.aload_n 0, 1) := by decide +kernel
theorem dX1_copyFrom_17 : decode cX1_copyFrom 17 = .ok (.aload_n 1, 1) := by decide +kernel
theorem dX1_copyFrom_18 : decode cX1_copyFrom 18 = .ok (.getfield 18, 3) := by decide +kernel
theorem dX1_copyFrom_21 : decode cX1_copyFrom 21 = .ok (.putfield 18, 3) := by decide +kernel
theorem dX1_copyFrom_24 : decode cX1_copyFrom 24 = .ok (.aload_n 0, 1) := by decide +kernel
theorem dX1_copyFrom_25 : decode cX1_copyFrom 25 = .ok (.aload_n 1, 1) := by decide +kernel
theorem dX1_copyFrom_26 : decode cX1_copyFrom 26 = .ok (.getfield 21, 3) := by decide +kernel
theorem dX1_copyFrom_29 : decode cX1_copyFrom 29 = .ok (.putfield 21, 3) := by decide +kernel
theorem dX1_copyFrom_32 : decode cX1_copyFrom 32 = .ok (.aload_n 0, 1) := by decide +kernel
theorem dX1_copyFrom_33 : decode cX1_copyFrom 33 = .ok (.aload_n 1, 1) := by decide +kernel
theorem dX1_copyFrom_34 : decode cX1_copyFrom 34 = .ok (.getfield 24, 3) := by decide +kernel
theorem dX1_copyFrom_37 : decode cX1_copyFrom 37 = .ok (.putfield 24, 3) := by decide +kernel
theorem dX1_copyFrom_40 : decode cX1_copyFrom 40 = .ok (.aload_n 0, 1) := by decide +kernel
theorem dX1_copyFrom_41 : decode cX1_copyFrom 41 = .ok (.aload_n 1, 1) := by decide +kernel
theorem dX1_copyFrom_42 : decode cX1_copyFrom 42 = .ok (.getfield 27, 3) := by decide +kernel
theorem dX1_copyFrom_45 : decode cX1_copyFrom 45 = .ok (.putfield 27, 3) := by decide +kernel
theorem dX1_copyFrom_48 : decode cX1_copyFrom 48 = .ok (.aload_n 0, 1) := by decide +kernel
theorem dX1_copyFrom_49 : decode cX1_copyFrom 49 = .ok (.aload_n 1, 1) := by decide +kernel
theorem dX1_copyFrom_50 : decode cX1_copyFrom 50 = .ok (.getfield 30, 3) := by decide +kernel
theorem dX1_copyFrom_53 : decode cX1_copyFrom 53 = .ok (.putfield 30, 3) := by decide +kernel
theorem dX1_copyFrom_56 : decode cX1_copyFrom 56 = .ok (.aload_n 0, 1) := by decide +kernel
theorem dX1_copyFrom_57 : decode cX1_copyFrom 57 = .ok (.aload_n 1, 1) := by decide +kernel
theorem dX1_copyFrom_58 : decode cX1_copyFrom 58 = .ok (.getfield 33, 3) := by decide +kernel
theorem dX1_copyFrom_61 : decode cX1_copyFrom 61 = .ok (.putfield 33, 3) := by decide +kernel
theorem dX1_copyFrom_64 : decode cX1_copyFrom 64 = .ok (.aload_n 0, 1) := by decide +kernel
theorem dX1_copyFrom_65 : decode cX1_copyFrom 65 = .ok (.aload_n 1, 1) := by decide +kernel
theorem dX1_copyFrom_66 : decode cX1_copyFrom 66 = .ok (.getfield 36, 3) := by decide +kernel
theorem dX1_copyFrom_69 : decode cX1_copyFrom 69 = .ok (.putfield 36, 3) := by decide +kernel
theorem dX1_copyFrom_72 : decode cX1_copyFrom 72 = .ok (.aload_n 0, 1) := by decide +kernel
theorem dX1_copyFrom_73 : decode cX1_copyFrom 73 = .ok (.aload_n 1, 1) := by decide +kernel
theorem dX1_copyFrom_74 : decode cX1_copyFrom 74 = .ok (.getfield 39, 3) := by decide +kernel
theorem dX1_copyFrom_77 : decode cX1_copyFrom 77 = .ok (.putfield 39, 3) := by decide +kernel
theorem dX1_copyFrom_80 : decode cX1_copyFrom 80 = .ok (.aload_n 0, 1) := by decide +kernel
theorem dX1_copyFrom_81 : decode cX1_copyFrom 81 = .ok (.aload_n 1, 1) := by decide +kernel
theorem dX1_copyFrom_82 : decode cX1_copyFrom 82 = .ok (.getfield 42, 3) := by decide +kernel
theorem dX1_copyFrom_85 : decode cX1_copyFrom 85 = .ok (.putfield 42, 3) := by decide +kernel
theorem dX1_copyFrom_88 : decode cX1_copyFrom 88 = .ok (.return_, 1) := by decide +kernel
theorem dX1_loudness_0 : decode cX1_loudness 0 = .ok (.aload_n 0, 1) := by decide +kernel
theorem dX1_loudness_1 : decode cX1_loudness 1 = .ok (.getfield 24, 3) := by decide +kernel
theorem dX1_loudness_4 : decode cX1_loudness 4 = .ok (.aload_n 0, 1) := by decide +kernel
theorem dX1_loudness_5 : decode cX1_loudness 5 = .ok (.getfield 27, 3) := by decide +kernel
theorem dX1_loudness_8 : decode cX1_loudness 8 = .ok (.iadd, 1) := by decide +kernel
theorem dX1_loudness_9 : decode cX1_loudness 9 = .ok (.aload_n 0, 1) := by decide +kernel
theorem dX1_loudness_10 : decode cX1_loudness 10 = .ok (.getfield 30, 3) := by decide +kernel
theorem dX1_loudness_13 : decode cX1_loudness 13 = .ok (.isub, 1) := by decide +kernel
theorem dX1_loudness_14 : decode cX1_loudness 14 = .ok (.aload_n 0, 1) := by decide +kernel
theorem dX1_loudness_15 : decode cX1_loudness 15 = .ok (.getfield 9, 3) := by decide +kernel
theorem dX1_loudness_18 : decode cX1_loudness 18 = .ok (.isub, 1) := by decide +kernel
theorem dX1_loudness_19 : decode cX1_loudness 19 = .ok (.ireturn, 1) := by decide +kernel
theorem dX1_isBeside_0 : decode cX1_isBeside 0 = .ok (.aload_n 0, 1) := by decide +kernel
theorem dX1_isBeside_1 : decode cX1_isBeside 1 = .ok (.getfield 9, 3) := by decide +kernel
theorem dX1_isBeside_4 : decode cX1_isBeside 4 = .ok (.aload_n 1, 1) := by decide +kernel
theorem dX1_isBeside_5 : decode cX1_isBeside 5 = .ok (.getfield 9, 3) := by decide +kernel
theorem dX1_isBeside_8 : decode cX1_isBeside 8 = .ok (.if_icmp .ne 33, 3) := by decide +kernel
theorem dX1_isBeside_11 : decode cX1_isBeside 11 = .ok (.aload_n 0, 1) := by decide +kernel
theorem dX1_isBeside_12 : decode cX1_isBeside 12 = .ok (.getfield 15, 3) := by decide +kernel
theorem dX1_isBeside_15 : decode cX1_isBeside 15 = .ok (.aload_n 1, 1) := by decide +kernel
theorem dX1_isBeside_16 : decode cX1_isBeside 16 = .ok (.getfield 15, 3) := by decide +kernel
theorem dX1_isBeside_19 : decode cX1_isBeside 19 = .ok (.iconst 1, 1) := by decide +kernel
theorem dX1_isBeside_20 : decode cX1_isBeside 20 = .ok (.isub, 1) := by decide +kernel
theorem dX1_isBeside_21 : decode cX1_isBeside 21 = .ok (.if_icmp .eq 16, 3) := by decide +kernel
theorem dX1_isBeside_24 : decode cX1_isBeside 24 = .ok (.aload_n 0, 1) := by decide +kernel
theorem dX1_isBeside_25 : decode cX1_isBeside 25 = .ok (.getfield 15, 3) := by decide +kernel
theorem dX1_isBeside_28 : decode cX1_isBeside 28 = .ok (.aload_n 1, 1) := by decide +kernel
theorem dX1_isBeside_29 : decode cX1_isBeside 29 = .ok (.getfield 15, 3) := by decide +kernel
theorem dX1_isBeside_32 : decode cX1_isBeside 32 = .ok (.iconst 1, 1) := by decide +kernel
theorem dX1_isBeside_33 : decode cX1_isBeside 33 = .ok (.iadd, 1) := by decide +kernel
theorem dX1_isBeside_34 : decode cX1_isBeside 34 = .ok (.if_icmp .ne 7, 3) := by decide +kernel
theorem dX1_isBeside_37 : decode cX1_isBeside 37 = .ok (.iconst 1, 1) := by decide +kernel
theorem dX1_isBeside_38 : decode cX1_isBeside 38 = .ok (.goto 4, 3) := by decide +kernel
theorem dX1_isBeside_41 : decode cX1_isBeside 41 = .ok (.iconst 0, 1) := by decide +kernel
theorem dX1_isBeside_42 : decode cX1_isBeside 42 = .ok (.ireturn, 1) := by decide +kernel
theorem dX1_pay_0 : decode cX1_pay 0 = .ok (.aload_n 0, 1) := by decide +kernel
theorem dX1_pay_1 : decode cX1_pay 1 = .ok (.dup, 1) := by decide +kernel
theorem dX1_pay_2 : decode cX1_pay 2 = .ok (.getfield 18, 3) := by decide +kernel
theorem dX1_pay_5 : decode cX1_pay 5 = .ok (.iload_n 1, 1) := by decide +kernel
theorem dX1_pay_6 : decode cX1_pay 6 = .ok (.isub, 1) := by decide +kernel
theorem dX1_pay_7 : decode cX1_pay 7 = .ok (.putfield 18, 3) := by decide +kernel
theorem dX1_pay_10 : decode cX1_pay 10 = .ok (.aload_n 0, 1) := by decide +kernel
theorem dX1_pay_11 : decode cX1_pay 11 = .ok (.dup, 1) := by decide +kernel
theorem dX1_pay_12 : decode cX1_pay 12 = .ok (.getfield 42, 3) := by decide +kernel
theorem dX1_pay_15 : decode cX1_pay 15 = .ok (.iload_n 1, 1) := by decide +kernel
theorem dX1_pay_16 : decode cX1_pay 16 = .ok (.iadd, 1) := by decide +kernel
theorem dX1_pay_17 : decode cX1_pay 17 = .ok (.putfield 42, 3) := by decide +kernel
theorem dX1_pay_20 : decode cX1_pay 20 = .ok (.aload_n 0, 1) := by decide +kernel
theorem dX1_pay_21 : decode cX1_pay 21 = .ok (.dup, 1) := by decide +kernel
theorem dX1_pay_22 : decode cX1_pay 22 = .ok (.getfield 39, 3) := by decide +kernel
theorem dX1_pay_25 : decode cX1_pay 25 = .ok (.iconst 1, 1) := by decide +kernel
theorem dX1_pay_26 : decode cX1_pay 26 = .ok (.iadd, 1) := by decide +kernel
theorem dX1_pay_27 : decode cX1_pay 27 = .ok (.putfield 39, 3) := by decide +kernel
theorem dX1_pay_30 : decode cX1_pay 30 = .ok (.return_, 1) := by decide +kernel
theorem dX1_tell_0 : decode cX1_tell 0 = .ok (.iload_n 1, 1) := by decide +kernel
theorem dX1_tell_1 : decode cX1_tell 1 = .ok (.tableswitch 117 0 10 #[59, 64, 69, 74, 79, 84, 89, 97, 102, 107, 112], 59) := by decide +kernel
theorem dX1_tell_60 : decode cX1_tell 60 = .ok (.aload_n 0, 1) := by decide +kernel
theorem dX1_tell_61 : decode cX1_tell 61 = .ok (.getfield 9, 3) := by decide +kernel
theorem dX1_tell_64 : decode cX1_tell 64 = .ok (.ireturn, 1) := by decide +kernel
theorem dX1_tell_65 : decode cX1_tell 65 = .ok (.aload_n 0, 1) := by decide +kernel
theorem dX1_tell_66 : decode cX1_tell 66 = .ok (.getfield 15, 3) := by decide +kernel
theorem dX1_tell_69 : decode cX1_tell 69 = .ok (.ireturn, 1) := by decide +kernel
theorem dX1_tell_70 : decode cX1_tell 70 = .ok (.aload_n 0, 1) := by decide +kernel
theorem dX1_tell_71 : decode cX1_tell 71 = .ok (.getfield 18, 3) := by decide +kernel
theorem dX1_tell_74 : decode cX1_tell 74 = .ok (.ireturn, 1) := by decide +kernel
theorem dX1_tell_75 : decode cX1_tell 75 = .ok (.aload_n 0, 1) := by decide +kernel
theorem dX1_tell_76 : decode cX1_tell 76 = .ok (.getfield 24, 3) := by decide +kernel
theorem dX1_tell_79 : decode cX1_tell 79 = .ok (.ireturn, 1) := by decide +kernel
theorem dX1_tell_80 : decode cX1_tell 80 = .ok (.aload_n 0, 1) := by decide +kernel
theorem dX1_tell_81 : decode cX1_tell 81 = .ok (.getfield 27, 3) := by decide +kernel
theorem dX1_tell_84 : decode cX1_tell 84 = .ok (.ireturn, 1) := by decide +kernel
theorem dX1_tell_85 : decode cX1_tell 85 = .ok (.aload_n 0, 1) := by decide +kernel
theorem dX1_tell_86 : decode cX1_tell 86 = .ok (.getfield 30, 3) := by decide +kernel
theorem dX1_tell_89 : decode cX1_tell 89 = .ok (.ireturn, 1) := by decide +kernel
theorem dX1_tell_90 : decode cX1_tell 90 = .ok (.bipush 100, 2) := by decide +kernel
theorem dX1_tell_92 : decode cX1_tell 92 = .ok (.aload_n 0, 1) := by decide +kernel
theorem dX1_tell_93 : decode cX1_tell 93 = .ok (.invokevirtual 45, 3) := by decide +kernel
theorem dX1_tell_96 : decode cX1_tell 96 = .ok (.iadd, 1) := by decide +kernel
theorem dX1_tell_97 : decode cX1_tell 97 = .ok (.ireturn, 1) := by decide +kernel
theorem dX1_tell_98 : decode cX1_tell 98 = .ok (.aload_n 0, 1) := by decide +kernel
theorem dX1_tell_99 : decode cX1_tell 99 = .ok (.getfield 33, 3) := by decide +kernel
theorem dX1_tell_102 : decode cX1_tell 102 = .ok (.ireturn, 1) := by decide +kernel
theorem dX1_tell_103 : decode cX1_tell 103 = .ok (.aload_n 0, 1) := by decide +kernel
theorem dX1_tell_104 : decode cX1_tell 104 = .ok (.getfield 36, 3) := by decide +kernel
theorem dX1_tell_107 : decode cX1_tell 107 = .ok (.ireturn, 1) := by decide +kernel
theorem dX1_tell_108 : decode cX1_tell 108 = .ok (.aload_n 0, 1) := by decide +kernel
theorem dX1_tell_109 : decode cX1_tell 109 = .ok (.getfield 39, 3) := by decide +kernel
theorem dX1_tell_112 : decode cX1_tell 112 = .ok (.ireturn, 1) := by decide +kernel
theorem dX1_tell_113 : decode cX1_tell 113 = .ok (.aload_n 0, 1) := by decide +kernel
theorem dX1_tell_114 : decode cX1_tell 114 = .ok (.getfield 42, 3) := by decide +kernel
theorem dX1_tell_117 : decode cX1_tell 117 = .ok (.ireturn, 1) := by decide +kernel
theorem dX1_tell_118 : decode cX1_tell 118 = .ok (.ldc 49, 2) := by decide +kernel
theorem dX1_tell_120 : decode cX1_tell 120 = .ok (.ireturn, 1) := by decide +kernel
theorem dX2_init_0 : decode cX2_init 0 = .ok (.aload_n 0, 1) := by decide +kernel
theorem dX2_init_1 : decode cX2_init 1 = .ok (.invokespecial 3, 3) := by decide +kernel
theorem dX2_init_4 : decode cX2_init 4 = .ok (.return_, 1) := by decide +kernel
theorem dX2_come_0 : decode cX2_come 0 = .ok (.aload_n 0, 1) := by decide +kernel
theorem dX2_come_1 : decode cX2_come 1 = .ok (.iload_n 1, 1) := by decide +kernel
theorem dX2_come_2 : decode cX2_come 2 = .ok (.putfield 9, 3) := by decide +kernel
theorem dX2_come_5 : decode cX2_come 5 = .ok (.aload_n 0, 1) := by decide +kernel
theorem dX2_come_6 : decode cX2_come 6 = .ok (.iload_n 2, 1) := by decide +kernel
theorem dX2_come_7 : decode cX2_come 7 = .ok (.putfield 15, 3) := by decide +kernel
theorem dX2_come_10 : decode cX2_come 10 = .ok (.aload_n 0, 1) := by decide +kernel
theorem dX2_come_11 : decode cX2_come 11 = .ok (.iconst 0, 1) := by decide +kernel
theorem dX2_come_12 : decode cX2_come 12 = .ok (.putfield 18, 3) := by decide +kernel
theorem dX2_come_15 : decode cX2_come 15 = .ok (.aload_n 0, 1) := by decide +kernel
theorem dX2_come_16 : decode cX2_come 16 = .ok (.iconst (-1), 1) := by decide +kernel
theorem dX2_come_17 : decode cX2_come 17 = .ok (.putfield 21, 3) := by decide +kernel
theorem dX2_come_20 : decode cX2_come 20 = .ok (.aload_n 0, 1) := by decide +kernel
theorem dX2_come_21 : decode cX2_come 21 = .ok (.iconst 0, 1) := by decide +kernel
theorem dX2_come_22 : decode cX2_come 22 = .ok (.putfield 24, 3) := by decide +kernel
theorem dX2_come_25 : decode cX2_come 25 = .ok (.aload_n 0, 1) := by decide +kernel
theorem dX2_come_26 : decode cX2_come 26 = .ok (.iconst 0, 1) := by decide +kernel
theorem dX2_come_27 : decode cX2_come 27 = .ok (.putfield 28, 3) := by decide +kernel
theorem dX2_come_30 : decode cX2_come 30 = .ok (.aload_n 0, 1) := by decide +kernel
theorem dX2_come_31 : decode cX2_come 31 = .ok (.iconst 0, 1) := by decide +kernel
theorem dX2_come_32 : decode cX2_come 32 = .ok (.putfield 31, 3) := by decide +kernel
theorem dX2_come_35 : decode cX2_come 35 = .ok (.aload_n 0, 1) := by decide +kernel
theorem dX2_come_36 : decode cX2_come 36 = .ok (.iconst 0, 1) := by decide +kernel
theorem dX2_come_37 : decode cX2_come 37 = .ok (.putfield 34, 3) := by decide +kernel
theorem dX2_come_40 : decode cX2_come 40 = .ok (.aload_n 0, 1) := by decide +kernel
theorem dX2_come_41 : decode cX2_come 41 = .ok (.iconst 0, 1) := by decide +kernel
theorem dX2_come_42 : decode cX2_come 42 = .ok (.putfield 37, 3) := by decide +kernel
theorem dX2_come_45 : decode cX2_come 45 = .ok (.aload_n 0, 1) := by decide +kernel
theorem dX2_come_46 : decode cX2_come 46 = .ok (.iconst 0, 1) := by decide +kernel
theorem dX2_come_47 : decode cX2_come 47 = .ok (.putfield 40, 3) := by decide +kernel
theorem dX2_come_50 : decode cX2_come 50 = .ok (.return_, 1) := by decide +kernel
theorem dX2_copyFrom_0 : decode cX2_copyFrom 0 = .ok (.aload_n 0, 1) := by decide +kernel
theorem dX2_copyFrom_1 : decode cX2_copyFrom 1 = .ok (.aload_n 1, 1) := by decide +kernel
theorem dX2_copyFrom_2 : decode cX2_copyFrom 2 = .ok (.getfield 9, 3) := by decide +kernel
theorem dX2_copyFrom_5 : decode cX2_copyFrom 5 = .ok (.putfield 9, 3) := by decide +kernel
theorem dX2_copyFrom_8 : decode cX2_copyFrom 8 = .ok (.aload_n 0, 1) := by decide +kernel
theorem dX2_copyFrom_9 : decode cX2_copyFrom 9 = .ok (.aload_n 1, 1) := by decide +kernel
theorem dX2_copyFrom_10 : decode cX2_copyFrom 10 = .ok (.getfield 15, 3) := by decide +kernel
theorem dX2_copyFrom_13 : decode cX2_copyFrom 13 = .ok (.putfield 15, 3) := by decide +kernel
theorem dX2_copyFrom_16 : decode cX2_copyFrom 16 = .ok (.aload_n 0, 1) := by decide +kernel
theorem dX2_copyFrom_17 : decode cX2_copyFrom 17 = .ok (.aload_n 1, 1) := by decide +kernel
theorem dX2_copyFrom_18 : decode cX2_copyFrom 18 = .ok (.getfield 18, 3) := by decide +kernel
theorem dX2_copyFrom_21 : decode cX2_copyFrom 21 = .ok (.putfield 18, 3) := by decide +kernel
theorem dX2_copyFrom_24 : decode cX2_copyFrom 24 = .ok (.aload_n 0, 1) := by decide +kernel
theorem dX2_copyFrom_25 : decode cX2_copyFrom 25 = .ok (.aload_n 1, 1) := by decide +kernel
theorem dX2_copyFrom_26 : decode cX2_copyFrom 26 = .ok (.getfield 21, 3) := by decide +kernel
theorem dX2_copyFrom_29 : decode cX2_copyFrom 29 = .ok (.putfield 21, 3) := by decide +kernel
theorem dX2_copyFrom_32 : decode cX2_copyFrom 32 = .ok (.aload_n 0, 1) := by decide +kernel
theorem dX2_copyFrom_33 : decode cX2_copyFrom 33 = .ok (.aload_n 1, 1) := by decide +kernel
theorem dX2_copyFrom_34 : decode cX2_copyFrom 34 = .ok (.getfield 24, 3) := by decide +kernel
theorem dX2_copyFrom_37 : decode cX2_copyFrom 37 = .ok (.putfield 24, 3) := by decide +kernel
theorem dX2_copyFrom_40 : decode cX2_copyFrom 40 = .ok (.aload_n 0, 1) := by decide +kernel
theorem dX2_copyFrom_41 : decode cX2_copyFrom 41 = .ok (.aload_n 1, 1) := by decide +kernel
theorem dX2_copyFrom_42 : decode cX2_copyFrom 42 = .ok (.getfield 28, 3) := by decide +kernel
theorem dX2_copyFrom_45 : decode cX2_copyFrom 45 = .ok (.putfield 28, 3) := by decide +kernel
theorem dX2_copyFrom_48 : decode cX2_copyFrom 48 = .ok (.aload_n 0, 1) := by decide +kernel
theorem dX2_copyFrom_49 : decode cX2_copyFrom 49 = .ok (.aload_n 1, 1) := by decide +kernel
theorem dX2_copyFrom_50 : decode cX2_copyFrom 50 = .ok (.getfield 31, 3) := by decide +kernel
theorem dX2_copyFrom_53 : decode cX2_copyFrom 53 = .ok (.putfield 31, 3) := by decide +kernel
theorem dX2_copyFrom_56 : decode cX2_copyFrom 56 = .ok (.aload_n 0, 1) := by decide +kernel
theorem dX2_copyFrom_57 : decode cX2_copyFrom 57 = .ok (.aload_n 1, 1) := by decide +kernel
theorem dX2_copyFrom_58 : decode cX2_copyFrom 58 = .ok (.getfield 34, 3) := by decide +kernel
theorem dX2_copyFrom_61 : decode cX2_copyFrom 61 = .ok (.putfield 34, 3) := by decide +kernel
theorem dX2_copyFrom_64 : decode cX2_copyFrom 64 = .ok (.aload_n 0, 1) := by decide +kernel
theorem dX2_copyFrom_65 : decode cX2_copyFrom 65 = .ok (.aload_n 1, 1) := by decide +kernel
theorem dX2_copyFrom_66 : decode cX2_copyFrom 66 = .ok (.getfield 37, 3) := by decide +kernel
theorem dX2_copyFrom_69 : decode cX2_copyFrom 69 = .ok (.putfield 37, 3) := by decide +kernel
theorem dX2_copyFrom_72 : decode cX2_copyFrom 72 = .ok (.aload_n 0, 1) := by decide +kernel
theorem dX2_copyFrom_73 : decode cX2_copyFrom 73 = .ok (.aload_n 1, 1) := by decide +kernel
theorem dX2_copyFrom_74 : decode cX2_copyFrom 74 = .ok (.getfield 40, 3) := by decide +kernel
theorem dX2_copyFrom_77 : decode cX2_copyFrom 77 = .ok (.putfield 40, 3) := by decide +kernel
theorem dX2_copyFrom_80 : decode cX2_copyFrom 80 = .ok (.return_, 1) := by decide +kernel
theorem dX2_hasBid_0 : decode cX2_hasBid 0 = .ok (.aload_n 0, 1) := by decide +kernel
theorem dX2_hasBid_1 : decode cX2_hasBid 1 = .ok (.getfield 31, 3) := by decide +kernel
theorem dX2_hasBid_4 : decode cX2_hasBid 4 = .ok (.ifCond .le 7, 3) := by decide +kernel
theorem dX2_hasBid_7 : decode cX2_hasBid 7 = .ok (.iconst 1, 1) := by decide +kernel
theorem dX2_hasBid_8 : decode cX2_hasBid 8 = .ok (.goto 4, 3) := by decide +kernel
theorem dX2_hasBid_11 : decode cX2_hasBid 11 = .ok (.iconst 0, 1) := by decide +kernel
theorem dX2_hasBid_12 : decode cX2_hasBid 12 = .ok (.ireturn, 1) := by decide +kernel
theorem dX2_asked_0 : decode cX2_asked 0 = .ok (.aload_n 0, 1) := by decide +kernel
theorem dX2_asked_1 : decode cX2_asked 1 = .ok (.getfield 31, 3) := by decide +kernel
theorem dX2_asked_4 : decode cX2_asked 4 = .ok (.ifCond .le 15, 3) := by decide +kernel
theorem dX2_asked_7 : decode cX2_asked 7 = .ok (.aload_n 0, 1) := by decide +kernel
theorem dX2_asked_8 : decode cX2_asked 8 = .ok (.getfield 18, 3) := by decide +kernel
theorem dX2_asked_11 : decode cX2_asked 11 = .ok (.aload_n 0, 1) := by decide +kernel
theorem dX2_asked_12 : decode cX2_asked 12 = .ok (.getfield 15, 3) := by decide +kernel
theorem dX2_asked_15 : decode cX2_asked 15 = .ok (.iadd, 1) := by decide +kernel
theorem dX2_asked_16 : decode cX2_asked 16 = .ok (.goto 7, 3) := by decide +kernel
theorem dX2_asked_19 : decode cX2_asked 19 = .ok (.aload_n 0, 1) := by decide +kernel
theorem dX2_asked_20 : decode cX2_asked 20 = .ok (.getfield 9, 3) := by decide +kernel
theorem dX2_asked_23 : decode cX2_asked 23 = .ok (.ireturn, 1) := by decide +kernel
theorem dX2_takeBid_0 : decode cX2_takeBid 0 = .ok (.aload_n 0, 1) := by decide +kernel
theorem dX2_takeBid_1 : decode cX2_takeBid 1 = .ok (.iload_n 1, 1) := by decide +kernel
theorem dX2_takeBid_2 : decode cX2_takeBid 2 = .ok (.putfield 18, 3) := by decide +kernel
theorem dX2_takeBid_5 : decode cX2_takeBid 5 = .ok (.aload_n 0, 1) := by decide +kernel
theorem dX2_takeBid_6 : decode cX2_takeBid 6 = .ok (.iload_n 2, 1) := by decide +kernel
theorem dX2_takeBid_7 : decode cX2_takeBid 7 = .ok (.putfield 21, 3) := by decide +kernel
theorem dX2_takeBid_10 : decode cX2_takeBid 10 = .ok (.aload_n 0, 1) := by decide +kernel
theorem dX2_takeBid_11 : decode cX2_takeBid 11 = .ok (.iload_n 3, 1) := by decide +kernel
theorem dX2_takeBid_12 : decode cX2_takeBid 12 = .ok (.putfield 24, 3) := by decide +kernel
theorem dX2_takeBid_15 : decode cX2_takeBid 15 = .ok (.aload_n 0, 1) := by decide +kernel
theorem dX2_takeBid_16 : decode cX2_takeBid 16 = .ok (.iconst 1, 1) := by decide +kernel
theorem dX2_takeBid_17 : decode cX2_takeBid 17 = .ok (.putfield 28, 3) := by decide +kernel
theorem dX2_takeBid_20 : decode cX2_takeBid 20 = .ok (.aload_n 0, 1) := by decide +kernel
theorem dX2_takeBid_21 : decode cX2_takeBid 21 = .ok (.dup, 1) := by decide +kernel
theorem dX2_takeBid_22 : decode cX2_takeBid 22 = .ok (.getfield 31, 3) := by decide +kernel
theorem dX2_takeBid_25 : decode cX2_takeBid 25 = .ok (.iconst 1, 1) := by decide +kernel
theorem dX2_takeBid_26 : decode cX2_takeBid 26 = .ok (.iadd, 1) := by decide +kernel
theorem dX2_takeBid_27 : decode cX2_takeBid 27 = .ok (.putfield 31, 3) := by decide +kernel
theorem dX2_takeBid_30 : decode cX2_takeBid 30 = .ok (.return_, 1) := by decide +kernel
theorem dX2_tellUp_0 : decode cX2_tellUp 0 = .ok (.iload_n 1, 1) := by decide +kernel
theorem dX2_tellUp_1 : decode cX2_tellUp 1 = .ok (.tableswitch 128 0 8 #[51, 56, 61, 78, 95, 100, 105, 110, 115], 51) := by decide +kernel
theorem dX2_tellUp_52 : decode cX2_tellUp 52 = .ok (.aload_n 0, 1) := by decide +kernel
theorem dX2_tellUp_53 : decode cX2_tellUp 53 = .ok (.getfield 9, 3) := by decide +kernel
theorem dX2_tellUp_56 : decode cX2_tellUp 56 = .ok (.ireturn, 1) := by decide +kernel
theorem dX2_tellUp_57 : decode cX2_tellUp 57 = .ok (.aload_n 0, 1) := by decide +kernel
theorem dX2_tellUp_58 : decode cX2_tellUp 58 = .ok (.getfield 15, 3) := by decide +kernel
theorem dX2_tellUp_61 : decode cX2_tellUp 61 = .ok (.ireturn, 1) := by decide +kernel
theorem dX2_tellUp_62 : decode cX2_tellUp 62 = .ok (.aload_n 0, 1) := by decide +kernel
theorem dX2_tellUp_63 : decode cX2_tellUp 63 = .ok (.invokevirtual 43, 3) := by decide +kernel
theorem dX2_tellUp_66 : decode cX2_tellUp 66 = .ok (.ifCond .eq 10, 3) := by decide +kernel
theorem dX2_tellUp_69 : decode cX2_tellUp 69 = .ok (.aload_n 0, 1) := by decide +kernel
theorem dX2_tellUp_70 : decode cX2_tellUp 70 = .ok (.getfield 18, 3) := by decide +kernel
theorem dX2_tellUp_73 : decode cX2_tellUp 73 = .ok (.goto 5, 3) := by decide +kernel
theorem dX2_tellUp_76 : decode cX2_tellUp 76 = .ok (.ldc 47, 2) := by decide +kernel
theorem dX2_tellUp_78 : decode cX2_tellUp 78 = .ok (.ireturn, 1) := by decide +kernel
theorem dX2_tellUp_79 : decode cX2_tellUp 79 = .ok (.aload_n 0, 1) := by decide +kernel
theorem dX2_tellUp_80 : decode cX2_tellUp 80 = .ok (.invokevirtual 43, 3) := by decide +kernel
theorem dX2_tellUp_83 : decode cX2_tellUp 83 = .ok (.ifCond .eq 10, 3) := by decide +kernel
theorem dX2_tellUp_86 : decode cX2_tellUp 86 = .ok (.aload_n 0, 1) := by decide +kernel
theorem dX2_tellUp_87 : decode cX2_tellUp 87 = .ok (.getfield 21, 3) := by decide +kernel
theorem dX2_tellUp_90 : decode cX2_tellUp 90 = .ok (.goto 5, 3) := by decide +kernel
theorem dX2_tellUp_93 : decode cX2_tellUp 93 = .ok (.ldc 47, 2) := by decide +kernel
theorem dX2_tellUp_95 : decode cX2_tellUp 95 = .ok (.ireturn, 1) := by decide +kernel
theorem dX2_tellUp_96 : decode cX2_tellUp 96 = .ok (.aload_n 0, 1) := by decide +kernel
theorem dX2_tellUp_97 : decode cX2_tellUp 97 = .ok (.getfield 34, 3) := by decide +kernel
theorem dX2_tellUp_100 : decode cX2_tellUp 100 = .ok (.ireturn, 1) := by decide +kernel
theorem dX2_tellUp_101 : decode cX2_tellUp 101 = .ok (.aload_n 0, 1) := by decide +kernel
theorem dX2_tellUp_102 : decode cX2_tellUp 102 = .ok (.getfield 37, 3) := by decide +kernel
theorem dX2_tellUp_105 : decode cX2_tellUp 105 = .ok (.ireturn, 1) := by decide +kernel
theorem dX2_tellUp_106 : decode cX2_tellUp 106 = .ok (.aload_n 0, 1) := by decide +kernel
theorem dX2_tellUp_107 : decode cX2_tellUp 107 = .ok (.invokevirtual 48, 3) := by decide +kernel
theorem dX2_tellUp_110 : decode cX2_tellUp 110 = .ok (.ireturn, 1) := by decide +kernel
theorem dX2_tellUp_111 : decode cX2_tellUp 111 = .ok (.aload_n 0, 1) := by decide +kernel
theorem dX2_tellUp_112 : decode cX2_tellUp 112 = .ok (.getfield 31, 3) := by decide +kernel
theorem dX2_tellUp_115 : decode cX2_tellUp 115 = .ok (.ireturn, 1) := by decide +kernel
theorem dX2_tellUp_116 : decode cX2_tellUp 116 = .ok (.aload_n 0, 1) := by decide +kernel
theorem dX2_tellUp_117 : decode cX2_tellUp 117 = .ok (.getfield 24, 3) := by decide +kernel
theorem dX2_tellUp_120 : decode cX2_tellUp 120 = .ok (.ifCond .eq 7, 3) := by decide +kernel
theorem dX2_tellUp_123 : decode cX2_tellUp 123 = .ok (.iconst 1, 1) := by decide +kernel
theorem dX2_tellUp_124 : decode cX2_tellUp 124 = .ok (.goto 4, 3) := by decide +kernel
theorem dX2_tellUp_127 : decode cX2_tellUp 127 = .ok (.iconst 0, 1) := by decide +kernel
theorem dX2_tellUp_128 : decode cX2_tellUp 128 = .ok (.ireturn, 1) := by decide +kernel
theorem dX2_tellUp_129 : decode cX2_tellUp 129 = .ok (.ldc 52, 2) := by decide +kernel
theorem dX2_tellUp_131 : decode cX2_tellUp 131 = .ok (.ireturn, 1) := by decide +kernel
theorem dX2_tellGone_0 : decode cX2_tellGone 0 = .ok (.iload_n 1, 1) := by decide +kernel
theorem dX2_tellGone_1 : decode cX2_tellGone 1 = .ok (.tableswitch 72 0 4 #[35, 40, 45, 62, 67], 35) := by decide +kernel
theorem dX2_tellGone_36 : decode cX2_tellGone 36 = .ok (.aload_n 0, 1) := by decide +kernel
theorem dX2_tellGone_37 : decode cX2_tellGone 37 = .ok (.getfield 40, 3) := by decide +kernel
theorem dX2_tellGone_40 : decode cX2_tellGone 40 = .ok (.ireturn, 1) := by decide +kernel
theorem dX2_tellGone_41 : decode cX2_tellGone 41 = .ok (.aload_n 0, 1) := by decide +kernel
theorem dX2_tellGone_42 : decode cX2_tellGone 42 = .ok (.getfield 18, 3) := by decide +kernel
theorem dX2_tellGone_45 : decode cX2_tellGone 45 = .ok (.ireturn, 1) := by decide +kernel
theorem dX2_tellGone_46 : decode cX2_tellGone 46 = .ok (.aload_n 0, 1) := by decide +kernel
theorem dX2_tellGone_47 : decode cX2_tellGone 47 = .ok (.invokevirtual 43, 3) := by decide +kernel
theorem dX2_tellGone_50 : decode cX2_tellGone 50 = .ok (.ifCond .eq 10, 3) := by decide +kernel
theorem dX2_tellGone_53 : decode cX2_tellGone 53 = .ok (.aload_n 0, 1) := by decide +kernel
theorem dX2_tellGone_54 : decode cX2_tellGone 54 = .ok (.getfield 21, 3) := by decide +kernel
theorem dX2_tellGone_57 : decode cX2_tellGone 57 = .ok (.goto 5, 3) := by decide +kernel
theorem dX2_tellGone_60 : decode cX2_tellGone 60 = .ok (.ldc 47, 2) := by decide +kernel
theorem dX2_tellGone_62 : decode cX2_tellGone 62 = .ok (.ireturn, 1) := by decide +kernel
theorem dX2_tellGone_63 : decode cX2_tellGone 63 = .ok (.aload_n 0, 1) := by decide +kernel
theorem dX2_tellGone_64 : decode cX2_tellGone 64 = .ok (.getfield 34, 3) := by decide +kernel
theorem dX2_tellGone_67 : decode cX2_tellGone 67 = .ok (.ireturn, 1) := by decide +kernel
theorem dX2_tellGone_68 : decode cX2_tellGone 68 = .ok (.aload_n 0, 1) := by decide +kernel
theorem dX2_tellGone_69 : decode cX2_tellGone 69 = .ok (.getfield 31, 3) := by decide +kernel
theorem dX2_tellGone_72 : decode cX2_tellGone 72 = .ok (.ireturn, 1) := by decide +kernel
theorem dX2_tellGone_73 : decode cX2_tellGone 73 = .ok (.ldc 52, 2) := by decide +kernel
theorem dX2_tellGone_75 : decode cX2_tellGone 75 = .ok (.ireturn, 1) := by decide +kernel
theorem dX3_init_0 : decode cX3_init 0 = .ok (.aload_n 0, 1) := by decide +kernel
theorem dX3_init_1 : decode cX3_init 1 = .ok (.invokespecial 3, 3) := by decide +kernel
theorem dX3_init_4 : decode cX3_init 4 = .ok (.aload_n 0, 1) := by decide +kernel
theorem dX3_init_5 : decode cX3_init 5 = .ok (.bipush 60, 2) := by decide +kernel
theorem dX3_init_7 : decode cX3_init 7 = .ok (.newarray .char, 2) := by decide +kernel
theorem dX3_init_9 : decode cX3_init 9 = .ok (.putfield 11, 3) := by decide +kernel
theorem dX3_init_12 : decode cX3_init 12 = .ok (.aload_n 0, 1) := by decide +kernel
theorem dX3_init_13 : decode cX3_init 13 = .ok (.iconst 4, 1) := by decide +kernel
theorem dX3_init_14 : decode cX3_init 14 = .ok (.newarray .int, 2) := by decide +kernel
theorem dX3_init_16 : decode cX3_init 16 = .ok (.putfield 15, 3) := by decide +kernel
theorem dX3_init_19 : decode cX3_init 19 = .ok (.aload_n 0, 1) := by decide +kernel
theorem dX3_init_20 : decode cX3_init 20 = .ok (.iconst (-1), 1) := by decide +kernel
theorem dX3_init_21 : decode cX3_init 21 = .ok (.putfield 19, 3) := by decide +kernel
theorem dX3_init_24 : decode cX3_init 24 = .ok (.return_, 1) := by decide +kernel
theorem dX4_init_0 : decode cX4_init 0 = .ok (.aload_n 0, 1) := by decide +kernel
theorem dX4_init_1 : decode cX4_init 1 = .ok (.invokespecial 1, 3) := by decide +kernel
theorem dX4_init_4 : decode cX4_init 4 = .ok (.aload_n 0, 1) := by decide +kernel
theorem dX4_init_5 : decode cX4_init 5 = .ok (.iconst 4, 1) := by decide +kernel
theorem dX4_init_6 : decode cX4_init 6 = .ok (.anewarray 9, 3) := by decide +kernel
theorem dX4_init_9 : decode cX4_init 9 = .ok (.putfield 11, 3) := by decide +kernel
theorem dX4_init_12 : decode cX4_init 12 = .ok (.iconst 0, 1) := by decide +kernel
theorem dX4_init_13 : decode cX4_init 13 = .ok (.istore_n 1, 1) := by decide +kernel
theorem dX4_init_14 : decode cX4_init 14 = .ok (.iload_n 1, 1) := by decide +kernel
theorem dX4_init_15 : decode cX4_init 15 = .ok (.aload_n 0, 1) := by decide +kernel
theorem dX4_init_16 : decode cX4_init 16 = .ok (.getfield 11, 3) := by decide +kernel
theorem dX4_init_19 : decode cX4_init 19 = .ok (.arraylength, 1) := by decide +kernel
theorem dX4_init_20 : decode cX4_init 20 = .ok (.if_icmp .ge 22, 3) := by decide +kernel
theorem dX4_init_23 : decode cX4_init 23 = .ok (.aload_n 0, 1) := by decide +kernel
theorem dX4_init_24 : decode cX4_init 24 = .ok (.getfield 11, 3) := by decide +kernel
theorem dX4_init_27 : decode cX4_init 27 = .ok (.iload_n 1, 1) := by decide +kernel
theorem dX4_init_28 : decode cX4_init 28 = .ok (.new 9, 3) := by decide +kernel
theorem dX4_init_31 : decode cX4_init 31 = .ok (.dup, 1) := by decide +kernel
theorem dX4_init_32 : decode cX4_init 32 = .ok (.invokespecial 15, 3) := by decide +kernel
theorem dX4_init_35 : decode cX4_init 35 = .ok (.aastore, 1) := by decide +kernel
theorem dX4_init_36 : decode cX4_init 36 = .ok (.iinc 1 1, 3) := by decide +kernel
theorem dX4_init_39 : decode cX4_init 39 = .ok (.goto (-25), 3) := by decide +kernel
theorem dX4_init_42 : decode cX4_init 42 = .ok (.aload_n 0, 1) := by decide +kernel
theorem dX4_init_43 : decode cX4_init 43 = .ok (.new 16, 3) := by decide +kernel
theorem dX4_init_46 : decode cX4_init 46 = .ok (.dup, 1) := by decide +kernel
theorem dX4_init_47 : decode cX4_init 47 = .ok (.invokespecial 18, 3) := by decide +kernel
theorem dX4_init_50 : decode cX4_init 50 = .ok (.putfield 19, 3) := by decide +kernel
theorem dX4_init_53 : decode cX4_init 53 = .ok (.aload_n 0, 1) := by decide +kernel
theorem dX4_init_54 : decode cX4_init 54 = .ok (.iconst 0, 1) := by decide +kernel
theorem dX4_init_55 : decode cX4_init 55 = .ok (.putfield 23, 3) := by decide +kernel
theorem dX4_init_58 : decode cX4_init 58 = .ok (.aload_n 0, 1) := by decide +kernel
theorem dX4_init_59 : decode cX4_init 59 = .ok (.new 9, 3) := by decide +kernel
theorem dX4_init_62 : decode cX4_init 62 = .ok (.dup, 1) := by decide +kernel
theorem dX4_init_63 : decode cX4_init 63 = .ok (.invokespecial 15, 3) := by decide +kernel
theorem dX4_init_66 : decode cX4_init 66 = .ok (.putfield 27, 3) := by decide +kernel
theorem dX4_init_69 : decode cX4_init 69 = .ok (.aload_n 0, 1) := by decide +kernel
theorem dX4_init_70 : decode cX4_init 70 = .ok (.new 9, 3) := by decide +kernel
theorem dX4_init_73 : decode cX4_init 73 = .ok (.dup, 1) := by decide +kernel
theorem dX4_init_74 : decode cX4_init 74 = .ok (.invokespecial 15, 3) := by decide +kernel
theorem dX4_init_77 : decode cX4_init 77 = .ok (.putfield 31, 3) := by decide +kernel
theorem dX4_init_80 : decode cX4_init 80 = .ok (.return_, 1) := by decide +kernel
theorem dX4_bidder_0 : decode cX4_bidder 0 = .ok (.aload_n 0, 1) := by decide +kernel
theorem dX4_bidder_1 : decode cX4_bidder 1 = .ok (.getfield 31, 3) := by decide +kernel
theorem dX4_bidder_4 : decode cX4_bidder 4 = .ok (.aload_n 0, 1) := by decide +kernel
theorem dX4_bidder_5 : decode cX4_bidder 5 = .ok (.getfield 27, 3) := by decide +kernel
theorem dX4_bidder_8 : decode cX4_bidder 8 = .ok (.invokevirtual 34, 3) := by decide +kernel
theorem dX4_bidder_11 : decode cX4_bidder 11 = .ok (.aload_n 0, 1) := by decide +kernel
theorem dX4_bidder_12 : decode cX4_bidder 12 = .ok (.aload_n 0, 1) := by decide +kernel
theorem dX4_bidder_13 : decode cX4_bidder 13 = .ok (.getfield 31, 3) := by decide +kernel
theorem dX4_bidder_16 : decode cX4_bidder 16 = .ok (.iload_n 1, 1) := by decide +kernel
theorem dX4_bidder_17 : decode cX4_bidder 17 = .ok (.iload_n 2, 1) := by decide +kernel
theorem dX4_bidder_18 : decode cX4_bidder 18 = .ok (.iload_n 3, 1) := by decide +kernel
theorem dX4_bidder_19 : decode cX4_bidder 19 = .ok (.iload 4, 2) := by decide +kernel
theorem dX4_bidder_21 : decode cX4_bidder 21 = .ok (.invokevirtual 38, 3) := by decide +kernel
theorem dX4_bidder_24 : decode cX4_bidder 24 = .ok (.invokevirtual 42, 3) := by decide +kernel
theorem dX4_bidder_27 : decode cX4_bidder 27 = .ok (.ireturn, 1) := by decide +kernel
theorem dX4_catches_0 : decode cX4_catches 0 = .ok (.aload_n 0, 1) := by decide +kernel
theorem dX4_catches_1 : decode cX4_catches 1 = .ok (.getfield 31, 3) := by decide +kernel
theorem dX4_catches_4 : decode cX4_catches 4 = .ok (.aload_n 0, 1) := by decide +kernel
theorem dX4_catches_5 : decode cX4_catches 5 = .ok (.getfield 27, 3) := by decide +kernel
theorem dX4_catches_8 : decode cX4_catches 8 = .ok (.invokevirtual 34, 3) := by decide +kernel
theorem dX4_catches_11 : decode cX4_catches 11 = .ok (.aload_n 0, 1) := by decide +kernel
theorem dX4_catches_12 : decode cX4_catches 12 = .ok (.aload_n 0, 1) := by decide +kernel
theorem dX4_catches_13 : decode cX4_catches 13 = .ok (.getfield 31, 3) := by decide +kernel
theorem dX4_catches_16 : decode cX4_catches 16 = .ok (.iload_n 1, 1) := by decide +kernel
theorem dX4_catches_17 : decode cX4_catches 17 = .ok (.iload_n 2, 1) := by decide +kernel
theorem dX4_catches_18 : decode cX4_catches 18 = .ok (.invokevirtual 46, 3) := by decide +kernel
theorem dX4_catches_21 : decode cX4_catches 21 = .ok (.invokevirtual 42, 3) := by decide +kernel
theorem dX4_catches_24 : decode cX4_catches 24 = .ok (.ireturn, 1) := by decide +kernel
theorem dX4_muffle_0 : decode cX4_muffle 0 = .ok (.aload_n 0, 1) := by decide +kernel
theorem dX4_muffle_1 : decode cX4_muffle 1 = .ok (.getfield 31, 3) := by decide +kernel
theorem dX4_muffle_4 : decode cX4_muffle 4 = .ok (.aload_n 0, 1) := by decide +kernel
theorem dX4_muffle_5 : decode cX4_muffle 5 = .ok (.getfield 27, 3) := by decide +kernel
theorem dX4_muffle_8 : decode cX4_muffle 8 = .ok (.invokevirtual 34, 3) := by decide +kernel
theorem dX4_muffle_11 : decode cX4_muffle 11 = .ok (.aload_n 0, 1) := by decide +kernel
theorem dX4_muffle_12 : decode cX4_muffle 12 = .ok (.aload_n 0, 1) := by decide +kernel
theorem dX4_muffle_13 : decode cX4_muffle 13 = .ok (.getfield 31, 3) := by decide +kernel
theorem dX4_muffle_16 : decode cX4_muffle 16 = .ok (.iload_n 1, 1) := by decide +kernel
theorem dX4_muffle_17 : decode cX4_muffle 17 = .ok (.iload_n 2, 1) := by decide +kernel
theorem dX4_muffle_18 : decode cX4_muffle 18 = .ok (.invokevirtual 50, 3) := by decide +kernel
theorem dX4_muffle_21 : decode cX4_muffle 21 = .ok (.invokevirtual 42, 3) := by decide +kernel
theorem dX4_muffle_24 : decode cX4_muffle 24 = .ok (.ireturn, 1) := by decide +kernel
theorem dX4_lot_0 : decode cX4_lot 0 = .ok (.aload_n 0, 1) := by decide +kernel
theorem dX4_lot_1 : decode cX4_lot 1 = .ok (.getfield 31, 3) := by decide +kernel
theorem dX4_lot_4 : decode cX4_lot 4 = .ok (.aload_n 0, 1) := by decide +kernel
theorem dX4_lot_5 : decode cX4_lot 5 = .ok (.getfield 27, 3) := by decide +kernel
theorem dX4_lot_8 : decode cX4_lot 8 = .ok (.invokevirtual 34, 3) := by decide +kernel
theorem dX4_lot_11 : decode cX4_lot 11 = .ok (.aload_n 0, 1) := by decide +kernel
theorem dX4_lot_12 : decode cX4_lot 12 = .ok (.aload_n 0, 1) := by decide +kernel
theorem dX4_lot_13 : decode cX4_lot 13 = .ok (.getfield 31, 3) := by decide +kernel
theorem dX4_lot_16 : decode cX4_lot 16 = .ok (.iload_n 1, 1) := by decide +kernel
theorem dX4_lot_17 : decode cX4_lot 17 = .ok (.iload_n 2, 1) := by decide +kernel
theorem dX4_lot_18 : decode cX4_lot 18 = .ok (.invokevirtual 53, 3) := by decide +kernel
theorem dX4_lot_21 : decode cX4_lot 21 = .ok (.invokevirtual 42, 3) := by decide +kernel
theorem dX4_lot_24 : decode cX4_lot 24 = .ok (.ireturn, 1) := by decide +kernel
theorem dX4_putUp_0 : decode cX4_putUp 0 = .ok (.aload_n 0, 1) := by decide +kernel
theorem dX4_putUp_1 : decode cX4_putUp 1 = .ok (.getfield 31, 3) := by decide +kernel
theorem dX4_putUp_4 : decode cX4_putUp 4 = .ok (.aload_n 0, 1) := by decide +kernel
theorem dX4_putUp_5 : decode cX4_putUp 5 = .ok (.getfield 27, 3) := by decide +kernel
theorem dX4_putUp_8 : decode cX4_putUp 8 = .ok (.invokevirtual 34, 3) := by decide +kernel
theorem dX4_putUp_11 : decode cX4_putUp 11 = .ok (.aload_n 0, 1) := by decide +kernel
theorem dX4_putUp_12 : decode cX4_putUp 12 = .ok (.aload_n 0, 1) := by decide +kernel
theorem dX4_putUp_13 : decode cX4_putUp 13 = .ok (.getfield 31, 3) := by decide +kernel
theorem dX4_putUp_16 : decode cX4_putUp 16 = .ok (.invokevirtual 56, 3) := by decide +kernel
theorem dX4_putUp_19 : decode cX4_putUp 19 = .ok (.invokevirtual 42, 3) := by decide +kernel
theorem dX4_putUp_22 : decode cX4_putUp 22 = .ok (.ireturn, 1) := by decide +kernel
theorem dX4_cough_0 : decode cX4_cough 0 = .ok (.aload_n 0, 1) := by decide +kernel
theorem dX4_cough_1 : decode cX4_cough 1 = .ok (.getfield 31, 3) := by decide +kernel
theorem dX4_cough_4 : decode cX4_cough 4 = .ok (.aload_n 0, 1) := by decide +kernel
theorem dX4_cough_5 : decode cX4_cough 5 = .ok (.getfield 27, 3) := by decide +kernel
theorem dX4_cough_8 : decode cX4_cough 8 = .ok (.invokevirtual 34, 3) := by decide +kernel
theorem dX4_cough_11 : decode cX4_cough 11 = .ok (.aload_n 0, 1) := by decide +kernel
theorem dX4_cough_12 : decode cX4_cough 12 = .ok (.aload_n 0, 1) := by decide +kernel
theorem dX4_cough_13 : decode cX4_cough 13 = .ok (.getfield 31, 3) := by decide +kernel
theorem dX4_cough_16 : decode cX4_cough 16 = .ok (.iload_n 1, 1) := by decide +kernel
theorem dX4_cough_17 : decode cX4_cough 17 = .ok (.iconst 0, 1) := by decide +kernel
theorem dX4_cough_18 : decode cX4_cough 18 = .ok (.invokevirtual 60, 3) := by decide +kernel
theorem dX4_cough_21 : decode cX4_cough 21 = .ok (.invokevirtual 42, 3) := by decide +kernel
theorem dX4_cough_24 : decode cX4_cough 24 = .ok (.ireturn, 1) := by decide +kernel
theorem dX4_beats_0 : decode cX4_beats 0 = .ok (.aload_n 0, 1) := by decide +kernel
theorem dX4_beats_1 : decode cX4_beats 1 = .ok (.getfield 31, 3) := by decide +kernel
theorem dX4_beats_4 : decode cX4_beats 4 = .ok (.aload_n 0, 1) := by decide +kernel
theorem dX4_beats_5 : decode cX4_beats 5 = .ok (.getfield 27, 3) := by decide +kernel
theorem dX4_beats_8 : decode cX4_beats 8 = .ok (.invokevirtual 34, 3) := by decide +kernel
theorem dX4_beats_11 : decode cX4_beats 11 = .ok (.aload_n 0, 1) := by decide +kernel
theorem dX4_beats_12 : decode cX4_beats 12 = .ok (.aload_n 0, 1) := by decide +kernel
theorem dX4_beats_13 : decode cX4_beats 13 = .ok (.getfield 31, 3) := by decide +kernel
theorem dX4_beats_16 : decode cX4_beats 16 = .ok (.iload_n 1, 1) := by decide +kernel
theorem dX4_beats_17 : decode cX4_beats 17 = .ok (.invokevirtual 64, 3) := by decide +kernel
theorem dX4_beats_20 : decode cX4_beats 20 = .ok (.invokevirtual 42, 3) := by decide +kernel
theorem dX4_beats_23 : decode cX4_beats 23 = .ok (.ireturn, 1) := by decide +kernel
theorem dX4_night_0 : decode cX4_night 0 = .ok (.aload_n 0, 1) := by decide +kernel
theorem dX4_night_1 : decode cX4_night 1 = .ok (.getfield 31, 3) := by decide +kernel
theorem dX4_night_4 : decode cX4_night 4 = .ok (.aload_n 0, 1) := by decide +kernel
theorem dX4_night_5 : decode cX4_night 5 = .ok (.getfield 27, 3) := by decide +kernel
theorem dX4_night_8 : decode cX4_night 8 = .ok (.invokevirtual 34, 3) := by decide +kernel
theorem dX4_night_11 : decode cX4_night 11 = .ok (.aload_n 0, 1) := by decide +kernel
theorem dX4_night_12 : decode cX4_night 12 = .ok (.aload_n 0, 1) := by decide +kernel
theorem dX4_night_13 : decode cX4_night 13 = .ok (.getfield 31, 3) := by decide +kernel
theorem dX4_night_16 : decode cX4_night 16 = .ok (.invokevirtual 67, 3) := by decide +kernel
theorem dX4_night_19 : decode cX4_night 19 = .ok (.invokevirtual 42, 3) := by decide +kernel
theorem dX4_night_22 : decode cX4_night 22 = .ok (.ireturn, 1) := by decide +kernel
theorem dX4_set_0 : decode cX4_set 0 = .ok (.aload_n 0, 1) := by decide +kernel
theorem dX4_set_1 : decode cX4_set 1 = .ok (.getfield 31, 3) := by decide +kernel
theorem dX4_set_4 : decode cX4_set 4 = .ok (.aload_n 0, 1) := by decide +kernel
theorem dX4_set_5 : decode cX4_set 5 = .ok (.getfield 27, 3) := by decide +kernel
theorem dX4_set_8 : decode cX4_set 8 = .ok (.invokevirtual 34, 3) := by decide +kernel
theorem dX4_set_11 : decode cX4_set 11 = .ok (.aload_n 0, 1) := by decide +kernel
theorem dX4_set_12 : decode cX4_set 12 = .ok (.aload_n 0, 1) := by decide +kernel
theorem dX4_set_13 : decode cX4_set 13 = .ok (.getfield 31, 3) := by decide +kernel
theorem dX4_set_16 : decode cX4_set 16 = .ok (.iload_n 1, 1) := by decide +kernel
theorem dX4_set_17 : decode cX4_set 17 = .ok (.iload_n 2, 1) := by decide +kernel
theorem dX4_set_18 : decode cX4_set 18 = .ok (.invokevirtual 70, 3) := by decide +kernel
theorem dX4_set_21 : decode cX4_set 21 = .ok (.invokevirtual 42, 3) := by decide +kernel
theorem dX4_set_24 : decode cX4_set 24 = .ok (.ireturn, 1) := by decide +kernel
theorem dX4_bidderOf_0 : decode cX4_bidderOf 0 = .ok (.aload_n 0, 1) := by decide +kernel
theorem dX4_bidderOf_1 : decode cX4_bidderOf 1 = .ok (.getfield 27, 3) := by decide +kernel
theorem dX4_bidderOf_4 : decode cX4_bidderOf 4 = .ok (.iload_n 1, 1) := by decide +kernel
theorem dX4_bidderOf_5 : decode cX4_bidderOf 5 = .ok (.invokevirtual 73, 3) := by decide +kernel
theorem dX4_bidderOf_8 : decode cX4_bidderOf 8 = .ok (.ifCond .ne 6, 3) := by decide +kernel
theorem dX4_bidderOf_11 : decode cX4_bidderOf 11 = .ok (.ldc 77, 2) := by decide +kernel
theorem dX4_bidderOf_13 : decode cX4_bidderOf 13 = .ok (.ireturn, 1) := by decide +kernel
theorem dX4_bidderOf_14 : decode cX4_bidderOf 14 = .ok (.aload_n 0, 1) := by decide +kernel
theorem dX4_bidderOf_15 : decode cX4_bidderOf 15 = .ok (.getfield 27, 3) := by decide +kernel
theorem dX4_bidderOf_18 : decode cX4_bidderOf 18 = .ok (.getfield 78, 3) := by decide +kernel
theorem dX4_bidderOf_21 : decode cX4_bidderOf 21 = .ok (.iload_n 1, 1) := by decide +kernel
theorem dX4_bidderOf_22 : decode cX4_bidderOf 22 = .ok (.aaload, 1) := by decide +kernel
theorem dX4_bidderOf_23 : decode cX4_bidderOf 23 = .ok (.iload_n 2, 1) := by decide +kernel
theorem dX4_bidderOf_24 : decode cX4_bidderOf 24 = .ok (.invokevirtual 82, 3) := by decide +kernel
theorem dX4_bidderOf_27 : decode cX4_bidderOf 27 = .ok (.ireturn, 1) := by decide +kernel
theorem dX4_at_0 : decode cX4_at 0 = .ok (.iload_n 1, 1) := by decide +kernel
theorem dX4_at_1 : decode cX4_at 1 = .ok (.iload_n 2, 1) := by decide +kernel
theorem dX4_at_2 : decode cX4_at 2 = .ok (.invokestatic 87, 3) := by decide +kernel
theorem dX4_at_5 : decode cX4_at 5 = .ok (.ifCond .ne 6, 3) := by decide +kernel
theorem dX4_at_8 : decode cX4_at 8 = .ok (.ldc 77, 2) := by decide +kernel
theorem dX4_at_10 : decode cX4_at 10 = .ok (.ireturn, 1) := by decide +kernel
theorem dX4_at_11 : decode cX4_at 11 = .ok (.aload_n 0, 1) := by decide +kernel
theorem dX4_at_12 : decode cX4_at 12 = .ok (.getfield 27, 3) := by decide +kernel
theorem dX4_at_15 : decode cX4_at 15 = .ok (.iload_n 1, 1) := by decide +kernel
theorem dX4_at_16 : decode cX4_at 16 = .ok (.iload_n 2, 1) := by decide +kernel
theorem dX4_at_17 : decode cX4_at 17 = .ok (.invokevirtual 91, 3) := by decide +kernel
theorem dX4_at_20 : decode cX4_at 20 = .ok (.ireturn, 1) := by decide +kernel
theorem dX4_up_0 : decode cX4_up 0 = .ok (.iload_n 1, 1) := by decide +kernel
theorem dX4_up_1 : decode cX4_up 1 = .ok (.iconst 0, 1) := by decide +kernel
theorem dX4_up_2 : decode cX4_up 2 = .ok (.bipush 8, 2) := by decide +kernel
theorem dX4_up_4 : decode cX4_up 4 = .ok (.invokestatic 94, 3) := by decide +kernel
theorem dX4_up_7 : decode cX4_up 7 = .ok (.ifCond .ne 6, 3) := by decide +kernel
theorem dX4_up_10 : decode cX4_up 10 = .ok (.ldc 77, 2) := by decide +kernel
theorem dX4_up_12 : decode cX4_up 12 = .ok (.ireturn, 1) := by decide +kernel
theorem dX4_up_13 : decode cX4_up 13 = .ok (.aload_n 0, 1) := by decide +kernel
theorem dX4_up_14 : decode cX4_up 14 = .ok (.getfield 27, 3) := by decide +kernel
theorem dX4_up_17 : decode cX4_up 17 = .ok (.getfield 98, 3) := by decide +kernel
theorem dX4_up_20 : decode cX4_up 20 = .ok (.ifCond .ne 6, 3) := by decide +kernel
theorem dX4_up_23 : decode cX4_up 23 = .ok (.ldc 102, 2) := by decide +kernel
theorem dX4_up_25 : decode cX4_up 25 = .ok (.ireturn, 1) := by decide +kernel
theorem dX4_up_26 : decode cX4_up 26 = .ok (.aload_n 0, 1) := by decide +kernel
theorem dX4_up_27 : decode cX4_up 27 = .ok (.getfield 27, 3) := by decide +kernel
theorem dX4_up_30 : decode cX4_up 30 = .ok (.getfield 103, 3) := by decide +kernel
theorem dX4_up_33 : decode cX4_up 33 = .ok (.iload_n 1, 1) := by decide +kernel
theorem dX4_up_34 : decode cX4_up 34 = .ok (.invokevirtual 107, 3) := by decide +kernel
theorem dX4_up_37 : decode cX4_up 37 = .ok (.ireturn, 1) := by decide +kernel
theorem dX4_waiting_0 : decode cX4_waiting 0 = .ok (.iload_n 1, 1) := by decide +kernel
theorem dX4_waiting_1 : decode cX4_waiting 1 = .ok (.ifCond .lt 12, 3) := by decide +kernel
theorem dX4_waiting_4 : decode cX4_waiting 4 = .ok (.iload_n 2, 1) := by decide +kernel
theorem dX4_waiting_5 : decode cX4_waiting 5 = .ok (.iconst 0, 1) := by decide +kernel
theorem dX4_waiting_6 : decode cX4_waiting 6 = .ok (.iconst 1, 1) := by decide +kernel
theorem dX4_waiting_7 : decode cX4_waiting 7 = .ok (.invokestatic 94, 3) := by decide +kernel
theorem dX4_waiting_10 : decode cX4_waiting 10 = .ok (.ifCond .ne 6, 3) := by decide +kernel
theorem dX4_waiting_13 : decode cX4_waiting 13 = .ok (.ldc 77, 2) := by decide +kernel
theorem dX4_waiting_15 : decode cX4_waiting 15 = .ok (.ireturn, 1) := by decide +kernel
theorem dX4_waiting_16 : decode cX4_waiting 16 = .ok (.iload_n 1, 1) := by decide +kernel
theorem dX4_waiting_17 : decode cX4_waiting 17 = .ok (.aload_n 0, 1) := by decide +kernel
theorem dX4_waiting_18 : decode cX4_waiting 18 = .ok (.getfield 27, 3) := by decide +kernel
theorem dX4_waiting_21 : decode cX4_waiting 21 = .ok (.getfield 112, 3) := by decide +kernel
theorem dX4_waiting_24 : decode cX4_waiting 24 = .ok (.if_icmp .lt 6, 3) := by decide +kernel
theorem dX4_waiting_27 : decode cX4_waiting 27 = .ok (.ldc 115, 2) := by decide +kernel
theorem dX4_waiting_29 : decode cX4_waiting 29 = .ok (.ireturn, 1) := by decide +kernel
theorem dX4_waiting_30 : decode cX4_waiting 30 = .ok (.aload_n 0, 1) := by decide +kernel
theorem dX4_waiting_31 : decode cX4_waiting 31 = .ok (.getfield 27, 3) := by decide +kernel
theorem dX4_waiting_34 : decode cX4_waiting 34 = .ok (.getfield 116, 3) := by decide +kernel
theorem dX4_waiting_37 : decode cX4_waiting 37 = .ok (.iload_n 1, 1) := by decide +kernel
theorem dX4_waiting_38 : decode cX4_waiting 38 = .ok (.aaload, 1) := by decide +kernel
theorem dX4_waiting_39 : decode cX4_waiting 39 = .ok (.astore_n 3, 1) := by decide +kernel
theorem dX4_waiting_40 : decode cX4_waiting 40 = .ok (.iload_n 2, 1) := by decide +kernel
theorem dX4_waiting_41 : decode cX4_waiting 41 = .ok (.ifCond .ne 10, 3) := by decide +kernel
theorem dX4_waiting_44 : decode cX4_waiting 44 = .ok (.aload_n 3, 1) := by decide +kernel
theorem dX4_waiting_45 : decode cX4_waiting 45 = .ok (.getfield 120, 3) := by decide +kernel
theorem dX4_waiting_48 : decode cX4_waiting 48 = .ok (.goto 7, 3) := by decide +kernel
theorem dX4_waiting_51 : decode cX4_waiting 51 = .ok (.aload_n 3, 1) := by decide +kernel
theorem dX4_waiting_52 : decode cX4_waiting 52 = .ok (.getfield 123, 3) := by decide +kernel
theorem dX4_waiting_55 : decode cX4_waiting 55 = .ok (.ireturn, 1) := by decide +kernel
theorem dX4_book_0 : decode cX4_book 0 = .ok (.iload_n 1, 1) := by decide +kernel
theorem dX4_book_1 : decode cX4_book 1 = .ok (.ifCond .lt 12, 3) := by decide +kernel
theorem dX4_book_4 : decode cX4_book 4 = .ok (.iload_n 2, 1) := by decide +kernel
theorem dX4_book_5 : decode cX4_book 5 = .ok (.iconst 0, 1) := by decide +kernel
theorem dX4_book_6 : decode cX4_book 6 = .ok (.iconst 4, 1) := by decide +kernel
theorem dX4_book_7 : decode cX4_book 7 = .ok (.invokestatic 94, 3) := by decide +kernel
theorem dX4_book_10 : decode cX4_book 10 = .ok (.ifCond .ne 6, 3) := by decide +kernel
theorem dX4_book_13 : decode cX4_book 13 = .ok (.ldc 77, 2) := by decide +kernel
theorem dX4_book_15 : decode cX4_book 15 = .ok (.ireturn, 1) := by decide +kernel
theorem dX4_book_16 : decode cX4_book 16 = .ok (.iload_n 1, 1) := by decide +kernel
theorem dX4_book_17 : decode cX4_book 17 = .ok (.aload_n 0, 1) := by decide +kernel
theorem dX4_book_18 : decode cX4_book 18 = .ok (.getfield 27, 3) := by decide +kernel
theorem dX4_book_21 : decode cX4_book 21 = .ok (.getfield 126, 3) := by decide +kernel
theorem dX4_book_24 : decode cX4_book 24 = .ok (.if_icmp .lt 6, 3) := by decide +kernel
theorem dX4_book_27 : decode cX4_book 27 = .ok (.ldc 115, 2) := by decide +kernel
theorem dX4_book_29 : decode cX4_book 29 = .ok (.ireturn, 1) := by decide +kernel
theorem dX4_book_30 : decode cX4_book 30 = .ok (.aload_n 0, 1) := by decide +kernel
theorem dX4_book_31 : decode cX4_book 31 = .ok (.getfield 27, 3) := by decide +kernel
theorem dX4_book_34 : decode cX4_book 34 = .ok (.getfield 129, 3) := by decide +kernel
theorem dX4_book_37 : decode cX4_book 37 = .ok (.iload_n 1, 1) := by decide +kernel
theorem dX4_book_38 : decode cX4_book 38 = .ok (.aaload, 1) := by decide +kernel
theorem dX4_book_39 : decode cX4_book 39 = .ok (.iload_n 2, 1) := by decide +kernel
theorem dX4_book_40 : decode cX4_book 40 = .ok (.invokevirtual 132, 3) := by decide +kernel
theorem dX4_book_43 : decode cX4_book 43 = .ok (.ireturn, 1) := by decide +kernel
theorem dX4_why_0 : decode cX4_why 0 = .ok (.aload_n 0, 1) := by decide +kernel
theorem dX4_why_1 : decode cX4_why 1 = .ok (.getfield 27, 3) := by decide +kernel
theorem dX4_why_4 : decode cX4_why 4 = .ok (.iload_n 1, 1) := by decide +kernel
theorem dX4_why_5 : decode cX4_why 5 = .ok (.invokevirtual 73, 3) := by decide +kernel
theorem dX4_why_8 : decode cX4_why 8 = .ok (.ifCond .ne 6, 3) := by decide +kernel
theorem dX4_why_11 : decode cX4_why 11 = .ok (.ldc 77, 2) := by decide +kernel
theorem dX4_why_13 : decode cX4_why 13 = .ok (.ireturn, 1) := by decide +kernel
theorem dX4_why_14 : decode cX4_why 14 = .ok (.aload_n 0, 1) := by decide +kernel
theorem dX4_why_15 : decode cX4_why 15 = .ok (.getfield 27, 3) := by decide +kernel
theorem dX4_why_18 : decode cX4_why 18 = .ok (.iload_n 1, 1) := by decide +kernel
theorem dX4_why_19 : decode cX4_why 19 = .ok (.invokevirtual 135, 3) := by decide +kernel
theorem dX4_why_22 : decode cX4_why 22 = .ok (.ireturn, 1) := by decide +kernel
theorem dX4_coughing_0 : decode cX4_coughing 0 = .ok (.iconst 0, 1) := by decide +kernel
theorem dX4_coughing_1 : decode cX4_coughing 1 = .ok (.istore_n 1, 1) := by decide +kernel
theorem dX4_coughing_2 : decode cX4_coughing 2 = .ok (.iconst 0, 1) := by decide +kernel
theorem dX4_coughing_3 : decode cX4_coughing 3 = .ok (.istore_n 2, 1) := by decide +kernel
theorem dX4_coughing_4 : decode cX4_coughing 4 = .ok (.iload_n 2, 1) := by decide +kernel
theorem dX4_coughing_5 : decode cX4_coughing 5 = .ok (.aload_n 0, 1) := by decide +kernel
theorem dX4_coughing_6 : decode cX4_coughing 6 = .ok (.getfield 27, 3) := by decide +kernel
theorem dX4_coughing_9 : decode cX4_coughing 9 = .ok (.getfield 154, 3) := by decide +kernel
theorem dX4_coughing_12 : decode cX4_coughing 12 = .ok (.if_icmp .ge 26, 3) := by decide +kernel
theorem dX4_coughing_15 : decode cX4_coughing 15 = .ok (.aload_n 0, 1) := by decide +kernel
theorem dX4_coughing_16 : decode cX4_coughing 16 = .ok (.getfield 27, 3) := by decide +kernel
theorem dX4_coughing_19 : decode cX4_coughing 19 = .ok (.iload_n 2, 1) := by decide +kernel
theorem dX4_coughing_20 : decode cX4_coughing 20 = .ok (.invokevirtual 157, 3) := by decide +kernel
theorem dX4_coughing_23 : decode cX4_coughing 23 = .ok (.ifCond .eq 9, 3) := by decide +kernel
theorem dX4_coughing_26 : decode cX4_coughing 26 = .ok (.iload_n 1, 1) := by decide +kernel
theorem dX4_coughing_27 : decode cX4_coughing 27 = .ok (.iconst 1, 1) := by decide +kernel
theorem dX4_coughing_28 : decode cX4_coughing 28 = .ok (.iload_n 2, 1) := by decide +kernel
theorem dX4_coughing_29 : decode cX4_coughing 29 = .ok (.ishl, 1) := by decide +kernel
theorem dX4_coughing_30 : decode cX4_coughing 30 = .ok (.ior, 1) := by decide +kernel
theorem dX4_coughing_31 : decode cX4_coughing 31 = .ok (.istore_n 1, 1) := by decide +kernel
theorem dX4_coughing_32 : decode cX4_coughing 32 = .ok (.iinc 2 1, 3) := by decide +kernel
theorem dX4_coughing_35 : decode cX4_coughing 35 = .ok (.goto (-31), 3) := by decide +kernel
theorem dX4_coughing_38 : decode cX4_coughing 38 = .ok (.iload_n 1, 1) := by decide +kernel
theorem dX4_coughing_39 : decode cX4_coughing 39 = .ok (.ireturn, 1) := by decide +kernel
theorem dX4_loudest_0 : decode cX4_loudest 0 = .ok (.ldc 115, 2) := by decide +kernel
theorem dX4_loudest_2 : decode cX4_loudest 2 = .ok (.istore_n 1, 1) := by decide +kernel
theorem dX4_loudest_3 : decode cX4_loudest 3 = .ok (.iconst 0, 1) := by decide +kernel
theorem dX4_loudest_4 : decode cX4_loudest 4 = .ok (.istore_n 2, 1) := by decide +kernel
theorem dX4_loudest_5 : decode cX4_loudest 5 = .ok (.iconst 0, 1) := by decide +kernel
theorem dX4_loudest_6 : decode cX4_loudest 6 = .ok (.istore_n 3, 1) := by decide +kernel
theorem dX4_loudest_7 : decode cX4_loudest 7 = .ok (.iload_n 3, 1) := by decide +kernel
theorem dX4_loudest_8 : decode cX4_loudest 8 = .ok (.aload_n 0, 1) := by decide +kernel
theorem dX4_loudest_9 : decode cX4_loudest 9 = .ok (.getfield 27, 3) := by decide +kernel
theorem dX4_loudest_12 : decode cX4_loudest 12 = .ok (.getfield 154, 3) := by decide +kernel
theorem dX4_loudest_15 : decode cX4_loudest 15 = .ok (.if_icmp .ge 40, 3) := by decide +kernel
theorem dX4_loudest_18 : decode cX4_loudest 18 = .ok (.aload_n 0, 1) := by decide +kernel
theorem dX4_loudest_19 : decode cX4_loudest 19 = .ok (.getfield 27, 3) := by decide +kernel
theorem dX4_loudest_22 : decode cX4_loudest 22 = .ok (.getfield 78, 3) := by decide +kernel
theorem dX4_loudest_25 : decode cX4_loudest 25 = .ok (.iload_n 3, 1) := by decide +kernel
theorem dX4_loudest_26 : decode cX4_loudest 26 = .ok (.aaload, 1) := by decide +kernel
theorem dX4_loudest_27 : decode cX4_loudest 27 = .ok (.invokevirtual 160, 3) := by decide +kernel
theorem dX4_loudest_30 : decode cX4_loudest 30 = .ok (.istore 4, 2) := by decide +kernel
theorem dX4_loudest_32 : decode cX4_loudest 32 = .ok (.iload_n 1, 1) := by decide +kernel
theorem dX4_loudest_33 : decode cX4_loudest 33 = .ok (.ldc 115, 2) := by decide +kernel
theorem dX4_loudest_35 : decode cX4_loudest 35 = .ok (.if_icmp .eq 9, 3) := by decide +kernel
theorem dX4_loudest_38 : decode cX4_loudest 38 = .ok (.iload 4, 2) := by decide +kernel
theorem dX4_loudest_40 : decode cX4_loudest 40 = .ok (.iload_n 2, 1) := by decide +kernel
theorem dX4_loudest_41 : decode cX4_loudest 41 = .ok (.if_icmp .le 8, 3) := by decide +kernel
theorem dX4_loudest_44 : decode cX4_loudest 44 = .ok (.iload_n 3, 1) := by decide +kernel
theorem dX4_loudest_45 : decode cX4_loudest 45 = .ok (.istore_n 1, 1) := by decide +kernel
theorem dX4_loudest_46 : decode cX4_loudest 46 = .ok (.iload 4, 2) := by decide +kernel
theorem dX4_loudest_48 : decode cX4_loudest 48 = .ok (.istore_n 2, 1) := by decide +kernel
theorem dX4_loudest_49 : decode cX4_loudest 49 = .ok (.iinc 3 1, 3) := by decide +kernel
theorem dX4_loudest_52 : decode cX4_loudest 52 = .ok (.goto (-45), 3) := by decide +kernel
theorem dX4_loudest_55 : decode cX4_loudest 55 = .ok (.iload_n 1, 1) := by decide +kernel
theorem dX4_loudest_56 : decode cX4_loudest 56 = .ok (.ireturn, 1) := by decide +kernel
theorem dX4_count_0 : decode cX4_count 0 = .ok (.iload_n 1, 1) := by decide +kernel
theorem dX4_count_1 : decode cX4_count 1 = .ok (.lookupswitch 40 #[(16, 27), (17, 32)], 27) := by decide +kernel
theorem dX4_count_28 : decode cX4_count 28 = .ok (.aload_n 0, 1) := by decide +kernel
theorem dX4_count_29 : decode cX4_count 29 = .ok (.getfield 23, 3) := by decide +kernel
theorem dX4_count_32 : decode cX4_count 32 = .ok (.ireturn, 1) := by decide +kernel
theorem dX4_count_33 : decode cX4_count 33 = .ok (.aload_n 0, 1) := by decide +kernel
theorem dX4_count_34 : decode cX4_count 34 = .ok (.getfield 19, 3) := by decide +kernel
theorem dX4_count_37 : decode cX4_count 37 = .ok (.getfield 178, 3) := by decide +kernel
theorem dX4_count_40 : decode cX4_count 40 = .ok (.ireturn, 1) := by decide +kernel
theorem dX4_count_41 : decode cX4_count 41 = .ok (.aload_n 0, 1) := by decide +kernel
theorem dX4_count_42 : decode cX4_count 42 = .ok (.getfield 27, 3) := by decide +kernel
theorem dX4_count_45 : decode cX4_count 45 = .ok (.iload_n 1, 1) := by decide +kernel
theorem dX4_count_46 : decode cX4_count 46 = .ok (.invokevirtual 181, 3) := by decide +kernel
theorem dX4_count_49 : decode cX4_count 49 = .ok (.ireturn, 1) := by decide +kernel
theorem dX4_keep_0 : decode cX4_keep 0 = .ok (.iload_n 1, 1) := by decide +kernel
theorem dX4_keep_1 : decode cX4_keep 1 = .ok (.ifCond .ge 5, 3) := by decide +kernel
theorem dX4_keep_4 : decode cX4_keep 4 = .ok (.iload_n 1, 1) := by decide +kernel
theorem dX4_keep_5 : decode cX4_keep 5 = .ok (.ireturn, 1) := by decide +kernel
theorem dX4_keep_6 : decode cX4_keep 6 = .ok (.aload_n 0, 1) := by decide +kernel
theorem dX4_keep_7 : decode cX4_keep 7 = .ok (.getfield 23, 3) := by decide +kernel
theorem dX4_keep_10 : decode cX4_keep 10 = .ok (.iconst 4, 1) := by decide +kernel
theorem dX4_keep_11 : decode cX4_keep 11 = .ok (.if_icmp .ne 7, 3) := by decide +kernel
theorem dX4_keep_14 : decode cX4_keep 14 = .ok (.aload_n 0, 1) := by decide +kernel
theorem dX4_keep_15 : decode cX4_keep 15 = .ok (.invokevirtual 206, 3) := by decide +kernel
theorem dX4_keep_18 : decode cX4_keep 18 = .ok (.aload_n 0, 1) := by decide +kernel
theorem dX4_keep_19 : decode cX4_keep 19 = .ok (.getfield 11, 3) := by decide +kernel
theorem dX4_keep_22 : decode cX4_keep 22 = .ok (.aload_n 0, 1) := by decide +kernel
theorem dX4_keep_23 : decode cX4_keep 23 = .ok (.getfield 23, 3) := by decide +kernel
theorem dX4_keep_26 : decode cX4_keep 26 = .ok (.aaload, 1) := by decide +kernel
theorem dX4_keep_27 : decode cX4_keep 27 = .ok (.astore_n 2, 1) := by decide +kernel
theorem dX4_keep_28 : decode cX4_keep 28 = .ok (.aload_n 0, 1) := by decide +kernel
theorem dX4_keep_29 : decode cX4_keep 29 = .ok (.getfield 11, 3) := by decide +kernel
theorem dX4_keep_32 : decode cX4_keep 32 = .ok (.aload_n 0, 1) := by decide +kernel
theorem dX4_keep_33 : decode cX4_keep 33 = .ok (.getfield 23, 3) := by decide +kernel
theorem dX4_keep_36 : decode cX4_keep 36 = .ok (.aload_n 0, 1) := by decide +kernel
theorem dX4_keep_37 : decode cX4_keep 37 = .ok (.getfield 27, 3) := by decide +kernel
theorem dX4_keep_40 : decode cX4_keep 40 = .ok (.aastore, 1) := by decide +kernel
theorem dX4_keep_41 : decode cX4_keep 41 = .ok (.aload_n 0, 1) := by decide +kernel
theorem dX4_keep_42 : decode cX4_keep 42 = .ok (.dup, 1) := by decide +kernel
theorem dX4_keep_43 : decode cX4_keep 43 = .ok (.getfield 23, 3) := by decide +kernel
theorem dX4_keep_46 : decode cX4_keep 46 = .ok (.iconst 1, 1) := by decide +kernel
theorem dX4_keep_47 : decode cX4_keep 47 = .ok (.iadd, 1) := by decide +kernel
theorem dX4_keep_48 : decode cX4_keep 48 = .ok (.putfield 23, 3) := by decide +kernel
theorem dX4_keep_51 : decode cX4_keep 51 = .ok (.aload_n 0, 1) := by decide +kernel
theorem dX4_keep_52 : decode cX4_keep 52 = .ok (.aload_n 0, 1) := by decide +kernel
theorem dX4_keep_53 : decode cX4_keep 53 = .ok (.getfield 31, 3) := by decide +kernel
theorem dX4_keep_56 : decode cX4_keep 56 = .ok (.putfield 27, 3) := by decide +kernel
theorem dX4_keep_59 : decode cX4_keep 59 = .ok (.aload_n 0, 1) := by decide +kernel
theorem dX4_keep_60 : decode cX4_keep 60 = .ok (.aload_n 2, 1) := by decide +kernel
theorem dX4_keep_61 : decode cX4_keep 61 = .ok (.putfield 31, 3) := by decide +kernel
theorem dX4_keep_64 : decode cX4_keep 64 = .ok (.iload_n 1, 1) := by decide +kernel
theorem dX4_keep_65 : decode cX4_keep 65 = .ok (.ireturn, 1) := by decide +kernel
theorem dX4_dropOldest_0 : decode cX4_dropOldest 0 = .ok (.aload_n 0, 1) := by decide +kernel
theorem dX4_dropOldest_1 : decode cX4_dropOldest 1 = .ok (.getfield 11, 3) := by decide +kernel
theorem dX4_dropOldest_4 : decode cX4_dropOldest 4 = .ok (.iconst 0, 1) := by decide +kernel
theorem dX4_dropOldest_5 : decode cX4_dropOldest 5 = .ok (.aaload, 1) := by decide +kernel
theorem dX4_dropOldest_6 : decode cX4_dropOldest 6 = .ok (.astore_n 1, 1) := by decide +kernel
theorem dX4_dropOldest_7 : decode cX4_dropOldest 7 = .ok (.iconst 1, 1) := by decide +kernel
theorem dX4_dropOldest_8 : decode cX4_dropOldest 8 = .ok (.istore_n 2, 1) := by decide +kernel
theorem dX4_dropOldest_9 : decode cX4_dropOldest 9 = .ok (.iload_n 2, 1) := by decide +kernel
theorem dX4_dropOldest_10 : decode cX4_dropOldest 10 = .ok (.aload_n 0, 1) := by decide +kernel
theorem dX4_dropOldest_11 : decode cX4_dropOldest 11 = .ok (.getfield 11, 3) := by decide +kernel
theorem dX4_dropOldest_14 : decode cX4_dropOldest 14 = .ok (.arraylength, 1) := by decide +kernel
theorem dX4_dropOldest_15 : decode cX4_dropOldest 15 = .ok (.if_icmp .ge 23, 3) := by decide +kernel
theorem dX4_dropOldest_18 : decode cX4_dropOldest 18 = .ok (.aload_n 0, 1) := by decide +kernel
theorem dX4_dropOldest_19 : decode cX4_dropOldest 19 = .ok (.getfield 11, 3) := by decide +kernel
theorem dX4_dropOldest_22 : decode cX4_dropOldest 22 = .ok (.iload_n 2, 1) := by decide +kernel
theorem dX4_dropOldest_23 : decode cX4_dropOldest 23 = .ok (.iconst 1, 1) := by decide +kernel
theorem dX4_dropOldest_24 : decode cX4_dropOldest 24 = .ok (.isub, 1) := by decide +kernel
theorem dX4_dropOldest_25 : decode cX4_dropOldest 25 = .ok (.aload_n 0, 1) := by decide +kernel
theorem dX4_dropOldest_26 : decode cX4_dropOldest 26 = .ok (.getfield 11, 3) := by decide +kernel
theorem dX4_dropOldest_29 : decode cX4_dropOldest 29 = .ok (.iload_n 2, 1) := by decide +kernel
theorem dX4_dropOldest_30 : decode cX4_dropOldest 30 = .ok (.aaload, 1) := by decide +kernel
theorem dX4_dropOldest_31 : decode cX4_dropOldest 31 = .ok (.aastore, 1) := by decide +kernel
theorem dX4_dropOldest_32 : decode cX4_dropOldest 32 = .ok (.iinc 2 1, 3) := by decide +kernel
theorem dX4_dropOldest_35 : decode cX4_dropOldest 35 = .ok (.goto (-26), 3) := by decide +kernel
theorem dX4_dropOldest_38 : decode cX4_dropOldest 38 = .ok (.aload_n 0, 1) := by decide +kernel
theorem dX4_dropOldest_39 : decode cX4_dropOldest 39 = .ok (.getfield 11, 3) := by decide +kernel
theorem dX4_dropOldest_42 : decode cX4_dropOldest 42 = .ok (.aload_n 0, 1) := by decide +kernel
theorem dX4_dropOldest_43 : decode cX4_dropOldest 43 = .ok (.getfield 11, 3) := by decide +kernel
theorem dX4_dropOldest_46 : decode cX4_dropOldest 46 = .ok (.arraylength, 1) := by decide +kernel
theorem dX4_dropOldest_47 : decode cX4_dropOldest 47 = .ok (.iconst 1, 1) := by decide +kernel
theorem dX4_dropOldest_48 : decode cX4_dropOldest 48 = .ok (.isub, 1) := by decide +kernel
theorem dX4_dropOldest_49 : decode cX4_dropOldest 49 = .ok (.aload_n 1, 1) := by decide +kernel
theorem dX4_dropOldest_50 : decode cX4_dropOldest 50 = .ok (.aastore, 1) := by decide +kernel
theorem dX4_dropOldest_51 : decode cX4_dropOldest 51 = .ok (.aload_n 0, 1) := by decide +kernel
theorem dX4_dropOldest_52 : decode cX4_dropOldest 52 = .ok (.dup, 1) := by decide +kernel
theorem dX4_dropOldest_53 : decode cX4_dropOldest 53 = .ok (.getfield 23, 3) := by decide +kernel
theorem dX4_dropOldest_56 : decode cX4_dropOldest 56 = .ok (.iconst 1, 1) := by decide +kernel
theorem dX4_dropOldest_57 : decode cX4_dropOldest 57 = .ok (.isub, 1) := by decide +kernel
theorem dX4_dropOldest_58 : decode cX4_dropOldest 58 = .ok (.putfield 23, 3) := by decide +kernel
theorem dX4_dropOldest_61 : decode cX4_dropOldest 61 = .ok (.return_, 1) := by decide +kernel
theorem dX4_isWithin_0 : decode cX4_isWithin 0 = .ok (.iload_n 0, 1) := by decide +kernel
theorem dX4_isWithin_1 : decode cX4_isWithin 1 = .ok (.iload_n 1, 1) := by decide +kernel
theorem dX4_isWithin_2 : decode cX4_isWithin 2 = .ok (.if_icmp .lt 12, 3) := by decide +kernel
theorem dX4_isWithin_5 : decode cX4_isWithin 5 = .ok (.iload_n 0, 1) := by decide +kernel
theorem dX4_isWithin_6 : decode cX4_isWithin 6 = .ok (.iload_n 2, 1) := by decide +kernel
theorem dX4_isWithin_7 : decode cX4_isWithin 7 = .ok (.if_icmp .gt 7, 3) := by decide +kernel
theorem dX4_isWithin_10 : decode cX4_isWithin 10 = .ok (.iconst 1, 1) := by decide +kernel
theorem dX4_isWithin_11 : decode cX4_isWithin 11 = .ok (.goto 4, 3) := by decide +kernel
theorem dX4_isWithin_14 : decode cX4_isWithin 14 = .ok (.iconst 0, 1) := by decide +kernel
theorem dX4_isWithin_15 : decode cX4_isWithin 15 = .ok (.ireturn, 1) := by decide +kernel
theorem dX4_isSeat_0 : decode cX4_isSeat 0 = .ok (.iload_n 0, 1) := by decide +kernel
theorem dX4_isSeat_1 : decode cX4_isSeat 1 = .ok (.iconst 0, 1) := by decide +kernel
theorem dX4_isSeat_2 : decode cX4_isSeat 2 = .ok (.iconst 5, 1) := by decide +kernel
theorem dX4_isSeat_3 : decode cX4_isSeat 3 = .ok (.invokestatic 94, 3) := by decide +kernel
theorem dX4_isSeat_6 : decode cX4_isSeat 6 = .ok (.ifCond .eq 17, 3) := by decide +kernel
theorem dX4_isSeat_9 : decode cX4_isSeat 9 = .ok (.iload_n 1, 1) := by decide +kernel
theorem dX4_isSeat_10 : decode cX4_isSeat 10 = .ok (.iconst 0, 1) := by decide +kernel
theorem dX4_isSeat_11 : decode cX4_isSeat 11 = .ok (.bipush 7, 2) := by decide +kernel
theorem dX4_isSeat_13 : decode cX4_isSeat 13 = .ok (.invokestatic 94, 3) := by decide +kernel
theorem dX4_isSeat_16 : decode cX4_isSeat 16 = .ok (.ifCond .eq 7, 3) := by decide +kernel
theorem dX4_isSeat_19 : decode cX4_isSeat 19 = .ok (.iconst 1, 1) := by decide +kernel
theorem dX4_isSeat_20 : decode cX4_isSeat 20 = .ok (.goto 4, 3) := by decide +kernel
theorem dX4_isSeat_23 : decode cX4_isSeat 23 = .ok (.iconst 0, 1) := by decide +kernel
theorem dX4_isSeat_24 : decode cX4_isSeat 24 = .ok (.ireturn, 1) := by decide +kernel
theorem dJ6_bitCount_0f7a4_0 : decode cJ6_bitCount_0f7a4 0 = .ok (.iload_n 0, 1) := by decide +kernel
theorem dJ6_bitCount_0f7a4_1 : decode cJ6_bitCount_0f7a4 1 = .ok (.iload_n 0, 1) := by decide +kernel
theorem dJ6_bitCount_0f7a4_2 : decode cJ6_bitCount_0f7a4 2 = .ok (.iconst 1, 1) := by decide +kernel
theorem dJ6_bitCount_0f7a4_3 : decode cJ6_bitCount_0f7a4 3 = .ok (.iushr, 1) := by decide +kernel
theorem dJ6_bitCount_0f7a4_4 : decode cJ6_bitCount_0f7a4 4 = .ok (.ldc_w 265, 3) := by decide +kernel
theorem dJ6_bitCount_0f7a4_7 : decode cJ6_bitCount_0f7a4 7 = .ok (.iand, 1) := by decide +kernel
theorem dJ6_bitCount_0f7a4_8 : decode cJ6_bitCount_0f7a4 8 = .ok (.isub, 1) := by decide +kernel
theorem dJ6_bitCount_0f7a4_9 : decode cJ6_bitCount_0f7a4 9 = .ok (.istore_n 0, 1) := by decide +kernel
theorem dJ6_bitCount_0f7a4_10 : decode cJ6_bitCount_0f7a4 10 = .ok (.iload_n 0, 1) := by decide +kernel
theorem dJ6_bitCount_0f7a4_11 : decode cJ6_bitCount_0f7a4 11 = .ok (.ldc_w 266, 3) := by decide +kernel
theorem dJ6_bitCount_0f7a4_14 : decode cJ6_bitCount_0f7a4 14 = .ok (.iand, 1) := by decide +kernel
theorem dJ6_bitCount_0f7a4_15 : decode cJ6_bitCount_0f7a4 15 = .ok (.iload_n 0, 1) := by decide +kernel
theorem dJ6_bitCount_0f7a4_16 : decode cJ6_bitCount_0f7a4 16 = .ok (.iconst 2, 1) := by decide +kernel
theorem dJ6_bitCount_0f7a4_17 : decode cJ6_bitCount_0f7a4 17 = .ok (.iushr, 1) := by decide +kernel
theorem dJ6_bitCount_0f7a4_18 : decode cJ6_bitCount_0f7a4 18 = .ok (.ldc_w 266, 3) := by decide +kernel
theorem dJ6_bitCount_0f7a4_21 : decode cJ6_bitCount_0f7a4 21 = .ok (.iand, 1) := by decide +kernel
theorem dJ6_bitCount_0f7a4_22 : decode cJ6_bitCount_0f7a4 22 = .ok (.iadd, 1) := by decide +kernel
theorem dJ6_bitCount_0f7a4_23 : decode cJ6_bitCount_0f7a4 23 = .ok (.istore_n 0, 1) := by decide +kernel
theorem dJ6_bitCount_0f7a4_24 : decode cJ6_bitCount_0f7a4 24 = .ok (.iload_n 0, 1) := by decide +kernel
theorem dJ6_bitCount_0f7a4_25 : decode cJ6_bitCount_0f7a4 25 = .ok (.iload_n 0, 1) := by decide +kernel
theorem dJ6_bitCount_0f7a4_26 : decode cJ6_bitCount_0f7a4 26 = .ok (.iconst 4, 1) := by decide +kernel
theorem dJ6_bitCount_0f7a4_27 : decode cJ6_bitCount_0f7a4 27 = .ok (.iushr, 1) := by decide +kernel
theorem dJ6_bitCount_0f7a4_28 : decode cJ6_bitCount_0f7a4 28 = .ok (.iadd, 1) := by decide +kernel
theorem dJ6_bitCount_0f7a4_29 : decode cJ6_bitCount_0f7a4 29 = .ok (.ldc_w 267, 3) := by decide +kernel
theorem dJ6_bitCount_0f7a4_32 : decode cJ6_bitCount_0f7a4 32 = .ok (.iand, 1) := by decide +kernel
theorem dJ6_bitCount_0f7a4_33 : decode cJ6_bitCount_0f7a4 33 = .ok (.istore_n 0, 1) := by decide +kernel
theorem dJ6_bitCount_0f7a4_34 : decode cJ6_bitCount_0f7a4 34 = .ok (.iload_n 0, 1) := by decide +kernel
theorem dJ6_bitCount_0f7a4_35 : decode cJ6_bitCount_0f7a4 35 = .ok (.iload_n 0, 1) := by decide +kernel
theorem dJ6_bitCount_0f7a4_36 : decode cJ6_bitCount_0f7a4 36 = .ok (.bipush 8, 2) := by decide +kernel
theorem dJ6_bitCount_0f7a4_38 : decode cJ6_bitCount_0f7a4 38 = .ok (.iushr, 1) := by decide +kernel
theorem dJ6_bitCount_0f7a4_39 : decode cJ6_bitCount_0f7a4 39 = .ok (.iadd, 1) := by decide +kernel
theorem dJ6_bitCount_0f7a4_40 : decode cJ6_bitCount_0f7a4 40 = .ok (.istore_n 0, 1) := by decide +kernel
theorem dJ6_bitCount_0f7a4_41 : decode cJ6_bitCount_0f7a4 41 = .ok (.iload_n 0, 1) := by decide +kernel
theorem dJ6_bitCount_0f7a4_42 : decode cJ6_bitCount_0f7a4 42 = .ok (.iload_n 0, 1) := by decide +kernel
theorem dJ6_bitCount_0f7a4_43 : decode cJ6_bitCount_0f7a4 43 = .ok (.bipush 16, 2) := by decide +kernel
theorem dJ6_bitCount_0f7a4_45 : decode cJ6_bitCount_0f7a4 45 = .ok (.iushr, 1) := by decide +kernel
theorem dJ6_bitCount_0f7a4_46 : decode cJ6_bitCount_0f7a4 46 = .ok (.iadd, 1) := by decide +kernel
theorem dJ6_bitCount_0f7a4_47 : decode cJ6_bitCount_0f7a4 47 = .ok (.istore_n 0, 1) := by decide +kernel
theorem dJ6_bitCount_0f7a4_48 : decode cJ6_bitCount_0f7a4 48 = .ok (.iload_n 0, 1) := by decide +kernel
theorem dJ6_bitCount_0f7a4_49 : decode cJ6_bitCount_0f7a4 49 = .ok (.bipush 63, 2) := by decide +kernel
theorem dJ6_bitCount_0f7a4_51 : decode cJ6_bitCount_0f7a4 51 = .ok (.iand, 1) := by decide +kernel
theorem dJ6_bitCount_0f7a4_52 : decode cJ6_bitCount_0f7a4 52 = .ok (.ireturn, 1) := by decide +kernel
theorem dJ9_max_7cf53_0 : decode cJ9_max_7cf53 0 = .ok (.iload_n 0, 1) := by decide +kernel
theorem dJ9_max_7cf53_1 : decode cJ9_max_7cf53 1 = .ok (.iload_n 1, 1) := by decide +kernel
theorem dJ9_max_7cf53_2 : decode cJ9_max_7cf53 2 = .ok (.if_icmp .lt 7, 3) := by decide +kernel
theorem dJ9_max_7cf53_5 : decode cJ9_max_7cf53 5 = .ok (.iload_n 0, 1) := by decide +kernel
theorem dJ9_max_7cf53_6 : decode cJ9_max_7cf53 6 = .ok (.goto 4, 3) := by decide +kernel
theorem dJ9_max_7cf53_9 : decode cJ9_max_7cf53 9 = .ok (.iload_n 1, 1) := by decide +kernel
theorem dJ9_max_7cf53_10 : decode cJ9_max_7cf53 10 = .ok (.ireturn, 1) := by decide +kernel
theorem dJ9_min_7cf53_0 : decode cJ9_min_7cf53 0 = .ok (.iload_n 0, 1) := by decide +kernel
theorem dJ9_min_7cf53_1 : decode cJ9_min_7cf53 1 = .ok (.iload_n 1, 1) := by decide +kernel
theorem dJ9_min_7cf53_2 : decode cJ9_min_7cf53 2 = .ok (.if_icmp .gt 7, 3) := by decide +kernel
theorem dJ9_min_7cf53_5 : decode cJ9_min_7cf53 5 = .ok (.iload_n 0, 1) := by decide +kernel
theorem dJ9_min_7cf53_6 : decode cJ9_min_7cf53 6 = .ok (.goto 4, 3) := by decide +kernel
theorem dJ9_min_7cf53_9 : decode cJ9_min_7cf53 9 = .ok (.iload_n 1, 1) := by decide +kernel
theorem dJ9_min_7cf53_10 : decode cJ9_min_7cf53 10 = .ok (.ireturn, 1) := by decide +kernel
theorem dL_cell_0 : decode cL_cell 0 = .ok (.iload_n 1, 1) := by decide +kernel
theorem dL_cell_1 : decode cL_cell 1 = .ok (.aload_n 0, 1) := by decide +kernel
theorem dL_cell_2 : decode cL_cell 2 = .ok (.arraylength, 1) := by decide +kernel
theorem dL_cell_3 : decode cL_cell 3 = .ok (.if_icmp .ge 9, 3) := by decide +kernel
theorem dL_cell_6 : decode cL_cell 6 = .ok (.aload_n 0, 1) := by decide +kernel
theorem dL_cell_7 : decode cL_cell 7 = .ok (.iload_n 1, 1) := by decide +kernel
theorem dL_cell_8 : decode cL_cell 8 = .ok (.iaload, 1) := by decide +kernel
theorem dL_cell_9 : decode cL_cell 9 = .ok (.goto 9, 3) := by decide +kernel
theorem dL_cell_12 : decode cL_cell 12 = .ok (.ldc 7, 2) := by decide +kernel
theorem dL_cell_14 : decode cL_cell 14 = .ok (.iload_n 1, 1) := by decide +kernel
theorem dL_cell_15 : decode cL_cell 15 = .ok (.iconst 3, 1) := by decide +kernel
theorem dL_cell_16 : decode cL_cell 16 = .ok (.iadd, 1) := by decide +kernel
theorem dL_cell_17 : decode cL_cell 17 = .ok (.imul, 1) := by decide +kernel
theorem dL_cell_18 : decode cL_cell 18 = .ok (.ireturn, 1) := by decide +kernel
theorem dL_loud_0 : decode cL_loud 0 = .ok (.aload_n 0, 1) := by decide +kernel
theorem dL_loud_1 : decode cL_loud 1 = .ok (.iconst 5, 1) := by decide +kernel
theorem dL_loud_2 : decode cL_loud 2 = .ok (.iload_n 2, 1) := by decide +kernel
theorem dL_loud_3 : decode cL_loud 3 = .ok (.imul, 1) := by decide +kernel
theorem dL_loud_4 : decode cL_loud 4 = .ok (.iconst 3, 1) := by decide +kernel
theorem dL_loud_5 : decode cL_loud 5 = .ok (.iadd, 1) := by decide +kernel
theorem dL_loud_6 : decode cL_loud 6 = .ok (.iaload, 1) := by decide +kernel
theorem dL_loud_7 : decode cL_loud 7 = .ok (.aload_n 0, 1) := by decide +kernel
theorem dL_loud_8 : decode cL_loud 8 = .ok (.iconst 5, 1) := by decide +kernel
theorem dL_loud_9 : decode cL_loud 9 = .ok (.iload_n 2, 1) := by decide +kernel
theorem dL_loud_10 : decode cL_loud 10 = .ok (.imul, 1) := by decide +kernel
theorem dL_loud_11 : decode cL_loud 11 = .ok (.iconst 4, 1) := by decide +kernel
theorem dL_loud_12 : decode cL_loud 12 = .ok (.iadd, 1) := by decide +kernel
theorem dL_loud_13 : decode cL_loud 13 = .ok (.iaload, 1) := by decide +kernel
theorem dL_loud_14 : decode cL_loud 14 = .ok (.iadd, 1) := by decide +kernel
theorem dL_loud_15 : decode cL_loud 15 = .ok (.aload_n 1, 1) := by decide +kernel
theorem dL_loud_16 : decode cL_loud 16 = .ok (.iconst 5, 1) := by decide +kernel
theorem dL_loud_17 : decode cL_loud 17 = .ok (.iload_n 2, 1) := by decide +kernel
theorem dL_loud_18 : decode cL_loud 18 = .ok (.imul, 1) := by decide +kernel
theorem dL_loud_19 : decode cL_loud 19 = .ok (.iaload, 1) := by decide +kernel
theorem dL_loud_20 : decode cL_loud 20 = .ok (.isub, 1) := by decide +kernel
theorem dL_loud_21 : decode cL_loud 21 = .ok (.aload_n 0, 1) := by decide +kernel
theorem dL_loud_22 : decode cL_loud 22 = .ok (.iconst 5, 1) := by decide +kernel
theorem dL_loud_23 : decode cL_loud 23 = .ok (.iload_n 2, 1) := by decide +kernel
theorem dL_loud_24 : decode cL_loud 24 = .ok (.imul, 1) := by decide +kernel
theorem dL_loud_25 : decode cL_loud 25 = .ok (.iaload, 1) := by decide +kernel
theorem dL_loud_26 : decode cL_loud 26 = .ok (.isub, 1) := by decide +kernel
theorem dL_loud_27 : decode cL_loud 27 = .ok (.ireturn, 1) := by decide +kernel
theorem dL_why_0 : decode cL_why 0 = .ok (.aload_n 2, 1) := by decide +kernel
theorem dL_why_1 : decode cL_why 1 = .ok (.iconst 3, 1) := by decide +kernel
theorem dL_why_2 : decode cL_why 2 = .ok (.iaload, 1) := by decide +kernel
theorem dL_why_3 : decode cL_why 3 = .ok (.ifCond .le 13, 3) := by decide +kernel
theorem dL_why_6 : decode cL_why 6 = .ok (.aload_n 2, 1) := by decide +kernel
theorem dL_why_7 : decode cL_why 7 = .ok (.iconst 2, 1) := by decide +kernel
theorem dL_why_8 : decode cL_why 8 = .ok (.iaload, 1) := by decide +kernel
theorem dL_why_9 : decode cL_why 9 = .ok (.aload_n 2, 1) := by decide +kernel
theorem dL_why_10 : decode cL_why 10 = .ok (.iconst 1, 1) := by decide +kernel
theorem dL_why_11 : decode cL_why 11 = .ok (.iaload, 1) := by decide +kernel
theorem dL_why_12 : decode cL_why 12 = .ok (.iadd, 1) := by decide +kernel
theorem dL_why_13 : decode cL_why 13 = .ok (.goto 6, 3) := by decide +kernel
theorem dL_why_16 : decode cL_why 16 = .ok (.aload_n 2, 1) := by decide +kernel
theorem dL_why_17 : decode cL_why 17 = .ok (.iconst 0, 1) := by decide +kernel
theorem dL_why_18 : decode cL_why 18 = .ok (.iaload, 1) := by decide +kernel
theorem dL_why_19 : decode cL_why 19 = .ok (.istore 5, 2) := by decide +kernel
theorem dL_why_21 : decode cL_why 21 = .ok (.aload_n 2, 1) := by decide +kernel
theorem dL_why_22 : decode cL_why 22 = .ok (.bipush 9, 2) := by decide +kernel
theorem dL_why_24 : decode cL_why 24 = .ok (.iaload, 1) := by decide +kernel
theorem dL_why_25 : decode cL_why 25 = .ok (.ifCond .ne 5, 3) := by decide +kernel
theorem dL_why_28 : decode cL_why 28 = .ok (.iconst 1, 1) := by decide +kernel
theorem dL_why_29 : decode cL_why 29 = .ok (.ireturn, 1) := by decide +kernel
theorem dL_why_30 : decode cL_why 30 = .ok (.aload_n 0, 1) := by decide +kernel
theorem dL_why_31 : decode cL_why 31 = .ok (.aload_n 1, 1) := by decide +kernel
theorem dL_why_32 : decode cL_why 32 = .ok (.iload 4, 2) := by decide +kernel
theorem dL_why_34 : decode cL_why 34 = .ok (.invokestatic 9, 3) := by decide +kernel
theorem dL_why_37 : decode cL_why 37 = .ok (.aload_n 3, 1) := by decide +kernel
theorem dL_why_38 : decode cL_why 38 = .ok (.bipush 15, 2) := by decide +kernel
theorem dL_why_40 : decode cL_why 40 = .ok (.iaload, 1) := by decide +kernel
theorem dL_why_41 : decode cL_why 41 = .ok (.if_icmp .ge 7, 3) := by decide +kernel
theorem dL_why_44 : decode cL_why 44 = .ok (.iconst 2, 1) := by decide +kernel
theorem dL_why_45 : decode cL_why 45 = .ok (.goto 35, 3) := by decide +kernel
theorem dL_why_48 : decode cL_why 48 = .ok (.aload_n 2, 1) := by decide +kernel
theorem dL_why_49 : decode cL_why 49 = .ok (.iconst 3, 1) := by decide +kernel
theorem dL_why_50 : decode cL_why 50 = .ok (.iaload, 1) := by decide +kernel
theorem dL_why_51 : decode cL_why 51 = .ok (.iconst 1, 1) := by decide +kernel
theorem dL_why_52 : decode cL_why 52 = .ok (.isub, 1) := by decide +kernel
theorem dL_why_53 : decode cL_why 53 = .ok (.iload 4, 2) := by decide +kernel
theorem dL_why_55 : decode cL_why 55 = .ok (.if_icmp .ne 7, 3) := by decide +kernel
theorem dL_why_58 : decode cL_why 58 = .ok (.iconst 3, 1) := by decide +kernel
theorem dL_why_59 : decode cL_why 59 = .ok (.goto 21, 3) := by decide +kernel
theorem dL_why_62 : decode cL_why 62 = .ok (.aload_n 0, 1) := by decide +kernel
theorem dL_why_63 : decode cL_why 63 = .ok (.iconst 5, 1) := by decide +kernel
theorem dL_why_64 : decode cL_why 64 = .ok (.iload 4, 2) := by decide +kernel
theorem dL_why_66 : decode cL_why 66 = .ok (.imul, 1) := by decide +kernel
theorem dL_why_67 : decode cL_why 67 = .ok (.iconst 2, 1) := by decide +kernel
theorem dL_why_68 : decode cL_why 68 = .ok (.iadd, 1) := by decide +kernel
theorem dL_why_69 : decode cL_why 69 = .ok (.iaload, 1) := by decide +kernel
theorem dL_why_70 : decode cL_why 70 = .ok (.iload 5, 2) := by decide +kernel
theorem dL_why_72 : decode cL_why 72 = .ok (.if_icmp .ge 7, 3) := by decide +kernel
theorem dL_why_75 : decode cL_why 75 = .ok (.iconst 4, 1) := by decide +kernel
theorem dL_why_76 : decode cL_why 76 = .ok (.goto 4, 3) := by decide +kernel
theorem dL_why_79 : decode cL_why 79 = .ok (.iconst 0, 1) := by decide +kernel
theorem dL_why_80 : decode cL_why 80 = .ok (.ireturn, 1) := by decide +kernel
theorem dL_gone_0 : decode cL_gone 0 = .ok (.bipush 39, 2) := by decide +kernel
theorem dL_gone_2 : decode cL_gone 2 = .ok (.istore 4, 2) := by decide +kernel
theorem dL_gone_4 : decode cL_gone 4 = .ok (.iload 4, 2) := by decide +kernel
theorem dL_gone_6 : decode cL_gone 6 = .ok (.iconst 4, 1) := by decide +kernel
theorem dL_gone_7 : decode cL_gone 7 = .ok (.if_icmp .le 19, 3) := by decide +kernel
theorem dL_gone_10 : decode cL_gone 10 = .ok (.aload_n 1, 1) := by decide +kernel
theorem dL_gone_11 : decode cL_gone 11 = .ok (.iload 4, 2) := by decide +kernel
theorem dL_gone_13 : decode cL_gone 13 = .ok (.aload_n 1, 1) := by decide +kernel
theorem dL_gone_14 : decode cL_gone 14 = .ok (.iload 4, 2) := by decide +kernel
theorem dL_gone_16 : decode cL_gone 16 = .ok (.iconst 5, 1) := by decide +kernel
theorem dL_gone_17 : decode cL_gone 17 = .ok (.isub, 1) := by decide +kernel
theorem dL_gone_18 : decode cL_gone 18 = .ok (.iaload, 1) := by decide +kernel
theorem dL_gone_19 : decode cL_gone 19 = .ok (.iastore, 1) := by decide +kernel
theorem dL_gone_20 : decode cL_gone 20 = .ok (.iinc 4 (-1), 3) := by decide +kernel
theorem dL_gone_23 : decode cL_gone 23 = .ok (.goto (-19), 3) := by decide +kernel
theorem dL_gone_26 : decode cL_gone 26 = .ok (.aload_n 1, 1) := by decide +kernel
theorem dL_gone_27 : decode cL_gone 27 = .ok (.iconst 0, 1) := by decide +kernel
theorem dL_gone_28 : decode cL_gone 28 = .ok (.iload_n 3, 1) := by decide +kernel
theorem dL_gone_29 : decode cL_gone 29 = .ok (.iastore, 1) := by decide +kernel
theorem dL_gone_30 : decode cL_gone 30 = .ok (.aload_n 1, 1) := by decide +kernel
theorem dL_gone_31 : decode cL_gone 31 = .ok (.iconst 1, 1) := by decide +kernel
theorem dL_gone_32 : decode cL_gone 32 = .ok (.aload_n 0, 1) := by decide +kernel
theorem dL_gone_33 : decode cL_gone 33 = .ok (.iconst 2, 1) := by decide +kernel
theorem dL_gone_34 : decode cL_gone 34 = .ok (.iaload, 1) := by decide +kernel
theorem dL_gone_35 : decode cL_gone 35 = .ok (.iastore, 1) := by decide +kernel
theorem dL_gone_36 : decode cL_gone 36 = .ok (.aload_n 1, 1) := by decide +kernel
theorem dL_gone_37 : decode cL_gone 37 = .ok (.iconst 2, 1) := by decide +kernel
theorem dL_gone_38 : decode cL_gone 38 = .ok (.aload_n 0, 1) := by decide +kernel
theorem dL_gone_39 : decode cL_gone 39 = .ok (.iconst 3, 1) := by decide +kernel
theorem dL_gone_40 : decode cL_gone 40 = .ok (.iaload, 1) := by decide +kernel
theorem dL_gone_41 : decode cL_gone 41 = .ok (.iastore, 1) := by decide +kernel
theorem dL_gone_42 : decode cL_gone 42 = .ok (.aload_n 1, 1) := by decide +kernel
theorem dL_gone_43 : decode cL_gone 43 = .ok (.iconst 3, 1) := by decide +kernel
theorem dL_gone_44 : decode cL_gone 44 = .ok (.aload_n 0, 1) := by decide +kernel
theorem dL_gone_45 : decode cL_gone 45 = .ok (.iconst 4, 1) := by decide +kernel
theorem dL_gone_46 : decode cL_gone 46 = .ok (.iaload, 1) := by decide +kernel
theorem dL_gone_47 : decode cL_gone 47 = .ok (.iastore, 1) := by decide +kernel
theorem dL_gone_48 : decode cL_gone 48 = .ok (.aload_n 1, 1) := by decide +kernel
theorem dL_gone_49 : decode cL_gone 49 = .ok (.iconst 4, 1) := by decide +kernel
theorem dL_gone_50 : decode cL_gone 50 = .ok (.aload_n 0, 1) := by decide +kernel
theorem dL_gone_51 : decode cL_gone 51 = .ok (.bipush 6, 2) := by decide +kernel
theorem dL_gone_53 : decode cL_gone 53 = .ok (.iaload, 1) := by decide +kernel
theorem dL_gone_54 : decode cL_gone 54 = .ok (.iastore, 1) := by decide +kernel
theorem dL_gone_55 : decode cL_gone 55 = .ok (.aload_n 0, 1) := by decide +kernel
theorem dL_gone_56 : decode cL_gone 56 = .ok (.bipush 9, 2) := by decide +kernel
theorem dL_gone_58 : decode cL_gone 58 = .ok (.iconst 0, 1) := by decide +kernel
theorem dL_gone_59 : decode cL_gone 59 = .ok (.iastore, 1) := by decide +kernel
theorem dL_gone_60 : decode cL_gone 60 = .ok (.aload_n 2, 1) := by decide +kernel
theorem dL_gone_61 : decode cL_gone 61 = .ok (.iconst 4, 1) := by decide +kernel
theorem dL_gone_62 : decode cL_gone 62 = .ok (.iload_n 3, 1) := by decide +kernel
theorem dL_gone_63 : decode cL_gone 63 = .ok (.iadd, 1) := by decide +kernel
theorem dL_gone_64 : decode cL_gone 64 = .ok (.dup2, 1) := by decide +kernel
theorem dL_gone_65 : decode cL_gone 65 = .ok (.iaload, 1) := by decide +kernel
theorem dL_gone_66 : decode cL_gone 66 = .ok (.iconst 1, 1) := by decide +kernel
theorem dL_gone_67 : decode cL_gone 67 = .ok (.iadd, 1) := by decide +kernel
theorem dL_gone_68 : decode cL_gone 68 = .ok (.iastore, 1) := by decide +kernel
theorem dL_gone_69 : decode cL_gone 69 = .ok (.aload_n 2, 1) := by decide +kernel
theorem dL_gone_70 : decode cL_gone 70 = .ok (.bipush 13, 2) := by decide +kernel
theorem dL_gone_72 : decode cL_gone 72 = .ok (.dup2, 1) := by decide +kernel
theorem dL_gone_73 : decode cL_gone 73 = .ok (.iaload, 1) := by decide +kernel
theorem dL_gone_74 : decode cL_gone 74 = .ok (.aload_n 2, 1) := by decide +kernel
theorem dL_gone_75 : decode cL_gone 75 = .ok (.bipush 13, 2) := by decide +kernel
theorem dL_gone_77 : decode cL_gone 77 = .ok (.iaload, 1) := by decide +kernel
theorem dL_gone_78 : decode cL_gone 78 = .ok (.bipush 8, 2) := by decide +kernel
theorem dL_gone_80 : decode cL_gone 80 = .ok (.if_icmp .ge 7, 3) := by decide +kernel
theorem dL_gone_83 : decode cL_gone 83 = .ok (.iconst 1, 1) := by decide +kernel
theorem dL_gone_84 : decode cL_gone 84 = .ok (.goto 4, 3) := by decide +kernel
theorem dL_gone_87 : decode cL_gone 87 = .ok (.iconst 0, 1) := by decide +kernel
theorem dL_gone_88 : decode cL_gone 88 = .ok (.iadd, 1) := by decide +kernel
theorem dL_gone_89 : decode cL_gone 89 = .ok (.iastore, 1) := by decide +kernel
theorem dL_gone_90 : decode cL_gone 90 = .ok (.return_, 1) := by decide +kernel
theorem dL_cough_0 : decode cL_cough 0 = .ok (.aload_n 0, 1) := by decide +kernel
theorem dL_cough_1 : decode cL_cough 1 = .ok (.aload_n 1, 1) := by decide +kernel
theorem dL_cough_2 : decode cL_cough 2 = .ok (.aload_n 2, 1) := by decide +kernel
theorem dL_cough_3 : decode cL_cough 3 = .ok (.aload 4, 2) := by decide +kernel
theorem dL_cough_5 : decode cL_cough 5 = .ok (.iload 5, 2) := by decide +kernel
theorem dL_cough_7 : decode cL_cough 7 = .ok (.invokestatic 15, 3) := by decide +kernel
theorem dL_cough_10 : decode cL_cough 10 = .ok (.ifCond .le 7, 3) := by decide +kernel
theorem dL_cough_13 : decode cL_cough 13 = .ok (.iconst 0, 1) := by decide +kernel
theorem dL_cough_14 : decode cL_cough 14 = .ok (.goto 22, 3) := by decide +kernel
theorem dL_cough_17 : decode cL_cough 17 = .ok (.aload_n 2, 1) := by decide +kernel
theorem dL_cough_18 : decode cL_cough 18 = .ok (.iconst 3, 1) := by decide +kernel
theorem dL_cough_19 : decode cL_cough 19 = .ok (.iaload, 1) := by decide +kernel
theorem dL_cough_20 : decode cL_cough 20 = .ok (.ifCond .le 13, 3) := by decide +kernel
theorem dL_cough_23 : decode cL_cough 23 = .ok (.aload_n 2, 1) := by decide +kernel
theorem dL_cough_24 : decode cL_cough 24 = .ok (.iconst 2, 1) := by decide +kernel
theorem dL_cough_25 : decode cL_cough 25 = .ok (.iaload, 1) := by decide +kernel
theorem dL_cough_26 : decode cL_cough 26 = .ok (.aload_n 2, 1) := by decide +kernel
theorem dL_cough_27 : decode cL_cough 27 = .ok (.iconst 1, 1) := by decide +kernel
theorem dL_cough_28 : decode cL_cough 28 = .ok (.iaload, 1) := by decide +kernel
theorem dL_cough_29 : decode cL_cough 29 = .ok (.iadd, 1) := by decide +kernel
theorem dL_cough_30 : decode cL_cough 30 = .ok (.goto 6, 3) := by decide +kernel
theorem dL_cough_33 : decode cL_cough 33 = .ok (.aload_n 2, 1) := by decide +kernel
theorem dL_cough_34 : decode cL_cough 34 = .ok (.iconst 0, 1) := by decide +kernel
theorem dL_cough_35 : decode cL_cough 35 = .ok (.iaload, 1) := by decide +kernel
theorem dL_cough_36 : decode cL_cough 36 = .ok (.istore 7, 2) := by decide +kernel
theorem dL_cough_38 : decode cL_cough 38 = .ok (.aload_n 1, 1) := by decide +kernel
theorem dL_cough_39 : decode cL_cough 39 = .ok (.iconst 5, 1) := by decide +kernel
theorem dL_cough_40 : decode cL_cough 40 = .ok (.iload 5, 2) := by decide +kernel
theorem dL_cough_42 : decode cL_cough 42 = .ok (.imul, 1) := by decide +kernel
theorem dL_cough_43 : decode cL_cough 43 = .ok (.iconst 1, 1) := by decide +kernel
theorem dL_cough_44 : decode cL_cough 44 = .ok (.iadd, 1) := by decide +kernel
theorem dL_cough_45 : decode cL_cough 45 = .ok (.dup2, 1) := by decide +kernel
theorem dL_cough_46 : decode cL_cough 46 = .ok (.iaload, 1) := by decide +kernel
theorem dL_cough_47 : decode cL_cough 47 = .ok (.iconst 1, 1) := by decide +kernel
theorem dL_cough_48 : decode cL_cough 48 = .ok (.iadd, 1) := by decide +kernel
theorem dL_cough_49 : decode cL_cough 49 = .ok (.iastore, 1) := by decide +kernel
theorem dL_cough_50 : decode cL_cough 50 = .ok (.aload 4, 2) := by decide +kernel
theorem dL_cough_52 : decode cL_cough 52 = .ok (.bipush 9, 2) := by decide +kernel
theorem dL_cough_54 : decode cL_cough 54 = .ok (.dup2, 1) := by decide +kernel
theorem dL_cough_55 : decode cL_cough 55 = .ok (.iaload, 1) := by decide +kernel
theorem dL_cough_56 : decode cL_cough 56 = .ok (.iconst 1, 1) := by decide +kernel
theorem dL_cough_57 : decode cL_cough 57 = .ok (.iadd, 1) := by decide +kernel
theorem dL_cough_58 : decode cL_cough 58 = .ok (.iastore, 1) := by decide +kernel
theorem dL_cough_59 : decode cL_cough 59 = .ok (.iload 7, 2) := by decide +kernel
theorem dL_cough_61 : decode cL_cough 61 = .ok (.ifCond .ne 5, 3) := by decide +kernel
theorem dL_cough_64 : decode cL_cough 64 = .ok (.iconst 0, 1) := by decide +kernel
theorem dL_cough_65 : decode cL_cough 65 = .ok (.ireturn, 1) := by decide +kernel
theorem dL_cough_66 : decode cL_cough 66 = .ok (.aload_n 2, 1) := by decide +kernel
theorem dL_cough_67 : decode cL_cough 67 = .ok (.iconst 2, 1) := by decide +kernel
theorem dL_cough_68 : decode cL_cough 68 = .ok (.iload 7, 2) := by decide +kernel
theorem dL_cough_70 : decode cL_cough 70 = .ok (.iastore, 1) := by decide +kernel
theorem dL_cough_71 : decode cL_cough 71 = .ok (.aload_n 2, 1) := by decide +kernel
theorem dL_cough_72 : decode cL_cough 72 = .ok (.iconst 3, 1) := by decide +kernel
theorem dL_cough_73 : decode cL_cough 73 = .ok (.iload 5, 2) := by decide +kernel
theorem dL_cough_75 : decode cL_cough 75 = .ok (.iconst 1, 1) := by decide +kernel
theorem dL_cough_76 : decode cL_cough 76 = .ok (.iadd, 1) := by decide +kernel
theorem dL_cough_77 : decode cL_cough 77 = .ok (.iastore, 1) := by decide +kernel
theorem dL_cough_78 : decode cL_cough 78 = .ok (.aload_n 2, 1) := by decide +kernel
theorem dL_cough_79 : decode cL_cough 79 = .ok (.bipush 6, 2) := by decide +kernel
theorem dL_cough_81 : decode cL_cough 81 = .ok (.dup2, 1) := by decide +kernel
theorem dL_cough_82 : decode cL_cough 82 = .ok (.iaload, 1) := by decide +kernel
theorem dL_cough_83 : decode cL_cough 83 = .ok (.iconst 1, 1) := by decide +kernel
theorem dL_cough_84 : decode cL_cough 84 = .ok (.iadd, 1) := by decide +kernel
theorem dL_cough_85 : decode cL_cough 85 = .ok (.iastore, 1) := by decide +kernel
theorem dL_cough_86 : decode cL_cough 86 = .ok (.aload_n 2, 1) := by decide +kernel
theorem dL_cough_87 : decode cL_cough 87 = .ok (.bipush 7, 2) := by decide +kernel
theorem dL_cough_89 : decode cL_cough 89 = .ok (.iload 6, 2) := by decide +kernel
theorem dL_cough_91 : decode cL_cough 91 = .ok (.iastore, 1) := by decide +kernel
theorem dL_cough_92 : decode cL_cough 92 = .ok (.aload_n 2, 1) := by decide +kernel
theorem dL_cough_93 : decode cL_cough 93 = .ok (.bipush 8, 2) := by decide +kernel
theorem dL_cough_95 : decode cL_cough 95 = .ok (.iconst 1, 1) := by decide +kernel
theorem dL_cough_96 : decode cL_cough 96 = .ok (.iastore, 1) := by decide +kernel
theorem dL_cough_97 : decode cL_cough 97 = .ok (.aload_n 1, 1) := by decide +kernel
theorem dL_cough_98 : decode cL_cough 98 = .ok (.iconst 5, 1) := by decide +kernel
theorem dL_cough_99 : decode cL_cough 99 = .ok (.iload 5, 2) := by decide +kernel
theorem dL_cough_101 : decode cL_cough 101 = .ok (.imul, 1) := by decide +kernel
theorem dL_cough_102 : decode cL_cough 102 = .ok (.iconst 2, 1) := by decide +kernel
theorem dL_cough_103 : decode cL_cough 103 = .ok (.iadd, 1) := by decide +kernel
theorem dL_cough_104 : decode cL_cough 104 = .ok (.dup2, 1) := by decide +kernel
theorem dL_cough_105 : decode cL_cough 105 = .ok (.iaload, 1) := by decide +kernel
theorem dL_cough_106 : decode cL_cough 106 = .ok (.iconst 1, 1) := by decide +kernel
theorem dL_cough_107 : decode cL_cough 107 = .ok (.iadd, 1) := by decide +kernel
theorem dL_cough_108 : decode cL_cough 108 = .ok (.iastore, 1) := by decide +kernel
theorem dL_cough_109 : decode cL_cough 109 = .ok (.aload 4, 2) := by decide +kernel
theorem dL_cough_111 : decode cL_cough 111 = .ok (.bipush 10, 2) := by decide +kernel
theorem dL_cough_113 : decode cL_cough 113 = .ok (.dup2, 1) := by decide +kernel
theorem dL_cough_114 : decode cL_cough 114 = .ok (.iaload, 1) := by decide +kernel
theorem dL_cough_115 : decode cL_cough 115 = .ok (.iconst 1, 1) := by decide +kernel
theorem dL_cough_116 : decode cL_cough 116 = .ok (.iadd, 1) := by decide +kernel
theorem dL_cough_117 : decode cL_cough 117 = .ok (.iastore, 1) := by decide +kernel
theorem dL_cough_118 : decode cL_cough 118 = .ok (.aload_n 0, 1) := by decide +kernel
theorem dL_cough_119 : decode cL_cough 119 = .ok (.iconst 5, 1) := by decide +kernel
theorem dL_cough_120 : decode cL_cough 120 = .ok (.iload 5, 2) := by decide +kernel
theorem dL_cough_122 : decode cL_cough 122 = .ok (.imul, 1) := by decide +kernel
theorem dL_cough_123 : decode cL_cough 123 = .ok (.iconst 4, 1) := by decide +kernel
theorem dL_cough_124 : decode cL_cough 124 = .ok (.iadd, 1) := by decide +kernel
theorem dL_cough_125 : decode cL_cough 125 = .ok (.iaload, 1) := by decide +kernel
theorem dL_cough_126 : decode cL_cough 126 = .ok (.aload_n 0, 1) := by decide +kernel
theorem dL_cough_127 : decode cL_cough 127 = .ok (.iconst 5, 1) := by decide +kernel
theorem dL_cough_128 : decode cL_cough 128 = .ok (.iload 5, 2) := by decide +kernel
theorem dL_cough_130 : decode cL_cough 130 = .ok (.imul, 1) := by decide +kernel
theorem dL_cough_131 : decode cL_cough 131 = .ok (.iconst 3, 1) := by decide +kernel
theorem dL_cough_132 : decode cL_cough 132 = .ok (.iadd, 1) := by decide +kernel
theorem dL_cough_133 : decode cL_cough 133 = .ok (.iaload, 1) := by decide +kernel
theorem dL_cough_134 : decode cL_cough 134 = .ok (.if_icmp .le 38, 3) := by decide +kernel
theorem dL_cough_137 : decode cL_cough 137 = .ok (.aload_n 2, 1) := by decide +kernel
theorem dL_cough_138 : decode cL_cough 138 = .ok (.iconst 4, 1) := by decide +kernel
theorem dL_cough_139 : decode cL_cough 139 = .ok (.dup2, 1) := by decide +kernel
theorem dL_cough_140 : decode cL_cough 140 = .ok (.iaload, 1) := by decide +kernel
theorem dL_cough_141 : decode cL_cough 141 = .ok (.iconst 1, 1) := by decide +kernel
theorem dL_cough_142 : decode cL_cough 142 = .ok (.iadd, 1) := by decide +kernel
theorem dL_cough_143 : decode cL_cough 143 = .ok (.iastore, 1) := by decide +kernel
theorem dL_cough_144 : decode cL_cough 144 = .ok (.aload 4, 2) := by decide +kernel
theorem dL_cough_146 : decode cL_cough 146 = .ok (.bipush 11, 2) := by decide +kernel
theorem dL_cough_148 : decode cL_cough 148 = .ok (.dup2, 1) := by decide +kernel
theorem dL_cough_149 : decode cL_cough 149 = .ok (.iaload, 1) := by decide +kernel
theorem dL_cough_150 : decode cL_cough 150 = .ok (.iconst 1, 1) := by decide +kernel
theorem dL_cough_151 : decode cL_cough 151 = .ok (.iadd, 1) := by decide +kernel
theorem dL_cough_152 : decode cL_cough 152 = .ok (.iastore, 1) := by decide +kernel
theorem dL_cough_153 : decode cL_cough 153 = .ok (.aload_n 2, 1) := by decide +kernel
theorem dL_cough_154 : decode cL_cough 154 = .ok (.iconst 4, 1) := by decide +kernel
theorem dL_cough_155 : decode cL_cough 155 = .ok (.iaload, 1) := by decide +kernel
theorem dL_cough_156 : decode cL_cough 156 = .ok (.aload 4, 2) := by decide +kernel
theorem dL_cough_158 : decode cL_cough 158 = .ok (.bipush 16, 2) := by decide +kernel
theorem dL_cough_160 : decode cL_cough 160 = .ok (.iaload, 1) := by decide +kernel
theorem dL_cough_161 : decode cL_cough 161 = .ok (.if_icmp .lt 11, 3) := by decide +kernel
theorem dL_cough_164 : decode cL_cough 164 = .ok (.aload_n 2, 1) := by decide +kernel
theorem dL_cough_165 : decode cL_cough 165 = .ok (.aload_n 3, 1) := by decide +kernel
theorem dL_cough_166 : decode cL_cough 166 = .ok (.aload 4, 2) := by decide +kernel
theorem dL_cough_168 : decode cL_cough 168 = .ok (.iconst 1, 1) := by decide +kernel
theorem dL_cough_169 : decode cL_cough 169 = .ok (.invokestatic 19, 3) := by decide +kernel
theorem dL_cough_172 : decode cL_cough 172 = .ok (.iload 7, 2) := by decide +kernel
theorem dL_cough_174 : decode cL_cough 174 = .ok (.ireturn, 1) := by decide +kernel
theorem dL_next_0 : decode cL_next 0 = .ok (.aload_n 0, 1) := by decide +kernel
theorem dL_next_1 : decode cL_next 1 = .ok (.iconst 5, 1) := by decide +kernel
theorem dL_next_2 : decode cL_next 2 = .ok (.iload_n 2, 1) := by decide +kernel
theorem dL_next_3 : decode cL_next 3 = .ok (.imul, 1) := by decide +kernel
theorem dL_next_4 : decode cL_next 4 = .ok (.iconst 4, 1) := by decide +kernel
theorem dL_next_5 : decode cL_next 5 = .ok (.iadd, 1) := by decide +kernel
theorem dL_next_6 : decode cL_next 6 = .ok (.iaload, 1) := by decide +kernel
theorem dL_next_7 : decode cL_next 7 = .ok (.istore_n 3, 1) := by decide +kernel
theorem dL_next_8 : decode cL_next 8 = .ok (.iload_n 3, 1) := by decide +kernel
theorem dL_next_9 : decode cL_next 9 = .ok (.ifCond .le 20, 3) := by decide +kernel
theorem dL_next_12 : decode cL_next 12 = .ok (.aload_n 1, 1) := by decide +kernel
theorem dL_next_13 : decode cL_next 13 = .ok (.iconst 0, 1) := by decide +kernel
theorem dL_next_14 : decode cL_next 14 = .ok (.iaload, 1) := by decide +kernel
theorem dL_next_15 : decode cL_next 15 = .ok (.iload_n 2, 1) := by decide +kernel
theorem dL_next_16 : decode cL_next 16 = .ok (.iadd, 1) := by decide +kernel
theorem dL_next_17 : decode cL_next 17 = .ok (.bipush 7, 2) := by decide +kernel
theorem dL_next_19 : decode cL_next 19 = .ok (.iload_n 3, 1) := by decide +kernel
theorem dL_next_20 : decode cL_next 20 = .ok (.isub, 1) := by decide +kernel
theorem dL_next_21 : decode cL_next 21 = .ok (.irem, 1) := by decide +kernel
theorem dL_next_22 : decode cL_next 22 = .ok (.ifCond .ne 7, 3) := by decide +kernel
theorem dL_next_25 : decode cL_next 25 = .ok (.iconst 1, 1) := by decide +kernel
theorem dL_next_26 : decode cL_next 26 = .ok (.goto 4, 3) := by decide +kernel
theorem dL_next_29 : decode cL_next 29 = .ok (.iconst 0, 1) := by decide +kernel
theorem dL_next_30 : decode cL_next 30 = .ok (.ireturn, 1) := by decide +kernel
theorem dL_beat_0 : decode cL_beat 0 = .ok (.aload_n 2, 1) := by decide +kernel
theorem dL_beat_1 : decode cL_beat 1 = .ok (.bipush 9, 2) := by decide +kernel
theorem dL_beat_3 : decode cL_beat 3 = .ok (.iaload, 1) := by decide +kernel
theorem dL_beat_4 : decode cL_beat 4 = .ok (.istore 5, 2) := by decide +kernel
theorem dL_beat_6 : decode cL_beat 6 = .ok (.iconst 0, 1) := by decide +kernel
theorem dL_beat_7 : decode cL_beat 7 = .ok (.istore 6, 2) := by decide +kernel
theorem dL_beat_9 : decode cL_beat 9 = .ok (.iconst 0, 1) := by decide +kernel
theorem dL_beat_10 : decode cL_beat 10 = .ok (.istore 7, 2) := by decide +kernel
theorem dL_beat_12 : decode cL_beat 12 = .ok (.iload 7, 2) := by decide +kernel
theorem dL_beat_14 : decode cL_beat 14 = .ok (.aload 4, 2) := by decide +kernel
theorem dL_beat_16 : decode cL_beat 16 = .ok (.iconst 1, 1) := by decide +kernel
theorem dL_beat_17 : decode cL_beat 17 = .ok (.iaload, 1) := by decide +kernel
theorem dL_beat_18 : decode cL_beat 18 = .ok (.if_icmp .ge 47, 3) := by decide +kernel
theorem dL_beat_21 : decode cL_beat 21 = .ok (.iload 6, 2) := by decide +kernel
theorem dL_beat_23 : decode cL_beat 23 = .ok (.iload 5, 2) := by decide +kernel
theorem dL_beat_25 : decode cL_beat 25 = .ok (.iconst 1, 1) := by decide +kernel
theorem dL_beat_26 : decode cL_beat 26 = .ok (.if_icmp .ne 29, 3) := by decide +kernel
theorem dL_beat_29 : decode cL_beat 29 = .ok (.aload_n 0, 1) := by decide +kernel
theorem dL_beat_30 : decode cL_beat 30 = .ok (.aload 4, 2) := by decide +kernel
theorem dL_beat_32 : decode cL_beat 32 = .ok (.iload 7, 2) := by decide +kernel
theorem dL_beat_34 : decode cL_beat 34 = .ok (.invokestatic 23, 3) := by decide +kernel
theorem dL_beat_37 : decode cL_beat 37 = .ok (.ifCond .eq 18, 3) := by decide +kernel
theorem dL_beat_40 : decode cL_beat 40 = .ok (.aload_n 0, 1) := by decide +kernel
theorem dL_beat_41 : decode cL_beat 41 = .ok (.aload_n 1, 1) := by decide +kernel
theorem dL_beat_42 : decode cL_beat 42 = .ok (.aload_n 2, 1) := by decide +kernel
theorem dL_beat_43 : decode cL_beat 43 = .ok (.aload_n 3, 1) := by decide +kernel
theorem dL_beat_44 : decode cL_beat 44 = .ok (.aload 4, 2) := by decide +kernel
theorem dL_beat_46 : decode cL_beat 46 = .ok (.iload 7, 2) := by decide +kernel
theorem dL_beat_48 : decode cL_beat 48 = .ok (.iconst 1, 1) := by decide +kernel
theorem dL_beat_49 : decode cL_beat 49 = .ok (.invokestatic 27, 3) := by decide +kernel
theorem dL_beat_52 : decode cL_beat 52 = .ok (.goto 4, 3) := by decide +kernel
theorem dL_beat_55 : decode cL_beat 55 = .ok (.iconst 0, 1) := by decide +kernel
theorem dL_beat_56 : decode cL_beat 56 = .ok (.iadd, 1) := by decide +kernel
theorem dL_beat_57 : decode cL_beat 57 = .ok (.istore 6, 2) := by decide +kernel
theorem dL_beat_59 : decode cL_beat 59 = .ok (.iinc 7 1, 3) := by decide +kernel
theorem dL_beat_62 : decode cL_beat 62 = .ok (.goto (-50), 3) := by decide +kernel
theorem dL_beat_65 : decode cL_beat 65 = .ok (.aload 4, 2) := by decide +kernel
theorem dL_beat_67 : decode cL_beat 67 = .ok (.iconst 0, 1) := by decide +kernel
theorem dL_beat_68 : decode cL_beat 68 = .ok (.dup2, 1) := by decide +kernel
theorem dL_beat_69 : decode cL_beat 69 = .ok (.iaload, 1) := by decide +kernel
theorem dL_beat_70 : decode cL_beat 70 = .ok (.iconst 1, 1) := by decide +kernel
theorem dL_beat_71 : decode cL_beat 71 = .ok (.iadd, 1) := by decide +kernel
theorem dL_beat_72 : decode cL_beat 72 = .ok (.iastore, 1) := by decide +kernel
theorem dL_beat_73 : decode cL_beat 73 = .ok (.aload_n 2, 1) := by decide +kernel
theorem dL_beat_74 : decode cL_beat 74 = .ok (.bipush 9, 2) := by decide +kernel
theorem dL_beat_76 : decode cL_beat 76 = .ok (.iaload, 1) := by decide +kernel
theorem dL_beat_77 : decode cL_beat 77 = .ok (.iconst 1, 1) := by decide +kernel
theorem dL_beat_78 : decode cL_beat 78 = .ok (.if_icmp .ne 143, 3) := by decide +kernel
theorem dL_beat_81 : decode cL_beat 81 = .ok (.iload 6, 2) := by decide +kernel
theorem dL_beat_83 : decode cL_beat 83 = .ok (.ifCond .lt 138, 3) := by decide +kernel
theorem dL_beat_86 : decode cL_beat 86 = .ok (.aload_n 2, 1) := by decide +kernel
theorem dL_beat_87 : decode cL_beat 87 = .ok (.iconst 5, 1) := by decide +kernel
theorem dL_beat_88 : decode cL_beat 88 = .ok (.aload_n 2, 1) := by decide +kernel
theorem dL_beat_89 : decode cL_beat 89 = .ok (.bipush 8, 2) := by decide +kernel
theorem dL_beat_91 : decode cL_beat 91 = .ok (.iaload, 1) := by decide +kernel
theorem dL_beat_92 : decode cL_beat 92 = .ok (.iconst 1, 1) := by decide +kernel
theorem dL_beat_93 : decode cL_beat 93 = .ok (.if_icmp .ne 7, 3) := by decide +kernel
theorem dL_beat_96 : decode cL_beat 96 = .ok (.iconst 0, 1) := by decide +kernel
theorem dL_beat_97 : decode cL_beat 97 = .ok (.goto 8, 3) := by decide +kernel
theorem dL_beat_100 : decode cL_beat 100 = .ok (.aload_n 2, 1) := by decide +kernel
theorem dL_beat_101 : decode cL_beat 101 = .ok (.iconst 5, 1) := by decide +kernel
theorem dL_beat_102 : decode cL_beat 102 = .ok (.iaload, 1) := by decide +kernel
theorem dL_beat_103 : decode cL_beat 103 = .ok (.iconst 1, 1) := by decide +kernel
theorem dL_beat_104 : decode cL_beat 104 = .ok (.iadd, 1) := by decide +kernel
theorem dL_beat_105 : decode cL_beat 105 = .ok (.iastore, 1) := by decide +kernel
theorem dL_beat_106 : decode cL_beat 106 = .ok (.aload_n 2, 1) := by decide +kernel
theorem dL_beat_107 : decode cL_beat 107 = .ok (.bipush 8, 2) := by decide +kernel
theorem dL_beat_109 : decode cL_beat 109 = .ok (.iconst 0, 1) := by decide +kernel
theorem dL_beat_110 : decode cL_beat 110 = .ok (.iastore, 1) := by decide +kernel
theorem dL_beat_111 : decode cL_beat 111 = .ok (.aload_n 2, 1) := by decide +kernel
theorem dL_beat_112 : decode cL_beat 112 = .ok (.iconst 5, 1) := by decide +kernel
theorem dL_beat_113 : decode cL_beat 113 = .ok (.iaload, 1) := by decide +kernel
theorem dL_beat_114 : decode cL_beat 114 = .ok (.aload 4, 2) := by decide +kernel
theorem dL_beat_116 : decode cL_beat 116 = .ok (.bipush 17, 2) := by decide +kernel
theorem dL_beat_118 : decode cL_beat 118 = .ok (.iaload, 1) := by decide +kernel
theorem dL_beat_119 : decode cL_beat 119 = .ok (.if_icmp .lt 102, 3) := by decide +kernel
theorem dL_beat_122 : decode cL_beat 122 = .ok (.aload_n 2, 1) := by decide +kernel
theorem dL_beat_123 : decode cL_beat 123 = .ok (.iconst 3, 1) := by decide +kernel
theorem dL_beat_124 : decode cL_beat 124 = .ok (.iaload, 1) := by decide +kernel
theorem dL_beat_125 : decode cL_beat 125 = .ok (.iconst 1, 1) := by decide +kernel
theorem dL_beat_126 : decode cL_beat 126 = .ok (.isub, 1) := by decide +kernel
theorem dL_beat_127 : decode cL_beat 127 = .ok (.istore 7, 2) := by decide +kernel
theorem dL_beat_129 : decode cL_beat 129 = .ok (.iload 7, 2) := by decide +kernel
theorem dL_beat_131 : decode cL_beat 131 = .ok (.ifCond .lt 61, 3) := by decide +kernel
theorem dL_beat_134 : decode cL_beat 134 = .ok (.aload_n 2, 1) := by decide +kernel
theorem dL_beat_135 : decode cL_beat 135 = .ok (.bipush 7, 2) := by decide +kernel
theorem dL_beat_137 : decode cL_beat 137 = .ok (.iaload, 1) := by decide +kernel
theorem dL_beat_138 : decode cL_beat 138 = .ok (.ifCond .ne 54, 3) := by decide +kernel
theorem dL_beat_141 : decode cL_beat 141 = .ok (.aload_n 0, 1) := by decide +kernel
theorem dL_beat_142 : decode cL_beat 142 = .ok (.iconst 5, 1) := by decide +kernel
theorem dL_beat_143 : decode cL_beat 143 = .ok (.iload 7, 2) := by decide +kernel
theorem dL_beat_145 : decode cL_beat 145 = .ok (.imul, 1) := by decide +kernel
theorem dL_beat_146 : decode cL_beat 146 = .ok (.iconst 2, 1) := by decide +kernel
theorem dL_beat_147 : decode cL_beat 147 = .ok (.iadd, 1) := by decide +kernel
theorem dL_beat_148 : decode cL_beat 148 = .ok (.dup2, 1) := by decide +kernel
theorem dL_beat_149 : decode cL_beat 149 = .ok (.iaload, 1) := by decide +kernel
theorem dL_beat_150 : decode cL_beat 150 = .ok (.aload_n 2, 1) := by decide +kernel
theorem dL_beat_151 : decode cL_beat 151 = .ok (.iconst 2, 1) := by decide +kernel
theorem dL_beat_152 : decode cL_beat 152 = .ok (.iaload, 1) := by decide +kernel
theorem dL_beat_153 : decode cL_beat 153 = .ok (.isub, 1) := by decide +kernel
theorem dL_beat_154 : decode cL_beat 154 = .ok (.iastore, 1) := by decide +kernel
theorem dL_beat_155 : decode cL_beat 155 = .ok (.aload_n 1, 1) := by decide +kernel
theorem dL_beat_156 : decode cL_beat 156 = .ok (.iconst 5, 1) := by decide +kernel
theorem dL_beat_157 : decode cL_beat 157 = .ok (.iload 7, 2) := by decide +kernel
theorem dL_beat_159 : decode cL_beat 159 = .ok (.imul, 1) := by decide +kernel
theorem dL_beat_160 : decode cL_beat 160 = .ok (.iconst 3, 1) := by decide +kernel
theorem dL_beat_161 : decode cL_beat 161 = .ok (.iadd, 1) := by decide +kernel
theorem dL_beat_162 : decode cL_beat 162 = .ok (.dup2, 1) := by decide +kernel
theorem dL_beat_163 : decode cL_beat 163 = .ok (.iaload, 1) := by decide +kernel
theorem dL_beat_164 : decode cL_beat 164 = .ok (.iconst 1, 1) := by decide +kernel
theorem dL_beat_165 : decode cL_beat 165 = .ok (.iadd, 1) := by decide +kernel
theorem dL_beat_166 : decode cL_beat 166 = .ok (.iastore, 1) := by decide +kernel
theorem dL_beat_167 : decode cL_beat 167 = .ok (.aload_n 1, 1) := by decide +kernel
theorem dL_beat_168 : decode cL_beat 168 = .ok (.iconst 5, 1) := by decide +kernel
theorem dL_beat_169 : decode cL_beat 169 = .ok (.iload 7, 2) := by decide +kernel
theorem dL_beat_171 : decode cL_beat 171 = .ok (.imul, 1) := by decide +kernel
theorem dL_beat_172 : decode cL_beat 172 = .ok (.iconst 4, 1) := by decide +kernel
theorem dL_beat_173 : decode cL_beat 173 = .ok (.iadd, 1) := by decide +kernel
theorem dL_beat_174 : decode cL_beat 174 = .ok (.dup2, 1) := by decide +kernel
theorem dL_beat_175 : decode cL_beat 175 = .ok (.iaload, 1) := by decide +kernel
theorem dL_beat_176 : decode cL_beat 176 = .ok (.aload_n 2, 1) := by decide +kernel
theorem dL_beat_177 : decode cL_beat 177 = .ok (.iconst 2, 1) := by decide +kernel
theorem dL_beat_178 : decode cL_beat 178 = .ok (.iaload, 1) := by decide +kernel
theorem dL_beat_179 : decode cL_beat 179 = .ok (.iadd, 1) := by decide +kernel
theorem dL_beat_180 : decode cL_beat 180 = .ok (.iastore, 1) := by decide +kernel
theorem dL_beat_181 : decode cL_beat 181 = .ok (.aload 4, 2) := by decide +kernel
theorem dL_beat_183 : decode cL_beat 183 = .ok (.bipush 8, 2) := by decide +kernel
theorem dL_beat_185 : decode cL_beat 185 = .ok (.dup2, 1) := by decide +kernel
theorem dL_beat_186 : decode cL_beat 186 = .ok (.iaload, 1) := by decide +kernel
theorem dL_beat_187 : decode cL_beat 187 = .ok (.aload_n 2, 1) := by decide +kernel
theorem dL_beat_188 : decode cL_beat 188 = .ok (.iconst 2, 1) := by decide +kernel
theorem dL_beat_189 : decode cL_beat 189 = .ok (.iaload, 1) := by decide +kernel
theorem dL_beat_190 : decode cL_beat 190 = .ok (.iadd, 1) := by decide +kernel
theorem dL_beat_191 : decode cL_beat 191 = .ok (.iastore, 1) := by decide +kernel
theorem dL_beat_192 : decode cL_beat 192 = .ok (.aload_n 2, 1) := by decide +kernel
theorem dL_beat_193 : decode cL_beat 193 = .ok (.aload_n 3, 1) := by decide +kernel
theorem dL_beat_194 : decode cL_beat 194 = .ok (.aload 4, 2) := by decide +kernel
theorem dL_beat_196 : decode cL_beat 196 = .ok (.iload 7, 2) := by decide +kernel
theorem dL_beat_198 : decode cL_beat 198 = .ok (.ifCond .ge 7, 3) := by decide +kernel
theorem dL_beat_201 : decode cL_beat 201 = .ok (.iconst 2, 1) := by decide +kernel
theorem dL_beat_202 : decode cL_beat 202 = .ok (.goto 16, 3) := by decide +kernel
theorem dL_beat_205 : decode cL_beat 205 = .ok (.aload_n 2, 1) := by decide +kernel
theorem dL_beat_206 : decode cL_beat 206 = .ok (.bipush 7, 2) := by decide +kernel
theorem dL_beat_208 : decode cL_beat 208 = .ok (.iaload, 1) := by decide +kernel
theorem dL_beat_209 : decode cL_beat 209 = .ok (.iconst 1, 1) := by decide +kernel
theorem dL_beat_210 : decode cL_beat 210 = .ok (.if_icmp .ne 7, 3) := by decide +kernel
theorem dL_beat_213 : decode cL_beat 213 = .ok (.iconst 3, 1) := by decide +kernel
theorem dL_beat_214 : decode cL_beat 214 = .ok (.goto 4, 3) := by decide +kernel
theorem dL_beat_217 : decode cL_beat 217 = .ok (.iconst 0, 1) := by decide +kernel
theorem dL_beat_218 : decode cL_beat 218 = .ok (.invokestatic 19, 3) := by decide +kernel
theorem dL_beat_221 : decode cL_beat 221 = .ok (.return_, 1) := by decide +kernel
theorem dL_seat_0 : decode cL_seat 0 = .ok (.iconst 0, 1) := by decide +kernel
theorem dL_seat_1 : decode cL_seat 1 = .ok (.istore 4, 2) := by decide +kernel
theorem dL_seat_3 : decode cL_seat 3 = .ok (.iload 4, 2) := by decide +kernel
theorem dL_seat_5 : decode cL_seat 5 = .ok (.aload_n 1, 1) := by decide +kernel
theorem dL_seat_6 : decode cL_seat 6 = .ok (.iconst 1, 1) := by decide +kernel
theorem dL_seat_7 : decode cL_seat 7 = .ok (.iaload, 1) := by decide +kernel
theorem dL_seat_8 : decode cL_seat 8 = .ok (.if_icmp .ge 34, 3) := by decide +kernel
theorem dL_seat_11 : decode cL_seat 11 = .ok (.aload_n 0, 1) := by decide +kernel
theorem dL_seat_12 : decode cL_seat 12 = .ok (.iconst 5, 1) := by decide +kernel
theorem dL_seat_13 : decode cL_seat 13 = .ok (.iload 4, 2) := by decide +kernel
theorem dL_seat_15 : decode cL_seat 15 = .ok (.imul, 1) := by decide +kernel
theorem dL_seat_16 : decode cL_seat 16 = .ok (.iaload, 1) := by decide +kernel
theorem dL_seat_17 : decode cL_seat 17 = .ok (.iload_n 2, 1) := by decide +kernel
theorem dL_seat_18 : decode cL_seat 18 = .ok (.if_icmp .ne 18, 3) := by decide +kernel
theorem dL_seat_21 : decode cL_seat 21 = .ok (.aload_n 0, 1) := by decide +kernel
theorem dL_seat_22 : decode cL_seat 22 = .ok (.iconst 5, 1) := by decide +kernel
theorem dL_seat_23 : decode cL_seat 23 = .ok (.iload 4, 2) := by decide +kernel
theorem dL_seat_25 : decode cL_seat 25 = .ok (.imul, 1) := by decide +kernel
theorem dL_seat_26 : decode cL_seat 26 = .ok (.iconst 1, 1) := by decide +kernel
theorem dL_seat_27 : decode cL_seat 27 = .ok (.iadd, 1) := by decide +kernel
theorem dL_seat_28 : decode cL_seat 28 = .ok (.iaload, 1) := by decide +kernel
theorem dL_seat_29 : decode cL_seat 29 = .ok (.iload_n 3, 1) := by decide +kernel
theorem dL_seat_30 : decode cL_seat 30 = .ok (.if_icmp .ne 6, 3) := by decide +kernel
theorem dL_seat_33 : decode cL_seat 33 = .ok (.iload 4, 2) := by decide +kernel
theorem dL_seat_35 : decode cL_seat 35 = .ok (.ireturn, 1) := by decide +kernel
theorem dL_seat_36 : decode cL_seat 36 = .ok (.iinc 4 1, 3) := by decide +kernel
theorem dL_seat_39 : decode cL_seat 39 = .ok (.goto (-36), 3) := by decide +kernel
theorem dL_seat_42 : decode cL_seat 42 = .ok (.iconst (-1), 1) := by decide +kernel
theorem dL_seat_43 : decode cL_seat 43 = .ok (.ireturn, 1) := by decide +kernel
theorem dL_night_0 : decode cL_night 0 = .ok (.bipush 12, 2) := by decide +kernel
theorem dL_night_2 : decode cL_night 2 = .ok (.newarray .int, 2) := by decide +kernel
theorem dL_night_4 : decode cL_night 4 = .ok (.astore_n 3, 1) := by decide +kernel
theorem dL_night_5 : decode cL_night 5 = .ok (.iconst 0, 1) := by decide +kernel
theorem dL_night_6 : decode cL_night 6 = .ok (.istore 4, 2) := by decide +kernel
theorem dL_night_8 : decode cL_night 8 = .ok (.iload 4, 2) := by decide +kernel
theorem dL_night_10 : decode cL_night 10 = .ok (.aload_n 2, 1) := by decide +kernel
theorem dL_night_11 : decode cL_night 11 = .ok (.iconst 1, 1) := by decide +kernel
theorem dL_night_12 : decode cL_night 12 = .ok (.iaload, 1) := by decide +kernel
theorem dL_night_13 : decode cL_night 13 = .ok (.if_icmp .ge 21, 3) := by decide +kernel
theorem dL_night_16 : decode cL_night 16 = .ok (.aload_n 3, 1) := by decide +kernel
theorem dL_night_17 : decode cL_night 17 = .ok (.iload 4, 2) := by decide +kernel
theorem dL_night_19 : decode cL_night 19 = .ok (.aload_n 0, 1) := by decide +kernel
theorem dL_night_20 : decode cL_night 20 = .ok (.iconst 5, 1) := by decide +kernel
theorem dL_night_21 : decode cL_night 21 = .ok (.iload 4, 2) := by decide +kernel
theorem dL_night_23 : decode cL_night 23 = .ok (.imul, 1) := by decide +kernel
theorem dL_night_24 : decode cL_night 24 = .ok (.iconst 4, 1) := by decide +kernel
theorem dL_night_25 : decode cL_night 25 = .ok (.iadd, 1) := by decide +kernel
theorem dL_night_26 : decode cL_night 26 = .ok (.iaload, 1) := by decide +kernel
theorem dL_night_27 : decode cL_night 27 = .ok (.iastore, 1) := by decide +kernel
theorem dL_night_28 : decode cL_night 28 = .ok (.iinc 4 1, 3) := by decide +kernel
theorem dL_night_31 : decode cL_night 31 = .ok (.goto (-23), 3) := by decide +kernel
theorem dL_night_34 : decode cL_night 34 = .ok (.iconst 0, 1) := by decide +kernel
theorem dL_night_35 : decode cL_night 35 = .ok (.istore 4, 2) := by decide +kernel
theorem dL_night_37 : decode cL_night 37 = .ok (.iload 4, 2) := by decide +kernel
theorem dL_night_39 : decode cL_night 39 = .ok (.aload_n 2, 1) := by decide +kernel
theorem dL_night_40 : decode cL_night 40 = .ok (.iconst 1, 1) := by decide +kernel
theorem dL_night_41 : decode cL_night 41 = .ok (.iaload, 1) := by decide +kernel
theorem dL_night_42 : decode cL_night 42 = .ok (.if_icmp .ge 145, 3) := by decide +kernel
theorem dL_night_45 : decode cL_night 45 = .ok (.iconst 0, 1) := by decide +kernel
theorem dL_night_46 : decode cL_night 46 = .ok (.istore 5, 2) := by decide +kernel
theorem dL_night_48 : decode cL_night 48 = .ok (.iconst 0, 1) := by decide +kernel
theorem dL_night_49 : decode cL_night 49 = .ok (.istore 6, 2) := by decide +kernel
theorem dL_night_51 : decode cL_night 51 = .ok (.iload 6, 2) := by decide +kernel
theorem dL_night_53 : decode cL_night 53 = .ok (.aload_n 2, 1) := by decide +kernel
theorem dL_night_54 : decode cL_night 54 = .ok (.iconst 1, 1) := by decide +kernel
theorem dL_night_55 : decode cL_night 55 = .ok (.iaload, 1) := by decide +kernel
theorem dL_night_56 : decode cL_night 56 = .ok (.if_icmp .ge 79, 3) := by decide +kernel
theorem dL_night_59 : decode cL_night 59 = .ok (.aload_n 0, 1) := by decide +kernel
theorem dL_night_60 : decode cL_night 60 = .ok (.iconst 5, 1) := by decide +kernel
theorem dL_night_61 : decode cL_night 61 = .ok (.iload 6, 2) := by decide +kernel
theorem dL_night_63 : decode cL_night 63 = .ok (.imul, 1) := by decide +kernel
theorem dL_night_64 : decode cL_night 64 = .ok (.iconst 1, 1) := by decide +kernel
theorem dL_night_65 : decode cL_night 65 = .ok (.iadd, 1) := by decide +kernel
theorem dL_night_66 : decode cL_night 66 = .ok (.iaload, 1) := by decide +kernel
theorem dL_night_67 : decode cL_night 67 = .ok (.aload_n 0, 1) := by decide +kernel
theorem dL_night_68 : decode cL_night 68 = .ok (.iconst 5, 1) := by decide +kernel
theorem dL_night_69 : decode cL_night 69 = .ok (.iload 4, 2) := by decide +kernel
theorem dL_night_71 : decode cL_night 71 = .ok (.imul, 1) := by decide +kernel
theorem dL_night_72 : decode cL_night 72 = .ok (.iconst 1, 1) := by decide +kernel
theorem dL_night_73 : decode cL_night 73 = .ok (.iadd, 1) := by decide +kernel
theorem dL_night_74 : decode cL_night 74 = .ok (.iaload, 1) := by decide +kernel
theorem dL_night_75 : decode cL_night 75 = .ok (.isub, 1) := by decide +kernel
theorem dL_night_76 : decode cL_night 76 = .ok (.istore 7, 2) := by decide +kernel
theorem dL_night_78 : decode cL_night 78 = .ok (.iload 5, 2) := by decide +kernel
theorem dL_night_80 : decode cL_night 80 = .ok (.ifCond .ne 42, 3) := by decide +kernel
theorem dL_night_83 : decode cL_night 83 = .ok (.aload_n 0, 1) := by decide +kernel
theorem dL_night_84 : decode cL_night 84 = .ok (.iconst 5, 1) := by decide +kernel
theorem dL_night_85 : decode cL_night 85 = .ok (.iload 6, 2) := by decide +kernel
theorem dL_night_87 : decode cL_night 87 = .ok (.imul, 1) := by decide +kernel
theorem dL_night_88 : decode cL_night 88 = .ok (.iaload, 1) := by decide +kernel
theorem dL_night_89 : decode cL_night 89 = .ok (.aload_n 0, 1) := by decide +kernel
theorem dL_night_90 : decode cL_night 90 = .ok (.iconst 5, 1) := by decide +kernel
theorem dL_night_91 : decode cL_night 91 = .ok (.iload 4, 2) := by decide +kernel
theorem dL_night_93 : decode cL_night 93 = .ok (.imul, 1) := by decide +kernel
theorem dL_night_94 : decode cL_night 94 = .ok (.iaload, 1) := by decide +kernel
theorem dL_night_95 : decode cL_night 95 = .ok (.if_icmp .ne 31, 3) := by decide +kernel
theorem dL_night_98 : decode cL_night 98 = .ok (.iload 7, 2) := by decide +kernel
theorem dL_night_100 : decode cL_night 100 = .ok (.iload 7, 2) := by decide +kernel
theorem dL_night_102 : decode cL_night 102 = .ok (.imul, 1) := by decide +kernel
theorem dL_night_103 : decode cL_night 103 = .ok (.iconst 1, 1) := by decide +kernel
theorem dL_night_104 : decode cL_night 104 = .ok (.if_icmp .ne 22, 3) := by decide +kernel
theorem dL_night_107 : decode cL_night 107 = .ok (.aload_n 3, 1) := by decide +kernel
theorem dL_night_108 : decode cL_night 108 = .ok (.iload 6, 2) := by decide +kernel
theorem dL_night_110 : decode cL_night 110 = .ok (.iaload, 1) := by decide +kernel
theorem dL_night_111 : decode cL_night 111 = .ok (.aload_n 1, 1) := by decide +kernel
theorem dL_night_112 : decode cL_night 112 = .ok (.iconst 5, 1) := by decide +kernel
theorem dL_night_113 : decode cL_night 113 = .ok (.iload 6, 2) := by decide +kernel
theorem dL_night_115 : decode cL_night 115 = .ok (.imul, 1) := by decide +kernel
theorem dL_night_116 : decode cL_night 116 = .ok (.iaload, 1) := by decide +kernel
theorem dL_night_117 : decode cL_night 117 = .ok (.isub, 1) := by decide +kernel
theorem dL_night_118 : decode cL_night 118 = .ok (.iconst 1, 1) := by decide +kernel
theorem dL_night_119 : decode cL_night 119 = .ok (.if_icmp .le 7, 3) := by decide +kernel
theorem dL_night_122 : decode cL_night 122 = .ok (.iconst 1, 1) := by decide +kernel
theorem dL_night_123 : decode cL_night 123 = .ok (.goto 4, 3) := by decide +kernel
theorem dL_night_126 : decode cL_night 126 = .ok (.iconst 0, 1) := by decide +kernel
theorem dL_night_127 : decode cL_night 127 = .ok (.istore 5, 2) := by decide +kernel
theorem dL_night_129 : decode cL_night 129 = .ok (.iinc 6 1, 3) := by decide +kernel
theorem dL_night_132 : decode cL_night 132 = .ok (.goto (-81), 3) := by decide +kernel
theorem dL_night_135 : decode cL_night 135 = .ok (.aload_n 3, 1) := by decide +kernel
theorem dL_night_136 : decode cL_night 136 = .ok (.iload 4, 2) := by decide +kernel
theorem dL_night_138 : decode cL_night 138 = .ok (.iaload, 1) := by decide +kernel
theorem dL_night_139 : decode cL_night 139 = .ok (.iload 5, 2) := by decide +kernel
theorem dL_night_141 : decode cL_night 141 = .ok (.ifCond .eq 7, 3) := by decide +kernel
theorem dL_night_144 : decode cL_night 144 = .ok (.iconst 1, 1) := by decide +kernel
theorem dL_night_145 : decode cL_night 145 = .ok (.goto 4, 3) := by decide +kernel
theorem dL_night_148 : decode cL_night 148 = .ok (.iconst (-1), 1) := by decide +kernel
theorem dL_night_149 : decode cL_night 149 = .ok (.iadd, 1) := by decide +kernel
theorem dL_night_150 : decode cL_night 150 = .ok (.istore 6, 2) := by decide +kernel
theorem dL_night_152 : decode cL_night 152 = .ok (.aload_n 0, 1) := by decide +kernel
theorem dL_night_153 : decode cL_night 153 = .ok (.iconst 5, 1) := by decide +kernel
theorem dL_night_154 : decode cL_night 154 = .ok (.iload 4, 2) := by decide +kernel
theorem dL_night_156 : decode cL_night 156 = .ok (.imul, 1) := by decide +kernel
theorem dL_night_157 : decode cL_night 157 = .ok (.iconst 4, 1) := by decide +kernel
theorem dL_night_158 : decode cL_night 158 = .ok (.iadd, 1) := by decide +kernel
theorem dL_night_159 : decode cL_night 159 = .ok (.iload 6, 2) := by decide +kernel
theorem dL_night_161 : decode cL_night 161 = .ok (.ifCond .ge 7, 3) := by decide +kernel
theorem dL_night_164 : decode cL_night 164 = .ok (.iconst 0, 1) := by decide +kernel
theorem dL_night_165 : decode cL_night 165 = .ok (.goto 15, 3) := by decide +kernel
theorem dL_night_168 : decode cL_night 168 = .ok (.iload 6, 2) := by decide +kernel
theorem dL_night_170 : decode cL_night 170 = .ok (.iconst 5, 1) := by decide +kernel
theorem dL_night_171 : decode cL_night 171 = .ok (.if_icmp .le 7, 3) := by decide +kernel
theorem dL_night_174 : decode cL_night 174 = .ok (.iconst 5, 1) := by decide +kernel
theorem dL_night_175 : decode cL_night 175 = .ok (.goto 5, 3) := by decide +kernel
theorem dL_night_178 : decode cL_night 178 = .ok (.iload 6, 2) := by decide +kernel
theorem dL_night_180 : decode cL_night 180 = .ok (.iastore, 1) := by decide +kernel
theorem dL_night_181 : decode cL_night 181 = .ok (.iinc 4 1, 3) := by decide +kernel
theorem dL_night_184 : decode cL_night 184 = .ok (.goto (-147), 3) := by decide +kernel
theorem dL_night_187 : decode cL_night 187 = .ok (.aload_n 2, 1) := by decide +kernel
theorem dL_night_188 : decode cL_night 188 = .ok (.bipush 12, 2) := by decide +kernel
theorem dL_night_190 : decode cL_night 190 = .ok (.dup2, 1) := by decide +kernel
theorem dL_night_191 : decode cL_night 191 = .ok (.iaload, 1) := by decide +kernel
theorem dL_night_192 : decode cL_night 192 = .ok (.iconst 1, 1) := by decide +kernel
theorem dL_night_193 : decode cL_night 193 = .ok (.iadd, 1) := by decide +kernel
theorem dL_night_194 : decode cL_night 194 = .ok (.iastore, 1) := by decide +kernel
theorem dL_night_195 : decode cL_night 195 = .ok (.return_, 1) := by decide +kernel
theorem dL_ill_0 : decode cL_ill 0 = .ok (.iconst 0, 1) := by decide +kernel
theorem dL_ill_1 : decode cL_ill 1 = .ok (.istore_n 2, 1) := by decide +kernel
theorem dL_ill_2 : decode cL_ill 2 = .ok (.iconst 0, 1) := by decide +kernel
theorem dL_ill_3 : decode cL_ill 3 = .ok (.istore_n 3, 1) := by decide +kernel
theorem dL_ill_4 : decode cL_ill 4 = .ok (.iload_n 3, 1) := by decide +kernel
theorem dL_ill_5 : decode cL_ill 5 = .ok (.aload_n 1, 1) := by decide +kernel
theorem dL_ill_6 : decode cL_ill 6 = .ok (.iconst 1, 1) := by decide +kernel
theorem dL_ill_7 : decode cL_ill 7 = .ok (.iaload, 1) := by decide +kernel
theorem dL_ill_8 : decode cL_ill 8 = .ok (.if_icmp .ge 27, 3) := by decide +kernel
theorem dL_ill_11 : decode cL_ill 11 = .ok (.iload_n 2, 1) := by decide +kernel
theorem dL_ill_12 : decode cL_ill 12 = .ok (.aload_n 0, 1) := by decide +kernel
theorem dL_ill_13 : decode cL_ill 13 = .ok (.iconst 5, 1) := by decide +kernel
theorem dL_ill_14 : decode cL_ill 14 = .ok (.iload_n 3, 1) := by decide +kernel
theorem dL_ill_15 : decode cL_ill 15 = .ok (.imul, 1) := by decide +kernel
theorem dL_ill_16 : decode cL_ill 16 = .ok (.iconst 4, 1) := by decide +kernel
theorem dL_ill_17 : decode cL_ill 17 = .ok (.iadd, 1) := by decide +kernel
theorem dL_ill_18 : decode cL_ill 18 = .ok (.iaload, 1) := by decide +kernel
theorem dL_ill_19 : decode cL_ill 19 = .ok (.ifCond .le 7, 3) := by decide +kernel
theorem dL_ill_22 : decode cL_ill 22 = .ok (.iconst 1, 1) := by decide +kernel
theorem dL_ill_23 : decode cL_ill 23 = .ok (.goto 4, 3) := by decide +kernel
theorem dL_ill_26 : decode cL_ill 26 = .ok (.iconst 0, 1) := by decide +kernel
theorem dL_ill_27 : decode cL_ill 27 = .ok (.iadd, 1) := by decide +kernel
theorem dL_ill_28 : decode cL_ill 28 = .ok (.istore_n 2, 1) := by decide +kernel
theorem dL_ill_29 : decode cL_ill 29 = .ok (.iinc 3 1, 3) := by decide +kernel
theorem dL_ill_32 : decode cL_ill 32 = .ok (.goto (-28), 3) := by decide +kernel
theorem dL_ill_35 : decode cL_ill 35 = .ok (.iload_n 2, 1) := by decide +kernel
theorem dL_ill_36 : decode cL_ill 36 = .ok (.ireturn, 1) := by decide +kernel
theorem dL_areBidders_0 : decode cL_areBidders 0 = .ok (.iconst 0, 1) := by decide +kernel
theorem dL_areBidders_1 : decode cL_areBidders 1 = .ok (.istore 5, 2) := by decide +kernel
theorem dL_areBidders_3 : decode cL_areBidders 3 = .ok (.iconst 0, 1) := by decide +kernel
theorem dL_areBidders_4 : decode cL_areBidders 4 = .ok (.istore 6, 2) := by decide +kernel
theorem dL_areBidders_6 : decode cL_areBidders 6 = .ok (.ldc 31, 2) := by decide +kernel
theorem dL_areBidders_8 : decode cL_areBidders 8 = .ok (.istore 7, 2) := by decide +kernel
theorem dL_areBidders_10 : decode cL_areBidders 10 = .ok (.iconst 0, 1) := by decide +kernel
theorem dL_areBidders_11 : decode cL_areBidders 11 = .ok (.istore 8, 2) := by decide +kernel
theorem dL_areBidders_13 : decode cL_areBidders 13 = .ok (.aload_n 0, 1) := by decide +kernel
theorem dL_areBidders_14 : decode cL_areBidders 14 = .ok (.aload 4, 2) := by decide +kernel
theorem dL_areBidders_16 : decode cL_areBidders 16 = .ok (.iconst 1, 1) := by decide +kernel
theorem dL_areBidders_17 : decode cL_areBidders 17 = .ok (.iaload, 1) := by decide +kernel
theorem dL_areBidders_18 : decode cL_areBidders 18 = .ok (.iconst 0, 1) := by decide +kernel
theorem dL_areBidders_19 : decode cL_areBidders 19 = .ok (.invokevirtual 32, 3) := by decide +kernel
theorem dL_areBidders_22 : decode cL_areBidders 22 = .ok (.ldc 38, 2) := by decide +kernel
theorem dL_areBidders_24 : decode cL_areBidders 24 = .ok (.if_icmp .ne 30, 3) := by decide +kernel
theorem dL_areBidders_27 : decode cL_areBidders 27 = .ok (.aload_n 0, 1) := by decide +kernel
theorem dL_areBidders_28 : decode cL_areBidders 28 = .ok (.aload 4, 2) := by decide +kernel
theorem dL_areBidders_30 : decode cL_areBidders 30 = .ok (.iconst 1, 1) := by decide +kernel
theorem dL_areBidders_31 : decode cL_areBidders 31 = .ok (.iaload, 1) := by decide +kernel
theorem dL_areBidders_32 : decode cL_areBidders 32 = .ok (.invokevirtual 39, 3) := by decide +kernel
theorem dL_areBidders_35 : decode cL_areBidders 35 = .ok (.ldc 38, 2) := by decide +kernel
theorem dL_areBidders_37 : decode cL_areBidders 37 = .ok (.if_icmp .ne 17, 3) := by decide +kernel
theorem dL_areBidders_40 : decode cL_areBidders 40 = .ok (.aload_n 0, 1) := by decide +kernel
theorem dL_areBidders_41 : decode cL_areBidders 41 = .ok (.iconst (-1), 1) := by decide +kernel
theorem dL_areBidders_42 : decode cL_areBidders 42 = .ok (.invokevirtual 39, 3) := by decide +kernel
theorem dL_areBidders_45 : decode cL_areBidders 45 = .ok (.ldc 38, 2) := by decide +kernel
theorem dL_areBidders_47 : decode cL_areBidders 47 = .ok (.if_icmp .ne 7, 3) := by decide +kernel
theorem dL_areBidders_50 : decode cL_areBidders 50 = .ok (.iconst 1, 1) := by decide +kernel
theorem dL_areBidders_51 : decode cL_areBidders 51 = .ok (.goto 4, 3) := by decide +kernel
theorem dL_areBidders_54 : decode cL_areBidders 54 = .ok (.iconst 0, 1) := by decide +kernel
theorem dL_areBidders_55 : decode cL_areBidders 55 = .ok (.istore 9, 2) := by decide +kernel
theorem dL_areBidders_57 : decode cL_areBidders 57 = .ok (.iconst 0, 1) := by decide +kernel
theorem dL_areBidders_58 : decode cL_areBidders 58 = .ok (.istore 10, 2) := by decide +kernel
theorem dL_areBidders_60 : decode cL_areBidders 60 = .ok (.iload 10, 2) := by decide +kernel
theorem dL_areBidders_62 : decode cL_areBidders 62 = .ok (.aload 4, 2) := by decide +kernel
theorem dL_areBidders_64 : decode cL_areBidders 64 = .ok (.iconst 1, 1) := by decide +kernel
theorem dL_areBidders_65 : decode cL_areBidders 65 = .ok (.iaload, 1) := by decide +kernel
theorem dL_areBidders_66 : decode cL_areBidders 66 = .ok (.if_icmp .ge 285, 3) := by decide +kernel
theorem dL_areBidders_69 : decode cL_areBidders 69 = .ok (.iload 9, 2) := by decide +kernel
theorem dL_areBidders_71 : decode cL_areBidders 71 = .ok (.ifCond .eq 280, 3) := by decide +kernel
theorem dL_areBidders_74 : decode cL_areBidders 74 = .ok (.iload 5, 2) := by decide +kernel
theorem dL_areBidders_76 : decode cL_areBidders 76 = .ok (.aload_n 1, 1) := by decide +kernel
theorem dL_areBidders_77 : decode cL_areBidders 77 = .ok (.iconst 5, 1) := by decide +kernel
theorem dL_areBidders_78 : decode cL_areBidders 78 = .ok (.iload 10, 2) := by decide +kernel
theorem dL_areBidders_80 : decode cL_areBidders 80 = .ok (.imul, 1) := by decide +kernel
theorem dL_areBidders_81 : decode cL_areBidders 81 = .ok (.iconst 4, 1) := by decide +kernel
theorem dL_areBidders_82 : decode cL_areBidders 82 = .ok (.iadd, 1) := by decide +kernel
theorem dL_areBidders_83 : decode cL_areBidders 83 = .ok (.iaload, 1) := by decide +kernel
theorem dL_areBidders_84 : decode cL_areBidders 84 = .ok (.ifCond .le 10, 3) := by decide +kernel
theorem dL_areBidders_87 : decode cL_areBidders 87 = .ok (.iconst 1, 1) := by decide +kernel
theorem dL_areBidders_88 : decode cL_areBidders 88 = .ok (.iload 10, 2) := by decide +kernel
theorem dL_areBidders_90 : decode cL_areBidders 90 = .ok (.ishl, 1) := by decide +kernel
theorem dL_areBidders_91 : decode cL_areBidders 91 = .ok (.goto 4, 3) := by decide +kernel
theorem dL_areBidders_94 : decode cL_areBidders 94 = .ok (.iconst 0, 1) := by decide +kernel
theorem dL_areBidders_95 : decode cL_areBidders 95 = .ok (.ior, 1) := by decide +kernel
theorem dL_areBidders_96 : decode cL_areBidders 96 = .ok (.istore 5, 2) := by decide +kernel
theorem dL_areBidders_98 : decode cL_areBidders 98 = .ok (.iload 6, 2) := by decide +kernel
theorem dL_areBidders_100 : decode cL_areBidders 100 = .ok (.aload_n 1, 1) := by decide +kernel
theorem dL_areBidders_101 : decode cL_areBidders 101 = .ok (.aload 4, 2) := by decide +kernel
theorem dL_areBidders_103 : decode cL_areBidders 103 = .ok (.iload 10, 2) := by decide +kernel
theorem dL_areBidders_105 : decode cL_areBidders 105 = .ok (.invokestatic 23, 3) := by decide +kernel
theorem dL_areBidders_108 : decode cL_areBidders 108 = .ok (.ifCond .eq 10, 3) := by decide +kernel
theorem dL_areBidders_111 : decode cL_areBidders 111 = .ok (.iconst 1, 1) := by decide +kernel
theorem dL_areBidders_112 : decode cL_areBidders 112 = .ok (.iload 10, 2) := by decide +kernel
theorem dL_areBidders_114 : decode cL_areBidders 114 = .ok (.ishl, 1) := by decide +kernel
theorem dL_areBidders_115 : decode cL_areBidders 115 = .ok (.goto 4, 3) := by decide +kernel
theorem dL_areBidders_118 : decode cL_areBidders 118 = .ok (.iconst 0, 1) := by decide +kernel
theorem dL_areBidders_119 : decode cL_areBidders 119 = .ok (.ior, 1) := by decide +kernel
theorem dL_areBidders_120 : decode cL_areBidders 120 = .ok (.istore 6, 2) := by decide +kernel
theorem dL_areBidders_122 : decode cL_areBidders 122 = .ok (.iload 7, 2) := by decide +kernel
theorem dL_areBidders_124 : decode cL_areBidders 124 = .ok (.ifCond .lt 20, 3) := by decide +kernel
theorem dL_areBidders_127 : decode cL_areBidders 127 = .ok (.aload_n 1, 1) := by decide +kernel
theorem dL_areBidders_128 : decode cL_areBidders 128 = .ok (.aload_n 2, 1) := by decide +kernel
theorem dL_areBidders_129 : decode cL_areBidders 129 = .ok (.iload 10, 2) := by decide +kernel
theorem dL_areBidders_131 : decode cL_areBidders 131 = .ok (.invokestatic 9, 3) := by decide +kernel
theorem dL_areBidders_134 : decode cL_areBidders 134 = .ok (.aload_n 1, 1) := by decide +kernel
theorem dL_areBidders_135 : decode cL_areBidders 135 = .ok (.aload_n 2, 1) := by decide +kernel
theorem dL_areBidders_136 : decode cL_areBidders 136 = .ok (.iload 7, 2) := by decide +kernel
theorem dL_areBidders_138 : decode cL_areBidders 138 = .ok (.invokestatic 9, 3) := by decide +kernel
theorem dL_areBidders_141 : decode cL_areBidders 141 = .ok (.if_icmp .le 8, 3) := by decide +kernel
theorem dL_areBidders_144 : decode cL_areBidders 144 = .ok (.iload 10, 2) := by decide +kernel
theorem dL_areBidders_146 : decode cL_areBidders 146 = .ok (.goto 5, 3) := by decide +kernel
theorem dL_areBidders_149 : decode cL_areBidders 149 = .ok (.iload 7, 2) := by decide +kernel
theorem dL_areBidders_151 : decode cL_areBidders 151 = .ok (.istore 7, 2) := by decide +kernel
theorem dL_areBidders_153 : decode cL_areBidders 153 = .ok (.iload 8, 2) := by decide +kernel
theorem dL_areBidders_155 : decode cL_areBidders 155 = .ok (.aload_n 1, 1) := by decide +kernel
theorem dL_areBidders_156 : decode cL_areBidders 156 = .ok (.iconst 5, 1) := by decide +kernel
theorem dL_areBidders_157 : decode cL_areBidders 157 = .ok (.iload 10, 2) := by decide +kernel
theorem dL_areBidders_159 : decode cL_areBidders 159 = .ok (.imul, 1) := by decide +kernel
theorem dL_areBidders_160 : decode cL_areBidders 160 = .ok (.iconst 2, 1) := by decide +kernel
theorem dL_areBidders_161 : decode cL_areBidders 161 = .ok (.iadd, 1) := by decide +kernel
theorem dL_areBidders_162 : decode cL_areBidders 162 = .ok (.iaload, 1) := by decide +kernel
theorem dL_areBidders_163 : decode cL_areBidders 163 = .ok (.iadd, 1) := by decide +kernel
theorem dL_areBidders_164 : decode cL_areBidders 164 = .ok (.istore 8, 2) := by decide +kernel
theorem dL_areBidders_166 : decode cL_areBidders 166 = .ok (.iconst 0, 1) := by decide +kernel
theorem dL_areBidders_167 : decode cL_areBidders 167 = .ok (.istore 11, 2) := by decide +kernel
theorem dL_areBidders_169 : decode cL_areBidders 169 = .ok (.iload 11, 2) := by decide +kernel
theorem dL_areBidders_171 : decode cL_areBidders 171 = .ok (.iconst 5, 1) := by decide +kernel
theorem dL_areBidders_172 : decode cL_areBidders 172 = .ok (.if_icmp .ge 69, 3) := by decide +kernel
theorem dL_areBidders_175 : decode cL_areBidders 175 = .ok (.iload 9, 2) := by decide +kernel
theorem dL_areBidders_177 : decode cL_areBidders 177 = .ok (.ifCond .eq 55, 3) := by decide +kernel
theorem dL_areBidders_180 : decode cL_areBidders 180 = .ok (.aload_n 0, 1) := by decide +kernel
theorem dL_areBidders_181 : decode cL_areBidders 181 = .ok (.iload 10, 2) := by decide +kernel
theorem dL_areBidders_183 : decode cL_areBidders 183 = .ok (.iload 11, 2) := by decide +kernel
theorem dL_areBidders_185 : decode cL_areBidders 185 = .ok (.invokevirtual 32, 3) := by decide +kernel
theorem dL_areBidders_188 : decode cL_areBidders 188 = .ok (.aload_n 1, 1) := by decide +kernel
theorem dL_areBidders_189 : decode cL_areBidders 189 = .ok (.iconst 5, 1) := by decide +kernel
theorem dL_areBidders_190 : decode cL_areBidders 190 = .ok (.iload 10, 2) := by decide +kernel
theorem dL_areBidders_192 : decode cL_areBidders 192 = .ok (.imul, 1) := by decide +kernel
theorem dL_areBidders_193 : decode cL_areBidders 193 = .ok (.iload 11, 2) := by decide +kernel
theorem dL_areBidders_195 : decode cL_areBidders 195 = .ok (.iadd, 1) := by decide +kernel
theorem dL_areBidders_196 : decode cL_areBidders 196 = .ok (.iaload, 1) := by decide +kernel
theorem dL_areBidders_197 : decode cL_areBidders 197 = .ok (.if_icmp .ne 35, 3) := by decide +kernel
theorem dL_areBidders_200 : decode cL_areBidders 200 = .ok (.iload 11, 2) := by decide +kernel
theorem dL_areBidders_202 : decode cL_areBidders 202 = .ok (.ifCond .eq 26, 3) := by decide +kernel
theorem dL_areBidders_205 : decode cL_areBidders 205 = .ok (.aload_n 0, 1) := by decide +kernel
theorem dL_areBidders_206 : decode cL_areBidders 206 = .ok (.iload 10, 2) := by decide +kernel
theorem dL_areBidders_208 : decode cL_areBidders 208 = .ok (.bipush 6, 2) := by decide +kernel
theorem dL_areBidders_210 : decode cL_areBidders 210 = .ok (.iload 11, 2) := by decide +kernel
theorem dL_areBidders_212 : decode cL_areBidders 212 = .ok (.iadd, 1) := by decide +kernel
theorem dL_areBidders_213 : decode cL_areBidders 213 = .ok (.invokevirtual 32, 3) := by decide +kernel
theorem dL_areBidders_216 : decode cL_areBidders 216 = .ok (.aload_n 2, 1) := by decide +kernel
theorem dL_areBidders_217 : decode cL_areBidders 217 = .ok (.iconst 5, 1) := by decide +kernel
theorem dL_areBidders_218 : decode cL_areBidders 218 = .ok (.iload 10, 2) := by decide +kernel
theorem dL_areBidders_220 : decode cL_areBidders 220 = .ok (.imul, 1) := by decide +kernel
theorem dL_areBidders_221 : decode cL_areBidders 221 = .ok (.iload 11, 2) := by decide +kernel
theorem dL_areBidders_223 : decode cL_areBidders 223 = .ok (.iadd, 1) := by decide +kernel
theorem dL_areBidders_224 : decode cL_areBidders 224 = .ok (.iaload, 1) := by decide +kernel
theorem dL_areBidders_225 : decode cL_areBidders 225 = .ok (.if_icmp .ne 7, 3) := by decide +kernel
theorem dL_areBidders_228 : decode cL_areBidders 228 = .ok (.iconst 1, 1) := by decide +kernel
theorem dL_areBidders_229 : decode cL_areBidders 229 = .ok (.goto 4, 3) := by decide +kernel
theorem dL_areBidders_232 : decode cL_areBidders 232 = .ok (.iconst 0, 1) := by decide +kernel
theorem dL_areBidders_233 : decode cL_areBidders 233 = .ok (.istore 9, 2) := by decide +kernel
theorem dL_areBidders_235 : decode cL_areBidders 235 = .ok (.iinc 11 1, 3) := by decide +kernel
theorem dL_areBidders_238 : decode cL_areBidders 238 = .ok (.goto (-69), 3) := by decide +kernel
theorem dL_areBidders_241 : decode cL_areBidders 241 = .ok (.iload 9, 2) := by decide +kernel
theorem dL_areBidders_243 : decode cL_areBidders 243 = .ok (.ifCond .eq 99, 3) := by decide +kernel
theorem dL_areBidders_246 : decode cL_areBidders 246 = .ok (.aload_n 0, 1) := by decide +kernel
theorem dL_areBidders_247 : decode cL_areBidders 247 = .ok (.iload 10, 2) := by decide +kernel
theorem dL_areBidders_249 : decode cL_areBidders 249 = .ok (.iconst 5, 1) := by decide +kernel
theorem dL_areBidders_250 : decode cL_areBidders 250 = .ok (.invokevirtual 32, 3) := by decide +kernel
theorem dL_areBidders_253 : decode cL_areBidders 253 = .ok (.aload_n 2, 1) := by decide +kernel
theorem dL_areBidders_254 : decode cL_areBidders 254 = .ok (.iconst 5, 1) := by decide +kernel
theorem dL_areBidders_255 : decode cL_areBidders 255 = .ok (.iload 10, 2) := by decide +kernel
theorem dL_areBidders_257 : decode cL_areBidders 257 = .ok (.imul, 1) := by decide +kernel
theorem dL_areBidders_258 : decode cL_areBidders 258 = .ok (.iaload, 1) := by decide +kernel
theorem dL_areBidders_259 : decode cL_areBidders 259 = .ok (.if_icmp .ne 83, 3) := by decide +kernel
theorem dL_areBidders_262 : decode cL_areBidders 262 = .ok (.aload_n 0, 1) := by decide +kernel
theorem dL_areBidders_263 : decode cL_areBidders 263 = .ok (.iload 10, 2) := by decide +kernel
theorem dL_areBidders_265 : decode cL_areBidders 265 = .ok (.bipush 6, 2) := by decide +kernel
theorem dL_areBidders_267 : decode cL_areBidders 267 = .ok (.invokevirtual 32, 3) := by decide +kernel
theorem dL_areBidders_270 : decode cL_areBidders 270 = .ok (.bipush 100, 2) := by decide +kernel
theorem dL_areBidders_272 : decode cL_areBidders 272 = .ok (.aload_n 1, 1) := by decide +kernel
theorem dL_areBidders_273 : decode cL_areBidders 273 = .ok (.aload_n 2, 1) := by decide +kernel
theorem dL_areBidders_274 : decode cL_areBidders 274 = .ok (.iload 10, 2) := by decide +kernel
theorem dL_areBidders_276 : decode cL_areBidders 276 = .ok (.invokestatic 9, 3) := by decide +kernel
theorem dL_areBidders_279 : decode cL_areBidders 279 = .ok (.iadd, 1) := by decide +kernel
theorem dL_areBidders_280 : decode cL_areBidders 280 = .ok (.if_icmp .ne 62, 3) := by decide +kernel
theorem dL_areBidders_283 : decode cL_areBidders 283 = .ok (.aload_n 0, 1) := by decide +kernel
theorem dL_areBidders_284 : decode cL_areBidders 284 = .ok (.iload 10, 2) := by decide +kernel
theorem dL_areBidders_286 : decode cL_areBidders 286 = .ok (.bipush 11, 2) := by decide +kernel
theorem dL_areBidders_288 : decode cL_areBidders 288 = .ok (.invokevirtual 32, 3) := by decide +kernel
theorem dL_areBidders_291 : decode cL_areBidders 291 = .ok (.ldc 38, 2) := by decide +kernel
theorem dL_areBidders_293 : decode cL_areBidders 293 = .ok (.if_icmp .ne 49, 3) := by decide +kernel
theorem dL_areBidders_296 : decode cL_areBidders 296 = .ok (.aload_n 0, 1) := by decide +kernel
theorem dL_areBidders_297 : decode cL_areBidders 297 = .ok (.iload 10, 2) := by decide +kernel
theorem dL_areBidders_299 : decode cL_areBidders 299 = .ok (.invokevirtual 39, 3) := by decide +kernel
theorem dL_areBidders_302 : decode cL_areBidders 302 = .ok (.aload_n 1, 1) := by decide +kernel
theorem dL_areBidders_303 : decode cL_areBidders 303 = .ok (.aload_n 2, 1) := by decide +kernel
theorem dL_areBidders_304 : decode cL_areBidders 304 = .ok (.aload_n 3, 1) := by decide +kernel
theorem dL_areBidders_305 : decode cL_areBidders 305 = .ok (.aload 4, 2) := by decide +kernel
theorem dL_areBidders_307 : decode cL_areBidders 307 = .ok (.iload 10, 2) := by decide +kernel
theorem dL_areBidders_309 : decode cL_areBidders 309 = .ok (.invokestatic 15, 3) := by decide +kernel
theorem dL_areBidders_312 : decode cL_areBidders 312 = .ok (.if_icmp .ne 30, 3) := by decide +kernel
theorem dL_areBidders_315 : decode cL_areBidders 315 = .ok (.aload_n 0, 1) := by decide +kernel
theorem dL_areBidders_316 : decode cL_areBidders 316 = .ok (.aload_n 1, 1) := by decide +kernel
theorem dL_areBidders_317 : decode cL_areBidders 317 = .ok (.iconst 5, 1) := by decide +kernel
theorem dL_areBidders_318 : decode cL_areBidders 318 = .ok (.iload 10, 2) := by decide +kernel
theorem dL_areBidders_320 : decode cL_areBidders 320 = .ok (.imul, 1) := by decide +kernel
theorem dL_areBidders_321 : decode cL_areBidders 321 = .ok (.iaload, 1) := by decide +kernel
theorem dL_areBidders_322 : decode cL_areBidders 322 = .ok (.aload_n 1, 1) := by decide +kernel
theorem dL_areBidders_323 : decode cL_areBidders 323 = .ok (.iconst 5, 1) := by decide +kernel
theorem dL_areBidders_324 : decode cL_areBidders 324 = .ok (.iload 10, 2) := by decide +kernel
theorem dL_areBidders_326 : decode cL_areBidders 326 = .ok (.imul, 1) := by decide +kernel
theorem dL_areBidders_327 : decode cL_areBidders 327 = .ok (.iconst 1, 1) := by decide +kernel
theorem dL_areBidders_328 : decode cL_areBidders 328 = .ok (.iadd, 1) := by decide +kernel
theorem dL_areBidders_329 : decode cL_areBidders 329 = .ok (.iaload, 1) := by decide +kernel
theorem dL_areBidders_330 : decode cL_areBidders 330 = .ok (.invokevirtual 42, 3) := by decide +kernel
theorem dL_areBidders_333 : decode cL_areBidders 333 = .ok (.iload 10, 2) := by decide +kernel
theorem dL_areBidders_335 : decode cL_areBidders 335 = .ok (.if_icmp .ne 7, 3) := by decide +kernel
theorem dL_areBidders_338 : decode cL_areBidders 338 = .ok (.iconst 1, 1) := by decide +kernel
theorem dL_areBidders_339 : decode cL_areBidders 339 = .ok (.goto 4, 3) := by decide +kernel
theorem dL_areBidders_342 : decode cL_areBidders 342 = .ok (.iconst 0, 1) := by decide +kernel
theorem dL_areBidders_343 : decode cL_areBidders 343 = .ok (.istore 9, 2) := by decide +kernel
theorem dL_areBidders_345 : decode cL_areBidders 345 = .ok (.iinc 10 1, 3) := by decide +kernel
theorem dL_areBidders_348 : decode cL_areBidders 348 = .ok (.goto (-288), 3) := by decide +kernel
theorem dL_areBidders_351 : decode cL_areBidders 351 = .ok (.iload 9, 2) := by decide +kernel
theorem dL_areBidders_353 : decode cL_areBidders 353 = .ok (.ifCond .eq 83, 3) := by decide +kernel
theorem dL_areBidders_356 : decode cL_areBidders 356 = .ok (.aload_n 0, 1) := by decide +kernel
theorem dL_areBidders_357 : decode cL_areBidders 357 = .ok (.bipush 13, 2) := by decide +kernel
theorem dL_areBidders_359 : decode cL_areBidders 359 = .ok (.invokevirtual 45, 3) := by decide +kernel
theorem dL_areBidders_362 : decode cL_areBidders 362 = .ok (.iload 5, 2) := by decide +kernel
theorem dL_areBidders_364 : decode cL_areBidders 364 = .ok (.if_icmp .ne 72, 3) := by decide +kernel
theorem dL_areBidders_367 : decode cL_areBidders 367 = .ok (.aload_n 0, 1) := by decide +kernel
theorem dL_areBidders_368 : decode cL_areBidders 368 = .ok (.invokevirtual 48, 3) := by decide +kernel
theorem dL_areBidders_371 : decode cL_areBidders 371 = .ok (.iload 6, 2) := by decide +kernel
theorem dL_areBidders_373 : decode cL_areBidders 373 = .ok (.if_icmp .ne 63, 3) := by decide +kernel
theorem dL_areBidders_376 : decode cL_areBidders 376 = .ok (.aload_n 0, 1) := by decide +kernel
theorem dL_areBidders_377 : decode cL_areBidders 377 = .ok (.invokevirtual 52, 3) := by decide +kernel
theorem dL_areBidders_380 : decode cL_areBidders 380 = .ok (.iload 7, 2) := by decide +kernel
theorem dL_areBidders_382 : decode cL_areBidders 382 = .ok (.if_icmp .ne 54, 3) := by decide +kernel
theorem dL_areBidders_385 : decode cL_areBidders 385 = .ok (.aload_n 0, 1) := by decide +kernel
theorem dL_areBidders_386 : decode cL_areBidders 386 = .ok (.bipush 9, 2) := by decide +kernel
theorem dL_areBidders_388 : decode cL_areBidders 388 = .ok (.invokevirtual 45, 3) := by decide +kernel
theorem dL_areBidders_391 : decode cL_areBidders 391 = .ok (.aload 4, 2) := by decide +kernel
theorem dL_areBidders_393 : decode cL_areBidders 393 = .ok (.bipush 14, 2) := by decide +kernel
theorem dL_areBidders_395 : decode cL_areBidders 395 = .ok (.iaload, 1) := by decide +kernel
theorem dL_areBidders_396 : decode cL_areBidders 396 = .ok (.iload 8, 2) := by decide +kernel
theorem dL_areBidders_398 : decode cL_areBidders 398 = .ok (.isub, 1) := by decide +kernel
theorem dL_areBidders_399 : decode cL_areBidders 399 = .ok (.if_icmp .ne 37, 3) := by decide +kernel
theorem dL_areBidders_402 : decode cL_areBidders 402 = .ok (.aload_n 0, 1) := by decide +kernel
theorem dL_areBidders_403 : decode cL_areBidders 403 = .ok (.bipush 8, 2) := by decide +kernel
theorem dL_areBidders_405 : decode cL_areBidders 405 = .ok (.invokevirtual 45, 3) := by decide +kernel
theorem dL_areBidders_408 : decode cL_areBidders 408 = .ok (.aload 4, 2) := by decide +kernel
theorem dL_areBidders_410 : decode cL_areBidders 410 = .ok (.bipush 8, 2) := by decide +kernel
theorem dL_areBidders_412 : decode cL_areBidders 412 = .ok (.iaload, 1) := by decide +kernel
theorem dL_areBidders_413 : decode cL_areBidders 413 = .ok (.if_icmp .ne 23, 3) := by decide +kernel
theorem dL_areBidders_416 : decode cL_areBidders 416 = .ok (.aload 4, 2) := by decide +kernel
theorem dL_areBidders_418 : decode cL_areBidders 418 = .ok (.bipush 8, 2) := by decide +kernel
theorem dL_areBidders_420 : decode cL_areBidders 420 = .ok (.iaload, 1) := by decide +kernel
theorem dL_areBidders_421 : decode cL_areBidders 421 = .ok (.aload 4, 2) := by decide +kernel
theorem dL_areBidders_423 : decode cL_areBidders 423 = .ok (.bipush 14, 2) := by decide +kernel
theorem dL_areBidders_425 : decode cL_areBidders 425 = .ok (.iaload, 1) := by decide +kernel
theorem dL_areBidders_426 : decode cL_areBidders 426 = .ok (.iload 8, 2) := by decide +kernel
theorem dL_areBidders_428 : decode cL_areBidders 428 = .ok (.isub, 1) := by decide +kernel
theorem dL_areBidders_429 : decode cL_areBidders 429 = .ok (.if_icmp .ne 7, 3) := by decide +kernel
theorem dL_areBidders_432 : decode cL_areBidders 432 = .ok (.iconst 1, 1) := by decide +kernel
theorem dL_areBidders_433 : decode cL_areBidders 433 = .ok (.goto 4, 3) := by decide +kernel
theorem dL_areBidders_436 : decode cL_areBidders 436 = .ok (.iconst 0, 1) := by decide +kernel
theorem dL_areBidders_437 : decode cL_areBidders 437 = .ok (.ireturn, 1) := by decide +kernel
theorem dL_areLots_0 : decode cL_areLots 0 = .ok (.aload_n 0, 1) := by decide +kernel
theorem dL_areLots_1 : decode cL_areLots 1 = .ok (.iconst (-1), 1) := by decide +kernel
theorem dL_areLots_2 : decode cL_areLots 2 = .ok (.iconst 0, 1) := by decide +kernel
theorem dL_areLots_3 : decode cL_areLots 3 = .ok (.invokevirtual 55, 3) := by decide +kernel
theorem dL_areLots_6 : decode cL_areLots 6 = .ok (.ldc 38, 2) := by decide +kernel
theorem dL_areLots_8 : decode cL_areLots 8 = .ok (.if_icmp .ne 32, 3) := by decide +kernel
theorem dL_areLots_11 : decode cL_areLots 11 = .ok (.aload_n 0, 1) := by decide +kernel
theorem dL_areLots_12 : decode cL_areLots 12 = .ok (.iconst 0, 1) := by decide +kernel
theorem dL_areLots_13 : decode cL_areLots 13 = .ok (.iconst 2, 1) := by decide +kernel
theorem dL_areLots_14 : decode cL_areLots 14 = .ok (.invokevirtual 55, 3) := by decide +kernel
theorem dL_areLots_17 : decode cL_areLots 17 = .ok (.ldc 38, 2) := by decide +kernel
theorem dL_areLots_19 : decode cL_areLots 19 = .ok (.if_icmp .ne 21, 3) := by decide +kernel
theorem dL_areLots_22 : decode cL_areLots 22 = .ok (.aload_n 0, 1) := by decide +kernel
theorem dL_areLots_23 : decode cL_areLots 23 = .ok (.aload 4, 2) := by decide +kernel
theorem dL_areLots_25 : decode cL_areLots 25 = .ok (.iconst 2, 1) := by decide +kernel
theorem dL_areLots_26 : decode cL_areLots 26 = .ok (.iaload, 1) := by decide +kernel
theorem dL_areLots_27 : decode cL_areLots 27 = .ok (.iconst 0, 1) := by decide +kernel
theorem dL_areLots_28 : decode cL_areLots 28 = .ok (.invokevirtual 55, 3) := by decide +kernel
theorem dL_areLots_31 : decode cL_areLots 31 = .ok (.ldc 31, 2) := by decide +kernel
theorem dL_areLots_33 : decode cL_areLots 33 = .ok (.if_icmp .ne 7, 3) := by decide +kernel
theorem dL_areLots_36 : decode cL_areLots 36 = .ok (.iconst 1, 1) := by decide +kernel
theorem dL_areLots_37 : decode cL_areLots 37 = .ok (.goto 4, 3) := by decide +kernel
theorem dL_areLots_40 : decode cL_areLots 40 = .ok (.iconst 0, 1) := by decide +kernel
theorem dL_areLots_41 : decode cL_areLots 41 = .ok (.istore 5, 2) := by decide +kernel
theorem dL_areLots_43 : decode cL_areLots 43 = .ok (.iconst 0, 1) := by decide +kernel
theorem dL_areLots_44 : decode cL_areLots 44 = .ok (.istore 6, 2) := by decide +kernel
theorem dL_areLots_46 : decode cL_areLots 46 = .ok (.iload 6, 2) := by decide +kernel
theorem dL_areLots_48 : decode cL_areLots 48 = .ok (.aload 4, 2) := by decide +kernel
theorem dL_areLots_50 : decode cL_areLots 50 = .ok (.iconst 2, 1) := by decide +kernel
theorem dL_areLots_51 : decode cL_areLots 51 = .ok (.iaload, 1) := by decide +kernel
theorem dL_areLots_52 : decode cL_areLots 52 = .ok (.if_icmp .ge 55, 3) := by decide +kernel
theorem dL_areLots_55 : decode cL_areLots 55 = .ok (.iload 5, 2) := by decide +kernel
theorem dL_areLots_57 : decode cL_areLots 57 = .ok (.ifCond .eq 41, 3) := by decide +kernel
theorem dL_areLots_60 : decode cL_areLots 60 = .ok (.aload_n 0, 1) := by decide +kernel
theorem dL_areLots_61 : decode cL_areLots 61 = .ok (.iload 6, 2) := by decide +kernel
theorem dL_areLots_63 : decode cL_areLots 63 = .ok (.iconst 0, 1) := by decide +kernel
theorem dL_areLots_64 : decode cL_areLots 64 = .ok (.invokevirtual 55, 3) := by decide +kernel
theorem dL_areLots_67 : decode cL_areLots 67 = .ok (.aload_n 1, 1) := by decide +kernel
theorem dL_areLots_68 : decode cL_areLots 68 = .ok (.iconst 2, 1) := by decide +kernel
theorem dL_areLots_69 : decode cL_areLots 69 = .ok (.iload 6, 2) := by decide +kernel
theorem dL_areLots_71 : decode cL_areLots 71 = .ok (.imul, 1) := by decide +kernel
theorem dL_areLots_72 : decode cL_areLots 72 = .ok (.iaload, 1) := by decide +kernel
theorem dL_areLots_73 : decode cL_areLots 73 = .ok (.if_icmp .ne 25, 3) := by decide +kernel
theorem dL_areLots_76 : decode cL_areLots 76 = .ok (.aload_n 0, 1) := by decide +kernel
theorem dL_areLots_77 : decode cL_areLots 77 = .ok (.iload 6, 2) := by decide +kernel
theorem dL_areLots_79 : decode cL_areLots 79 = .ok (.iconst 1, 1) := by decide +kernel
theorem dL_areLots_80 : decode cL_areLots 80 = .ok (.invokevirtual 55, 3) := by decide +kernel
theorem dL_areLots_83 : decode cL_areLots 83 = .ok (.aload_n 1, 1) := by decide +kernel
theorem dL_areLots_84 : decode cL_areLots 84 = .ok (.iconst 2, 1) := by decide +kernel
theorem dL_areLots_85 : decode cL_areLots 85 = .ok (.iload 6, 2) := by decide +kernel
theorem dL_areLots_87 : decode cL_areLots 87 = .ok (.imul, 1) := by decide +kernel
theorem dL_areLots_88 : decode cL_areLots 88 = .ok (.iconst 1, 1) := by decide +kernel
theorem dL_areLots_89 : decode cL_areLots 89 = .ok (.iadd, 1) := by decide +kernel
theorem dL_areLots_90 : decode cL_areLots 90 = .ok (.iaload, 1) := by decide +kernel
theorem dL_areLots_91 : decode cL_areLots 91 = .ok (.if_icmp .ne 7, 3) := by decide +kernel
theorem dL_areLots_94 : decode cL_areLots 94 = .ok (.iconst 1, 1) := by decide +kernel
theorem dL_areLots_95 : decode cL_areLots 95 = .ok (.goto 4, 3) := by decide +kernel
theorem dL_areLots_98 : decode cL_areLots 98 = .ok (.iconst 0, 1) := by decide +kernel
theorem dL_areLots_99 : decode cL_areLots 99 = .ok (.istore 5, 2) := by decide +kernel
theorem dL_areLots_101 : decode cL_areLots 101 = .ok (.iinc 6 1, 3) := by decide +kernel
theorem dL_areLots_104 : decode cL_areLots 104 = .ok (.goto (-58), 3) := by decide +kernel
theorem dL_areLots_107 : decode cL_areLots 107 = .ok (.iconst 0, 1) := by decide +kernel
theorem dL_areLots_108 : decode cL_areLots 108 = .ok (.istore 6, 2) := by decide +kernel
theorem dL_areLots_110 : decode cL_areLots 110 = .ok (.iload 6, 2) := by decide +kernel
theorem dL_areLots_112 : decode cL_areLots 112 = .ok (.bipush 9, 2) := by decide +kernel
theorem dL_areLots_114 : decode cL_areLots 114 = .ok (.if_icmp .ge 156, 3) := by decide +kernel
theorem dL_areLots_117 : decode cL_areLots 117 = .ok (.iload 6, 2) := by decide +kernel
theorem dL_areLots_119 : decode cL_areLots 119 = .ok (.iconst 2, 1) := by decide +kernel
theorem dL_areLots_120 : decode cL_areLots 120 = .ok (.if_icmp .ge 10, 3) := by decide +kernel
theorem dL_areLots_123 : decode cL_areLots 123 = .ok (.aload_n 2, 1) := by decide +kernel
theorem dL_areLots_124 : decode cL_areLots 124 = .ok (.iload 6, 2) := by decide +kernel
theorem dL_areLots_126 : decode cL_areLots 126 = .ok (.iaload, 1) := by decide +kernel
theorem dL_areLots_127 : decode cL_areLots 127 = .ok (.goto 100, 3) := by decide +kernel
theorem dL_areLots_130 : decode cL_areLots 130 = .ok (.iload 6, 2) := by decide +kernel
theorem dL_areLots_132 : decode cL_areLots 132 = .ok (.iconst 2, 1) := by decide +kernel
theorem dL_areLots_133 : decode cL_areLots 133 = .ok (.if_icmp .ne 20, 3) := by decide +kernel
theorem dL_areLots_136 : decode cL_areLots 136 = .ok (.aload_n 2, 1) := by decide +kernel
theorem dL_areLots_137 : decode cL_areLots 137 = .ok (.iconst 3, 1) := by decide +kernel
theorem dL_areLots_138 : decode cL_areLots 138 = .ok (.iaload, 1) := by decide +kernel
theorem dL_areLots_139 : decode cL_areLots 139 = .ok (.ifCond .le 9, 3) := by decide +kernel
theorem dL_areLots_142 : decode cL_areLots 142 = .ok (.aload_n 2, 1) := by decide +kernel
theorem dL_areLots_143 : decode cL_areLots 143 = .ok (.iconst 2, 1) := by decide +kernel
theorem dL_areLots_144 : decode cL_areLots 144 = .ok (.iaload, 1) := by decide +kernel
theorem dL_areLots_145 : decode cL_areLots 145 = .ok (.goto 82, 3) := by decide +kernel
theorem dL_areLots_148 : decode cL_areLots 148 = .ok (.ldc 31, 2) := by decide +kernel
theorem dL_areLots_150 : decode cL_areLots 150 = .ok (.goto 77, 3) := by decide +kernel
theorem dL_areLots_153 : decode cL_areLots 153 = .ok (.iload 6, 2) := by decide +kernel
theorem dL_areLots_155 : decode cL_areLots 155 = .ok (.iconst 3, 1) := by decide +kernel
theorem dL_areLots_156 : decode cL_areLots 156 = .ok (.if_icmp .ne 22, 3) := by decide +kernel
theorem dL_areLots_159 : decode cL_areLots 159 = .ok (.aload_n 2, 1) := by decide +kernel
theorem dL_areLots_160 : decode cL_areLots 160 = .ok (.iconst 3, 1) := by decide +kernel
theorem dL_areLots_161 : decode cL_areLots 161 = .ok (.iaload, 1) := by decide +kernel
theorem dL_areLots_162 : decode cL_areLots 162 = .ok (.ifCond .le 11, 3) := by decide +kernel
theorem dL_areLots_165 : decode cL_areLots 165 = .ok (.aload_n 2, 1) := by decide +kernel
theorem dL_areLots_166 : decode cL_areLots 166 = .ok (.iconst 3, 1) := by decide +kernel
theorem dL_areLots_167 : decode cL_areLots 167 = .ok (.iaload, 1) := by decide +kernel
theorem dL_areLots_168 : decode cL_areLots 168 = .ok (.iconst 1, 1) := by decide +kernel
theorem dL_areLots_169 : decode cL_areLots 169 = .ok (.isub, 1) := by decide +kernel
theorem dL_areLots_170 : decode cL_areLots 170 = .ok (.goto 57, 3) := by decide +kernel
theorem dL_areLots_173 : decode cL_areLots 173 = .ok (.ldc 31, 2) := by decide +kernel
theorem dL_areLots_175 : decode cL_areLots 175 = .ok (.goto 52, 3) := by decide +kernel
theorem dL_areLots_178 : decode cL_areLots 178 = .ok (.iload 6, 2) := by decide +kernel
theorem dL_areLots_180 : decode cL_areLots 180 = .ok (.bipush 6, 2) := by decide +kernel
theorem dL_areLots_182 : decode cL_areLots 182 = .ok (.if_icmp .ge 10, 3) := by decide +kernel
theorem dL_areLots_185 : decode cL_areLots 185 = .ok (.aload_n 2, 1) := by decide +kernel
theorem dL_areLots_186 : decode cL_areLots 186 = .ok (.iload 6, 2) := by decide +kernel
theorem dL_areLots_188 : decode cL_areLots 188 = .ok (.iaload, 1) := by decide +kernel
theorem dL_areLots_189 : decode cL_areLots 189 = .ok (.goto 38, 3) := by decide +kernel
theorem dL_areLots_192 : decode cL_areLots 192 = .ok (.iload 6, 2) := by decide +kernel
theorem dL_areLots_194 : decode cL_areLots 194 = .ok (.bipush 6, 2) := by decide +kernel
theorem dL_areLots_196 : decode cL_areLots 196 = .ok (.if_icmp .ne 25, 3) := by decide +kernel
theorem dL_areLots_199 : decode cL_areLots 199 = .ok (.aload_n 2, 1) := by decide +kernel
theorem dL_areLots_200 : decode cL_areLots 200 = .ok (.iconst 3, 1) := by decide +kernel
theorem dL_areLots_201 : decode cL_areLots 201 = .ok (.iaload, 1) := by decide +kernel
theorem dL_areLots_202 : decode cL_areLots 202 = .ok (.ifCond .le 13, 3) := by decide +kernel
theorem dL_areLots_205 : decode cL_areLots 205 = .ok (.aload_n 2, 1) := by decide +kernel
theorem dL_areLots_206 : decode cL_areLots 206 = .ok (.iconst 2, 1) := by decide +kernel
theorem dL_areLots_207 : decode cL_areLots 207 = .ok (.iaload, 1) := by decide +kernel
theorem dL_areLots_208 : decode cL_areLots 208 = .ok (.aload_n 2, 1) := by decide +kernel
theorem dL_areLots_209 : decode cL_areLots 209 = .ok (.iconst 1, 1) := by decide +kernel
theorem dL_areLots_210 : decode cL_areLots 210 = .ok (.iaload, 1) := by decide +kernel
theorem dL_areLots_211 : decode cL_areLots 211 = .ok (.iadd, 1) := by decide +kernel
theorem dL_areLots_212 : decode cL_areLots 212 = .ok (.goto 15, 3) := by decide +kernel
theorem dL_areLots_215 : decode cL_areLots 215 = .ok (.aload_n 2, 1) := by decide +kernel
theorem dL_areLots_216 : decode cL_areLots 216 = .ok (.iconst 0, 1) := by decide +kernel
theorem dL_areLots_217 : decode cL_areLots 217 = .ok (.iaload, 1) := by decide +kernel
theorem dL_areLots_218 : decode cL_areLots 218 = .ok (.goto 9, 3) := by decide +kernel
theorem dL_areLots_221 : decode cL_areLots 221 = .ok (.aload_n 2, 1) := by decide +kernel
theorem dL_areLots_222 : decode cL_areLots 222 = .ok (.iload 6, 2) := by decide +kernel
theorem dL_areLots_224 : decode cL_areLots 224 = .ok (.iconst 1, 1) := by decide +kernel
theorem dL_areLots_225 : decode cL_areLots 225 = .ok (.isub, 1) := by decide +kernel
theorem dL_areLots_226 : decode cL_areLots 226 = .ok (.iaload, 1) := by decide +kernel
theorem dL_areLots_227 : decode cL_areLots 227 = .ok (.istore 7, 2) := by decide +kernel
theorem dL_areLots_229 : decode cL_areLots 229 = .ok (.iload 5, 2) := by decide +kernel
theorem dL_areLots_231 : decode cL_areLots 231 = .ok (.ifCond .eq 30, 3) := by decide +kernel
theorem dL_areLots_234 : decode cL_areLots 234 = .ok (.aload_n 0, 1) := by decide +kernel
theorem dL_areLots_235 : decode cL_areLots 235 = .ok (.iload 6, 2) := by decide +kernel
theorem dL_areLots_237 : decode cL_areLots 237 = .ok (.invokevirtual 58, 3) := by decide +kernel
theorem dL_areLots_240 : decode cL_areLots 240 = .ok (.aload_n 2, 1) := by decide +kernel
theorem dL_areLots_241 : decode cL_areLots 241 = .ok (.bipush 9, 2) := by decide +kernel
theorem dL_areLots_243 : decode cL_areLots 243 = .ok (.iaload, 1) := by decide +kernel
theorem dL_areLots_244 : decode cL_areLots 244 = .ok (.ifCond .ne 8, 3) := by decide +kernel
theorem dL_areLots_247 : decode cL_areLots 247 = .ok (.ldc 61, 2) := by decide +kernel
theorem dL_areLots_249 : decode cL_areLots 249 = .ok (.goto 5, 3) := by decide +kernel
theorem dL_areLots_252 : decode cL_areLots 252 = .ok (.iload 7, 2) := by decide +kernel
theorem dL_areLots_254 : decode cL_areLots 254 = .ok (.if_icmp .ne 7, 3) := by decide +kernel
theorem dL_areLots_257 : decode cL_areLots 257 = .ok (.iconst 1, 1) := by decide +kernel
theorem dL_areLots_258 : decode cL_areLots 258 = .ok (.goto 4, 3) := by decide +kernel
theorem dL_areLots_261 : decode cL_areLots 261 = .ok (.iconst 0, 1) := by decide +kernel
theorem dL_areLots_262 : decode cL_areLots 262 = .ok (.istore 5, 2) := by decide +kernel
theorem dL_areLots_264 : decode cL_areLots 264 = .ok (.iinc 6 1, 3) := by decide +kernel
theorem dL_areLots_267 : decode cL_areLots 267 = .ok (.goto (-157), 3) := by decide +kernel
theorem dL_areLots_270 : decode cL_areLots 270 = .ok (.iconst 0, 1) := by decide +kernel
theorem dL_areLots_271 : decode cL_areLots 271 = .ok (.istore 6, 2) := by decide +kernel
theorem dL_areLots_273 : decode cL_areLots 273 = .ok (.iload 6, 2) := by decide +kernel
theorem dL_areLots_275 : decode cL_areLots 275 = .ok (.bipush 40, 2) := by decide +kernel
theorem dL_areLots_277 : decode cL_areLots 277 = .ok (.if_icmp .ge 93, 3) := by decide +kernel
theorem dL_areLots_280 : decode cL_areLots 280 = .ok (.iload 6, 2) := by decide +kernel
theorem dL_areLots_282 : decode cL_areLots 282 = .ok (.iconst 5, 1) := by decide +kernel
theorem dL_areLots_283 : decode cL_areLots 283 = .ok (.idiv, 1) := by decide +kernel
theorem dL_areLots_284 : decode cL_areLots 284 = .ok (.aload 4, 2) := by decide +kernel
theorem dL_areLots_286 : decode cL_areLots 286 = .ok (.bipush 13, 2) := by decide +kernel
theorem dL_areLots_288 : decode cL_areLots 288 = .ok (.iaload, 1) := by decide +kernel
theorem dL_areLots_289 : decode cL_areLots 289 = .ok (.if_icmp .ge 18, 3) := by decide +kernel
theorem dL_areLots_292 : decode cL_areLots 292 = .ok (.iload 6, 2) := by decide +kernel
theorem dL_areLots_294 : decode cL_areLots 294 = .ok (.iconst 5, 1) := by decide +kernel
theorem dL_areLots_295 : decode cL_areLots 295 = .ok (.irem, 1) := by decide +kernel
theorem dL_areLots_296 : decode cL_areLots 296 = .ok (.iconst 2, 1) := by decide +kernel
theorem dL_areLots_297 : decode cL_areLots 297 = .ok (.if_icmp .ne 15, 3) := by decide +kernel
theorem dL_areLots_300 : decode cL_areLots 300 = .ok (.aload_n 3, 1) := by decide +kernel
theorem dL_areLots_301 : decode cL_areLots 301 = .ok (.iload 6, 2) := by decide +kernel
theorem dL_areLots_303 : decode cL_areLots 303 = .ok (.iaload, 1) := by decide +kernel
theorem dL_areLots_304 : decode cL_areLots 304 = .ok (.ifCond .ne 8, 3) := by decide +kernel
theorem dL_areLots_307 : decode cL_areLots 307 = .ok (.ldc 31, 2) := by decide +kernel
theorem dL_areLots_309 : decode cL_areLots 309 = .ok (.goto 24, 3) := by decide +kernel
theorem dL_areLots_312 : decode cL_areLots 312 = .ok (.iload 6, 2) := by decide +kernel
theorem dL_areLots_314 : decode cL_areLots 314 = .ok (.iconst 5, 1) := by decide +kernel
theorem dL_areLots_315 : decode cL_areLots 315 = .ok (.irem, 1) := by decide +kernel
theorem dL_areLots_316 : decode cL_areLots 316 = .ok (.iconst 2, 1) := by decide +kernel
theorem dL_areLots_317 : decode cL_areLots 317 = .ok (.if_icmp .ne 12, 3) := by decide +kernel
theorem dL_areLots_320 : decode cL_areLots 320 = .ok (.aload_n 3, 1) := by decide +kernel
theorem dL_areLots_321 : decode cL_areLots 321 = .ok (.iload 6, 2) := by decide +kernel
theorem dL_areLots_323 : decode cL_areLots 323 = .ok (.iaload, 1) := by decide +kernel
theorem dL_areLots_324 : decode cL_areLots 324 = .ok (.iconst 1, 1) := by decide +kernel
theorem dL_areLots_325 : decode cL_areLots 325 = .ok (.isub, 1) := by decide +kernel
theorem dL_areLots_326 : decode cL_areLots 326 = .ok (.goto 7, 3) := by decide +kernel
theorem dL_areLots_329 : decode cL_areLots 329 = .ok (.aload_n 3, 1) := by decide +kernel
theorem dL_areLots_330 : decode cL_areLots 330 = .ok (.iload 6, 2) := by decide +kernel
theorem dL_areLots_332 : decode cL_areLots 332 = .ok (.iaload, 1) := by decide +kernel
theorem dL_areLots_333 : decode cL_areLots 333 = .ok (.istore 7, 2) := by decide +kernel
theorem dL_areLots_335 : decode cL_areLots 335 = .ok (.iload 5, 2) := by decide +kernel
theorem dL_areLots_337 : decode cL_areLots 337 = .ok (.ifCond .eq 24, 3) := by decide +kernel
theorem dL_areLots_340 : decode cL_areLots 340 = .ok (.aload_n 0, 1) := by decide +kernel
theorem dL_areLots_341 : decode cL_areLots 341 = .ok (.iload 6, 2) := by decide +kernel
theorem dL_areLots_343 : decode cL_areLots 343 = .ok (.iconst 5, 1) := by decide +kernel
theorem dL_areLots_344 : decode cL_areLots 344 = .ok (.idiv, 1) := by decide +kernel
theorem dL_areLots_345 : decode cL_areLots 345 = .ok (.iload 6, 2) := by decide +kernel
theorem dL_areLots_347 : decode cL_areLots 347 = .ok (.iconst 5, 1) := by decide +kernel
theorem dL_areLots_348 : decode cL_areLots 348 = .ok (.irem, 1) := by decide +kernel
theorem dL_areLots_349 : decode cL_areLots 349 = .ok (.invokevirtual 62, 3) := by decide +kernel
theorem dL_areLots_352 : decode cL_areLots 352 = .ok (.iload 7, 2) := by decide +kernel
theorem dL_areLots_354 : decode cL_areLots 354 = .ok (.if_icmp .ne 7, 3) := by decide +kernel
theorem dL_areLots_357 : decode cL_areLots 357 = .ok (.iconst 1, 1) := by decide +kernel
theorem dL_areLots_358 : decode cL_areLots 358 = .ok (.goto 4, 3) := by decide +kernel
theorem dL_areLots_361 : decode cL_areLots 361 = .ok (.iconst 0, 1) := by decide +kernel
theorem dL_areLots_362 : decode cL_areLots 362 = .ok (.istore 5, 2) := by decide +kernel
theorem dL_areLots_364 : decode cL_areLots 364 = .ok (.iinc 6 1, 3) := by decide +kernel
theorem dL_areLots_367 : decode cL_areLots 367 = .ok (.goto (-94), 3) := by decide +kernel
theorem dL_areLots_370 : decode cL_areLots 370 = .ok (.iload 5, 2) := by decide +kernel
theorem dL_areLots_372 : decode cL_areLots 372 = .ok (.ifCond .eq 232, 3) := by decide +kernel
theorem dL_areLots_375 : decode cL_areLots 375 = .ok (.aload_n 0, 1) := by decide +kernel
theorem dL_areLots_376 : decode cL_areLots 376 = .ok (.iconst 0, 1) := by decide +kernel
theorem dL_areLots_377 : decode cL_areLots 377 = .ok (.invokevirtual 45, 3) := by decide +kernel
theorem dL_areLots_380 : decode cL_areLots 380 = .ok (.aload 4, 2) := by decide +kernel
theorem dL_areLots_382 : decode cL_areLots 382 = .ok (.iconst 0, 1) := by decide +kernel
theorem dL_areLots_383 : decode cL_areLots 383 = .ok (.iaload, 1) := by decide +kernel
theorem dL_areLots_384 : decode cL_areLots 384 = .ok (.if_icmp .ne 220, 3) := by decide +kernel
theorem dL_areLots_387 : decode cL_areLots 387 = .ok (.aload_n 0, 1) := by decide +kernel
theorem dL_areLots_388 : decode cL_areLots 388 = .ok (.iconst 1, 1) := by decide +kernel
theorem dL_areLots_389 : decode cL_areLots 389 = .ok (.invokevirtual 45, 3) := by decide +kernel
theorem dL_areLots_392 : decode cL_areLots 392 = .ok (.aload 4, 2) := by decide +kernel
theorem dL_areLots_394 : decode cL_areLots 394 = .ok (.iconst 1, 1) := by decide +kernel
theorem dL_areLots_395 : decode cL_areLots 395 = .ok (.iaload, 1) := by decide +kernel
theorem dL_areLots_396 : decode cL_areLots 396 = .ok (.if_icmp .ne 208, 3) := by decide +kernel
theorem dL_areLots_399 : decode cL_areLots 399 = .ok (.aload_n 0, 1) := by decide +kernel
theorem dL_areLots_400 : decode cL_areLots 400 = .ok (.iconst 2, 1) := by decide +kernel
theorem dL_areLots_401 : decode cL_areLots 401 = .ok (.invokevirtual 45, 3) := by decide +kernel
theorem dL_areLots_404 : decode cL_areLots 404 = .ok (.aload 4, 2) := by decide +kernel
theorem dL_areLots_406 : decode cL_areLots 406 = .ok (.iconst 2, 1) := by decide +kernel
theorem dL_areLots_407 : decode cL_areLots 407 = .ok (.iaload, 1) := by decide +kernel
theorem dL_areLots_408 : decode cL_areLots 408 = .ok (.if_icmp .ne 196, 3) := by decide +kernel
theorem dL_areLots_411 : decode cL_areLots 411 = .ok (.aload_n 0, 1) := by decide +kernel
theorem dL_areLots_412 : decode cL_areLots 412 = .ok (.iconst 3, 1) := by decide +kernel
theorem dL_areLots_413 : decode cL_areLots 413 = .ok (.invokevirtual 45, 3) := by decide +kernel
theorem dL_areLots_416 : decode cL_areLots 416 = .ok (.aload_n 2, 1) := by decide +kernel
theorem dL_areLots_417 : decode cL_areLots 417 = .ok (.bipush 9, 2) := by decide +kernel
theorem dL_areLots_419 : decode cL_areLots 419 = .ok (.iaload, 1) := by decide +kernel
theorem dL_areLots_420 : decode cL_areLots 420 = .ok (.if_icmp .ne 184, 3) := by decide +kernel
theorem dL_areLots_423 : decode cL_areLots 423 = .ok (.aload_n 0, 1) := by decide +kernel
theorem dL_areLots_424 : decode cL_areLots 424 = .ok (.iconst 4, 1) := by decide +kernel
theorem dL_areLots_425 : decode cL_areLots 425 = .ok (.invokevirtual 45, 3) := by decide +kernel
theorem dL_areLots_428 : decode cL_areLots 428 = .ok (.aload 4, 2) := by decide +kernel
theorem dL_areLots_430 : decode cL_areLots 430 = .ok (.iconst 3, 1) := by decide +kernel
theorem dL_areLots_431 : decode cL_areLots 431 = .ok (.iaload, 1) := by decide +kernel
theorem dL_areLots_432 : decode cL_areLots 432 = .ok (.if_icmp .ne 172, 3) := by decide +kernel
theorem dL_areLots_435 : decode cL_areLots 435 = .ok (.aload_n 0, 1) := by decide +kernel
theorem dL_areLots_436 : decode cL_areLots 436 = .ok (.iconst 5, 1) := by decide +kernel
theorem dL_areLots_437 : decode cL_areLots 437 = .ok (.invokevirtual 45, 3) := by decide +kernel
theorem dL_areLots_440 : decode cL_areLots 440 = .ok (.aload 4, 2) := by decide +kernel
theorem dL_areLots_442 : decode cL_areLots 442 = .ok (.iconst 4, 1) := by decide +kernel
theorem dL_areLots_443 : decode cL_areLots 443 = .ok (.iaload, 1) := by decide +kernel
theorem dL_areLots_444 : decode cL_areLots 444 = .ok (.if_icmp .ne 160, 3) := by decide +kernel
theorem dL_areLots_447 : decode cL_areLots 447 = .ok (.aload_n 0, 1) := by decide +kernel
theorem dL_areLots_448 : decode cL_areLots 448 = .ok (.bipush 6, 2) := by decide +kernel
theorem dL_areLots_450 : decode cL_areLots 450 = .ok (.invokevirtual 45, 3) := by decide +kernel
theorem dL_areLots_453 : decode cL_areLots 453 = .ok (.aload 4, 2) := by decide +kernel
theorem dL_areLots_455 : decode cL_areLots 455 = .ok (.iconst 5, 1) := by decide +kernel
theorem dL_areLots_456 : decode cL_areLots 456 = .ok (.iaload, 1) := by decide +kernel
theorem dL_areLots_457 : decode cL_areLots 457 = .ok (.if_icmp .ne 147, 3) := by decide +kernel
theorem dL_areLots_460 : decode cL_areLots 460 = .ok (.aload_n 0, 1) := by decide +kernel
theorem dL_areLots_461 : decode cL_areLots 461 = .ok (.bipush 7, 2) := by decide +kernel
theorem dL_areLots_463 : decode cL_areLots 463 = .ok (.invokevirtual 45, 3) := by decide +kernel
theorem dL_areLots_466 : decode cL_areLots 466 = .ok (.aload 4, 2) := by decide +kernel
theorem dL_areLots_468 : decode cL_areLots 468 = .ok (.bipush 6, 2) := by decide +kernel
theorem dL_areLots_470 : decode cL_areLots 470 = .ok (.iaload, 1) := by decide +kernel
theorem dL_areLots_471 : decode cL_areLots 471 = .ok (.if_icmp .ne 133, 3) := by decide +kernel
theorem dL_areLots_474 : decode cL_areLots 474 = .ok (.aload_n 0, 1) := by decide +kernel
theorem dL_areLots_475 : decode cL_areLots 475 = .ok (.bipush 18, 2) := by decide +kernel
theorem dL_areLots_477 : decode cL_areLots 477 = .ok (.invokevirtual 45, 3) := by decide +kernel
theorem dL_areLots_480 : decode cL_areLots 480 = .ok (.aload 4, 2) := by decide +kernel
theorem dL_areLots_482 : decode cL_areLots 482 = .ok (.bipush 7, 2) := by decide +kernel
theorem dL_areLots_484 : decode cL_areLots 484 = .ok (.iaload, 1) := by decide +kernel
theorem dL_areLots_485 : decode cL_areLots 485 = .ok (.if_icmp .ne 119, 3) := by decide +kernel
theorem dL_areLots_488 : decode cL_areLots 488 = .ok (.aload_n 0, 1) := by decide +kernel
theorem dL_areLots_489 : decode cL_areLots 489 = .ok (.bipush 10, 2) := by decide +kernel
theorem dL_areLots_491 : decode cL_areLots 491 = .ok (.invokevirtual 45, 3) := by decide +kernel
theorem dL_areLots_494 : decode cL_areLots 494 = .ok (.aload 4, 2) := by decide +kernel
theorem dL_areLots_496 : decode cL_areLots 496 = .ok (.bipush 9, 2) := by decide +kernel
theorem dL_areLots_498 : decode cL_areLots 498 = .ok (.iaload, 1) := by decide +kernel
theorem dL_areLots_499 : decode cL_areLots 499 = .ok (.if_icmp .ne 105, 3) := by decide +kernel
theorem dL_areLots_502 : decode cL_areLots 502 = .ok (.aload_n 0, 1) := by decide +kernel
theorem dL_areLots_503 : decode cL_areLots 503 = .ok (.bipush 11, 2) := by decide +kernel
theorem dL_areLots_505 : decode cL_areLots 505 = .ok (.invokevirtual 45, 3) := by decide +kernel
theorem dL_areLots_508 : decode cL_areLots 508 = .ok (.aload 4, 2) := by decide +kernel
theorem dL_areLots_510 : decode cL_areLots 510 = .ok (.bipush 10, 2) := by decide +kernel
theorem dL_areLots_512 : decode cL_areLots 512 = .ok (.iaload, 1) := by decide +kernel
theorem dL_areLots_513 : decode cL_areLots 513 = .ok (.if_icmp .ne 91, 3) := by decide +kernel
theorem dL_areLots_516 : decode cL_areLots 516 = .ok (.aload_n 0, 1) := by decide +kernel
theorem dL_areLots_517 : decode cL_areLots 517 = .ok (.bipush 12, 2) := by decide +kernel
theorem dL_areLots_519 : decode cL_areLots 519 = .ok (.invokevirtual 45, 3) := by decide +kernel
theorem dL_areLots_522 : decode cL_areLots 522 = .ok (.aload 4, 2) := by decide +kernel
theorem dL_areLots_524 : decode cL_areLots 524 = .ok (.bipush 11, 2) := by decide +kernel
theorem dL_areLots_526 : decode cL_areLots 526 = .ok (.iaload, 1) := by decide +kernel
theorem dL_areLots_527 : decode cL_areLots 527 = .ok (.if_icmp .ne 77, 3) := by decide +kernel
theorem dL_areLots_530 : decode cL_areLots 530 = .ok (.aload_n 0, 1) := by decide +kernel
theorem dL_areLots_531 : decode cL_areLots 531 = .ok (.bipush 14, 2) := by decide +kernel
theorem dL_areLots_533 : decode cL_areLots 533 = .ok (.invokevirtual 45, 3) := by decide +kernel
theorem dL_areLots_536 : decode cL_areLots 536 = .ok (.aload 4, 2) := by decide +kernel
theorem dL_areLots_538 : decode cL_areLots 538 = .ok (.bipush 12, 2) := by decide +kernel
theorem dL_areLots_540 : decode cL_areLots 540 = .ok (.iaload, 1) := by decide +kernel
theorem dL_areLots_541 : decode cL_areLots 541 = .ok (.if_icmp .ne 63, 3) := by decide +kernel
theorem dL_areLots_544 : decode cL_areLots 544 = .ok (.aload_n 0, 1) := by decide +kernel
theorem dL_areLots_545 : decode cL_areLots 545 = .ok (.bipush 15, 2) := by decide +kernel
theorem dL_areLots_547 : decode cL_areLots 547 = .ok (.invokevirtual 45, 3) := by decide +kernel
theorem dL_areLots_550 : decode cL_areLots 550 = .ok (.aload 4, 2) := by decide +kernel
theorem dL_areLots_552 : decode cL_areLots 552 = .ok (.bipush 13, 2) := by decide +kernel
theorem dL_areLots_554 : decode cL_areLots 554 = .ok (.iaload, 1) := by decide +kernel
theorem dL_areLots_555 : decode cL_areLots 555 = .ok (.if_icmp .ne 49, 3) := by decide +kernel
theorem dL_areLots_558 : decode cL_areLots 558 = .ok (.aload_n 0, 1) := by decide +kernel
theorem dL_areLots_559 : decode cL_areLots 559 = .ok (.bipush 20, 2) := by decide +kernel
theorem dL_areLots_561 : decode cL_areLots 561 = .ok (.invokevirtual 45, 3) := by decide +kernel
theorem dL_areLots_564 : decode cL_areLots 564 = .ok (.aload 4, 2) := by decide +kernel
theorem dL_areLots_566 : decode cL_areLots 566 = .ok (.bipush 15, 2) := by decide +kernel
theorem dL_areLots_568 : decode cL_areLots 568 = .ok (.iaload, 1) := by decide +kernel
theorem dL_areLots_569 : decode cL_areLots 569 = .ok (.if_icmp .ne 35, 3) := by decide +kernel
theorem dL_areLots_572 : decode cL_areLots 572 = .ok (.aload_n 0, 1) := by decide +kernel
theorem dL_areLots_573 : decode cL_areLots 573 = .ok (.bipush 21, 2) := by decide +kernel
theorem dL_areLots_575 : decode cL_areLots 575 = .ok (.invokevirtual 45, 3) := by decide +kernel
theorem dL_areLots_578 : decode cL_areLots 578 = .ok (.aload 4, 2) := by decide +kernel
theorem dL_areLots_580 : decode cL_areLots 580 = .ok (.bipush 16, 2) := by decide +kernel
theorem dL_areLots_582 : decode cL_areLots 582 = .ok (.iaload, 1) := by decide +kernel
theorem dL_areLots_583 : decode cL_areLots 583 = .ok (.if_icmp .ne 21, 3) := by decide +kernel
theorem dL_areLots_586 : decode cL_areLots 586 = .ok (.aload_n 0, 1) := by decide +kernel
theorem dL_areLots_587 : decode cL_areLots 587 = .ok (.bipush 22, 2) := by decide +kernel
theorem dL_areLots_589 : decode cL_areLots 589 = .ok (.invokevirtual 45, 3) := by decide +kernel
theorem dL_areLots_592 : decode cL_areLots 592 = .ok (.aload 4, 2) := by decide +kernel
theorem dL_areLots_594 : decode cL_areLots 594 = .ok (.bipush 17, 2) := by decide +kernel
theorem dL_areLots_596 : decode cL_areLots 596 = .ok (.iaload, 1) := by decide +kernel
theorem dL_areLots_597 : decode cL_areLots 597 = .ok (.if_icmp .ne 7, 3) := by decide +kernel
theorem dL_areLots_600 : decode cL_areLots 600 = .ok (.iconst 1, 1) := by decide +kernel
theorem dL_areLots_601 : decode cL_areLots 601 = .ok (.goto 4, 3) := by decide +kernel
theorem dL_areLots_604 : decode cL_areLots 604 = .ok (.iconst 0, 1) := by decide +kernel
theorem dL_areLots_605 : decode cL_areLots 605 = .ok (.ireturn, 1) := by decide +kernel
theorem dL_isComing_0 : decode cL_isComing 0 = .ok (.iload 5, 2) := by decide +kernel
theorem dL_isComing_2 : decode cL_isComing 2 = .ok (.ifCond .ne 179, 3) := by decide +kernel
theorem dL_isComing_5 : decode cL_isComing 5 = .ok (.iload 6, 2) := by decide +kernel
theorem dL_isComing_7 : decode cL_isComing 7 = .ok (.iconst 4, 1) := by decide +kernel
theorem dL_isComing_8 : decode cL_isComing 8 = .ok (.irem, 1) := by decide +kernel
theorem dL_isComing_9 : decode cL_isComing 9 = .ok (.ifCond .ne 13, 3) := by decide +kernel
theorem dL_isComing_12 : decode cL_isComing 12 = .ok (.iload 6, 2) := by decide +kernel
theorem dL_isComing_14 : decode cL_isComing 14 = .ok (.iconst 4, 1) := by decide +kernel
theorem dL_isComing_15 : decode cL_isComing 15 = .ok (.idiv, 1) := by decide +kernel
theorem dL_isComing_16 : decode cL_isComing 16 = .ok (.bipush 6, 2) := by decide +kernel
theorem dL_isComing_18 : decode cL_isComing 18 = .ok (.irem, 1) := by decide +kernel
theorem dL_isComing_19 : decode cL_isComing 19 = .ok (.goto 4, 3) := by decide +kernel
theorem dL_isComing_22 : decode cL_isComing 22 = .ok (.iconst 0, 1) := by decide +kernel
theorem dL_isComing_23 : decode cL_isComing 23 = .ok (.istore 7, 2) := by decide +kernel
theorem dL_isComing_25 : decode cL_isComing 25 = .ok (.iload 6, 2) := by decide +kernel
theorem dL_isComing_27 : decode cL_isComing 27 = .ok (.bipush 24, 2) := by decide +kernel
theorem dL_isComing_29 : decode cL_isComing 29 = .ok (.idiv, 1) := by decide +kernel
theorem dL_isComing_30 : decode cL_isComing 30 = .ok (.bipush 8, 2) := by decide +kernel
theorem dL_isComing_32 : decode cL_isComing 32 = .ok (.irem, 1) := by decide +kernel
theorem dL_isComing_33 : decode cL_isComing 33 = .ok (.istore 8, 2) := by decide +kernel
theorem dL_isComing_35 : decode cL_isComing 35 = .ok (.iload 6, 2) := by decide +kernel
theorem dL_isComing_37 : decode cL_isComing 37 = .ok (.sipush 192, 3) := by decide +kernel
theorem dL_isComing_40 : decode cL_isComing 40 = .ok (.idiv, 1) := by decide +kernel
theorem dL_isComing_41 : decode cL_isComing 41 = .ok (.sipush 1000, 3) := by decide +kernel
theorem dL_isComing_44 : decode cL_isComing 44 = .ok (.irem, 1) := by decide +kernel
theorem dL_isComing_45 : decode cL_isComing 45 = .ok (.istore 9, 2) := by decide +kernel
theorem dL_isComing_47 : decode cL_isComing 47 = .ok (.iconst 1, 1) := by decide +kernel
theorem dL_isComing_48 : decode cL_isComing 48 = .ok (.iload 6, 2) := by decide +kernel
theorem dL_isComing_50 : decode cL_isComing 50 = .ok (.bipush 7, 2) := by decide +kernel
theorem dL_isComing_52 : decode cL_isComing 52 = .ok (.idiv, 1) := by decide +kernel
theorem dL_isComing_53 : decode cL_isComing 53 = .ok (.bipush 9, 2) := by decide +kernel
theorem dL_isComing_55 : decode cL_isComing 55 = .ok (.irem, 1) := by decide +kernel
theorem dL_isComing_56 : decode cL_isComing 56 = .ok (.iadd, 1) := by decide +kernel
theorem dL_isComing_57 : decode cL_isComing 57 = .ok (.istore 10, 2) := by decide +kernel
theorem dL_isComing_59 : decode cL_isComing 59 = .ok (.aload_n 1, 1) := by decide +kernel
theorem dL_isComing_60 : decode cL_isComing 60 = .ok (.aload 4, 2) := by decide +kernel
theorem dL_isComing_62 : decode cL_isComing 62 = .ok (.iload 7, 2) := by decide +kernel
theorem dL_isComing_64 : decode cL_isComing 64 = .ok (.iload 8, 2) := by decide +kernel
theorem dL_isComing_66 : decode cL_isComing 66 = .ok (.invokestatic 65, 3) := by decide +kernel
theorem dL_isComing_69 : decode cL_isComing 69 = .ok (.ifCond .lt 8, 3) := by decide +kernel
theorem dL_isComing_72 : decode cL_isComing 72 = .ok (.ldc 61, 2) := by decide +kernel
theorem dL_isComing_74 : decode cL_isComing 74 = .ok (.goto 21, 3) := by decide +kernel
theorem dL_isComing_77 : decode cL_isComing 77 = .ok (.aload 4, 2) := by decide +kernel
theorem dL_isComing_79 : decode cL_isComing 79 = .ok (.iconst 1, 1) := by decide +kernel
theorem dL_isComing_80 : decode cL_isComing 80 = .ok (.iaload, 1) := by decide +kernel
theorem dL_isComing_81 : decode cL_isComing 81 = .ok (.bipush 12, 2) := by decide +kernel
theorem dL_isComing_83 : decode cL_isComing 83 = .ok (.if_icmp .ne 8, 3) := by decide +kernel
theorem dL_isComing_86 : decode cL_isComing 86 = .ok (.ldc 69, 2) := by decide +kernel
theorem dL_isComing_88 : decode cL_isComing 88 = .ok (.goto 7, 3) := by decide +kernel
theorem dL_isComing_91 : decode cL_isComing 91 = .ok (.aload 4, 2) := by decide +kernel
theorem dL_isComing_93 : decode cL_isComing 93 = .ok (.iconst 1, 1) := by decide +kernel
theorem dL_isComing_94 : decode cL_isComing 94 = .ok (.iaload, 1) := by decide +kernel
theorem dL_isComing_95 : decode cL_isComing 95 = .ok (.istore 11, 2) := by decide +kernel
theorem dL_isComing_97 : decode cL_isComing 97 = .ok (.iload 11, 2) := by decide +kernel
theorem dL_isComing_99 : decode cL_isComing 99 = .ok (.ifCond .lt 59, 3) := by decide +kernel
theorem dL_isComing_102 : decode cL_isComing 102 = .ok (.aload_n 1, 1) := by decide +kernel
theorem dL_isComing_103 : decode cL_isComing 103 = .ok (.iconst 5, 1) := by decide +kernel
theorem dL_isComing_104 : decode cL_isComing 104 = .ok (.iload 11, 2) := by decide +kernel
theorem dL_isComing_106 : decode cL_isComing 106 = .ok (.imul, 1) := by decide +kernel
theorem dL_isComing_107 : decode cL_isComing 107 = .ok (.iload 7, 2) := by decide +kernel
theorem dL_isComing_109 : decode cL_isComing 109 = .ok (.iastore, 1) := by decide +kernel
theorem dL_isComing_110 : decode cL_isComing 110 = .ok (.aload_n 1, 1) := by decide +kernel
theorem dL_isComing_111 : decode cL_isComing 111 = .ok (.iconst 5, 1) := by decide +kernel
theorem dL_isComing_112 : decode cL_isComing 112 = .ok (.iload 11, 2) := by decide +kernel
theorem dL_isComing_114 : decode cL_isComing 114 = .ok (.imul, 1) := by decide +kernel
theorem dL_isComing_115 : decode cL_isComing 115 = .ok (.iconst 1, 1) := by decide +kernel
theorem dL_isComing_116 : decode cL_isComing 116 = .ok (.iadd, 1) := by decide +kernel
theorem dL_isComing_117 : decode cL_isComing 117 = .ok (.iload 8, 2) := by decide +kernel
theorem dL_isComing_119 : decode cL_isComing 119 = .ok (.iastore, 1) := by decide +kernel
theorem dL_isComing_120 : decode cL_isComing 120 = .ok (.aload_n 1, 1) := by decide +kernel
theorem dL_isComing_121 : decode cL_isComing 121 = .ok (.iconst 5, 1) := by decide +kernel
theorem dL_isComing_122 : decode cL_isComing 122 = .ok (.iload 11, 2) := by decide +kernel
theorem dL_isComing_124 : decode cL_isComing 124 = .ok (.imul, 1) := by decide +kernel
theorem dL_isComing_125 : decode cL_isComing 125 = .ok (.iconst 2, 1) := by decide +kernel
theorem dL_isComing_126 : decode cL_isComing 126 = .ok (.iadd, 1) := by decide +kernel
theorem dL_isComing_127 : decode cL_isComing 127 = .ok (.iload 9, 2) := by decide +kernel
theorem dL_isComing_129 : decode cL_isComing 129 = .ok (.iastore, 1) := by decide +kernel
theorem dL_isComing_130 : decode cL_isComing 130 = .ok (.aload_n 1, 1) := by decide +kernel
theorem dL_isComing_131 : decode cL_isComing 131 = .ok (.iconst 5, 1) := by decide +kernel
theorem dL_isComing_132 : decode cL_isComing 132 = .ok (.iload 11, 2) := by decide +kernel
theorem dL_isComing_134 : decode cL_isComing 134 = .ok (.imul, 1) := by decide +kernel
theorem dL_isComing_135 : decode cL_isComing 135 = .ok (.iconst 3, 1) := by decide +kernel
theorem dL_isComing_136 : decode cL_isComing 136 = .ok (.iadd, 1) := by decide +kernel
theorem dL_isComing_137 : decode cL_isComing 137 = .ok (.iload 10, 2) := by decide +kernel
theorem dL_isComing_139 : decode cL_isComing 139 = .ok (.iastore, 1) := by decide +kernel
theorem dL_isComing_140 : decode cL_isComing 140 = .ok (.aload 4, 2) := by decide +kernel
theorem dL_isComing_142 : decode cL_isComing 142 = .ok (.bipush 14, 2) := by decide +kernel
theorem dL_isComing_144 : decode cL_isComing 144 = .ok (.dup2, 1) := by decide +kernel
theorem dL_isComing_145 : decode cL_isComing 145 = .ok (.iaload, 1) := by decide +kernel
theorem dL_isComing_146 : decode cL_isComing 146 = .ok (.iload 9, 2) := by decide +kernel
theorem dL_isComing_148 : decode cL_isComing 148 = .ok (.iadd, 1) := by decide +kernel
theorem dL_isComing_149 : decode cL_isComing 149 = .ok (.iastore, 1) := by decide +kernel
theorem dL_isComing_150 : decode cL_isComing 150 = .ok (.aload 4, 2) := by decide +kernel
theorem dL_isComing_152 : decode cL_isComing 152 = .ok (.iconst 1, 1) := by decide +kernel
theorem dL_isComing_153 : decode cL_isComing 153 = .ok (.dup2, 1) := by decide +kernel
theorem dL_isComing_154 : decode cL_isComing 154 = .ok (.iaload, 1) := by decide +kernel
theorem dL_isComing_155 : decode cL_isComing 155 = .ok (.iconst 1, 1) := by decide +kernel
theorem dL_isComing_156 : decode cL_isComing 156 = .ok (.iadd, 1) := by decide +kernel
theorem dL_isComing_157 : decode cL_isComing 157 = .ok (.iastore, 1) := by decide +kernel
theorem dL_isComing_158 : decode cL_isComing 158 = .ok (.aload_n 0, 1) := by decide +kernel
theorem dL_isComing_159 : decode cL_isComing 159 = .ok (.iload 7, 2) := by decide +kernel
theorem dL_isComing_161 : decode cL_isComing 161 = .ok (.iload 8, 2) := by decide +kernel
theorem dL_isComing_163 : decode cL_isComing 163 = .ok (.iload 9, 2) := by decide +kernel
theorem dL_isComing_165 : decode cL_isComing 165 = .ok (.iload 10, 2) := by decide +kernel
theorem dL_isComing_167 : decode cL_isComing 167 = .ok (.invokevirtual 70, 3) := by decide +kernel
theorem dL_isComing_170 : decode cL_isComing 170 = .ok (.iload 11, 2) := by decide +kernel
theorem dL_isComing_172 : decode cL_isComing 172 = .ok (.if_icmp .ne 7, 3) := by decide +kernel
theorem dL_isComing_175 : decode cL_isComing 175 = .ok (.iconst 1, 1) := by decide +kernel
theorem dL_isComing_176 : decode cL_isComing 176 = .ok (.goto 4, 3) := by decide +kernel
theorem dL_isComing_179 : decode cL_isComing 179 = .ok (.iconst 0, 1) := by decide +kernel
theorem dL_isComing_180 : decode cL_isComing 180 = .ok (.ireturn, 1) := by decide +kernel
theorem dL_isComing_181 : decode cL_isComing 181 = .ok (.aload 4, 2) := by decide +kernel
theorem dL_isComing_183 : decode cL_isComing 183 = .ok (.iconst 2, 1) := by decide +kernel
theorem dL_isComing_184 : decode cL_isComing 184 = .ok (.iaload, 1) := by decide +kernel
theorem dL_isComing_185 : decode cL_isComing 185 = .ok (.bipush 8, 2) := by decide +kernel
theorem dL_isComing_187 : decode cL_isComing 187 = .ok (.if_icmp .ne 7, 3) := by decide +kernel
theorem dL_isComing_190 : decode cL_isComing 190 = .ok (.iconst 1, 1) := by decide +kernel
theorem dL_isComing_191 : decode cL_isComing 191 = .ok (.goto 4, 3) := by decide +kernel
theorem dL_isComing_194 : decode cL_isComing 194 = .ok (.iconst 0, 1) := by decide +kernel
theorem dL_isComing_195 : decode cL_isComing 195 = .ok (.istore 7, 2) := by decide +kernel
theorem dL_isComing_197 : decode cL_isComing 197 = .ok (.iload 7, 2) := by decide +kernel
theorem dL_isComing_199 : decode cL_isComing 199 = .ok (.ifCond .ne 54, 3) := by decide +kernel
theorem dL_isComing_202 : decode cL_isComing 202 = .ok (.aload_n 3, 1) := by decide +kernel
theorem dL_isComing_203 : decode cL_isComing 203 = .ok (.iconst 2, 1) := by decide +kernel
theorem dL_isComing_204 : decode cL_isComing 204 = .ok (.aload 4, 2) := by decide +kernel
theorem dL_isComing_206 : decode cL_isComing 206 = .ok (.iconst 2, 1) := by decide +kernel
theorem dL_isComing_207 : decode cL_isComing 207 = .ok (.iaload, 1) := by decide +kernel
theorem dL_isComing_208 : decode cL_isComing 208 = .ok (.imul, 1) := by decide +kernel
theorem dL_isComing_209 : decode cL_isComing 209 = .ok (.iconst 1, 1) := by decide +kernel
theorem dL_isComing_210 : decode cL_isComing 210 = .ok (.iload 6, 2) := by decide +kernel
theorem dL_isComing_212 : decode cL_isComing 212 = .ok (.bipush 60, 2) := by decide +kernel
theorem dL_isComing_214 : decode cL_isComing 214 = .ok (.irem, 1) := by decide +kernel
theorem dL_isComing_215 : decode cL_isComing 215 = .ok (.iadd, 1) := by decide +kernel
theorem dL_isComing_216 : decode cL_isComing 216 = .ok (.iastore, 1) := by decide +kernel
theorem dL_isComing_217 : decode cL_isComing 217 = .ok (.aload_n 3, 1) := by decide +kernel
theorem dL_isComing_218 : decode cL_isComing 218 = .ok (.iconst 2, 1) := by decide +kernel
theorem dL_isComing_219 : decode cL_isComing 219 = .ok (.aload 4, 2) := by decide +kernel
theorem dL_isComing_221 : decode cL_isComing 221 = .ok (.iconst 2, 1) := by decide +kernel
theorem dL_isComing_222 : decode cL_isComing 222 = .ok (.iaload, 1) := by decide +kernel
theorem dL_isComing_223 : decode cL_isComing 223 = .ok (.imul, 1) := by decide +kernel
theorem dL_isComing_224 : decode cL_isComing 224 = .ok (.iconst 1, 1) := by decide +kernel
theorem dL_isComing_225 : decode cL_isComing 225 = .ok (.iadd, 1) := by decide +kernel
theorem dL_isComing_226 : decode cL_isComing 226 = .ok (.iconst 1, 1) := by decide +kernel
theorem dL_isComing_227 : decode cL_isComing 227 = .ok (.iload 6, 2) := by decide +kernel
theorem dL_isComing_229 : decode cL_isComing 229 = .ok (.bipush 60, 2) := by decide +kernel
theorem dL_isComing_231 : decode cL_isComing 231 = .ok (.idiv, 1) := by decide +kernel
theorem dL_isComing_232 : decode cL_isComing 232 = .ok (.bipush 20, 2) := by decide +kernel
theorem dL_isComing_234 : decode cL_isComing 234 = .ok (.irem, 1) := by decide +kernel
theorem dL_isComing_235 : decode cL_isComing 235 = .ok (.iadd, 1) := by decide +kernel
theorem dL_isComing_236 : decode cL_isComing 236 = .ok (.iastore, 1) := by decide +kernel
theorem dL_isComing_237 : decode cL_isComing 237 = .ok (.aload 4, 2) := by decide +kernel
theorem dL_isComing_239 : decode cL_isComing 239 = .ok (.iconst 2, 1) := by decide +kernel
theorem dL_isComing_240 : decode cL_isComing 240 = .ok (.dup2, 1) := by decide +kernel
theorem dL_isComing_241 : decode cL_isComing 241 = .ok (.iaload, 1) := by decide +kernel
theorem dL_isComing_242 : decode cL_isComing 242 = .ok (.iconst 1, 1) := by decide +kernel
theorem dL_isComing_243 : decode cL_isComing 243 = .ok (.iadd, 1) := by decide +kernel
theorem dL_isComing_244 : decode cL_isComing 244 = .ok (.iastore, 1) := by decide +kernel
theorem dL_isComing_245 : decode cL_isComing 245 = .ok (.aload 4, 2) := by decide +kernel
theorem dL_isComing_247 : decode cL_isComing 247 = .ok (.iconst 3, 1) := by decide +kernel
theorem dL_isComing_248 : decode cL_isComing 248 = .ok (.dup2, 1) := by decide +kernel
theorem dL_isComing_249 : decode cL_isComing 249 = .ok (.iaload, 1) := by decide +kernel
theorem dL_isComing_250 : decode cL_isComing 250 = .ok (.iconst 1, 1) := by decide +kernel
theorem dL_isComing_251 : decode cL_isComing 251 = .ok (.iadd, 1) := by decide +kernel
theorem dL_isComing_252 : decode cL_isComing 252 = .ok (.iastore, 1) := by decide +kernel
theorem dL_isComing_253 : decode cL_isComing 253 = .ok (.aload_n 0, 1) := by decide +kernel
theorem dL_isComing_254 : decode cL_isComing 254 = .ok (.iconst 1, 1) := by decide +kernel
theorem dL_isComing_255 : decode cL_isComing 255 = .ok (.iload 6, 2) := by decide +kernel
theorem dL_isComing_257 : decode cL_isComing 257 = .ok (.bipush 60, 2) := by decide +kernel
theorem dL_isComing_259 : decode cL_isComing 259 = .ok (.irem, 1) := by decide +kernel
theorem dL_isComing_260 : decode cL_isComing 260 = .ok (.iadd, 1) := by decide +kernel
theorem dL_isComing_261 : decode cL_isComing 261 = .ok (.iconst 1, 1) := by decide +kernel
theorem dL_isComing_262 : decode cL_isComing 262 = .ok (.iload 6, 2) := by decide +kernel
theorem dL_isComing_264 : decode cL_isComing 264 = .ok (.bipush 60, 2) := by decide +kernel
theorem dL_isComing_266 : decode cL_isComing 266 = .ok (.idiv, 1) := by decide +kernel
theorem dL_isComing_267 : decode cL_isComing 267 = .ok (.bipush 20, 2) := by decide +kernel
theorem dL_isComing_269 : decode cL_isComing 269 = .ok (.irem, 1) := by decide +kernel
theorem dL_isComing_270 : decode cL_isComing 270 = .ok (.iadd, 1) := by decide +kernel
theorem dL_isComing_271 : decode cL_isComing 271 = .ok (.invokevirtual 74, 3) := by decide +kernel
theorem dL_isComing_274 : decode cL_isComing 274 = .ok (.iload 7, 2) := by decide +kernel
theorem dL_isComing_276 : decode cL_isComing 276 = .ok (.ifCond .eq 8, 3) := by decide +kernel
theorem dL_isComing_279 : decode cL_isComing 279 = .ok (.ldc 69, 2) := by decide +kernel
theorem dL_isComing_281 : decode cL_isComing 281 = .ok (.goto 7, 3) := by decide +kernel
theorem dL_isComing_284 : decode cL_isComing 284 = .ok (.aload 4, 2) := by decide +kernel
theorem dL_isComing_286 : decode cL_isComing 286 = .ok (.iconst 2, 1) := by decide +kernel
theorem dL_isComing_287 : decode cL_isComing 287 = .ok (.iaload, 1) := by decide +kernel
theorem dL_isComing_288 : decode cL_isComing 288 = .ok (.if_icmp .ne 7, 3) := by decide +kernel
theorem dL_isComing_291 : decode cL_isComing 291 = .ok (.iconst 1, 1) := by decide +kernel
theorem dL_isComing_292 : decode cL_isComing 292 = .ok (.goto 4, 3) := by decide +kernel
theorem dL_isComing_295 : decode cL_isComing 295 = .ok (.iconst 0, 1) := by decide +kernel
theorem dL_isComing_296 : decode cL_isComing 296 = .ok (.ireturn, 1) := by decide +kernel
theorem dL_isUp_0 : decode cL_isUp 0 = .ok (.aload_n 2, 1) := by decide +kernel
theorem dL_isUp_1 : decode cL_isUp 1 = .ok (.bipush 9, 2) := by decide +kernel
theorem dL_isUp_3 : decode cL_isUp 3 = .ok (.iaload, 1) := by decide +kernel
theorem dL_isUp_4 : decode cL_isUp 4 = .ok (.iconst 1, 1) := by decide +kernel
theorem dL_isUp_5 : decode cL_isUp 5 = .ok (.if_icmp .eq 9, 3) := by decide +kernel
theorem dL_isUp_8 : decode cL_isUp 8 = .ok (.aload_n 3, 1) := by decide +kernel
theorem dL_isUp_9 : decode cL_isUp 9 = .ok (.iconst 2, 1) := by decide +kernel
theorem dL_isUp_10 : decode cL_isUp 10 = .ok (.iaload, 1) := by decide +kernel
theorem dL_isUp_11 : decode cL_isUp 11 = .ok (.ifCond .ne 18, 3) := by decide +kernel
theorem dL_isUp_14 : decode cL_isUp 14 = .ok (.aload_n 0, 1) := by decide +kernel
theorem dL_isUp_15 : decode cL_isUp 15 = .ok (.invokevirtual 77, 3) := by decide +kernel
theorem dL_isUp_18 : decode cL_isUp 18 = .ok (.ldc 61, 2) := by decide +kernel
theorem dL_isUp_20 : decode cL_isUp 20 = .ok (.if_icmp .ne 7, 3) := by decide +kernel
theorem dL_isUp_23 : decode cL_isUp 23 = .ok (.iconst 1, 1) := by decide +kernel
theorem dL_isUp_24 : decode cL_isUp 24 = .ok (.goto 4, 3) := by decide +kernel
theorem dL_isUp_27 : decode cL_isUp 27 = .ok (.iconst 0, 1) := by decide +kernel
theorem dL_isUp_28 : decode cL_isUp 28 = .ok (.ireturn, 1) := by decide +kernel
theorem dL_isUp_29 : decode cL_isUp 29 = .ok (.iconst 2, 1) := by decide +kernel
theorem dL_isUp_30 : decode cL_isUp 30 = .ok (.istore 4, 2) := by decide +kernel
theorem dL_isUp_32 : decode cL_isUp 32 = .ok (.iload 4, 2) := by decide +kernel
theorem dL_isUp_34 : decode cL_isUp 34 = .ok (.bipush 9, 2) := by decide +kernel
theorem dL_isUp_36 : decode cL_isUp 36 = .ok (.if_icmp .ge 14, 3) := by decide +kernel
theorem dL_isUp_39 : decode cL_isUp 39 = .ok (.aload_n 2, 1) := by decide +kernel
theorem dL_isUp_40 : decode cL_isUp 40 = .ok (.iload 4, 2) := by decide +kernel
theorem dL_isUp_42 : decode cL_isUp 42 = .ok (.iconst 0, 1) := by decide +kernel
theorem dL_isUp_43 : decode cL_isUp 43 = .ok (.iastore, 1) := by decide +kernel
theorem dL_isUp_44 : decode cL_isUp 44 = .ok (.iinc 4 1, 3) := by decide +kernel
theorem dL_isUp_47 : decode cL_isUp 47 = .ok (.goto (-15), 3) := by decide +kernel
theorem dL_isUp_50 : decode cL_isUp 50 = .ok (.aload_n 2, 1) := by decide +kernel
theorem dL_isUp_51 : decode cL_isUp 51 = .ok (.iconst 0, 1) := by decide +kernel
theorem dL_isUp_52 : decode cL_isUp 52 = .ok (.aload_n 1, 1) := by decide +kernel
theorem dL_isUp_53 : decode cL_isUp 53 = .ok (.iconst 0, 1) := by decide +kernel
theorem dL_isUp_54 : decode cL_isUp 54 = .ok (.iaload, 1) := by decide +kernel
theorem dL_isUp_55 : decode cL_isUp 55 = .ok (.iastore, 1) := by decide +kernel
theorem dL_isUp_56 : decode cL_isUp 56 = .ok (.aload_n 2, 1) := by decide +kernel
theorem dL_isUp_57 : decode cL_isUp 57 = .ok (.iconst 1, 1) := by decide +kernel
theorem dL_isUp_58 : decode cL_isUp 58 = .ok (.aload_n 1, 1) := by decide +kernel
theorem dL_isUp_59 : decode cL_isUp 59 = .ok (.iconst 1, 1) := by decide +kernel
theorem dL_isUp_60 : decode cL_isUp 60 = .ok (.iaload, 1) := by decide +kernel
theorem dL_isUp_61 : decode cL_isUp 61 = .ok (.iastore, 1) := by decide +kernel
theorem dL_isUp_62 : decode cL_isUp 62 = .ok (.aload_n 2, 1) := by decide +kernel
theorem dL_isUp_63 : decode cL_isUp 63 = .ok (.bipush 9, 2) := by decide +kernel
theorem dL_isUp_65 : decode cL_isUp 65 = .ok (.iconst 1, 1) := by decide +kernel
theorem dL_isUp_66 : decode cL_isUp 66 = .ok (.iastore, 1) := by decide +kernel
theorem dL_isUp_67 : decode cL_isUp 67 = .ok (.aload_n 3, 1) := by decide +kernel
theorem dL_isUp_68 : decode cL_isUp 68 = .ok (.iconst 2, 1) := by decide +kernel
theorem dL_isUp_69 : decode cL_isUp 69 = .ok (.dup2, 1) := by decide +kernel
theorem dL_isUp_70 : decode cL_isUp 70 = .ok (.iaload, 1) := by decide +kernel
theorem dL_isUp_71 : decode cL_isUp 71 = .ok (.iconst 1, 1) := by decide +kernel
theorem dL_isUp_72 : decode cL_isUp 72 = .ok (.isub, 1) := by decide +kernel
theorem dL_isUp_73 : decode cL_isUp 73 = .ok (.iastore, 1) := by decide +kernel
theorem dL_isUp_74 : decode cL_isUp 74 = .ok (.iconst 0, 1) := by decide +kernel
theorem dL_isUp_75 : decode cL_isUp 75 = .ok (.istore 4, 2) := by decide +kernel
theorem dL_isUp_77 : decode cL_isUp 77 = .ok (.iload 4, 2) := by decide +kernel
theorem dL_isUp_79 : decode cL_isUp 79 = .ok (.iconst 2, 1) := by decide +kernel
theorem dL_isUp_80 : decode cL_isUp 80 = .ok (.aload_n 3, 1) := by decide +kernel
theorem dL_isUp_81 : decode cL_isUp 81 = .ok (.iconst 2, 1) := by decide +kernel
theorem dL_isUp_82 : decode cL_isUp 82 = .ok (.iaload, 1) := by decide +kernel
theorem dL_isUp_83 : decode cL_isUp 83 = .ok (.imul, 1) := by decide +kernel
theorem dL_isUp_84 : decode cL_isUp 84 = .ok (.if_icmp .ge 19, 3) := by decide +kernel
theorem dL_isUp_87 : decode cL_isUp 87 = .ok (.aload_n 1, 1) := by decide +kernel
theorem dL_isUp_88 : decode cL_isUp 88 = .ok (.iload 4, 2) := by decide +kernel
theorem dL_isUp_90 : decode cL_isUp 90 = .ok (.aload_n 1, 1) := by decide +kernel
theorem dL_isUp_91 : decode cL_isUp 91 = .ok (.iload 4, 2) := by decide +kernel
theorem dL_isUp_93 : decode cL_isUp 93 = .ok (.iconst 2, 1) := by decide +kernel
theorem dL_isUp_94 : decode cL_isUp 94 = .ok (.iadd, 1) := by decide +kernel
theorem dL_isUp_95 : decode cL_isUp 95 = .ok (.iaload, 1) := by decide +kernel
theorem dL_isUp_96 : decode cL_isUp 96 = .ok (.iastore, 1) := by decide +kernel
theorem dL_isUp_97 : decode cL_isUp 97 = .ok (.iinc 4 1, 3) := by decide +kernel
theorem dL_isUp_100 : decode cL_isUp 100 = .ok (.goto (-23), 3) := by decide +kernel
theorem dL_isUp_103 : decode cL_isUp 103 = .ok (.aload_n 0, 1) := by decide +kernel
theorem dL_isUp_104 : decode cL_isUp 104 = .ok (.invokevirtual 77, 3) := by decide +kernel
theorem dL_isUp_107 : decode cL_isUp 107 = .ok (.aload_n 2, 1) := by decide +kernel
theorem dL_isUp_108 : decode cL_isUp 108 = .ok (.iconst 0, 1) := by decide +kernel
theorem dL_isUp_109 : decode cL_isUp 109 = .ok (.iaload, 1) := by decide +kernel
theorem dL_isUp_110 : decode cL_isUp 110 = .ok (.if_icmp .ne 7, 3) := by decide +kernel
theorem dL_isUp_113 : decode cL_isUp 113 = .ok (.iconst 1, 1) := by decide +kernel
theorem dL_isUp_114 : decode cL_isUp 114 = .ok (.goto 4, 3) := by decide +kernel
theorem dL_isUp_117 : decode cL_isUp 117 = .ok (.iconst 0, 1) := by decide +kernel
theorem dL_isUp_118 : decode cL_isUp 118 = .ok (.ireturn, 1) := by decide +kernel
theorem dL_isChanged_0 : decode cL_isChanged 0 = .ok (.iload 4, 2) := by decide +kernel
theorem dL_isChanged_2 : decode cL_isChanged 2 = .ok (.ifCond .ne 48, 3) := by decide +kernel
theorem dL_isChanged_5 : decode cL_isChanged 5 = .ok (.aload_n 1, 1) := by decide +kernel
theorem dL_isChanged_6 : decode cL_isChanged 6 = .ok (.iconst 5, 1) := by decide +kernel
theorem dL_isChanged_7 : decode cL_isChanged 7 = .ok (.iload 5, 2) := by decide +kernel
theorem dL_isChanged_9 : decode cL_isChanged 9 = .ok (.imul, 1) := by decide +kernel
theorem dL_isChanged_10 : decode cL_isChanged 10 = .ok (.iconst 4, 1) := by decide +kernel
theorem dL_isChanged_11 : decode cL_isChanged 11 = .ok (.iadd, 1) := by decide +kernel
theorem dL_isChanged_12 : decode cL_isChanged 12 = .ok (.iaload, 1) := by decide +kernel
theorem dL_isChanged_13 : decode cL_isChanged 13 = .ok (.istore 7, 2) := by decide +kernel
theorem dL_isChanged_15 : decode cL_isChanged 15 = .ok (.aload_n 1, 1) := by decide +kernel
theorem dL_isChanged_16 : decode cL_isChanged 16 = .ok (.iconst 5, 1) := by decide +kernel
theorem dL_isChanged_17 : decode cL_isChanged 17 = .ok (.iload 5, 2) := by decide +kernel
theorem dL_isChanged_19 : decode cL_isChanged 19 = .ok (.imul, 1) := by decide +kernel
theorem dL_isChanged_20 : decode cL_isChanged 20 = .ok (.iconst 4, 1) := by decide +kernel
theorem dL_isChanged_21 : decode cL_isChanged 21 = .ok (.iadd, 1) := by decide +kernel
theorem dL_isChanged_22 : decode cL_isChanged 22 = .ok (.iload 6, 2) := by decide +kernel
theorem dL_isChanged_24 : decode cL_isChanged 24 = .ok (.bipush 6, 2) := by decide +kernel
theorem dL_isChanged_26 : decode cL_isChanged 26 = .ok (.irem, 1) := by decide +kernel
theorem dL_isChanged_27 : decode cL_isChanged 27 = .ok (.iastore, 1) := by decide +kernel
theorem dL_isChanged_28 : decode cL_isChanged 28 = .ok (.aload_n 0, 1) := by decide +kernel
theorem dL_isChanged_29 : decode cL_isChanged 29 = .ok (.iload 5, 2) := by decide +kernel
theorem dL_isChanged_31 : decode cL_isChanged 31 = .ok (.iload 6, 2) := by decide +kernel
theorem dL_isChanged_33 : decode cL_isChanged 33 = .ok (.bipush 6, 2) := by decide +kernel
theorem dL_isChanged_35 : decode cL_isChanged 35 = .ok (.irem, 1) := by decide +kernel
theorem dL_isChanged_36 : decode cL_isChanged 36 = .ok (.invokevirtual 80, 3) := by decide +kernel
theorem dL_isChanged_39 : decode cL_isChanged 39 = .ok (.iload 7, 2) := by decide +kernel
theorem dL_isChanged_41 : decode cL_isChanged 41 = .ok (.if_icmp .ne 7, 3) := by decide +kernel
theorem dL_isChanged_44 : decode cL_isChanged 44 = .ok (.iconst 1, 1) := by decide +kernel
theorem dL_isChanged_45 : decode cL_isChanged 45 = .ok (.goto 4, 3) := by decide +kernel
theorem dL_isChanged_48 : decode cL_isChanged 48 = .ok (.iconst 0, 1) := by decide +kernel
theorem dL_isChanged_49 : decode cL_isChanged 49 = .ok (.ireturn, 1) := by decide +kernel
theorem dL_isChanged_50 : decode cL_isChanged 50 = .ok (.iload 4, 2) := by decide +kernel
theorem dL_isChanged_52 : decode cL_isChanged 52 = .ok (.iconst 1, 1) := by decide +kernel
theorem dL_isChanged_53 : decode cL_isChanged 53 = .ok (.if_icmp .ne 44, 3) := by decide +kernel
theorem dL_isChanged_56 : decode cL_isChanged 56 = .ok (.aload_n 2, 1) := by decide +kernel
theorem dL_isChanged_57 : decode cL_isChanged 57 = .ok (.iconst 5, 1) := by decide +kernel
theorem dL_isChanged_58 : decode cL_isChanged 58 = .ok (.iload 5, 2) := by decide +kernel
theorem dL_isChanged_60 : decode cL_isChanged 60 = .ok (.imul, 1) := by decide +kernel
theorem dL_isChanged_61 : decode cL_isChanged 61 = .ok (.iaload, 1) := by decide +kernel
theorem dL_isChanged_62 : decode cL_isChanged 62 = .ok (.istore 7, 2) := by decide +kernel
theorem dL_isChanged_64 : decode cL_isChanged 64 = .ok (.aload_n 2, 1) := by decide +kernel
theorem dL_isChanged_65 : decode cL_isChanged 65 = .ok (.iconst 5, 1) := by decide +kernel
theorem dL_isChanged_66 : decode cL_isChanged 66 = .ok (.iload 5, 2) := by decide +kernel
theorem dL_isChanged_68 : decode cL_isChanged 68 = .ok (.imul, 1) := by decide +kernel
theorem dL_isChanged_69 : decode cL_isChanged 69 = .ok (.iload 6, 2) := by decide +kernel
theorem dL_isChanged_71 : decode cL_isChanged 71 = .ok (.bipush 6, 2) := by decide +kernel
theorem dL_isChanged_73 : decode cL_isChanged 73 = .ok (.irem, 1) := by decide +kernel
theorem dL_isChanged_74 : decode cL_isChanged 74 = .ok (.iastore, 1) := by decide +kernel
theorem dL_isChanged_75 : decode cL_isChanged 75 = .ok (.aload_n 0, 1) := by decide +kernel
theorem dL_isChanged_76 : decode cL_isChanged 76 = .ok (.iload 5, 2) := by decide +kernel
theorem dL_isChanged_78 : decode cL_isChanged 78 = .ok (.iload 6, 2) := by decide +kernel
theorem dL_isChanged_80 : decode cL_isChanged 80 = .ok (.bipush 6, 2) := by decide +kernel
theorem dL_isChanged_82 : decode cL_isChanged 82 = .ok (.irem, 1) := by decide +kernel
theorem dL_isChanged_83 : decode cL_isChanged 83 = .ok (.invokevirtual 83, 3) := by decide +kernel
theorem dL_isChanged_86 : decode cL_isChanged 86 = .ok (.iload 7, 2) := by decide +kernel
theorem dL_isChanged_88 : decode cL_isChanged 88 = .ok (.if_icmp .ne 7, 3) := by decide +kernel
theorem dL_isChanged_91 : decode cL_isChanged 91 = .ok (.iconst 1, 1) := by decide +kernel
theorem dL_isChanged_92 : decode cL_isChanged 92 = .ok (.goto 4, 3) := by decide +kernel
theorem dL_isChanged_95 : decode cL_isChanged 95 = .ok (.iconst 0, 1) := by decide +kernel
theorem dL_isChanged_96 : decode cL_isChanged 96 = .ok (.ireturn, 1) := by decide +kernel
theorem dL_isChanged_97 : decode cL_isChanged 97 = .ok (.aload_n 3, 1) := by decide +kernel
theorem dL_isChanged_98 : decode cL_isChanged 98 = .ok (.bipush 15, 2) := by decide +kernel
theorem dL_isChanged_100 : decode cL_isChanged 100 = .ok (.iload 5, 2) := by decide +kernel
theorem dL_isChanged_102 : decode cL_isChanged 102 = .ok (.iconst 3, 1) := by decide +kernel
theorem dL_isChanged_103 : decode cL_isChanged 103 = .ok (.irem, 1) := by decide +kernel
theorem dL_isChanged_104 : decode cL_isChanged 104 = .ok (.iadd, 1) := by decide +kernel
theorem dL_isChanged_105 : decode cL_isChanged 105 = .ok (.iaload, 1) := by decide +kernel
theorem dL_isChanged_106 : decode cL_isChanged 106 = .ok (.istore 7, 2) := by decide +kernel
theorem dL_isChanged_108 : decode cL_isChanged 108 = .ok (.aload_n 3, 1) := by decide +kernel
theorem dL_isChanged_109 : decode cL_isChanged 109 = .ok (.bipush 15, 2) := by decide +kernel
theorem dL_isChanged_111 : decode cL_isChanged 111 = .ok (.iload 5, 2) := by decide +kernel
theorem dL_isChanged_113 : decode cL_isChanged 113 = .ok (.iconst 3, 1) := by decide +kernel
theorem dL_isChanged_114 : decode cL_isChanged 114 = .ok (.irem, 1) := by decide +kernel
theorem dL_isChanged_115 : decode cL_isChanged 115 = .ok (.iadd, 1) := by decide +kernel
theorem dL_isChanged_116 : decode cL_isChanged 116 = .ok (.iconst 1, 1) := by decide +kernel
theorem dL_isChanged_117 : decode cL_isChanged 117 = .ok (.iload 6, 2) := by decide +kernel
theorem dL_isChanged_119 : decode cL_isChanged 119 = .ok (.iconst 5, 1) := by decide +kernel
theorem dL_isChanged_120 : decode cL_isChanged 120 = .ok (.irem, 1) := by decide +kernel
theorem dL_isChanged_121 : decode cL_isChanged 121 = .ok (.iadd, 1) := by decide +kernel
theorem dL_isChanged_122 : decode cL_isChanged 122 = .ok (.iastore, 1) := by decide +kernel
theorem dL_isChanged_123 : decode cL_isChanged 123 = .ok (.aload_n 0, 1) := by decide +kernel
theorem dL_isChanged_124 : decode cL_isChanged 124 = .ok (.iload 5, 2) := by decide +kernel
theorem dL_isChanged_126 : decode cL_isChanged 126 = .ok (.iconst 3, 1) := by decide +kernel
theorem dL_isChanged_127 : decode cL_isChanged 127 = .ok (.irem, 1) := by decide +kernel
theorem dL_isChanged_128 : decode cL_isChanged 128 = .ok (.iconst 1, 1) := by decide +kernel
theorem dL_isChanged_129 : decode cL_isChanged 129 = .ok (.iload 6, 2) := by decide +kernel
theorem dL_isChanged_131 : decode cL_isChanged 131 = .ok (.iconst 5, 1) := by decide +kernel
theorem dL_isChanged_132 : decode cL_isChanged 132 = .ok (.irem, 1) := by decide +kernel
theorem dL_isChanged_133 : decode cL_isChanged 133 = .ok (.iadd, 1) := by decide +kernel
theorem dL_isChanged_134 : decode cL_isChanged 134 = .ok (.invokevirtual 86, 3) := by decide +kernel
theorem dL_isChanged_137 : decode cL_isChanged 137 = .ok (.iload 7, 2) := by decide +kernel
theorem dL_isChanged_139 : decode cL_isChanged 139 = .ok (.if_icmp .ne 7, 3) := by decide +kernel
theorem dL_isChanged_142 : decode cL_isChanged 142 = .ok (.iconst 1, 1) := by decide +kernel
theorem dL_isChanged_143 : decode cL_isChanged 143 = .ok (.goto 4, 3) := by decide +kernel
theorem dL_isChanged_146 : decode cL_isChanged 146 = .ok (.iconst 0, 1) := by decide +kernel
theorem dL_isChanged_147 : decode cL_isChanged 147 = .ok (.ireturn, 1) := by decide +kernel
theorem dL_isActed_0 : decode cL_isActed 0 = .ok (.aload 6, 2) := by decide +kernel
theorem dL_isActed_2 : decode cL_isActed 2 = .ok (.iconst 1, 1) := by decide +kernel
theorem dL_isActed_3 : decode cL_isActed 3 = .ok (.iaload, 1) := by decide +kernel
theorem dL_isActed_4 : decode cL_isActed 4 = .ok (.ifCond .ne 7, 3) := by decide +kernel
theorem dL_isActed_7 : decode cL_isActed 7 = .ok (.iconst 0, 1) := by decide +kernel
theorem dL_isActed_8 : decode cL_isActed 8 = .ok (.goto 10, 3) := by decide +kernel
theorem dL_isActed_11 : decode cL_isActed 11 = .ok (.iload 8, 2) := by decide +kernel
theorem dL_isActed_13 : decode cL_isActed 13 = .ok (.aload 6, 2) := by decide +kernel
theorem dL_isActed_15 : decode cL_isActed 15 = .ok (.iconst 1, 1) := by decide +kernel
theorem dL_isActed_16 : decode cL_isActed 16 = .ok (.iaload, 1) := by decide +kernel
theorem dL_isActed_17 : decode cL_isActed 17 = .ok (.irem, 1) := by decide +kernel
theorem dL_isActed_18 : decode cL_isActed 18 = .ok (.istore 9, 2) := by decide +kernel
theorem dL_isActed_20 : decode cL_isActed 20 = .ok (.iload 8, 2) := by decide +kernel
theorem dL_isActed_22 : decode cL_isActed 22 = .ok (.bipush 12, 2) := by decide +kernel
theorem dL_isActed_24 : decode cL_isActed 24 = .ok (.idiv, 1) := by decide +kernel
theorem dL_isActed_25 : decode cL_isActed 25 = .ok (.istore 10, 2) := by decide +kernel
theorem dL_isActed_27 : decode cL_isActed 27 = .ok (.iload 7, 2) := by decide +kernel
theorem dL_isActed_29 : decode cL_isActed 29 = .ok (.iconst 5, 1) := by decide +kernel
theorem dL_isActed_30 : decode cL_isActed 30 = .ok (.if_icmp .ge 26, 3) := by decide +kernel
theorem dL_isActed_33 : decode cL_isActed 33 = .ok (.aload_n 0, 1) := by decide +kernel
theorem dL_isActed_34 : decode cL_isActed 34 = .ok (.aload_n 1, 1) := by decide +kernel
theorem dL_isActed_35 : decode cL_isActed 35 = .ok (.aload_n 2, 1) := by decide +kernel
theorem dL_isActed_36 : decode cL_isActed 36 = .ok (.aload_n 3, 1) := by decide +kernel
theorem dL_isActed_37 : decode cL_isActed 37 = .ok (.aload 6, 2) := by decide +kernel
theorem dL_isActed_39 : decode cL_isActed 39 = .ok (.iload 7, 2) := by decide +kernel
theorem dL_isActed_41 : decode cL_isActed 41 = .ok (.iconst 3, 1) := by decide +kernel
theorem dL_isActed_42 : decode cL_isActed 42 = .ok (.if_icmp .ge 7, 3) := by decide +kernel
theorem dL_isActed_45 : decode cL_isActed 45 = .ok (.iconst 0, 1) := by decide +kernel
theorem dL_isActed_46 : decode cL_isActed 46 = .ok (.goto 4, 3) := by decide +kernel
theorem dL_isActed_49 : decode cL_isActed 49 = .ok (.iconst 1, 1) := by decide +kernel
theorem dL_isActed_50 : decode cL_isActed 50 = .ok (.iload 8, 2) := by decide +kernel
theorem dL_isActed_52 : decode cL_isActed 52 = .ok (.invokestatic 89, 3) := by decide +kernel
theorem dL_isActed_55 : decode cL_isActed 55 = .ok (.ireturn, 1) := by decide +kernel
theorem dL_isActed_56 : decode cL_isActed 56 = .ok (.iload 7, 2) := by decide +kernel
theorem dL_isActed_58 : decode cL_isActed 58 = .ok (.bipush 7, 2) := by decide +kernel
theorem dL_isActed_60 : decode cL_isActed 60 = .ok (.if_icmp .ge 13, 3) := by decide +kernel
theorem dL_isActed_63 : decode cL_isActed 63 = .ok (.aload_n 0, 1) := by decide +kernel
theorem dL_isActed_64 : decode cL_isActed 64 = .ok (.aload_n 3, 1) := by decide +kernel
theorem dL_isActed_65 : decode cL_isActed 65 = .ok (.aload 4, 2) := by decide +kernel
theorem dL_isActed_67 : decode cL_isActed 67 = .ok (.aload 6, 2) := by decide +kernel
theorem dL_isActed_69 : decode cL_isActed 69 = .ok (.invokestatic 93, 3) := by decide +kernel
theorem dL_isActed_72 : decode cL_isActed 72 = .ok (.ireturn, 1) := by decide +kernel
theorem dL_isActed_73 : decode cL_isActed 73 = .ok (.aload 6, 2) := by decide +kernel
theorem dL_isActed_75 : decode cL_isActed 75 = .ok (.iconst 1, 1) := by decide +kernel
theorem dL_isActed_76 : decode cL_isActed 76 = .ok (.iaload, 1) := by decide +kernel
theorem dL_isActed_77 : decode cL_isActed 77 = .ok (.ifCond .ne 48, 3) := by decide +kernel
theorem dL_isActed_80 : decode cL_isActed 80 = .ok (.iload 7, 2) := by decide +kernel
theorem dL_isActed_82 : decode cL_isActed 82 = .ok (.bipush 14, 2) := by decide +kernel
theorem dL_isActed_84 : decode cL_isActed 84 = .ok (.if_icmp .ge 41, 3) := by decide +kernel
theorem dL_isActed_87 : decode cL_isActed 87 = .ok (.aload_n 0, 1) := by decide +kernel
theorem dL_isActed_88 : decode cL_isActed 88 = .ok (.iconst 0, 1) := by decide +kernel
theorem dL_isActed_89 : decode cL_isActed 89 = .ok (.invokevirtual 97, 3) := by decide +kernel
theorem dL_isActed_92 : decode cL_isActed 92 = .ok (.ldc 38, 2) := by decide +kernel
theorem dL_isActed_94 : decode cL_isActed 94 = .ok (.if_icmp .ne 29, 3) := by decide +kernel
theorem dL_isActed_97 : decode cL_isActed 97 = .ok (.aload_n 0, 1) := by decide +kernel
theorem dL_isActed_98 : decode cL_isActed 98 = .ok (.iconst 0, 1) := by decide +kernel
theorem dL_isActed_99 : decode cL_isActed 99 = .ok (.iconst 1, 1) := by decide +kernel
theorem dL_isActed_100 : decode cL_isActed 100 = .ok (.invokevirtual 80, 3) := by decide +kernel
theorem dL_isActed_103 : decode cL_isActed 103 = .ok (.ldc 38, 2) := by decide +kernel
theorem dL_isActed_105 : decode cL_isActed 105 = .ok (.if_icmp .ne 18, 3) := by decide +kernel
theorem dL_isActed_108 : decode cL_isActed 108 = .ok (.aload_n 0, 1) := by decide +kernel
theorem dL_isActed_109 : decode cL_isActed 109 = .ok (.iconst 0, 1) := by decide +kernel
theorem dL_isActed_110 : decode cL_isActed 110 = .ok (.iconst 1, 1) := by decide +kernel
theorem dL_isActed_111 : decode cL_isActed 111 = .ok (.invokevirtual 83, 3) := by decide +kernel
theorem dL_isActed_114 : decode cL_isActed 114 = .ok (.ldc 38, 2) := by decide +kernel
theorem dL_isActed_116 : decode cL_isActed 116 = .ok (.if_icmp .ne 7, 3) := by decide +kernel
theorem dL_isActed_119 : decode cL_isActed 119 = .ok (.iconst 1, 1) := by decide +kernel
theorem dL_isActed_120 : decode cL_isActed 120 = .ok (.goto 4, 3) := by decide +kernel
theorem dL_isActed_123 : decode cL_isActed 123 = .ok (.iconst 0, 1) := by decide +kernel
theorem dL_isActed_124 : decode cL_isActed 124 = .ok (.ireturn, 1) := by decide +kernel
theorem dL_isActed_125 : decode cL_isActed 125 = .ok (.iload 7, 2) := by decide +kernel
theorem dL_isActed_127 : decode cL_isActed 127 = .ok (.bipush 11, 2) := by decide +kernel
theorem dL_isActed_129 : decode cL_isActed 129 = .ok (.if_icmp .ge 36, 3) := by decide +kernel
theorem dL_isActed_132 : decode cL_isActed 132 = .ok (.aload_n 1, 1) := by decide +kernel
theorem dL_isActed_133 : decode cL_isActed 133 = .ok (.aload_n 2, 1) := by decide +kernel
theorem dL_isActed_134 : decode cL_isActed 134 = .ok (.aload 4, 2) := by decide +kernel
theorem dL_isActed_136 : decode cL_isActed 136 = .ok (.aload 5, 2) := by decide +kernel
theorem dL_isActed_138 : decode cL_isActed 138 = .ok (.aload 6, 2) := by decide +kernel
theorem dL_isActed_140 : decode cL_isActed 140 = .ok (.iload 9, 2) := by decide +kernel
theorem dL_isActed_142 : decode cL_isActed 142 = .ok (.iconst 0, 1) := by decide +kernel
theorem dL_isActed_143 : decode cL_isActed 143 = .ok (.invokestatic 27, 3) := by decide +kernel
theorem dL_isActed_146 : decode cL_isActed 146 = .ok (.istore 11, 2) := by decide +kernel
theorem dL_isActed_148 : decode cL_isActed 148 = .ok (.aload_n 0, 1) := by decide +kernel
theorem dL_isActed_149 : decode cL_isActed 149 = .ok (.iload 9, 2) := by decide +kernel
theorem dL_isActed_151 : decode cL_isActed 151 = .ok (.invokevirtual 97, 3) := by decide +kernel
theorem dL_isActed_154 : decode cL_isActed 154 = .ok (.iload 11, 2) := by decide +kernel
theorem dL_isActed_156 : decode cL_isActed 156 = .ok (.if_icmp .ne 7, 3) := by decide +kernel
theorem dL_isActed_159 : decode cL_isActed 159 = .ok (.iconst 1, 1) := by decide +kernel
theorem dL_isActed_160 : decode cL_isActed 160 = .ok (.goto 4, 3) := by decide +kernel
theorem dL_isActed_163 : decode cL_isActed 163 = .ok (.iconst 0, 1) := by decide +kernel
theorem dL_isActed_164 : decode cL_isActed 164 = .ok (.ireturn, 1) := by decide +kernel
theorem dL_isActed_165 : decode cL_isActed 165 = .ok (.iload 7, 2) := by decide +kernel
theorem dL_isActed_167 : decode cL_isActed 167 = .ok (.bipush 14, 2) := by decide +kernel
theorem dL_isActed_169 : decode cL_isActed 169 = .ok (.if_icmp .ge 33, 3) := by decide +kernel
theorem dL_isActed_172 : decode cL_isActed 172 = .ok (.aload_n 0, 1) := by decide +kernel
theorem dL_isActed_173 : decode cL_isActed 173 = .ok (.aload_n 1, 1) := by decide +kernel
theorem dL_isActed_174 : decode cL_isActed 174 = .ok (.aload_n 2, 1) := by decide +kernel
theorem dL_isActed_175 : decode cL_isActed 175 = .ok (.aload 6, 2) := by decide +kernel
theorem dL_isActed_177 : decode cL_isActed 177 = .ok (.iload 7, 2) := by decide +kernel
theorem dL_isActed_179 : decode cL_isActed 179 = .ok (.bipush 13, 2) := by decide +kernel
theorem dL_isActed_181 : decode cL_isActed 181 = .ok (.if_icmp .ne 10, 3) := by decide +kernel
theorem dL_isActed_184 : decode cL_isActed 184 = .ok (.iload 10, 2) := by decide +kernel
theorem dL_isActed_186 : decode cL_isActed 186 = .ok (.iconst 3, 1) := by decide +kernel
theorem dL_isActed_187 : decode cL_isActed 187 = .ok (.irem, 1) := by decide +kernel
theorem dL_isActed_188 : decode cL_isActed 188 = .ok (.goto 4, 3) := by decide +kernel
theorem dL_isActed_191 : decode cL_isActed 191 = .ok (.iconst 0, 1) := by decide +kernel
theorem dL_isActed_192 : decode cL_isActed 192 = .ok (.iload 9, 2) := by decide +kernel
theorem dL_isActed_194 : decode cL_isActed 194 = .ok (.iload 10, 2) := by decide +kernel
theorem dL_isActed_196 : decode cL_isActed 196 = .ok (.iconst 3, 1) := by decide +kernel
theorem dL_isActed_197 : decode cL_isActed 197 = .ok (.idiv, 1) := by decide +kernel
theorem dL_isActed_198 : decode cL_isActed 198 = .ok (.invokestatic 99, 3) := by decide +kernel
theorem dL_isActed_201 : decode cL_isActed 201 = .ok (.ireturn, 1) := by decide +kernel
theorem dL_isActed_202 : decode cL_isActed 202 = .ok (.iload 7, 2) := by decide +kernel
theorem dL_isActed_204 : decode cL_isActed 204 = .ok (.bipush 14, 2) := by decide +kernel
theorem dL_isActed_206 : decode cL_isActed 206 = .ok (.if_icmp .ne 53, 3) := by decide +kernel
theorem dL_isActed_209 : decode cL_isActed 209 = .ok (.aload 4, 2) := by decide +kernel
theorem dL_isActed_211 : decode cL_isActed 211 = .ok (.bipush 9, 2) := by decide +kernel
theorem dL_isActed_213 : decode cL_isActed 213 = .ok (.iaload, 1) := by decide +kernel
theorem dL_isActed_214 : decode cL_isActed 214 = .ok (.iconst 1, 1) := by decide +kernel
theorem dL_isActed_215 : decode cL_isActed 215 = .ok (.if_icmp .ne 18, 3) := by decide +kernel
theorem dL_isActed_218 : decode cL_isActed 218 = .ok (.aload_n 0, 1) := by decide +kernel
theorem dL_isActed_219 : decode cL_isActed 219 = .ok (.invokevirtual 103, 3) := by decide +kernel
theorem dL_isActed_222 : decode cL_isActed 222 = .ok (.ldc 61, 2) := by decide +kernel
theorem dL_isActed_224 : decode cL_isActed 224 = .ok (.if_icmp .ne 7, 3) := by decide +kernel
theorem dL_isActed_227 : decode cL_isActed 227 = .ok (.iconst 1, 1) := by decide +kernel
theorem dL_isActed_228 : decode cL_isActed 228 = .ok (.goto 4, 3) := by decide +kernel
theorem dL_isActed_231 : decode cL_isActed 231 = .ok (.iconst 0, 1) := by decide +kernel
theorem dL_isActed_232 : decode cL_isActed 232 = .ok (.ireturn, 1) := by decide +kernel
theorem dL_isActed_233 : decode cL_isActed 233 = .ok (.aload_n 1, 1) := by decide +kernel
theorem dL_isActed_234 : decode cL_isActed 234 = .ok (.aload_n 2, 1) := by decide +kernel
theorem dL_isActed_235 : decode cL_isActed 235 = .ok (.aload 6, 2) := by decide +kernel
theorem dL_isActed_237 : decode cL_isActed 237 = .ok (.invokestatic 106, 3) := by decide +kernel
theorem dL_isActed_240 : decode cL_isActed 240 = .ok (.aload_n 0, 1) := by decide +kernel
theorem dL_isActed_241 : decode cL_isActed 241 = .ok (.invokevirtual 103, 3) := by decide +kernel
theorem dL_isActed_244 : decode cL_isActed 244 = .ok (.aload_n 1, 1) := by decide +kernel
theorem dL_isActed_245 : decode cL_isActed 245 = .ok (.aload 6, 2) := by decide +kernel
theorem dL_isActed_247 : decode cL_isActed 247 = .ok (.invokestatic 109, 3) := by decide +kernel
theorem dL_isActed_250 : decode cL_isActed 250 = .ok (.if_icmp .ne 7, 3) := by decide +kernel
theorem dL_isActed_253 : decode cL_isActed 253 = .ok (.iconst 1, 1) := by decide +kernel
theorem dL_isActed_254 : decode cL_isActed 254 = .ok (.goto 4, 3) := by decide +kernel
theorem dL_isActed_257 : decode cL_isActed 257 = .ok (.iconst 0, 1) := by decide +kernel
theorem dL_isActed_258 : decode cL_isActed 258 = .ok (.ireturn, 1) := by decide +kernel
theorem dL_isActed_259 : decode cL_isActed 259 = .ok (.iconst 1, 1) := by decide +kernel
theorem dL_isActed_260 : decode cL_isActed 260 = .ok (.iload 8, 2) := by decide +kernel
theorem dL_isActed_262 : decode cL_isActed 262 = .ok (.iload 7, 2) := by decide +kernel
theorem dL_isActed_264 : decode cL_isActed 264 = .ok (.bipush 15, 2) := by decide +kernel
theorem dL_isActed_266 : decode cL_isActed 266 = .ok (.if_icmp .ne 8, 3) := by decide +kernel
theorem dL_isActed_269 : decode cL_isActed 269 = .ok (.bipush 12, 2) := by decide +kernel
theorem dL_isActed_271 : decode cL_isActed 271 = .ok (.goto 4, 3) := by decide +kernel
theorem dL_isActed_274 : decode cL_isActed 274 = .ok (.iconst 2, 1) := by decide +kernel
theorem dL_isActed_275 : decode cL_isActed 275 = .ok (.irem, 1) := by decide +kernel
theorem dL_isActed_276 : decode cL_isActed 276 = .ok (.iadd, 1) := by decide +kernel
theorem dL_isActed_277 : decode cL_isActed 277 = .ok (.istore 11, 2) := by decide +kernel
theorem dL_isActed_279 : decode cL_isActed 279 = .ok (.aload 4, 2) := by decide +kernel
theorem dL_isActed_281 : decode cL_isActed 281 = .ok (.bipush 9, 2) := by decide +kernel
theorem dL_isActed_283 : decode cL_isActed 283 = .ok (.iaload, 1) := by decide +kernel
theorem dL_isActed_284 : decode cL_isActed 284 = .ok (.istore 12, 2) := by decide +kernel
theorem dL_isActed_286 : decode cL_isActed 286 = .ok (.iconst 0, 1) := by decide +kernel
theorem dL_isActed_287 : decode cL_isActed 287 = .ok (.istore 13, 2) := by decide +kernel
theorem dL_isActed_289 : decode cL_isActed 289 = .ok (.iload 13, 2) := by decide +kernel
theorem dL_isActed_291 : decode cL_isActed 291 = .ok (.iload 11, 2) := by decide +kernel
theorem dL_isActed_293 : decode cL_isActed 293 = .ok (.if_icmp .ge 20, 3) := by decide +kernel
theorem dL_isActed_296 : decode cL_isActed 296 = .ok (.aload_n 1, 1) := by decide +kernel
theorem dL_isActed_297 : decode cL_isActed 297 = .ok (.aload_n 2, 1) := by decide +kernel
theorem dL_isActed_298 : decode cL_isActed 298 = .ok (.aload 4, 2) := by decide +kernel
theorem dL_isActed_300 : decode cL_isActed 300 = .ok (.aload 5, 2) := by decide +kernel
theorem dL_isActed_302 : decode cL_isActed 302 = .ok (.aload 6, 2) := by decide +kernel
theorem dL_isActed_304 : decode cL_isActed 304 = .ok (.invokestatic 113, 3) := by decide +kernel
theorem dL_isActed_307 : decode cL_isActed 307 = .ok (.iinc 13 1, 3) := by decide +kernel
theorem dL_isActed_310 : decode cL_isActed 310 = .ok (.goto (-21), 3) := by decide +kernel
theorem dL_isActed_313 : decode cL_isActed 313 = .ok (.aload_n 0, 1) := by decide +kernel
theorem dL_isActed_314 : decode cL_isActed 314 = .ok (.iload 11, 2) := by decide +kernel
theorem dL_isActed_316 : decode cL_isActed 316 = .ok (.invokevirtual 117, 3) := by decide +kernel
theorem dL_isActed_319 : decode cL_isActed 319 = .ok (.iload 12, 2) := by decide +kernel
theorem dL_isActed_321 : decode cL_isActed 321 = .ok (.aload 4, 2) := by decide +kernel
theorem dL_isActed_323 : decode cL_isActed 323 = .ok (.bipush 9, 2) := by decide +kernel
theorem dL_isActed_325 : decode cL_isActed 325 = .ok (.iaload, 1) := by decide +kernel
theorem dL_isActed_326 : decode cL_isActed 326 = .ok (.isub, 1) := by decide +kernel
theorem dL_isActed_327 : decode cL_isActed 327 = .ok (.if_icmp .ne 7, 3) := by decide +kernel
theorem dL_isActed_330 : decode cL_isActed 330 = .ok (.iconst 1, 1) := by decide +kernel
theorem dL_isActed_331 : decode cL_isActed 331 = .ok (.goto 4, 3) := by decide +kernel
theorem dL_isActed_334 : decode cL_isActed 334 = .ok (.iconst 0, 1) := by decide +kernel
theorem dL_isActed_335 : decode cL_isActed 335 = .ok (.ireturn, 1) := by decide +kernel
theorem dL_law_0 : decode cL_law 0 = .ok (.new 33, 3) := by decide +kernel
theorem dL_law_3 : decode cL_law 3 = .ok (.dup, 1) := by decide +kernel
theorem dL_law_4 : decode cL_law 4 = .ok (.invokespecial 120, 3) := by decide +kernel
theorem dL_law_7 : decode cL_law 7 = .ok (.astore_n 1, 1) := by decide +kernel
theorem dL_law_8 : decode cL_law 8 = .ok (.bipush 60, 2) := by decide +kernel
theorem dL_law_10 : decode cL_law 10 = .ok (.newarray .int, 2) := by decide +kernel
theorem dL_law_12 : decode cL_law 12 = .ok (.astore_n 2, 1) := by decide +kernel
theorem dL_law_13 : decode cL_law 13 = .ok (.bipush 60, 2) := by decide +kernel
theorem dL_law_15 : decode cL_law 15 = .ok (.newarray .int, 2) := by decide +kernel
theorem dL_law_17 : decode cL_law 17 = .ok (.astore_n 3, 1) := by decide +kernel
theorem dL_law_18 : decode cL_law 18 = .ok (.bipush 16, 2) := by decide +kernel
theorem dL_law_20 : decode cL_law 20 = .ok (.newarray .int, 2) := by decide +kernel
theorem dL_law_22 : decode cL_law 22 = .ok (.astore 4, 2) := by decide +kernel
theorem dL_law_24 : decode cL_law 24 = .ok (.bipush 10, 2) := by decide +kernel
theorem dL_law_26 : decode cL_law 26 = .ok (.newarray .int, 2) := by decide +kernel
theorem dL_law_28 : decode cL_law 28 = .ok (.astore 5, 2) := by decide +kernel
theorem dL_law_30 : decode cL_law 30 = .ok (.bipush 40, 2) := by decide +kernel
theorem dL_law_32 : decode cL_law 32 = .ok (.newarray .int, 2) := by decide +kernel
theorem dL_law_34 : decode cL_law 34 = .ok (.astore 6, 2) := by decide +kernel
theorem dL_law_36 : decode cL_law 36 = .ok (.bipush 18, 2) := by decide +kernel
theorem dL_law_38 : decode cL_law 38 = .ok (.newarray .int, 2) := by decide +kernel
theorem dL_law_40 : decode cL_law 40 = .ok (.astore 7, 2) := by decide +kernel
theorem dL_law_42 : decode cL_law 42 = .ok (.aload 7, 2) := by decide +kernel
theorem dL_law_44 : decode cL_law 44 = .ok (.bipush 15, 2) := by decide +kernel
theorem dL_law_46 : decode cL_law 46 = .ok (.iconst 3, 1) := by decide +kernel
theorem dL_law_47 : decode cL_law 47 = .ok (.iastore, 1) := by decide +kernel
theorem dL_law_48 : decode cL_law 48 = .ok (.aload 7, 2) := by decide +kernel
theorem dL_law_50 : decode cL_law 50 = .ok (.bipush 16, 2) := by decide +kernel
theorem dL_law_52 : decode cL_law 52 = .ok (.iconst 3, 1) := by decide +kernel
theorem dL_law_53 : decode cL_law 53 = .ok (.iastore, 1) := by decide +kernel
theorem dL_law_54 : decode cL_law 54 = .ok (.aload 7, 2) := by decide +kernel
theorem dL_law_56 : decode cL_law 56 = .ok (.bipush 17, 2) := by decide +kernel
theorem dL_law_58 : decode cL_law 58 = .ok (.iconst 3, 1) := by decide +kernel
theorem dL_law_59 : decode cL_law 59 = .ok (.iastore, 1) := by decide +kernel
theorem dL_law_60 : decode cL_law 60 = .ok (.iconst 0, 1) := by decide +kernel
theorem dL_law_61 : decode cL_law 61 = .ok (.istore 8, 2) := by decide +kernel
theorem dL_law_63 : decode cL_law 63 = .ok (.iload 8, 2) := by decide +kernel
theorem dL_law_65 : decode cL_law 65 = .ok (.bipush 64, 2) := by decide +kernel
theorem dL_law_67 : decode cL_law 67 = .ok (.if_icmp .ge 92, 3) := by decide +kernel
theorem dL_law_70 : decode cL_law 70 = .ok (.aload_n 0, 1) := by decide +kernel
theorem dL_law_71 : decode cL_law 71 = .ok (.iload 8, 2) := by decide +kernel
theorem dL_law_73 : decode cL_law 73 = .ok (.invokestatic 121, 3) := by decide +kernel
theorem dL_law_76 : decode cL_law 76 = .ok (.ldc 8, 2) := by decide +kernel
theorem dL_law_78 : decode cL_law 78 = .ok (.iand, 1) := by decide +kernel
theorem dL_law_79 : decode cL_law 79 = .ok (.istore 9, 2) := by decide +kernel
theorem dL_law_81 : decode cL_law 81 = .ok (.aload_n 1, 1) := by decide +kernel
theorem dL_law_82 : decode cL_law 82 = .ok (.aload_n 2, 1) := by decide +kernel
theorem dL_law_83 : decode cL_law 83 = .ok (.aload_n 3, 1) := by decide +kernel
theorem dL_law_84 : decode cL_law 84 = .ok (.aload 4, 2) := by decide +kernel
theorem dL_law_86 : decode cL_law 86 = .ok (.aload 5, 2) := by decide +kernel
theorem dL_law_88 : decode cL_law 88 = .ok (.aload 6, 2) := by decide +kernel
theorem dL_law_90 : decode cL_law 90 = .ok (.aload 7, 2) := by decide +kernel
theorem dL_law_92 : decode cL_law 92 = .ok (.iload 8, 2) := by decide +kernel
theorem dL_law_94 : decode cL_law 94 = .ok (.bipush 8, 2) := by decide +kernel
theorem dL_law_96 : decode cL_law 96 = .ok (.if_icmp .ge 11, 3) := by decide +kernel
theorem dL_law_99 : decode cL_law 99 = .ok (.iload 9, 2) := by decide +kernel
theorem dL_law_101 : decode cL_law 101 = .ok (.bipush 7, 2) := by decide +kernel
theorem dL_law_103 : decode cL_law 103 = .ok (.irem, 1) := by decide +kernel
theorem dL_law_104 : decode cL_law 104 = .ok (.goto 8, 3) := by decide +kernel
theorem dL_law_107 : decode cL_law 107 = .ok (.iload 9, 2) := by decide +kernel
theorem dL_law_109 : decode cL_law 109 = .ok (.bipush 18, 2) := by decide +kernel
theorem dL_law_111 : decode cL_law 111 = .ok (.irem, 1) := by decide +kernel
theorem dL_law_112 : decode cL_law 112 = .ok (.iload 9, 2) := by decide +kernel
theorem dL_law_114 : decode cL_law 114 = .ok (.bipush 18, 2) := by decide +kernel
theorem dL_law_116 : decode cL_law 116 = .ok (.idiv, 1) := by decide +kernel
theorem dL_law_117 : decode cL_law 117 = .ok (.invokestatic 125, 3) := by decide +kernel
theorem dL_law_120 : decode cL_law 120 = .ok (.ifCond .eq 31, 3) := by decide +kernel
theorem dL_law_123 : decode cL_law 123 = .ok (.aload_n 1, 1) := by decide +kernel
theorem dL_law_124 : decode cL_law 124 = .ok (.aload_n 2, 1) := by decide +kernel
theorem dL_law_125 : decode cL_law 125 = .ok (.aload_n 3, 1) := by decide +kernel
theorem dL_law_126 : decode cL_law 126 = .ok (.aload 5, 2) := by decide +kernel
theorem dL_law_128 : decode cL_law 128 = .ok (.aload 7, 2) := by decide +kernel
theorem dL_law_130 : decode cL_law 130 = .ok (.invokestatic 129, 3) := by decide +kernel
theorem dL_law_133 : decode cL_law 133 = .ok (.ifCond .eq 18, 3) := by decide +kernel
theorem dL_law_136 : decode cL_law 136 = .ok (.aload_n 1, 1) := by decide +kernel
theorem dL_law_137 : decode cL_law 137 = .ok (.aload 4, 2) := by decide +kernel
theorem dL_law_139 : decode cL_law 139 = .ok (.aload 5, 2) := by decide +kernel
theorem dL_law_141 : decode cL_law 141 = .ok (.aload 6, 2) := by decide +kernel
theorem dL_law_143 : decode cL_law 143 = .ok (.aload 7, 2) := by decide +kernel
theorem dL_law_145 : decode cL_law 145 = .ok (.invokestatic 133, 3) := by decide +kernel
theorem dL_law_148 : decode cL_law 148 = .ok (.ifCond .ne 5, 3) := by decide +kernel
theorem dL_law_151 : decode cL_law 151 = .ok (.iconst 0, 1) := by decide +kernel
theorem dL_law_152 : decode cL_law 152 = .ok (.ireturn, 1) := by decide +kernel
theorem dL_law_153 : decode cL_law 153 = .ok (.iinc 8 1, 3) := by decide +kernel
theorem dL_law_156 : decode cL_law 156 = .ok (.goto (-93), 3) := by decide +kernel
theorem dL_law_159 : decode cL_law 159 = .ok (.iconst 1, 1) := by decide +kernel
theorem dL_law_160 : decode cL_law 160 = .ok (.ireturn, 1) := by decide +kernel
